set_option maxHeartbeats 4000000 in
set_option maxRecDepth 100000 in
theorem c_Model_set_1 (l : Launch) (D : va_G) (cI cL cB : ClassId) (x0 : Nat) (x1 : Nat) (x2 : Nat) (x3 : Nat) (x4 : Nat) (x5 : Nat) (x6 : Nat) (x7 : Nat) (x8 : Nat) (x9 : Nat) (x10 : Nat) (x11 : Nat) (x12 : Nat) (x13 : Nat) (x14 : Nat) (x15 : Nat) (x16 : Nat) (x17 : Nat) (x18 : Nat) (x19 : Nat) (x20 : Nat) (th : Nat) (nn : Nat) (n : Nat) (sg : Nat) (bt : Prop) (k : Nat → Nat) (x : Int32) (y : Int32) (hn : n ≤ 60) (hk : ∀ i, i < n → k i ≤ 8) (hx : ¬ (vp_in x n ∧ k x.toNatClampNeg = 0)) : Cti l y_Model_set (wK w_Model_set) ({ frames := 1, cells := 0, slots := 0, locals := 22 }) D classes (TY cI cL cB) [.ref x0, .int x, .int y] [(x0, .inr (CI_Model, [.int (nI th), .int (nI nn), .ref x1, .ref x2, .ref x3, .ref x4, .ref x5, .ref x6, .ref x7, .ref x8, .ref x9, .ref x10, .ref x11, .int (nI n), .ref x12, .ref x13, .ref x14, .ref x15, .ref x16, .ref x17, .ref x18, .ref x19, .ref x20, .int (bP bt), .int (nI sg)])), (x5, .inl (cI, 60, .inl (cN k)))] (fun (r : Int32) (u_ : Unit) => r = nI 0) (fun (u_ : Unit) => [(x0, .inr (CI_Model, [.int (nI 1), .int (nI nn), .ref x1, .ref x2, .ref x3, .ref x4, .ref x5, .ref x6, .ref x7, .ref x8, .ref x9, .ref x10, .ref x11, .int (nI n), .ref x12, .ref x13, .ref x14, .ref x15, .ref x16, .ref x17, .ref x18, .ref x19, .ref x20, .int (bP bt), .int (nI sg)])), (x5, .inl (cI, 60, .inl (cN k)))]) 0 0 := by
  refine Ctg_of (cc := prog_9_method_28_code) (maxL := 3) (ret := (some .int)) "CircuitSimulatorModel" [(0, .ref x0), (1, .int x), (2, .int y)] (by decide) rfl rfl (Nat.le_of_ble_eq_true rfl) rfl ?_
  intro p_ e_ s_ m_ args_ below_ meth_ c_ A_ F hr hin
  refine V_aload_n F 0 d_Model_set_0 rfl rfl ?_
  refine V_iconst F (v := 0) d_Model_set_1 rfl ?_
  refine V_put F 0 CI_Model 0 (w' := [(x0, .inr (CI_Model, [.int (nI 0), .int (nI nn), .ref x1, .ref x2, .ref x3, .ref x4, .ref x5, .ref x6, .ref x7, .ref x8, .ref x9, .ref x10, .ref x11, .int (nI n), .ref x12, .ref x13, .ref x14, .ref x15, .ref x16, .ref x17, .ref x18, .ref x19, .ref x20, .int (bP bt), .int (nI sg)])), (x5, .inl (cI, 60, .inl (cN k)))]) t_Model tk_Model n_Model i_Model rfl rfl (by decide) m_596 rfl rfl rfl rfl (Nat.le_of_ble_eq_true rfl) rfl d_Model_set_2 ?_
  refine V_iload_n F 1 d_Model_set_5 rfl rfl ?_
  refine V_iconst F (v := 0) d_Model_set_6 rfl ?_
  refine V_aload_n F 0 d_Model_set_7 rfl rfl ?_
  refine V_get F 0 CI_Model 13 i_Model rfl rfl (by decide) m_609 rfl rfl d_Model_set_8 ?_
  refine V_iconst F (v := 1) d_Model_set_11 rfl ?_
  refine V_isub F d_Model_set_12 ?_
  refine V_top (y := nI n - 1) rfl ?_
  refine V_callS_i (w1 := fun (u_ : Unit) => [(x0, .inr (CI_Model, [.int (nI 0), .int (nI nn), .ref x1, .ref x2, .ref x3, .ref x4, .ref x5, .ref x6, .ref x7, .ref x8, .ref x9, .ref x10, .ref x11, .int (nI n), .ref x12, .ref x13, .ref x14, .ref x15, .ref x16, .ref x17, .ref x18, .ref x19, .ref x20, .int (bP bt), .int (nI sg)])), (x5, .inl (cI, 60, .inl (cN k)))]) (wr := [(x0, .inr (CI_Model, [.int (nI 0), .int (nI nn), .ref x1, .ref x2, .ref x3, .ref x4, .ref x5, .ref x6, .ref x7, .ref x8, .ref x9, .ref x10, .ref x11, .int (nI n), .ref x12, .ref x13, .ref x14, .ref x15, .ref x16, .ref x17, .ref x18, .ref x19, .ref x20, .int (bP bt), .int (nI sg)])), (x5, .inl (cI, 60, .inl (cN k)))]) (isC := []) (isR := [0, 1]) (pm := [0, 1]) (As := [.int x, .int 0, .int (nI n - 1)]) (rest := []) F (c_Model_in l D cI cL cB x 0 (nI n - 1) ) (cS_S 3 F.ts m_680 m_681 m_42 m_682 (by decide +kernel) ⟨Nat.le_of_ble_eq_true rfl, Nat.le_of_ble_eq_true rfl⟩) rfl (Nat.le_of_ble_eq_true rfl) d_Model_set_13 ⟨Nat.le_of_ble_eq_true rfl, Nat.le_of_ble_eq_true rfl⟩ ⟨rfl, rfl, rfl, rfl, rfl, fun _ => rfl, rfl⟩ (fun r13 uu13 q13_ => ?_) rfl
  subst q13_
  refine V_top (y := bP (vp_in x n)) (bP_c (in_iff2 (m := n) (by omega))) ?_
  refine V_ifb_eq F 28 d_Model_set_16 (by decide) (fun h16 => ?_) (fun h16 => ?_)
  · skip
    refine V_aload_n F 0 d_Model_set_28 rfl rfl ?_
    refine V_iconst F (v := 1) d_Model_set_29 rfl ?_
    refine V_callV_i (w1 := fun (u_ : Unit) => [(x0, .inr (CI_Model, [.int (nI 1), .int (nI nn), .ref x1, .ref x2, .ref x3, .ref x4, .ref x5, .ref x6, .ref x7, .ref x8, .ref x9, .ref x10, .ref x11, .int (nI n), .ref x12, .ref x13, .ref x14, .ref x15, .ref x16, .ref x17, .ref x18, .ref x19, .ref x20, .int (bP bt), .int (nI sg)])), (x5, .inl (cI, 60, .inl (cN k)))]) (wr := [(x5, .inl (cI, 60, .inl (cN k)))]) (isC := [0]) (isR := [1]) (pm := [1, 0]) (As := [.int 1]) (rest := []) F (c_Model_raise l D cI cL cB x0 x1 x2 x3 x4 x5 x6 x7 x8 x9 x10 x11 x12 x13 x14 x15 x16 x17 x18 x19 x20 0 nn n sg bt 1 ) (cS_V 1 F.ts m_689 m_690 m_18 m_42 m_691 (by decide +kernel) ⟨Nat.le_of_ble_eq_true rfl, Nat.le_of_ble_eq_true rfl⟩) (ci := CI_Model) (q0 := 0) rfl rfl rfl (Nat.le_of_ble_eq_true rfl) d_Model_set_30 ⟨Nat.le_of_ble_eq_true rfl, Nat.le_of_ble_eq_true rfl⟩ ⟨rfl, rfl, rfl, rfl, rfl, fun _ => rfl, rfl⟩ (fun r30 uu30 q30_ => ?_) rfl
    subst q30_
    exact V_iret F hr () rfl [0, 1] rfl rfl (by decide) (by decide) d_Model_set_33
  · skip
    have hk8 := hk _ (vp_lt h16)
    refine V_aload_n F 0 d_Model_set_19 rfl rfl ?_
    refine V_get F 0 CI_Model 6 i_Model rfl rfl (by decide) m_602 rfl rfl d_Model_set_20 ?_
    refine V_iload_n F 1 d_Model_set_23 rfl rfl ?_
    refine V_ialdN F 1 0 rfl rfl (vin_mono h16 hn) d_Model_set_24 ?_
    refine V_ifn_eq F 34 (a := k (x).toNatClampNeg) (by omega) d_Model_set_25 (by decide) (fun h25 => ?_) (fun h25 => ?_)
    · skip
      exact False.elim (hx ⟨h16, h25⟩)
    · skip
      refine V_aload_n F 0 d_Model_set_28 rfl rfl ?_
      refine V_iconst F (v := 1) d_Model_set_29 rfl ?_
      refine V_callV_i (w1 := fun (u_ : Unit) => [(x0, .inr (CI_Model, [.int (nI 1), .int (nI nn), .ref x1, .ref x2, .ref x3, .ref x4, .ref x5, .ref x6, .ref x7, .ref x8, .ref x9, .ref x10, .ref x11, .int (nI n), .ref x12, .ref x13, .ref x14, .ref x15, .ref x16, .ref x17, .ref x18, .ref x19, .ref x20, .int (bP bt), .int (nI sg)])), (x5, .inl (cI, 60, .inl (cN k)))]) (wr := [(x5, .inl (cI, 60, .inl (cN k)))]) (isC := [0]) (isR := [1]) (pm := [1, 0]) (As := [.int 1]) (rest := []) F (c_Model_raise l D cI cL cB x0 x1 x2 x3 x4 x5 x6 x7 x8 x9 x10 x11 x12 x13 x14 x15 x16 x17 x18 x19 x20 0 nn n sg bt 1 ) (cS_V 1 F.ts m_689 m_690 m_18 m_42 m_691 (by decide +kernel) ⟨Nat.le_of_ble_eq_true rfl, Nat.le_of_ble_eq_true rfl⟩) (ci := CI_Model) (q0 := 0) rfl rfl rfl (Nat.le_of_ble_eq_true rfl) d_Model_set_30 ⟨Nat.le_of_ble_eq_true rfl, Nat.le_of_ble_eq_true rfl⟩ ⟨rfl, rfl, rfl, rfl, rfl, fun _ => rfl, rfl⟩ (fun r30_3 uu30_3 q30_3_ => ?_) rfl
      subst q30_3_
      exact V_iret F hr () rfl [0, 1] rfl rfl (by decide) (by decide) d_Model_set_33

set_option maxHeartbeats 4000000 in
set_option maxRecDepth 100000 in
theorem c_Model_set_2 (l : Launch) (D : va_G) (cI cL cB : ClassId) (x0 : Nat) (x1 : Nat) (x2 : Nat) (x3 : Nat) (x4 : Nat) (x5 : Nat) (x6 : Nat) (x7 : Nat) (x8 : Nat) (x9 : Nat) (x10 : Nat) (x11 : Nat) (x12 : Nat) (x13 : Nat) (x14 : Nat) (x15 : Nat) (x16 : Nat) (x17 : Nat) (x18 : Nat) (x19 : Nat) (x20 : Nat) (th : Nat) (nn : Nat) (n : Nat) (sg : Nat) (bt : Prop) (k : Nat → Nat) (i : Nat) (y : Int32) (hn : n ≤ 60) (hi : i < n) (hk0 : k i = 0) (hy : ¬ vp_in y 4) : Cti l y_Model_set (wK w_Model_set) ({ frames := 1, cells := 0, slots := 0, locals := 22 }) D classes (TY cI cL cB) [.ref x0, .int (nI i), .int y] [(x0, .inr (CI_Model, [.int (nI th), .int (nI nn), .ref x1, .ref x2, .ref x3, .ref x4, .ref x5, .ref x6, .ref x7, .ref x8, .ref x9, .ref x10, .ref x11, .int (nI n), .ref x12, .ref x13, .ref x14, .ref x15, .ref x16, .ref x17, .ref x18, .ref x19, .ref x20, .int (bP bt), .int (nI sg)])), (x5, .inl (cI, 60, .inl (cN k)))] (fun (r : Int32) (u_ : Unit) => r = nI 0) (fun (u_ : Unit) => [(x0, .inr (CI_Model, [.int (nI 2), .int (nI nn), .ref x1, .ref x2, .ref x3, .ref x4, .ref x5, .ref x6, .ref x7, .ref x8, .ref x9, .ref x10, .ref x11, .int (nI n), .ref x12, .ref x13, .ref x14, .ref x15, .ref x16, .ref x17, .ref x18, .ref x19, .ref x20, .int (bP bt), .int (nI sg)])), (x5, .inl (cI, 60, .inl (cN k)))]) 0 0 := by
  refine Ctg_of (cc := prog_9_method_28_code) (maxL := 3) (ret := (some .int)) "CircuitSimulatorModel" [(0, .ref x0), (1, .int (nI i)), (2, .int y)] (by decide) rfl rfl (Nat.le_of_ble_eq_true rfl) rfl ?_
  intro p_ e_ s_ m_ args_ below_ meth_ c_ A_ F hr hin
  refine V_aload_n F 0 d_Model_set_0 rfl rfl ?_
  refine V_iconst F (v := 0) d_Model_set_1 rfl ?_
  refine V_put F 0 CI_Model 0 (w' := [(x0, .inr (CI_Model, [.int (nI 0), .int (nI nn), .ref x1, .ref x2, .ref x3, .ref x4, .ref x5, .ref x6, .ref x7, .ref x8, .ref x9, .ref x10, .ref x11, .int (nI n), .ref x12, .ref x13, .ref x14, .ref x15, .ref x16, .ref x17, .ref x18, .ref x19, .ref x20, .int (bP bt), .int (nI sg)])), (x5, .inl (cI, 60, .inl (cN k)))]) t_Model tk_Model n_Model i_Model rfl rfl (by decide) m_596 rfl rfl rfl rfl (Nat.le_of_ble_eq_true rfl) rfl d_Model_set_2 ?_
  refine V_iload_n F 1 d_Model_set_5 rfl rfl ?_
  refine V_iconst F (v := 0) d_Model_set_6 rfl ?_
  refine V_aload_n F 0 d_Model_set_7 rfl rfl ?_
  refine V_get F 0 CI_Model 13 i_Model rfl rfl (by decide) m_609 rfl rfl d_Model_set_8 ?_
  refine V_iconst F (v := 1) d_Model_set_11 rfl ?_
  refine V_isub F d_Model_set_12 ?_
  refine V_top (y := nI n - 1) rfl ?_
  refine V_callS_i (w1 := fun (u_ : Unit) => [(x0, .inr (CI_Model, [.int (nI 0), .int (nI nn), .ref x1, .ref x2, .ref x3, .ref x4, .ref x5, .ref x6, .ref x7, .ref x8, .ref x9, .ref x10, .ref x11, .int (nI n), .ref x12, .ref x13, .ref x14, .ref x15, .ref x16, .ref x17, .ref x18, .ref x19, .ref x20, .int (bP bt), .int (nI sg)])), (x5, .inl (cI, 60, .inl (cN k)))]) (wr := [(x0, .inr (CI_Model, [.int (nI 0), .int (nI nn), .ref x1, .ref x2, .ref x3, .ref x4, .ref x5, .ref x6, .ref x7, .ref x8, .ref x9, .ref x10, .ref x11, .int (nI n), .ref x12, .ref x13, .ref x14, .ref x15, .ref x16, .ref x17, .ref x18, .ref x19, .ref x20, .int (bP bt), .int (nI sg)])), (x5, .inl (cI, 60, .inl (cN k)))]) (isC := []) (isR := [0, 1]) (pm := [0, 1]) (As := [.int (nI i), .int 0, .int (nI n - 1)]) (rest := []) F (c_Model_in l D cI cL cB (nI i) 0 (nI n - 1) ) (cS_S 3 F.ts m_680 m_681 m_42 m_682 (by decide +kernel) ⟨Nat.le_of_ble_eq_true rfl, Nat.le_of_ble_eq_true rfl⟩) rfl (Nat.le_of_ble_eq_true rfl) d_Model_set_13 ⟨Nat.le_of_ble_eq_true rfl, Nat.le_of_ble_eq_true rfl⟩ ⟨rfl, rfl, rfl, rfl, rfl, fun _ => rfl, rfl⟩ (fun r13 uu13 q13_ => ?_) rfl
  subst q13_
  refine V_top (y := bP (vp_in (nI i) n)) (bP_c (in_iff2 (m := n) (by omega))) ?_
  refine V_ifb_eq F 28 d_Model_set_16 (by decide) (fun h16 => ?_) (fun h16 => ?_)
  · skip
    exact False.elim (h16 (vp_in_nI (by omega) (by omega)))
  · skip
    refine V_aload_n F 0 d_Model_set_19 rfl rfl ?_
    refine V_get F 0 CI_Model 6 i_Model rfl rfl (by decide) m_602 rfl rfl d_Model_set_20 ?_
    refine V_iload_n F 1 d_Model_set_23 rfl rfl ?_
    refine V_ialdnN F 1 0 (k := i) rfl rfl (by omega) (by decide) d_Model_set_24 ?_
    refine V_ifn_eq F 34 (a := k i) (by omega) d_Model_set_25 (by decide) (fun h25 => ?_) (fun h25 => ?_)
    · skip
      refine V_iload_n F 2 d_Model_set_34 rfl rfl ?_
      refine V_iconst F (v := 0) d_Model_set_35 rfl ?_
      refine V_iconst F (v := 3) d_Model_set_36 rfl ?_
      refine V_callS_i (w1 := fun (u_ : Unit) => [(x0, .inr (CI_Model, [.int (nI 0), .int (nI nn), .ref x1, .ref x2, .ref x3, .ref x4, .ref x5, .ref x6, .ref x7, .ref x8, .ref x9, .ref x10, .ref x11, .int (nI n), .ref x12, .ref x13, .ref x14, .ref x15, .ref x16, .ref x17, .ref x18, .ref x19, .ref x20, .int (bP bt), .int (nI sg)])), (x5, .inl (cI, 60, .inl (cN k)))]) (wr := [(x0, .inr (CI_Model, [.int (nI 0), .int (nI nn), .ref x1, .ref x2, .ref x3, .ref x4, .ref x5, .ref x6, .ref x7, .ref x8, .ref x9, .ref x10, .ref x11, .int (nI n), .ref x12, .ref x13, .ref x14, .ref x15, .ref x16, .ref x17, .ref x18, .ref x19, .ref x20, .int (bP bt), .int (nI sg)])), (x5, .inl (cI, 60, .inl (cN k)))]) (isC := []) (isR := [0, 1]) (pm := [0, 1]) (As := [.int y, .int 0, .int 3]) (rest := []) F (c_Model_in l D cI cL cB y 0 3 ) (cS_S 3 F.ts m_680 m_681 m_42 m_682 (by decide +kernel) ⟨Nat.le_of_ble_eq_true rfl, Nat.le_of_ble_eq_true rfl⟩) rfl (Nat.le_of_ble_eq_true rfl) d_Model_set_37 ⟨Nat.le_of_ble_eq_true rfl, Nat.le_of_ble_eq_true rfl⟩ ⟨rfl, rfl, rfl, rfl, rfl, fun _ => rfl, rfl⟩ (fun r37 uu37 q37_ => ?_) rfl
      subst q37_
      refine V_top (y := bP (vp_in y 4)) (bP_c (in_iff (m := 4) (by omega) (by omega))) ?_
      refine V_ifb_ne F 49 d_Model_set_40 (by decide) (fun h40 => ?_) (fun h40 => ?_)
      · skip
        exact False.elim (hy h40)
      · skip
        refine V_aload_n F 0 d_Model_set_43 rfl rfl ?_
        refine V_iconst F (v := 2) d_Model_set_44 rfl ?_
        refine V_callV_i (w1 := fun (u_ : Unit) => [(x0, .inr (CI_Model, [.int (nI 2), .int (nI nn), .ref x1, .ref x2, .ref x3, .ref x4, .ref x5, .ref x6, .ref x7, .ref x8, .ref x9, .ref x10, .ref x11, .int (nI n), .ref x12, .ref x13, .ref x14, .ref x15, .ref x16, .ref x17, .ref x18, .ref x19, .ref x20, .int (bP bt), .int (nI sg)])), (x5, .inl (cI, 60, .inl (cN k)))]) (wr := [(x5, .inl (cI, 60, .inl (cN k)))]) (isC := [0]) (isR := [1]) (pm := [1, 0]) (As := [.int 2]) (rest := []) F (c_Model_raise l D cI cL cB x0 x1 x2 x3 x4 x5 x6 x7 x8 x9 x10 x11 x12 x13 x14 x15 x16 x17 x18 x19 x20 0 nn n sg bt 2 ) (cS_V 1 F.ts m_689 m_690 m_18 m_42 m_691 (by decide +kernel) ⟨Nat.le_of_ble_eq_true rfl, Nat.le_of_ble_eq_true rfl⟩) (ci := CI_Model) (q0 := 0) rfl rfl rfl (Nat.le_of_ble_eq_true rfl) d_Model_set_45 ⟨Nat.le_of_ble_eq_true rfl, Nat.le_of_ble_eq_true rfl⟩ ⟨rfl, rfl, rfl, rfl, rfl, fun _ => rfl, rfl⟩ (fun r45 uu45 q45_ => ?_) rfl
        subst q45_
        exact V_iret F hr () rfl [0, 1] rfl rfl (by decide) (by decide) d_Model_set_48
    · skip
      exact False.elim (by omega)

set_option maxHeartbeats 4000000 in
set_option maxRecDepth 100000 in
theorem c_Model_set_3 (l : Launch) (D : va_G) (cI cL cB : ClassId) (x0 : Nat) (x1 : Nat) (x2 : Nat) (x3 : Nat) (x4 : Nat) (x5 : Nat) (x6 : Nat) (x7 : Nat) (x8 : Nat) (x9 : Nat) (x10 : Nat) (x11 : Nat) (x12 : Nat) (x13 : Nat) (x14 : Nat) (x15 : Nat) (x16 : Nat) (x17 : Nat) (x18 : Nat) (x19 : Nat) (x20 : Nat) (th : Nat) (nn : Nat) (n : Nat) (sg : Nat) (bt : Prop) (k : Nat → Nat) (i : Nat) (y : Nat) (hn : n ≤ 60) (hi : i < n) (hk0 : k i = 0) (hy : y < 4) (hb : ¬ bt) : Cti l y_Model_set (wK w_Model_set) ({ frames := 1, cells := 0, slots := 0, locals := 22 }) D classes (TY cI cL cB) [.ref x0, .int (nI i), .int (nI y)] [(x0, .inr (CI_Model, [.int (nI th), .int (nI nn), .ref x1, .ref x2, .ref x3, .ref x4, .ref x5, .ref x6, .ref x7, .ref x8, .ref x9, .ref x10, .ref x11, .int (nI n), .ref x12, .ref x13, .ref x14, .ref x15, .ref x16, .ref x17, .ref x18, .ref x19, .ref x20, .int (bP bt), .int (nI sg)])), (x5, .inl (cI, 60, .inl (cN k)))] (fun (r : Int32) (u_ : Unit) => r = nI 0) (fun (u_ : Unit) => [(x0, .inr (CI_Model, [.int (nI 3), .int (nI nn), .ref x1, .ref x2, .ref x3, .ref x4, .ref x5, .ref x6, .ref x7, .ref x8, .ref x9, .ref x10, .ref x11, .int (nI n), .ref x12, .ref x13, .ref x14, .ref x15, .ref x16, .ref x17, .ref x18, .ref x19, .ref x20, .int (bP bt), .int (nI sg)])), (x5, .inl (cI, 60, .inl (cN k)))]) 0 0 := by
  refine Ctg_of (cc := prog_9_method_28_code) (maxL := 3) (ret := (some .int)) "CircuitSimulatorModel" [(0, .ref x0), (1, .int (nI i)), (2, .int (nI y))] (by decide) rfl rfl (Nat.le_of_ble_eq_true rfl) rfl ?_
  intro p_ e_ s_ m_ args_ below_ meth_ c_ A_ F hr hin
  refine V_aload_n F 0 d_Model_set_0 rfl rfl ?_
  refine V_iconst F (v := 0) d_Model_set_1 rfl ?_
  refine V_put F 0 CI_Model 0 (w' := [(x0, .inr (CI_Model, [.int (nI 0), .int (nI nn), .ref x1, .ref x2, .ref x3, .ref x4, .ref x5, .ref x6, .ref x7, .ref x8, .ref x9, .ref x10, .ref x11, .int (nI n), .ref x12, .ref x13, .ref x14, .ref x15, .ref x16, .ref x17, .ref x18, .ref x19, .ref x20, .int (bP bt), .int (nI sg)])), (x5, .inl (cI, 60, .inl (cN k)))]) t_Model tk_Model n_Model i_Model rfl rfl (by decide) m_596 rfl rfl rfl rfl (Nat.le_of_ble_eq_true rfl) rfl d_Model_set_2 ?_
  refine V_iload_n F 1 d_Model_set_5 rfl rfl ?_
  refine V_iconst F (v := 0) d_Model_set_6 rfl ?_
  refine V_aload_n F 0 d_Model_set_7 rfl rfl ?_
  refine V_get F 0 CI_Model 13 i_Model rfl rfl (by decide) m_609 rfl rfl d_Model_set_8 ?_
  refine V_iconst F (v := 1) d_Model_set_11 rfl ?_
  refine V_isub F d_Model_set_12 ?_
  refine V_top (y := nI n - 1) rfl ?_
  refine V_callS_i (w1 := fun (u_ : Unit) => [(x0, .inr (CI_Model, [.int (nI 0), .int (nI nn), .ref x1, .ref x2, .ref x3, .ref x4, .ref x5, .ref x6, .ref x7, .ref x8, .ref x9, .ref x10, .ref x11, .int (nI n), .ref x12, .ref x13, .ref x14, .ref x15, .ref x16, .ref x17, .ref x18, .ref x19, .ref x20, .int (bP bt), .int (nI sg)])), (x5, .inl (cI, 60, .inl (cN k)))]) (wr := [(x0, .inr (CI_Model, [.int (nI 0), .int (nI nn), .ref x1, .ref x2, .ref x3, .ref x4, .ref x5, .ref x6, .ref x7, .ref x8, .ref x9, .ref x10, .ref x11, .int (nI n), .ref x12, .ref x13, .ref x14, .ref x15, .ref x16, .ref x17, .ref x18, .ref x19, .ref x20, .int (bP bt), .int (nI sg)])), (x5, .inl (cI, 60, .inl (cN k)))]) (isC := []) (isR := [0, 1]) (pm := [0, 1]) (As := [.int (nI i), .int 0, .int (nI n - 1)]) (rest := []) F (c_Model_in l D cI cL cB (nI i) 0 (nI n - 1) ) (cS_S 3 F.ts m_680 m_681 m_42 m_682 (by decide +kernel) ⟨Nat.le_of_ble_eq_true rfl, Nat.le_of_ble_eq_true rfl⟩) rfl (Nat.le_of_ble_eq_true rfl) d_Model_set_13 ⟨Nat.le_of_ble_eq_true rfl, Nat.le_of_ble_eq_true rfl⟩ ⟨rfl, rfl, rfl, rfl, rfl, fun _ => rfl, rfl⟩ (fun r13 uu13 q13_ => ?_) rfl
  subst q13_
  refine V_top (y := bP (vp_in (nI i) n)) (bP_c (in_iff2 (m := n) (by omega))) ?_
  refine V_ifb_eq F 28 d_Model_set_16 (by decide) (fun h16 => ?_) (fun h16 => ?_)
  · skip
    exact False.elim (h16 (vp_in_nI (by omega) (by omega)))
  · skip
    refine V_aload_n F 0 d_Model_set_19 rfl rfl ?_
    refine V_get F 0 CI_Model 6 i_Model rfl rfl (by decide) m_602 rfl rfl d_Model_set_20 ?_
    refine V_iload_n F 1 d_Model_set_23 rfl rfl ?_
    refine V_ialdnN F 1 0 (k := i) rfl rfl (by omega) (by decide) d_Model_set_24 ?_
    refine V_ifn_eq F 34 (a := k i) (by omega) d_Model_set_25 (by decide) (fun h25 => ?_) (fun h25 => ?_)
    · skip
      refine V_iload_n F 2 d_Model_set_34 rfl rfl ?_
      refine V_iconst F (v := 0) d_Model_set_35 rfl ?_
      refine V_iconst F (v := 3) d_Model_set_36 rfl ?_
      refine V_callS_i (w1 := fun (u_ : Unit) => [(x0, .inr (CI_Model, [.int (nI 0), .int (nI nn), .ref x1, .ref x2, .ref x3, .ref x4, .ref x5, .ref x6, .ref x7, .ref x8, .ref x9, .ref x10, .ref x11, .int (nI n), .ref x12, .ref x13, .ref x14, .ref x15, .ref x16, .ref x17, .ref x18, .ref x19, .ref x20, .int (bP bt), .int (nI sg)])), (x5, .inl (cI, 60, .inl (cN k)))]) (wr := [(x0, .inr (CI_Model, [.int (nI 0), .int (nI nn), .ref x1, .ref x2, .ref x3, .ref x4, .ref x5, .ref x6, .ref x7, .ref x8, .ref x9, .ref x10, .ref x11, .int (nI n), .ref x12, .ref x13, .ref x14, .ref x15, .ref x16, .ref x17, .ref x18, .ref x19, .ref x20, .int (bP bt), .int (nI sg)])), (x5, .inl (cI, 60, .inl (cN k)))]) (isC := []) (isR := [0, 1]) (pm := [0, 1]) (As := [.int (nI y), .int 0, .int 3]) (rest := []) F (c_Model_in l D cI cL cB (nI y) 0 3 ) (cS_S 3 F.ts m_680 m_681 m_42 m_682 (by decide +kernel) ⟨Nat.le_of_ble_eq_true rfl, Nat.le_of_ble_eq_true rfl⟩) rfl (Nat.le_of_ble_eq_true rfl) d_Model_set_37 ⟨Nat.le_of_ble_eq_true rfl, Nat.le_of_ble_eq_true rfl⟩ ⟨rfl, rfl, rfl, rfl, rfl, fun _ => rfl, rfl⟩ (fun r37 uu37 q37_ => ?_) rfl
      subst q37_
      refine V_top (y := bP (vp_in (nI y) 4)) (bP_c (in_iff (m := 4) (by omega) (by omega))) ?_
      refine V_ifb_ne F 49 d_Model_set_40 (by decide) (fun h40 => ?_) (fun h40 => ?_)
      · skip
        refine V_aload_n F 0 d_Model_set_49 rfl rfl ?_
        refine V_get F 0 CI_Model 23 i_Model rfl rfl (by decide) m_619 rfl rfl d_Model_set_50 ?_
        refine V_ifb_ne F 62 d_Model_set_53 (by decide) (fun h53 => ?_) (fun h53 => ?_)
        · skip
          exact False.elim (hb h53)
        · skip
          refine V_aload_n F 0 d_Model_set_56 rfl rfl ?_
          refine V_iconst F (v := 3) d_Model_set_57 rfl ?_
          refine V_callV_i (w1 := fun (u_ : Unit) => [(x0, .inr (CI_Model, [.int (nI 3), .int (nI nn), .ref x1, .ref x2, .ref x3, .ref x4, .ref x5, .ref x6, .ref x7, .ref x8, .ref x9, .ref x10, .ref x11, .int (nI n), .ref x12, .ref x13, .ref x14, .ref x15, .ref x16, .ref x17, .ref x18, .ref x19, .ref x20, .int (bP bt), .int (nI sg)])), (x5, .inl (cI, 60, .inl (cN k)))]) (wr := [(x5, .inl (cI, 60, .inl (cN k)))]) (isC := [0]) (isR := [1]) (pm := [1, 0]) (As := [.int 3]) (rest := []) F (c_Model_raise l D cI cL cB x0 x1 x2 x3 x4 x5 x6 x7 x8 x9 x10 x11 x12 x13 x14 x15 x16 x17 x18 x19 x20 0 nn n sg bt 3 ) (cS_V 1 F.ts m_689 m_690 m_18 m_42 m_691 (by decide +kernel) ⟨Nat.le_of_ble_eq_true rfl, Nat.le_of_ble_eq_true rfl⟩) (ci := CI_Model) (q0 := 0) rfl rfl rfl (Nat.le_of_ble_eq_true rfl) d_Model_set_58 ⟨Nat.le_of_ble_eq_true rfl, Nat.le_of_ble_eq_true rfl⟩ ⟨rfl, rfl, rfl, rfl, rfl, fun _ => rfl, rfl⟩ (fun r58 uu58 q58_ => ?_) rfl
          subst q58_
          exact V_iret F hr () rfl [0, 1] rfl rfl (by decide) (by decide) d_Model_set_61
      · skip
        exact False.elim (h40 (vp_in_nI (by omega) (by omega)))
    · skip
      exact False.elim (by omega)

set_option maxHeartbeats 4000000 in
set_option maxRecDepth 100000 in
theorem c_Model_set_0 (l : Launch) (D : va_G) (cI cL cB : ClassId) (x0 : Nat) (x1 : Nat) (x2 : Nat) (x3 : Nat) (x4 : Nat) (x5 : Nat) (x6 : Nat) (x7 : Nat) (x8 : Nat) (x9 : Nat) (x10 : Nat) (x11 : Nat) (x12 : Nat) (x13 : Nat) (x14 : Nat) (x15 : Nat) (x16 : Nat) (x17 : Nat) (x18 : Nat) (x19 : Nat) (x20 : Nat) (th : Nat) (nn : Nat) (n : Nat) (sg : Nat) (bt : Prop) (v : Nat → Nat) (bf : Nat → Nat) (sk : Nat → Nat) (tn : Nat → Nat) (k : Nat → Nat) (o : Nat → Nat) (A : Nat → Int32) (B : Nat → Int32) (C : Nat → Int32) (q : Nat → Nat) (dr : Nat → Nat) (L : Nat → Nat) (i : Nat) (y : Nat) (hn : n ≤ 60) (hnn : nn ≤ 80) (hw : WfC nn n k o A B C) (hU : Up n k o A B C L) (hL : ∀ j, j < nn → L j ≤ 30) (hsk : ∀ j, j < nn → sk j ≤ 3) (hv : ∀ j, j < nn → v j ≤ 3) (hq : ∀ i, i < n → q i ≤ 3) (hi : i < n) (hk0 : k i = 0) (hy : y < 4) (hb : bt) : Cti l y_Model_set (wK w_Model_set) ({ frames := 3, cells := 0, slots := 0, locals := 69 }) D classes (TY cI cL cB) [.ref x0, .int (nI i), .int (nI y)] [(x0, .inr (CI_Model, [.int (nI th), .int (nI nn), .ref x1, .ref x2, .ref x3, .ref x4, .ref x5, .ref x6, .ref x7, .ref x8, .ref x9, .ref x10, .ref x11, .int (nI n), .ref x12, .ref x13, .ref x14, .ref x15, .ref x16, .ref x17, .ref x18, .ref x19, .ref x20, .int (bP bt), .int (nI sg)])), (x1, .inl (cI, 80, .inl (cN v))), (x2, .inl (cI, 80, .inl (cN bf))), (x3, .inl (cI, 80, .inl (cS sk))), (x4, .inl (cI, 80, .inl (cN tn))), (x5, .inl (cI, 60, .inl (cN k))), (x6, .inl (cI, 60, .inl (cN o))), (x7, .inl (cI, 60, .inl A)), (x8, .inl (cI, 60, .inl B)), (x9, .inl (cI, 60, .inl C)), (x10, .inl (cI, 60, .inl (cN q))), (x11, .inl (cI, 60, .inl (cN dr)))] (fun (r : Int32) (u_ : (Nat → Nat) × (Nat → Nat) × (Nat → Nat) × (Nat → Nat) × (Nat → Nat)) => r = nI (u_.1 (o i)) ∧ (SetP nn n k o A B C (up q i y) sk v tn u_.1 u_.2.2.1 u_.2.2.2.1)) (fun (u_ : (Nat → Nat) × (Nat → Nat) × (Nat → Nat) × (Nat → Nat) × (Nat → Nat)) => [(x0, .inr (CI_Model, [.int (nI 0), .int (nI nn), .ref x1, .ref x2, .ref x3, .ref x4, .ref x5, .ref x6, .ref x7, .ref x8, .ref x9, .ref x10, .ref x11, .int (nI n), .ref x12, .ref x13, .ref x14, .ref x15, .ref x16, .ref x17, .ref x18, .ref x19, .ref x20, .int (bP bt), .int (nI (sg + 1))])), (x1, .inl (cI, 80, .inl (cN u_.1))), (x2, .inl (cI, 80, .inl (cN u_.2.1))), (x3, .inl (cI, 80, .inl (cS sk))), (x4, .inl (cI, 80, .inl (cN u_.2.2.1))), (x5, .inl (cI, 60, .inl (cN k))), (x6, .inl (cI, 60, .inl (cN o))), (x7, .inl (cI, 60, .inl A)), (x8, .inl (cI, 60, .inl B)), (x9, .inl (cI, 60, .inl C)), (x10, .inl (cI, 60, .inl (cN u_.2.2.2.1))), (x11, .inl (cI, 60, .inl (cN u_.2.2.2.2)))]) 0 0 := by
  refine Ctg_of (cc := prog_9_method_28_code) (maxL := 3) (ret := (some .int)) "CircuitSimulatorModel" [(0, .ref x0), (1, .int (nI i)), (2, .int (nI y))] (by decide) rfl rfl (Nat.le_of_ble_eq_true rfl) rfl ?_
  intro p_ e_ s_ m_ args_ below_ meth_ c_ A_ F hr hin
  refine V_aload_n F 0 d_Model_set_0 rfl rfl ?_
  refine V_iconst F (v := 0) d_Model_set_1 rfl ?_
  refine V_put F 0 CI_Model 0 (w' := [(x0, .inr (CI_Model, [.int (nI 0), .int (nI nn), .ref x1, .ref x2, .ref x3, .ref x4, .ref x5, .ref x6, .ref x7, .ref x8, .ref x9, .ref x10, .ref x11, .int (nI n), .ref x12, .ref x13, .ref x14, .ref x15, .ref x16, .ref x17, .ref x18, .ref x19, .ref x20, .int (bP bt), .int (nI sg)])), (x1, .inl (cI, 80, .inl (cN v))), (x2, .inl (cI, 80, .inl (cN bf))), (x3, .inl (cI, 80, .inl (cS sk))), (x4, .inl (cI, 80, .inl (cN tn))), (x5, .inl (cI, 60, .inl (cN k))), (x6, .inl (cI, 60, .inl (cN o))), (x7, .inl (cI, 60, .inl A)), (x8, .inl (cI, 60, .inl B)), (x9, .inl (cI, 60, .inl C)), (x10, .inl (cI, 60, .inl (cN q))), (x11, .inl (cI, 60, .inl (cN dr)))]) t_Model tk_Model n_Model i_Model rfl rfl (by decide) m_596 rfl rfl rfl rfl (Nat.le_of_ble_eq_true rfl) rfl d_Model_set_2 ?_
  refine V_iload_n F 1 d_Model_set_5 rfl rfl ?_
  refine V_iconst F (v := 0) d_Model_set_6 rfl ?_
  refine V_aload_n F 0 d_Model_set_7 rfl rfl ?_
  refine V_get F 0 CI_Model 13 i_Model rfl rfl (by decide) m_609 rfl rfl d_Model_set_8 ?_
  refine V_iconst F (v := 1) d_Model_set_11 rfl ?_
  refine V_isub F d_Model_set_12 ?_
  refine V_top (y := nI n - 1) rfl ?_
  refine V_callS_i (w1 := fun (u_ : Unit) => [(x0, .inr (CI_Model, [.int (nI 0), .int (nI nn), .ref x1, .ref x2, .ref x3, .ref x4, .ref x5, .ref x6, .ref x7, .ref x8, .ref x9, .ref x10, .ref x11, .int (nI n), .ref x12, .ref x13, .ref x14, .ref x15, .ref x16, .ref x17, .ref x18, .ref x19, .ref x20, .int (bP bt), .int (nI sg)])), (x1, .inl (cI, 80, .inl (cN v))), (x2, .inl (cI, 80, .inl (cN bf))), (x3, .inl (cI, 80, .inl (cS sk))), (x4, .inl (cI, 80, .inl (cN tn))), (x5, .inl (cI, 60, .inl (cN k))), (x6, .inl (cI, 60, .inl (cN o))), (x7, .inl (cI, 60, .inl A)), (x8, .inl (cI, 60, .inl B)), (x9, .inl (cI, 60, .inl C)), (x10, .inl (cI, 60, .inl (cN q))), (x11, .inl (cI, 60, .inl (cN dr)))]) (wr := [(x0, .inr (CI_Model, [.int (nI 0), .int (nI nn), .ref x1, .ref x2, .ref x3, .ref x4, .ref x5, .ref x6, .ref x7, .ref x8, .ref x9, .ref x10, .ref x11, .int (nI n), .ref x12, .ref x13, .ref x14, .ref x15, .ref x16, .ref x17, .ref x18, .ref x19, .ref x20, .int (bP bt), .int (nI sg)])), (x1, .inl (cI, 80, .inl (cN v))), (x2, .inl (cI, 80, .inl (cN bf))), (x3, .inl (cI, 80, .inl (cS sk))), (x4, .inl (cI, 80, .inl (cN tn))), (x5, .inl (cI, 60, .inl (cN k))), (x6, .inl (cI, 60, .inl (cN o))), (x7, .inl (cI, 60, .inl A)), (x8, .inl (cI, 60, .inl B)), (x9, .inl (cI, 60, .inl C)), (x10, .inl (cI, 60, .inl (cN q))), (x11, .inl (cI, 60, .inl (cN dr)))]) (isC := []) (isR := [0, 1, 2, 3, 4, 5, 6, 7, 8, 9, 10, 11]) (pm := [0, 1, 2, 3, 4, 5, 6, 7, 8, 9, 10, 11]) (As := [.int (nI i), .int 0, .int (nI n - 1)]) (rest := []) F (c_Model_in l D cI cL cB (nI i) 0 (nI n - 1) ) (cS_S 3 F.ts m_680 m_681 m_42 m_682 (by decide +kernel) ⟨Nat.le_of_ble_eq_true rfl, Nat.le_of_ble_eq_true rfl⟩) rfl (Nat.le_of_ble_eq_true rfl) d_Model_set_13 ⟨Nat.le_of_ble_eq_true rfl, Nat.le_of_ble_eq_true rfl⟩ ⟨rfl, rfl, rfl, rfl, rfl, fun _ => rfl, rfl⟩ (fun r13 uu13 q13_ => ?_) rfl
  subst q13_
  refine V_top (y := bP (vp_in (nI i) n)) (bP_c (in_iff2 (m := n) (by omega))) ?_
  refine V_ifb_eq F 28 d_Model_set_16 (by decide) (fun h16 => ?_) (fun h16 => ?_)
  · skip
    exact False.elim (h16 (vp_in_nI (by omega) (by omega)))
  · skip
    refine V_aload_n F 0 d_Model_set_19 rfl rfl ?_
    refine V_get F 0 CI_Model 6 i_Model rfl rfl (by decide) m_602 rfl rfl d_Model_set_20 ?_
    refine V_iload_n F 1 d_Model_set_23 rfl rfl ?_
    refine V_ialdnN F 5 0 (k := i) rfl rfl (by omega) (by decide) d_Model_set_24 ?_
    refine V_ifn_eq F 34 (a := k i) (by omega) d_Model_set_25 (by decide) (fun h25 => ?_) (fun h25 => ?_)
    · skip
      refine V_iload_n F 2 d_Model_set_34 rfl rfl ?_
      refine V_iconst F (v := 0) d_Model_set_35 rfl ?_
      refine V_iconst F (v := 3) d_Model_set_36 rfl ?_
      refine V_callS_i (w1 := fun (u_ : Unit) => [(x0, .inr (CI_Model, [.int (nI 0), .int (nI nn), .ref x1, .ref x2, .ref x3, .ref x4, .ref x5, .ref x6, .ref x7, .ref x8, .ref x9, .ref x10, .ref x11, .int (nI n), .ref x12, .ref x13, .ref x14, .ref x15, .ref x16, .ref x17, .ref x18, .ref x19, .ref x20, .int (bP bt), .int (nI sg)])), (x1, .inl (cI, 80, .inl (cN v))), (x2, .inl (cI, 80, .inl (cN bf))), (x3, .inl (cI, 80, .inl (cS sk))), (x4, .inl (cI, 80, .inl (cN tn))), (x5, .inl (cI, 60, .inl (cN k))), (x6, .inl (cI, 60, .inl (cN o))), (x7, .inl (cI, 60, .inl A)), (x8, .inl (cI, 60, .inl B)), (x9, .inl (cI, 60, .inl C)), (x10, .inl (cI, 60, .inl (cN q))), (x11, .inl (cI, 60, .inl (cN dr)))]) (wr := [(x0, .inr (CI_Model, [.int (nI 0), .int (nI nn), .ref x1, .ref x2, .ref x3, .ref x4, .ref x5, .ref x6, .ref x7, .ref x8, .ref x9, .ref x10, .ref x11, .int (nI n), .ref x12, .ref x13, .ref x14, .ref x15, .ref x16, .ref x17, .ref x18, .ref x19, .ref x20, .int (bP bt), .int (nI sg)])), (x1, .inl (cI, 80, .inl (cN v))), (x2, .inl (cI, 80, .inl (cN bf))), (x3, .inl (cI, 80, .inl (cS sk))), (x4, .inl (cI, 80, .inl (cN tn))), (x5, .inl (cI, 60, .inl (cN k))), (x6, .inl (cI, 60, .inl (cN o))), (x7, .inl (cI, 60, .inl A)), (x8, .inl (cI, 60, .inl B)), (x9, .inl (cI, 60, .inl C)), (x10, .inl (cI, 60, .inl (cN q))), (x11, .inl (cI, 60, .inl (cN dr)))]) (isC := []) (isR := [0, 1, 2, 3, 4, 5, 6, 7, 8, 9, 10, 11]) (pm := [0, 1, 2, 3, 4, 5, 6, 7, 8, 9, 10, 11]) (As := [.int (nI y), .int 0, .int 3]) (rest := []) F (c_Model_in l D cI cL cB (nI y) 0 3 ) (cS_S 3 F.ts m_680 m_681 m_42 m_682 (by decide +kernel) ⟨Nat.le_of_ble_eq_true rfl, Nat.le_of_ble_eq_true rfl⟩) rfl (Nat.le_of_ble_eq_true rfl) d_Model_set_37 ⟨Nat.le_of_ble_eq_true rfl, Nat.le_of_ble_eq_true rfl⟩ ⟨rfl, rfl, rfl, rfl, rfl, fun _ => rfl, rfl⟩ (fun r37 uu37 q37_ => ?_) rfl
      subst q37_
      refine V_top (y := bP (vp_in (nI y) 4)) (bP_c (in_iff (m := 4) (by omega) (by omega))) ?_
      refine V_ifb_ne F 49 d_Model_set_40 (by decide) (fun h40 => ?_) (fun h40 => ?_)
      · skip
        refine V_aload_n F 0 d_Model_set_49 rfl rfl ?_
        refine V_get F 0 CI_Model 23 i_Model rfl rfl (by decide) m_619 rfl rfl d_Model_set_50 ?_
        refine V_ifb_ne F 62 d_Model_set_53 (by decide) (fun h53 => ?_) (fun h53 => ?_)
        · skip
          refine V_aload_n F 0 d_Model_set_62 rfl rfl ?_
          refine V_get F 0 CI_Model 11 i_Model rfl rfl (by decide) m_607 rfl rfl d_Model_set_63 ?_
          refine V_iload_n F 1 d_Model_set_66 rfl rfl ?_
          refine V_iload_n F 2 d_Model_set_67 rfl rfl ?_
          refine V_iastn F 10 0 (k := i) (w' := [(x0, .inr (CI_Model, [.int (nI 0), .int (nI nn), .ref x1, .ref x2, .ref x3, .ref x4, .ref x5, .ref x6, .ref x7, .ref x8, .ref x9, .ref x10, .ref x11, .int (nI n), .ref x12, .ref x13, .ref x14, .ref x15, .ref x16, .ref x17, .ref x18, .ref x19, .ref x20, .int (bP bt), .int (nI sg)])), (x1, .inl (cI, 80, .inl (cN v))), (x2, .inl (cI, 80, .inl (cN bf))), (x3, .inl (cI, 80, .inl (cS sk))), (x4, .inl (cI, 80, .inl (cN tn))), (x5, .inl (cI, 60, .inl (cN k))), (x6, .inl (cI, 60, .inl (cN o))), (x7, .inl (cI, 60, .inl A)), (x8, .inl (cI, 60, .inl B)), (x9, .inl (cI, 60, .inl C)), (x10, .inl (cI, 60, .inl (cN (up q i y)))), (x11, .inl (cI, 60, .inl (cN dr)))]) rfl rfl (by omega) (by decide) (by rw [upd_cN] <;> rfl) d_Model_set_68 ?_
          refine V_aload_n F 0 d_Model_set_69 rfl rfl ?_
          refine V_callV_v (w1 := fun (u_ : (Nat → Nat) × (Nat → Nat) × (Nat → Nat) × (Nat → Nat) × (Nat → Nat)) => [(x0, .inr (CI_Model, [.int (nI 0), .int (nI nn), .ref x1, .ref x2, .ref x3, .ref x4, .ref x5, .ref x6, .ref x7, .ref x8, .ref x9, .ref x10, .ref x11, .int (nI n), .ref x12, .ref x13, .ref x14, .ref x15, .ref x16, .ref x17, .ref x18, .ref x19, .ref x20, .int (bP bt), .int (nI (sg + 1))])), (x1, .inl (cI, 80, .inl (cN u_.1))), (x2, .inl (cI, 80, .inl (cN u_.2.1))), (x3, .inl (cI, 80, .inl (cS sk))), (x4, .inl (cI, 80, .inl (cN u_.2.2.1))), (x5, .inl (cI, 60, .inl (cN k))), (x6, .inl (cI, 60, .inl (cN o))), (x7, .inl (cI, 60, .inl A)), (x8, .inl (cI, 60, .inl B)), (x9, .inl (cI, 60, .inl C)), (x10, .inl (cI, 60, .inl (cN u_.2.2.2.1))), (x11, .inl (cI, 60, .inl (cN u_.2.2.2.2)))]) (wr := []) (isC := [0, 1, 2, 3, 4, 5, 6, 7, 8, 9, 10, 11]) (isR := []) (pm := [0, 1, 2, 3, 4, 5, 6, 7, 8, 9, 10, 11]) (As := []) (rest := []) F (c_Model_settle l D cI cL cB x0 x1 x2 x3 x4 x5 x6 x7 x8 x9 x10 x11 x12 x13 x14 x15 x16 x17 x18 x19 x20 0 nn n sg bt v bf sk tn k o A B C (up q i y) dr L (by first | assumption | omega | (simp only [] at *; omega)) (by first | assumption | omega | (simp only [] at *; omega)) (by first | assumption | omega | (simp only [] at *; omega)) (by first | assumption | omega | (simp only [] at *; omega)) (by first | assumption | omega | (simp only [] at *; omega)) (by first | assumption | omega | (simp only [] at *; omega)) (by first | assumption | omega | (simp only [] at *; omega)) (up_le hq (by omega))) (cS_V 0 F.ts m_737 m_738 m_30 m_42 m_739 (by decide +kernel) ⟨Nat.le_of_ble_eq_true rfl, Nat.le_of_ble_eq_true rfl⟩) (ci := CI_Model) (q0 := 0) rfl rfl rfl (Nat.le_of_ble_eq_true rfl) d_Model_set_70 ⟨Nat.le_of_ble_eq_true rfl, Nat.le_of_ble_eq_true rfl⟩ ⟨rfl, rfl, rfl, rfl, rfl, fun _ => rfl, rfl⟩ (fun uu70 q70_ => ?_) rfl
          obtain ⟨v2_70, bf2_70, tn2_70, q2_70, dr2_70⟩ := uu70
          have e70 : SetP nn n k o A B C (up q i y) sk v tn v2_70 tn2_70 q2_70 := q70_
          clear q70_
          refine V_cast (w' := [(x0, .inr (CI_Model, [.int (nI 0), .int (nI nn), .ref x1, .ref x2, .ref x3, .ref x4, .ref x5, .ref x6, .ref x7, .ref x8, .ref x9, .ref x10, .ref x11, .int (nI n), .ref x12, .ref x13, .ref x14, .ref x15, .ref x16, .ref x17, .ref x18, .ref x19, .ref x20, .int (bP bt), .int (nI (sg + 1))])), (x1, .inl (cI, 80, .inl (cN v2_70))), (x2, .inl (cI, 80, .inl (cN bf2_70))), (x3, .inl (cI, 80, .inl (cS sk))), (x4, .inl (cI, 80, .inl (cN tn2_70))), (x5, .inl (cI, 60, .inl (cN k))), (x6, .inl (cI, 60, .inl (cN o))), (x7, .inl (cI, 60, .inl A)), (x8, .inl (cI, 60, .inl B)), (x9, .inl (cI, 60, .inl C)), (x10, .inl (cI, 60, .inl (cN q2_70))), (x11, .inl (cI, 60, .inl (cN dr2_70)))]) rfl rfl rfl ?_
          have ho8 := (hw i hi).2.1
          refine V_aload_n F 0 d_Model_set_73 rfl rfl ?_
          refine V_get F 0 CI_Model 2 i_Model rfl rfl (by decide) m_598 rfl rfl d_Model_set_74 ?_
          refine V_aload_n F 0 d_Model_set_77 rfl rfl ?_
          refine V_get F 0 CI_Model 7 i_Model rfl rfl (by decide) m_603 rfl rfl d_Model_set_78 ?_
          refine V_iload_n F 1 d_Model_set_81 rfl rfl ?_
          refine V_ialdnN F 6 0 (k := i) rfl rfl (by omega) (by decide) d_Model_set_82 ?_
          refine V_ialdnN F 1 0 (k := o i) rfl rfl (by omega) (by decide) d_Model_set_83 ?_
          exact V_iret F hr (v2_70, bf2_70, tn2_70, q2_70, dr2_70) (show (nI (v2_70 (o i))) = nI (v2_70 (o i)) ∧ (SetP nn n k o A B C (up q i y) sk v tn v2_70 tn2_70 q2_70) from ⟨rfl, e70⟩) [0, 1, 2, 3, 4, 5, 6, 7, 8, 9, 10, 11] rfl rfl (by decide) (by decide) d_Model_set_84
        · skip
          exact False.elim (h53 hb)
      · skip
        exact False.elim (h40 (vp_in_nI (by omega) (by omega)))
    · skip
      exact False.elim (by omega)

set_option maxHeartbeats 4000000 in
set_option maxRecDepth 100000 in
theorem c_Model_tick_1 (l : Launch) (D : va_G) (cI cL cB : ClassId) (x0 : Nat) (x1 : Nat) (x2 : Nat) (x3 : Nat) (x4 : Nat) (x5 : Nat) (x6 : Nat) (x7 : Nat) (x8 : Nat) (x9 : Nat) (x10 : Nat) (x11 : Nat) (x12 : Nat) (x13 : Nat) (x14 : Nat) (x15 : Nat) (x16 : Nat) (x17 : Nat) (x18 : Nat) (x19 : Nat) (x20 : Nat) (th : Nat) (nn : Nat) (n : Nat) (sg : Nat) (bt : Prop) (x : Int32) (hx : ¬ vp_in x 2) : Cti l y_Model_tick (wK w_Model_tick) ({ frames := 1, cells := 0, slots := 0, locals := 22 }) D classes (TY cI cL cB) [.ref x0, .int x] [(x0, .inr (CI_Model, [.int (nI th), .int (nI nn), .ref x1, .ref x2, .ref x3, .ref x4, .ref x5, .ref x6, .ref x7, .ref x8, .ref x9, .ref x10, .ref x11, .int (nI n), .ref x12, .ref x13, .ref x14, .ref x15, .ref x16, .ref x17, .ref x18, .ref x19, .ref x20, .int (bP bt), .int (nI sg)]))] (fun (r : Int32) (u_ : Unit) => r = nI 0) (fun (u_ : Unit) => [(x0, .inr (CI_Model, [.int (nI 1), .int (nI nn), .ref x1, .ref x2, .ref x3, .ref x4, .ref x5, .ref x6, .ref x7, .ref x8, .ref x9, .ref x10, .ref x11, .int (nI n), .ref x12, .ref x13, .ref x14, .ref x15, .ref x16, .ref x17, .ref x18, .ref x19, .ref x20, .int (bP bt), .int (nI sg)]))]) 0 0 := by
  refine Ctg_of (cc := prog_9_method_29_code) (maxL := 5) (ret := (some .int)) "CircuitSimulatorModel" [(0, .ref x0), (1, .int x)] (by decide) rfl rfl (Nat.le_of_ble_eq_true rfl) rfl ?_
  intro p_ e_ s_ m_ args_ below_ meth_ c_ A_ F hr hin
  refine V_aload_n F 0 d_Model_tick_0 rfl rfl ?_
  refine V_iconst F (v := 0) d_Model_tick_1 rfl ?_
  refine V_put F 0 CI_Model 0 (w' := [(x0, .inr (CI_Model, [.int (nI 0), .int (nI nn), .ref x1, .ref x2, .ref x3, .ref x4, .ref x5, .ref x6, .ref x7, .ref x8, .ref x9, .ref x10, .ref x11, .int (nI n), .ref x12, .ref x13, .ref x14, .ref x15, .ref x16, .ref x17, .ref x18, .ref x19, .ref x20, .int (bP bt), .int (nI sg)]))]) t_Model tk_Model n_Model i_Model rfl rfl (by decide) m_596 rfl rfl rfl rfl (Nat.le_of_ble_eq_true rfl) rfl d_Model_tick_2 ?_
  refine V_iload_n F 1 d_Model_tick_5 rfl rfl ?_
  refine V_iconst F (v := 0) d_Model_tick_6 rfl ?_
  refine V_iconst F (v := 1) d_Model_tick_7 rfl ?_
  refine V_callS_i (w1 := fun (u_ : Unit) => [(x0, .inr (CI_Model, [.int (nI 0), .int (nI nn), .ref x1, .ref x2, .ref x3, .ref x4, .ref x5, .ref x6, .ref x7, .ref x8, .ref x9, .ref x10, .ref x11, .int (nI n), .ref x12, .ref x13, .ref x14, .ref x15, .ref x16, .ref x17, .ref x18, .ref x19, .ref x20, .int (bP bt), .int (nI sg)]))]) (wr := [(x0, .inr (CI_Model, [.int (nI 0), .int (nI nn), .ref x1, .ref x2, .ref x3, .ref x4, .ref x5, .ref x6, .ref x7, .ref x8, .ref x9, .ref x10, .ref x11, .int (nI n), .ref x12, .ref x13, .ref x14, .ref x15, .ref x16, .ref x17, .ref x18, .ref x19, .ref x20, .int (bP bt), .int (nI sg)]))]) (isC := []) (isR := [0]) (pm := [0]) (As := [.int x, .int 0, .int 1]) (rest := []) F (c_Model_in l D cI cL cB x 0 1 ) (cS_S 3 F.ts m_680 m_681 m_42 m_682 (by decide +kernel) ⟨Nat.le_of_ble_eq_true rfl, Nat.le_of_ble_eq_true rfl⟩) rfl (Nat.le_of_ble_eq_true rfl) d_Model_tick_8 ⟨Nat.le_of_ble_eq_true rfl, Nat.le_of_ble_eq_true rfl⟩ ⟨rfl, rfl, rfl, rfl, rfl, fun _ => rfl, rfl⟩ (fun r8 uu8 q8_ => ?_) rfl
  subst q8_
  refine V_top (y := bP (vp_in x 2)) (bP_c (in_iff (m := 2) (by omega) (by omega))) ?_
  refine V_ifb_ne F 20 d_Model_tick_11 (by decide) (fun h11 => ?_) (fun h11 => ?_)
  · skip
    exact False.elim (hx h11)
  · skip
    refine V_aload_n F 0 d_Model_tick_14 rfl rfl ?_
    refine V_iconst F (v := 1) d_Model_tick_15 rfl ?_
    refine V_callV_i (w1 := fun (u_ : Unit) => [(x0, .inr (CI_Model, [.int (nI 1), .int (nI nn), .ref x1, .ref x2, .ref x3, .ref x4, .ref x5, .ref x6, .ref x7, .ref x8, .ref x9, .ref x10, .ref x11, .int (nI n), .ref x12, .ref x13, .ref x14, .ref x15, .ref x16, .ref x17, .ref x18, .ref x19, .ref x20, .int (bP bt), .int (nI sg)]))]) (wr := []) (isC := [0]) (isR := []) (pm := [0]) (As := [.int 1]) (rest := []) F (c_Model_raise l D cI cL cB x0 x1 x2 x3 x4 x5 x6 x7 x8 x9 x10 x11 x12 x13 x14 x15 x16 x17 x18 x19 x20 0 nn n sg bt 1 ) (cS_V 1 F.ts m_689 m_690 m_18 m_42 m_691 (by decide +kernel) ⟨Nat.le_of_ble_eq_true rfl, Nat.le_of_ble_eq_true rfl⟩) (ci := CI_Model) (q0 := 0) rfl rfl rfl (Nat.le_of_ble_eq_true rfl) d_Model_tick_16 ⟨Nat.le_of_ble_eq_true rfl, Nat.le_of_ble_eq_true rfl⟩ ⟨rfl, rfl, rfl, rfl, rfl, fun _ => rfl, rfl⟩ (fun r16 uu16 q16_ => ?_) rfl
    subst q16_
    exact V_iret F hr () rfl [0] rfl rfl (by decide) (by decide) d_Model_tick_19

set_option maxHeartbeats 4000000 in
set_option maxRecDepth 100000 in
theorem c_Model_tick_2 (l : Launch) (D : va_G) (cI cL cB : ClassId) (x0 : Nat) (x1 : Nat) (x2 : Nat) (x3 : Nat) (x4 : Nat) (x5 : Nat) (x6 : Nat) (x7 : Nat) (x8 : Nat) (x9 : Nat) (x10 : Nat) (x11 : Nat) (x12 : Nat) (x13 : Nat) (x14 : Nat) (x15 : Nat) (x16 : Nat) (x17 : Nat) (x18 : Nat) (x19 : Nat) (x20 : Nat) (th : Nat) (nn : Nat) (n : Nat) (sg : Nat) (bt : Prop) (x : Int32) (hx : vp_in x 2) (hb : ¬ bt) : Cti l y_Model_tick (wK w_Model_tick) ({ frames := 1, cells := 0, slots := 0, locals := 22 }) D classes (TY cI cL cB) [.ref x0, .int x] [(x0, .inr (CI_Model, [.int (nI th), .int (nI nn), .ref x1, .ref x2, .ref x3, .ref x4, .ref x5, .ref x6, .ref x7, .ref x8, .ref x9, .ref x10, .ref x11, .int (nI n), .ref x12, .ref x13, .ref x14, .ref x15, .ref x16, .ref x17, .ref x18, .ref x19, .ref x20, .int (bP bt), .int (nI sg)]))] (fun (r : Int32) (u_ : Unit) => r = nI 0) (fun (u_ : Unit) => [(x0, .inr (CI_Model, [.int (nI 2), .int (nI nn), .ref x1, .ref x2, .ref x3, .ref x4, .ref x5, .ref x6, .ref x7, .ref x8, .ref x9, .ref x10, .ref x11, .int (nI n), .ref x12, .ref x13, .ref x14, .ref x15, .ref x16, .ref x17, .ref x18, .ref x19, .ref x20, .int (bP bt), .int (nI sg)]))]) 0 0 := by
  refine Ctg_of (cc := prog_9_method_29_code) (maxL := 5) (ret := (some .int)) "CircuitSimulatorModel" [(0, .ref x0), (1, .int x)] (by decide) rfl rfl (Nat.le_of_ble_eq_true rfl) rfl ?_
  intro p_ e_ s_ m_ args_ below_ meth_ c_ A_ F hr hin
  refine V_aload_n F 0 d_Model_tick_0 rfl rfl ?_
  refine V_iconst F (v := 0) d_Model_tick_1 rfl ?_
  refine V_put F 0 CI_Model 0 (w' := [(x0, .inr (CI_Model, [.int (nI 0), .int (nI nn), .ref x1, .ref x2, .ref x3, .ref x4, .ref x5, .ref x6, .ref x7, .ref x8, .ref x9, .ref x10, .ref x11, .int (nI n), .ref x12, .ref x13, .ref x14, .ref x15, .ref x16, .ref x17, .ref x18, .ref x19, .ref x20, .int (bP bt), .int (nI sg)]))]) t_Model tk_Model n_Model i_Model rfl rfl (by decide) m_596 rfl rfl rfl rfl (Nat.le_of_ble_eq_true rfl) rfl d_Model_tick_2 ?_
  refine V_iload_n F 1 d_Model_tick_5 rfl rfl ?_
  refine V_iconst F (v := 0) d_Model_tick_6 rfl ?_
  refine V_iconst F (v := 1) d_Model_tick_7 rfl ?_
  refine V_callS_i (w1 := fun (u_ : Unit) => [(x0, .inr (CI_Model, [.int (nI 0), .int (nI nn), .ref x1, .ref x2, .ref x3, .ref x4, .ref x5, .ref x6, .ref x7, .ref x8, .ref x9, .ref x10, .ref x11, .int (nI n), .ref x12, .ref x13, .ref x14, .ref x15, .ref x16, .ref x17, .ref x18, .ref x19, .ref x20, .int (bP bt), .int (nI sg)]))]) (wr := [(x0, .inr (CI_Model, [.int (nI 0), .int (nI nn), .ref x1, .ref x2, .ref x3, .ref x4, .ref x5, .ref x6, .ref x7, .ref x8, .ref x9, .ref x10, .ref x11, .int (nI n), .ref x12, .ref x13, .ref x14, .ref x15, .ref x16, .ref x17, .ref x18, .ref x19, .ref x20, .int (bP bt), .int (nI sg)]))]) (isC := []) (isR := [0]) (pm := [0]) (As := [.int x, .int 0, .int 1]) (rest := []) F (c_Model_in l D cI cL cB x 0 1 ) (cS_S 3 F.ts m_680 m_681 m_42 m_682 (by decide +kernel) ⟨Nat.le_of_ble_eq_true rfl, Nat.le_of_ble_eq_true rfl⟩) rfl (Nat.le_of_ble_eq_true rfl) d_Model_tick_8 ⟨Nat.le_of_ble_eq_true rfl, Nat.le_of_ble_eq_true rfl⟩ ⟨rfl, rfl, rfl, rfl, rfl, fun _ => rfl, rfl⟩ (fun r8 uu8 q8_ => ?_) rfl
  subst q8_
  refine V_top (y := bP (vp_in x 2)) (bP_c (in_iff (m := 2) (by omega) (by omega))) ?_
  refine V_ifb_ne F 20 d_Model_tick_11 (by decide) (fun h11 => ?_) (fun h11 => ?_)
  · skip
    refine V_aload_n F 0 d_Model_tick_20 rfl rfl ?_
    refine V_get F 0 CI_Model 23 i_Model rfl rfl (by decide) m_619 rfl rfl d_Model_tick_21 ?_
    refine V_ifb_ne F 33 d_Model_tick_24 (by decide) (fun h24 => ?_) (fun h24 => ?_)
    · skip
      exact False.elim (hb h24)
    · skip
      refine V_aload_n F 0 d_Model_tick_27 rfl rfl ?_
      refine V_iconst F (v := 2) d_Model_tick_28 rfl ?_
      refine V_callV_i (w1 := fun (u_ : Unit) => [(x0, .inr (CI_Model, [.int (nI 2), .int (nI nn), .ref x1, .ref x2, .ref x3, .ref x4, .ref x5, .ref x6, .ref x7, .ref x8, .ref x9, .ref x10, .ref x11, .int (nI n), .ref x12, .ref x13, .ref x14, .ref x15, .ref x16, .ref x17, .ref x18, .ref x19, .ref x20, .int (bP bt), .int (nI sg)]))]) (wr := []) (isC := [0]) (isR := []) (pm := [0]) (As := [.int 2]) (rest := []) F (c_Model_raise l D cI cL cB x0 x1 x2 x3 x4 x5 x6 x7 x8 x9 x10 x11 x12 x13 x14 x15 x16 x17 x18 x19 x20 0 nn n sg bt 2 ) (cS_V 1 F.ts m_689 m_690 m_18 m_42 m_691 (by decide +kernel) ⟨Nat.le_of_ble_eq_true rfl, Nat.le_of_ble_eq_true rfl⟩) (ci := CI_Model) (q0 := 0) rfl rfl rfl (Nat.le_of_ble_eq_true rfl) d_Model_tick_29 ⟨Nat.le_of_ble_eq_true rfl, Nat.le_of_ble_eq_true rfl⟩ ⟨rfl, rfl, rfl, rfl, rfl, fun _ => rfl, rfl⟩ (fun r29 uu29 q29_ => ?_) rfl
      subst q29_
      exact V_iret F hr () rfl [0] rfl rfl (by decide) (by decide) d_Model_tick_32
  · skip
    exact False.elim (h11 hx)

set_option maxHeartbeats 4000000 in
set_option maxRecDepth 100000 in
theorem c_Model_tick_0 (l : Launch) (D : va_G) (cI cL cB : ClassId) (x0 : Nat) (x1 : Nat) (x2 : Nat) (x3 : Nat) (x4 : Nat) (x5 : Nat) (x6 : Nat) (x7 : Nat) (x8 : Nat) (x9 : Nat) (x10 : Nat) (x11 : Nat) (x12 : Nat) (x13 : Nat) (x14 : Nat) (x15 : Nat) (x16 : Nat) (x17 : Nat) (x18 : Nat) (x19 : Nat) (x20 : Nat) (th : Nat) (nn : Nat) (n : Nat) (sg : Nat) (bt : Prop) (v : Nat → Nat) (bf : Nat → Nat) (sk : Nat → Nat) (tn : Nat → Nat) (k : Nat → Nat) (o : Nat → Nat) (A : Nat → Int32) (B : Nat → Int32) (C : Nat → Int32) (q : Nat → Nat) (dr : Nat → Nat) (L : Nat → Nat) (x : Int32) (hn : n ≤ 60) (hnn : nn ≤ 80) (hw : WfC nn n k o A B C) (hU : Up n k o A B C L) (hL : ∀ j, j < nn → L j ≤ 30) (hsk : ∀ j, j < nn → sk j ≤ 3) (hv : ∀ j, j < nn → v j ≤ 3) (hq : ∀ i, i < n → q i ≤ 3) (hx : vp_in x 2) (hb : bt) : Cti l y_Model_tick (wK w_Model_tick) ({ frames := 3, cells := 0, slots := 0, locals := 69 }) D classes (TY cI cL cB) [.ref x0, .int x] [(x0, .inr (CI_Model, [.int (nI th), .int (nI nn), .ref x1, .ref x2, .ref x3, .ref x4, .ref x5, .ref x6, .ref x7, .ref x8, .ref x9, .ref x10, .ref x11, .int (nI n), .ref x12, .ref x13, .ref x14, .ref x15, .ref x16, .ref x17, .ref x18, .ref x19, .ref x20, .int (bP bt), .int (nI sg)])), (x1, .inl (cI, 80, .inl (cN v))), (x2, .inl (cI, 80, .inl (cN bf))), (x3, .inl (cI, 80, .inl (cS sk))), (x4, .inl (cI, 80, .inl (cN tn))), (x5, .inl (cI, 60, .inl (cN k))), (x6, .inl (cI, 60, .inl (cN o))), (x7, .inl (cI, 60, .inl A)), (x8, .inl (cI, 60, .inl B)), (x9, .inl (cI, 60, .inl C)), (x10, .inl (cI, 60, .inl (cN q))), (x11, .inl (cI, 60, .inl (cN dr)))] (fun (r : Int32) (u_ : (Nat → Nat) × (Nat → Nat) × (Nat → Nat) × (Nat → Nat) × (Nat → Nat) × (Nat → Nat)) => r = nI (tkC k A B v q x n) ∧ ((∀ i, i < n → u_.2.2.2.2.2 i = tkQ k A B v q x i) ∧ SetP nn n k o A B C u_.2.2.2.2.2 sk v tn u_.1 u_.2.2.1 u_.2.2.2.1)) (fun (u_ : (Nat → Nat) × (Nat → Nat) × (Nat → Nat) × (Nat → Nat) × (Nat → Nat) × (Nat → Nat)) => [(x0, .inr (CI_Model, [.int (nI 0), .int (nI nn), .ref x1, .ref x2, .ref x3, .ref x4, .ref x5, .ref x6, .ref x7, .ref x8, .ref x9, .ref x10, .ref x11, .int (nI n), .ref x12, .ref x13, .ref x14, .ref x15, .ref x16, .ref x17, .ref x18, .ref x19, .ref x20, .int (bP bt), .int (nI (sg + 1))])), (x1, .inl (cI, 80, .inl (cN u_.1))), (x2, .inl (cI, 80, .inl (cN u_.2.1))), (x3, .inl (cI, 80, .inl (cS sk))), (x4, .inl (cI, 80, .inl (cN u_.2.2.1))), (x5, .inl (cI, 60, .inl (cN k))), (x6, .inl (cI, 60, .inl (cN o))), (x7, .inl (cI, 60, .inl A)), (x8, .inl (cI, 60, .inl B)), (x9, .inl (cI, 60, .inl C)), (x10, .inl (cI, 60, .inl (cN u_.2.2.2.1))), (x11, .inl (cI, 60, .inl (cN u_.2.2.2.2.1)))]) 0 0 := by
  refine Ctg_of (cc := prog_9_method_29_code) (maxL := 5) (ret := (some .int)) "CircuitSimulatorModel" [(0, .ref x0), (1, .int x)] (by decide) rfl rfl (Nat.le_of_ble_eq_true rfl) rfl ?_
  intro p_ e_ s_ m_ args_ below_ meth_ c_ A_ F hr hin
  refine V_aload_n F 0 d_Model_tick_0 rfl rfl ?_
  refine V_iconst F (v := 0) d_Model_tick_1 rfl ?_
  refine V_put F 0 CI_Model 0 (w' := [(x0, .inr (CI_Model, [.int (nI 0), .int (nI nn), .ref x1, .ref x2, .ref x3, .ref x4, .ref x5, .ref x6, .ref x7, .ref x8, .ref x9, .ref x10, .ref x11, .int (nI n), .ref x12, .ref x13, .ref x14, .ref x15, .ref x16, .ref x17, .ref x18, .ref x19, .ref x20, .int (bP bt), .int (nI sg)])), (x1, .inl (cI, 80, .inl (cN v))), (x2, .inl (cI, 80, .inl (cN bf))), (x3, .inl (cI, 80, .inl (cS sk))), (x4, .inl (cI, 80, .inl (cN tn))), (x5, .inl (cI, 60, .inl (cN k))), (x6, .inl (cI, 60, .inl (cN o))), (x7, .inl (cI, 60, .inl A)), (x8, .inl (cI, 60, .inl B)), (x9, .inl (cI, 60, .inl C)), (x10, .inl (cI, 60, .inl (cN q))), (x11, .inl (cI, 60, .inl (cN dr)))]) t_Model tk_Model n_Model i_Model rfl rfl (by decide) m_596 rfl rfl rfl rfl (Nat.le_of_ble_eq_true rfl) rfl d_Model_tick_2 ?_
  refine V_iload_n F 1 d_Model_tick_5 rfl rfl ?_
  refine V_iconst F (v := 0) d_Model_tick_6 rfl ?_
  refine V_iconst F (v := 1) d_Model_tick_7 rfl ?_
  refine V_callS_i (w1 := fun (u_ : Unit) => [(x0, .inr (CI_Model, [.int (nI 0), .int (nI nn), .ref x1, .ref x2, .ref x3, .ref x4, .ref x5, .ref x6, .ref x7, .ref x8, .ref x9, .ref x10, .ref x11, .int (nI n), .ref x12, .ref x13, .ref x14, .ref x15, .ref x16, .ref x17, .ref x18, .ref x19, .ref x20, .int (bP bt), .int (nI sg)])), (x1, .inl (cI, 80, .inl (cN v))), (x2, .inl (cI, 80, .inl (cN bf))), (x3, .inl (cI, 80, .inl (cS sk))), (x4, .inl (cI, 80, .inl (cN tn))), (x5, .inl (cI, 60, .inl (cN k))), (x6, .inl (cI, 60, .inl (cN o))), (x7, .inl (cI, 60, .inl A)), (x8, .inl (cI, 60, .inl B)), (x9, .inl (cI, 60, .inl C)), (x10, .inl (cI, 60, .inl (cN q))), (x11, .inl (cI, 60, .inl (cN dr)))]) (wr := [(x0, .inr (CI_Model, [.int (nI 0), .int (nI nn), .ref x1, .ref x2, .ref x3, .ref x4, .ref x5, .ref x6, .ref x7, .ref x8, .ref x9, .ref x10, .ref x11, .int (nI n), .ref x12, .ref x13, .ref x14, .ref x15, .ref x16, .ref x17, .ref x18, .ref x19, .ref x20, .int (bP bt), .int (nI sg)])), (x1, .inl (cI, 80, .inl (cN v))), (x2, .inl (cI, 80, .inl (cN bf))), (x3, .inl (cI, 80, .inl (cS sk))), (x4, .inl (cI, 80, .inl (cN tn))), (x5, .inl (cI, 60, .inl (cN k))), (x6, .inl (cI, 60, .inl (cN o))), (x7, .inl (cI, 60, .inl A)), (x8, .inl (cI, 60, .inl B)), (x9, .inl (cI, 60, .inl C)), (x10, .inl (cI, 60, .inl (cN q))), (x11, .inl (cI, 60, .inl (cN dr)))]) (isC := []) (isR := [0, 1, 2, 3, 4, 5, 6, 7, 8, 9, 10, 11]) (pm := [0, 1, 2, 3, 4, 5, 6, 7, 8, 9, 10, 11]) (As := [.int x, .int 0, .int 1]) (rest := []) F (c_Model_in l D cI cL cB x 0 1 ) (cS_S 3 F.ts m_680 m_681 m_42 m_682 (by decide +kernel) ⟨Nat.le_of_ble_eq_true rfl, Nat.le_of_ble_eq_true rfl⟩) rfl (Nat.le_of_ble_eq_true rfl) d_Model_tick_8 ⟨Nat.le_of_ble_eq_true rfl, Nat.le_of_ble_eq_true rfl⟩ ⟨rfl, rfl, rfl, rfl, rfl, fun _ => rfl, rfl⟩ (fun r8 uu8 q8_ => ?_) rfl
  subst q8_
  refine V_top (y := bP (vp_in x 2)) (bP_c (in_iff (m := 2) (by omega) (by omega))) ?_
  refine V_ifb_ne F 20 d_Model_tick_11 (by decide) (fun h11 => ?_) (fun h11 => ?_)
  · skip
    refine V_aload_n F 0 d_Model_tick_20 rfl rfl ?_
    refine V_get F 0 CI_Model 23 i_Model rfl rfl (by decide) m_619 rfl rfl d_Model_tick_21 ?_
    refine V_ifb_ne F 33 d_Model_tick_24 (by decide) (fun h24 => ?_) (fun h24 => ?_)
    · skip
      refine V_iconst F (v := 0) d_Model_tick_33 rfl ?_
      refine V_istore_n F (lv' := [(2, .int (nI 0)), (0, .ref x0), (1, .int x)]) d_Model_tick_34 rfl (by decide) rfl ?_
      refine V_iconst F (v := 0) d_Model_tick_35 rfl ?_
      refine V_istore_n F (lv' := [(3, .int (nI 0)), (2, .int (nI 0)), (0, .ref x0), (1, .int x)]) d_Model_tick_36 rfl (by decide) rfl ?_
      have L37 : ∀ (f_ : Nat) (i : Nat) (cw : Nat) (q3 : Nat → Nat), n - i < f_ → (i ≤ n) → (cw = tkC k A B v q x i) → (∀ t, t < n → q3 t = if t < i then tkQ k A B v q x t else q t) → V p_ l e_ ({ frames := 3, cells := 0, slots := 0, locals := 69 }) s_ m_ args_ below_ meth_ c_ A_ (MQ below_ (cQi D classes (fun (r : Int32) (u_ : (Nat → Nat) × (Nat → Nat) × (Nat → Nat) × (Nat → Nat) × (Nat → Nat) × (Nat → Nat)) => r = nI (tkC k A B v q x n) ∧ ((∀ i, i < n → u_.2.2.2.2.2 i = tkQ k A B v q x i) ∧ SetP nn n k o A B C u_.2.2.2.2.2 sk v tn u_.1 u_.2.2.1 u_.2.2.2.1)) (fun (u_ : (Nat → Nat) × (Nat → Nat) × (Nat → Nat) × (Nat → Nat) × (Nat → Nat) × (Nat → Nat)) => [(x0, .inr (CI_Model, [.int (nI 0), .int (nI nn), .ref x1, .ref x2, .ref x3, .ref x4, .ref x5, .ref x6, .ref x7, .ref x8, .ref x9, .ref x10, .ref x11, .int (nI n), .ref x12, .ref x13, .ref x14, .ref x15, .ref x16, .ref x17, .ref x18, .ref x19, .ref x20, .int (bP bt), .int (nI (sg + 1))])), (x1, .inl (cI, 80, .inl (cN u_.1))), (x2, .inl (cI, 80, .inl (cN u_.2.1))), (x3, .inl (cI, 80, .inl (cS sk))), (x4, .inl (cI, 80, .inl (cN u_.2.2.1))), (x5, .inl (cI, 60, .inl (cN k))), (x6, .inl (cI, 60, .inl (cN o))), (x7, .inl (cI, 60, .inl A)), (x8, .inl (cI, 60, .inl B)), (x9, .inl (cI, 60, .inl C)), (x10, .inl (cI, 60, .inl (cN u_.2.2.2.1))), (x11, .inl (cI, 60, .inl (cN u_.2.2.2.2.1)))]) A_) args_ s_ 0 0 A_) D classes 5 0 0 [(x0, .inr (CI_Model, [.int (nI 0), .int (nI nn), .ref x1, .ref x2, .ref x3, .ref x4, .ref x5, .ref x6, .ref x7, .ref x8, .ref x9, .ref x10, .ref x11, .int (nI n), .ref x12, .ref x13, .ref x14, .ref x15, .ref x16, .ref x17, .ref x18, .ref x19, .ref x20, .int (bP bt), .int (nI sg)])), (x1, .inl (cI, 80, .inl (cN v))), (x2, .inl (cI, 80, .inl (cN bf))), (x3, .inl (cI, 80, .inl (cS sk))), (x4, .inl (cI, 80, .inl (cN tn))), (x5, .inl (cI, 60, .inl (cN k))), (x6, .inl (cI, 60, .inl (cN o))), (x7, .inl (cI, 60, .inl A)), (x8, .inl (cI, 60, .inl B)), (x9, .inl (cI, 60, .inl C)), (x10, .inl (cI, 60, .inl (cN q3))), (x11, .inl (cI, 60, .inl (cN dr)))] 37 [(0, .ref x0), (1, .int x), (2, .int (nI cw)), (3, .int (nI i))] [] := by
        intro f_
        induction f_ with
        | zero => intro i cw q3 hm_; exact absurd hm_ (Nat.not_lt_zero _)
        | succ f_ ih37 =>
          intro i cw q3 hm37 hi hc hI
          refine V_iload_n F 3 d_Model_tick_37 rfl rfl ?_
          refine V_aload_n F 0 d_Model_tick_38 rfl rfl ?_
          refine V_get F 0 CI_Model 13 i_Model rfl rfl (by decide) m_609 rfl rfl d_Model_tick_39 ?_
          refine V_icmpn_ge F 109 (a := i) (b := n) (by omega) (by omega) d_Model_tick_42 (by decide) (fun h42 => ?_) (fun h42 => ?_)
          · skip
            have e42 : i = n := by omega
            rw [e42] at hI hc
            have hq7 : ∀ t, t < n → q3 t = tkQ k A B v q x t := fun t ht => by rw [hI t ht, if_pos ht]
            have hq6 : ∀ t, t < n → q3 t ≤ 3 := fun t ht => by rw [hq7 t ht]; exact tkQ_le hw hv hq ht
            refine V_aload_n F 0 d_Model_tick_109 rfl rfl ?_
            refine V_callV_v (w1 := fun (u_ : (Nat → Nat) × (Nat → Nat) × (Nat → Nat) × (Nat → Nat) × (Nat → Nat)) => [(x0, .inr (CI_Model, [.int (nI 0), .int (nI nn), .ref x1, .ref x2, .ref x3, .ref x4, .ref x5, .ref x6, .ref x7, .ref x8, .ref x9, .ref x10, .ref x11, .int (nI n), .ref x12, .ref x13, .ref x14, .ref x15, .ref x16, .ref x17, .ref x18, .ref x19, .ref x20, .int (bP bt), .int (nI (sg + 1))])), (x1, .inl (cI, 80, .inl (cN u_.1))), (x2, .inl (cI, 80, .inl (cN u_.2.1))), (x3, .inl (cI, 80, .inl (cS sk))), (x4, .inl (cI, 80, .inl (cN u_.2.2.1))), (x5, .inl (cI, 60, .inl (cN k))), (x6, .inl (cI, 60, .inl (cN o))), (x7, .inl (cI, 60, .inl A)), (x8, .inl (cI, 60, .inl B)), (x9, .inl (cI, 60, .inl C)), (x10, .inl (cI, 60, .inl (cN u_.2.2.2.1))), (x11, .inl (cI, 60, .inl (cN u_.2.2.2.2)))]) (wr := []) (isC := [0, 1, 2, 3, 4, 5, 6, 7, 8, 9, 10, 11]) (isR := []) (pm := [0, 1, 2, 3, 4, 5, 6, 7, 8, 9, 10, 11]) (As := []) (rest := []) F (c_Model_settle l D cI cL cB x0 x1 x2 x3 x4 x5 x6 x7 x8 x9 x10 x11 x12 x13 x14 x15 x16 x17 x18 x19 x20 0 nn n sg bt v bf sk tn k o A B C q3 dr L (by first | assumption | omega | (simp only [] at *; omega)) (by first | assumption | omega | (simp only [] at *; omega)) (by first | assumption | omega | (simp only [] at *; omega)) (by first | assumption | omega | (simp only [] at *; omega)) (by first | assumption | omega | (simp only [] at *; omega)) (by first | assumption | omega | (simp only [] at *; omega)) (by first | assumption | omega | (simp only [] at *; omega)) hq6) (cS_V 0 F.ts m_737 m_738 m_30 m_42 m_739 (by decide +kernel) ⟨Nat.le_of_ble_eq_true rfl, Nat.le_of_ble_eq_true rfl⟩) (ci := CI_Model) (q0 := 0) rfl rfl rfl (Nat.le_of_ble_eq_true rfl) d_Model_tick_110 ⟨Nat.le_of_ble_eq_true rfl, Nat.le_of_ble_eq_true rfl⟩ ⟨rfl, rfl, rfl, rfl, rfl, fun _ => rfl, rfl⟩ (fun uu110 q110_ => ?_) rfl
            obtain ⟨v2_110, bf2_110, tn2_110, q2_110, dr2_110⟩ := uu110
            have e110 : SetP nn n k o A B C q3 sk v tn v2_110 tn2_110 q2_110 := q110_
            clear q110_
            refine V_cast (w' := [(x0, .inr (CI_Model, [.int (nI 0), .int (nI nn), .ref x1, .ref x2, .ref x3, .ref x4, .ref x5, .ref x6, .ref x7, .ref x8, .ref x9, .ref x10, .ref x11, .int (nI n), .ref x12, .ref x13, .ref x14, .ref x15, .ref x16, .ref x17, .ref x18, .ref x19, .ref x20, .int (bP bt), .int (nI (sg + 1))])), (x1, .inl (cI, 80, .inl (cN v2_110))), (x2, .inl (cI, 80, .inl (cN bf2_110))), (x3, .inl (cI, 80, .inl (cS sk))), (x4, .inl (cI, 80, .inl (cN tn2_110))), (x5, .inl (cI, 60, .inl (cN k))), (x6, .inl (cI, 60, .inl (cN o))), (x7, .inl (cI, 60, .inl A)), (x8, .inl (cI, 60, .inl B)), (x9, .inl (cI, 60, .inl C)), (x10, .inl (cI, 60, .inl (cN q2_110))), (x11, .inl (cI, 60, .inl (cN dr2_110)))]) rfl rfl rfl ?_
            refine V_iload_n F 2 d_Model_tick_113 rfl rfl ?_
            exact V_iret F hr (v2_110, bf2_110, tn2_110, q2_110, dr2_110, q3) (show (nI cw) = nI (tkC k A B v q x n) ∧ ((∀ i, i < n → q3 i = tkQ k A B v q x i) ∧ SetP nn n k o A B C q3 sk v tn v2_110 tn2_110 q2_110) from ⟨by rw [hc], hq7, e110⟩) [0, 1, 2, 3, 4, 5, 6, 7, 8, 9, 10, 11] rfl rfl (by decide) (by decide) d_Model_tick_114
          · skip
            have hk8 := (hw i (by omega)).1
            have hq8 : q3 i = q i := by rw [hI i (by omega), if_neg (Nat.lt_irrefl i)]
            have hq9 := hq i (by omega)
            refine V_aload_n F 0 d_Model_tick_45 rfl rfl ?_
            refine V_get F 0 CI_Model 6 i_Model rfl rfl (by decide) m_602 rfl rfl d_Model_tick_46 ?_
            refine V_iload_n F 3 d_Model_tick_49 rfl rfl ?_
            refine V_ialdnN F 5 0 (k := i) rfl rfl (by omega) (by decide) d_Model_tick_50 ?_
            refine V_bipush F (v := 8) d_Model_tick_51 rfl ?_
            refine V_icmpn_ne F 103 (a := k i) (b := 8) (by omega) (by omega) d_Model_tick_53 (by decide) (fun h53 => ?_) (fun h53 => ?_)
            · skip
              refine V_iinc F 3 (v := nI (i + 1)) (lv' := [(3, .int (nI (i + 1))), (0, .ref x0), (1, .int x), (2, .int (nI cw))]) d_Model_tick_103 rfl (nI_inc _) (by decide) rfl ?_
              refine V_goto F 37 d_Model_tick_106 (by decide) ?_
              refine V_lv [1, 2, 3, 0] rfl ?_
              exact ih37 (i + 1) cw q3 (by omega) (by first | assumption | omega | (simp only [] at *; omega)) (by rw [hc]; exact (cnt_f (fun z => h53 z.1.1)).symm) (tq_f hI (fun z => h53 z.1))
            · skip
              refine V_aload_n F 0 d_Model_tick_56 rfl rfl ?_
              refine V_get F 0 CI_Model 9 i_Model rfl rfl (by decide) m_605 rfl rfl d_Model_tick_57 ?_
              refine V_iload_n F 3 d_Model_tick_60 rfl rfl ?_
              refine V_ialdn F 8 0 (k := i) rfl rfl (by omega) (by decide) d_Model_tick_61 ?_
              refine V_iload_n F 1 d_Model_tick_62 rfl rfl ?_
              refine V_icmp_eq F 69 d_Model_tick_63 (by decide) (fun h63 => ?_) (fun h63 => ?_)
              · skip
                have hvA : vp_in (A i) nn := (hw i (by omega)).2.2.1 0 (by rw [h53]; decide)
                have hv8 : v (A i).toNatClampNeg ≤ 3 := hv _ (vp_lt hvA)
                have hv9 := asI_le hv8
                refine V_aload_n F 0 d_Model_tick_69 rfl rfl ?_
                refine V_aload_n F 0 d_Model_tick_70 rfl rfl ?_
                refine V_get F 0 CI_Model 8 i_Model rfl rfl (by decide) m_604 rfl rfl d_Model_tick_71 ?_
                refine V_iload_n F 3 d_Model_tick_74 rfl rfl ?_
                refine V_ialdn F 7 0 (k := i) rfl rfl (by omega) (by decide) d_Model_tick_75 ?_
                refine V_top (y := nI ((A i).toNatClampNeg)) (vin_nI hvA (by omega)) ?_
                refine V_callV_i (w1 := fun (u_ : Unit) => [(x0, .inr (CI_Model, [.int (nI 0), .int (nI nn), .ref x1, .ref x2, .ref x3, .ref x4, .ref x5, .ref x6, .ref x7, .ref x8, .ref x9, .ref x10, .ref x11, .int (nI n), .ref x12, .ref x13, .ref x14, .ref x15, .ref x16, .ref x17, .ref x18, .ref x19, .ref x20, .int (bP bt), .int (nI sg)])), (x1, .inl (cI, 80, .inl (cN v))), (x2, .inl (cI, 80, .inl (cN bf))), (x3, .inl (cI, 80, .inl (cS sk))), (x4, .inl (cI, 80, .inl (cN tn))), (x5, .inl (cI, 60, .inl (cN k))), (x6, .inl (cI, 60, .inl (cN o))), (x7, .inl (cI, 60, .inl A)), (x8, .inl (cI, 60, .inl B)), (x9, .inl (cI, 60, .inl C)), (x10, .inl (cI, 60, .inl (cN q3))), (x11, .inl (cI, 60, .inl (cN dr)))]) (wr := [(x2, .inl (cI, 80, .inl (cN bf))), (x3, .inl (cI, 80, .inl (cS sk))), (x4, .inl (cI, 80, .inl (cN tn))), (x5, .inl (cI, 60, .inl (cN k))), (x6, .inl (cI, 60, .inl (cN o))), (x7, .inl (cI, 60, .inl A)), (x8, .inl (cI, 60, .inl B)), (x9, .inl (cI, 60, .inl C)), (x10, .inl (cI, 60, .inl (cN q3))), (x11, .inl (cI, 60, .inl (cN dr)))]) (isC := [0, 1]) (isR := [2, 3, 4, 5, 6, 7, 8, 9, 10, 11]) (pm := [10, 11, 0, 1, 2, 3, 4, 5, 6, 7, 8, 9]) (As := [.int (nI ((A i).toNatClampNeg))]) (rest := []) F (c_Model_read l D cI cL cB x0 x1 x2 x3 x4 x5 x6 x7 x8 x9 x10 x11 x12 x13 x14 x15 x16 x17 x18 x19 x20 0 nn n sg bt v ((A i).toNatClampNeg) (Nat.lt_of_lt_of_le (vp_lt hvA) hnn) hv8) (cS_V 1 F.ts m_743 m_744 m_32 m_42 m_745 (by decide +kernel) ⟨Nat.le_of_ble_eq_true rfl, Nat.le_of_ble_eq_true rfl⟩) (ci := CI_Model) (q0 := 0) rfl rfl rfl (Nat.le_of_ble_eq_true rfl) d_Model_tick_76 ⟨Nat.le_of_ble_eq_true rfl, Nat.le_of_ble_eq_true rfl⟩ ⟨rfl, rfl, rfl, rfl, rfl, fun _ => rfl, rfl⟩ (fun r76 uu76 q76_ => ?_) rfl
                subst q76_
                refine V_istore F (lv' := [(4, .int (nI (asI (v ((A i).toNatClampNeg))))), (0, .ref x0), (1, .int x), (2, .int (nI cw)), (3, .int (nI i))]) d_Model_tick_79 (by decide) rfl ?_
                refine V_iload F 0 d_Model_tick_81 rfl ?_
                refine V_aload_n F 1 d_Model_tick_83 rfl rfl ?_
                refine V_get F 0 CI_Model 11 i_Model rfl rfl (by decide) m_607 rfl rfl d_Model_tick_84 ?_
                refine V_iload_n F 4 d_Model_tick_87 rfl rfl ?_
                refine V_ialdnN F 10 0 (k := i) rfl rfl (by omega) (by decide) d_Model_tick_88 ?_
                refine V_icmpn_eq F 95 (a := asI (v ((A i).toNatClampNeg))) (b := q3 i) (by omega) (by omega) d_Model_tick_89 (by decide) (fun h89 => ?_) (fun h89 => ?_)
                · skip
                  refine V_aload_n F 1 d_Model_tick_95 rfl rfl ?_
                  refine V_get F 0 CI_Model 11 i_Model rfl rfl (by decide) m_607 rfl rfl d_Model_tick_96 ?_
                  refine V_iload_n F 4 d_Model_tick_99 rfl rfl ?_
                  refine V_iload F 0 d_Model_tick_100 rfl ?_
                  refine V_iastn F 10 0 (k := i) (w' := [(x0, .inr (CI_Model, [.int (nI 0), .int (nI nn), .ref x1, .ref x2, .ref x3, .ref x4, .ref x5, .ref x6, .ref x7, .ref x8, .ref x9, .ref x10, .ref x11, .int (nI n), .ref x12, .ref x13, .ref x14, .ref x15, .ref x16, .ref x17, .ref x18, .ref x19, .ref x20, .int (bP bt), .int (nI sg)])), (x1, .inl (cI, 80, .inl (cN v))), (x2, .inl (cI, 80, .inl (cN bf))), (x3, .inl (cI, 80, .inl (cS sk))), (x4, .inl (cI, 80, .inl (cN tn))), (x5, .inl (cI, 60, .inl (cN k))), (x6, .inl (cI, 60, .inl (cN o))), (x7, .inl (cI, 60, .inl A)), (x8, .inl (cI, 60, .inl B)), (x9, .inl (cI, 60, .inl C)), (x10, .inl (cI, 60, .inl (cN (up q3 i (asI (v ((A i).toNatClampNeg))))))), (x11, .inl (cI, 60, .inl (cN dr)))]) rfl rfl (by omega) (by decide) (by rw [upd_cN] <;> rfl) d_Model_tick_102 ?_
                  refine V_iinc F 4 (v := nI (i + 1)) (lv' := [(3, .int (nI (i + 1))), (4, .int (nI (asI (v ((A i).toNatClampNeg))))), (0, .ref x0), (1, .int x), (2, .int (nI cw))]) d_Model_tick_103 rfl (nI_inc _) (by decide) rfl ?_
                  refine V_goto F 37 d_Model_tick_106 (by decide) ?_
                  refine V_lv [2, 3, 4, 0] rfl ?_
                  exact ih37 (i + 1) cw (up q3 i (asI (v ((A i).toNatClampNeg)))) (by omega) (by first | assumption | omega | (simp only [] at *; omega)) (by rw [hc]; exact (cnt_f (fun z => z.2 (by rw [← hq8]; exact h89.symm))).symm) (tq_t hI ⟨h53, h63⟩)
                · skip
                  refine V_iinc F 3 (v := nI (cw + 1)) (lv' := [(2, .int (nI (cw + 1))), (4, .int (nI (asI (v ((A i).toNatClampNeg))))), (0, .ref x0), (1, .int x), (3, .int (nI i))]) d_Model_tick_92 rfl (nI_inc _) (by decide) rfl ?_
                  refine V_aload_n F 2 d_Model_tick_95 rfl rfl ?_
                  refine V_get F 0 CI_Model 11 i_Model rfl rfl (by decide) m_607 rfl rfl d_Model_tick_96 ?_
                  refine V_iload_n F 4 d_Model_tick_99 rfl rfl ?_
                  refine V_iload F 1 d_Model_tick_100 rfl ?_
                  refine V_iastn F 10 0 (k := i) (w' := [(x0, .inr (CI_Model, [.int (nI 0), .int (nI nn), .ref x1, .ref x2, .ref x3, .ref x4, .ref x5, .ref x6, .ref x7, .ref x8, .ref x9, .ref x10, .ref x11, .int (nI n), .ref x12, .ref x13, .ref x14, .ref x15, .ref x16, .ref x17, .ref x18, .ref x19, .ref x20, .int (bP bt), .int (nI sg)])), (x1, .inl (cI, 80, .inl (cN v))), (x2, .inl (cI, 80, .inl (cN bf))), (x3, .inl (cI, 80, .inl (cS sk))), (x4, .inl (cI, 80, .inl (cN tn))), (x5, .inl (cI, 60, .inl (cN k))), (x6, .inl (cI, 60, .inl (cN o))), (x7, .inl (cI, 60, .inl A)), (x8, .inl (cI, 60, .inl B)), (x9, .inl (cI, 60, .inl C)), (x10, .inl (cI, 60, .inl (cN (up q3 i (asI (v ((A i).toNatClampNeg))))))), (x11, .inl (cI, 60, .inl (cN dr)))]) rfl rfl (by omega) (by decide) (by rw [upd_cN] <;> rfl) d_Model_tick_102 ?_
                  refine V_iinc F 4 (v := nI (i + 1)) (lv' := [(3, .int (nI (i + 1))), (2, .int (nI (cw + 1))), (4, .int (nI (asI (v ((A i).toNatClampNeg))))), (0, .ref x0), (1, .int x)]) d_Model_tick_103 rfl (nI_inc _) (by decide) rfl ?_
                  refine V_goto F 37 d_Model_tick_106 (by decide) ?_
                  refine V_lv [3, 4, 1, 0] rfl ?_
                  exact ih37 (i + 1) (cw + 1) (up q3 i (asI (v ((A i).toNatClampNeg)))) (by omega) (by first | assumption | omega | (simp only [] at *; omega)) (by rw [hc]; exact (cnt_t ⟨⟨h53, h63⟩, fun z => h89 (by rw [hq8]; exact z.symm)⟩).symm) (tq_t hI ⟨h53, h63⟩)
              · skip
                refine V_goto F 103 d_Model_tick_66 (by decide) ?_
                refine V_iinc F 3 (v := nI (i + 1)) (lv' := [(3, .int (nI (i + 1))), (0, .ref x0), (1, .int x), (2, .int (nI cw))]) d_Model_tick_103 rfl (nI_inc _) (by decide) rfl ?_
                refine V_goto F 37 d_Model_tick_106 (by decide) ?_
                refine V_lv [1, 2, 3, 0] rfl ?_
                exact ih37 (i + 1) cw q3 (by omega) (by first | assumption | omega | (simp only [] at *; omega)) (by rw [hc]; exact (cnt_f (fun z => h63 z.1.2)).symm) (tq_f hI (fun z => h63 z.2))
      refine V_lv [2, 3, 1, 0] rfl ?_
      exact L37 ((n - 0) + 1) 0 0 q (Nat.lt_succ_self _) (by first | assumption | omega | (simp only [] at *; omega)) rfl (fun t _ => by rw [if_neg (Nat.not_lt_zero t)])
    · skip
      exact False.elim (h24 hb)
  · skip
    exact False.elim (h11 hx)

set_option maxHeartbeats 4000000 in
set_option maxRecDepth 100000 in
theorem c_Model_stick_1 (l : Launch) (D : va_G) (cI cL cB : ClassId) (x0 : Nat) (x1 : Nat) (x2 : Nat) (x3 : Nat) (x4 : Nat) (x5 : Nat) (x6 : Nat) (x7 : Nat) (x8 : Nat) (x9 : Nat) (x10 : Nat) (x11 : Nat) (x12 : Nat) (x13 : Nat) (x14 : Nat) (x15 : Nat) (x16 : Nat) (x17 : Nat) (x18 : Nat) (x19 : Nat) (x20 : Nat) (th : Nat) (nn : Nat) (n : Nat) (sg : Nat) (bt : Prop) (x : Int32) (y : Int32) (h40 : 1 ≤ nn) (hnn : nn ≤ 80) (hx : ¬ vp_in x nn) : Cti l y_Model_stick (wK w_Model_stick) ({ frames := 1, cells := 0, slots := 0, locals := 22 }) D classes (TY cI cL cB) [.ref x0, .int x, .int y] [(x0, .inr (CI_Model, [.int (nI th), .int (nI nn), .ref x1, .ref x2, .ref x3, .ref x4, .ref x5, .ref x6, .ref x7, .ref x8, .ref x9, .ref x10, .ref x11, .int (nI n), .ref x12, .ref x13, .ref x14, .ref x15, .ref x16, .ref x17, .ref x18, .ref x19, .ref x20, .int (bP bt), .int (nI sg)]))] (fun (r : Int32) (u_ : Unit) => r = nI 0) (fun (u_ : Unit) => [(x0, .inr (CI_Model, [.int (nI 1), .int (nI nn), .ref x1, .ref x2, .ref x3, .ref x4, .ref x5, .ref x6, .ref x7, .ref x8, .ref x9, .ref x10, .ref x11, .int (nI n), .ref x12, .ref x13, .ref x14, .ref x15, .ref x16, .ref x17, .ref x18, .ref x19, .ref x20, .int (bP bt), .int (nI sg)]))]) 0 0 := by
  refine Ctg_of (cc := prog_9_method_30_code) (maxL := 4) (ret := (some .int)) "CircuitSimulatorModel" [(0, .ref x0), (1, .int x), (2, .int y)] (by decide) rfl rfl (Nat.le_of_ble_eq_true rfl) rfl ?_
  intro p_ e_ s_ m_ args_ below_ meth_ c_ A_ F hr hin
  refine V_aload_n F 0 d_Model_stick_0 rfl rfl ?_
  refine V_iconst F (v := 0) d_Model_stick_1 rfl ?_
  refine V_put F 0 CI_Model 0 (w' := [(x0, .inr (CI_Model, [.int (nI 0), .int (nI nn), .ref x1, .ref x2, .ref x3, .ref x4, .ref x5, .ref x6, .ref x7, .ref x8, .ref x9, .ref x10, .ref x11, .int (nI n), .ref x12, .ref x13, .ref x14, .ref x15, .ref x16, .ref x17, .ref x18, .ref x19, .ref x20, .int (bP bt), .int (nI sg)]))]) t_Model tk_Model n_Model i_Model rfl rfl (by decide) m_596 rfl rfl rfl rfl (Nat.le_of_ble_eq_true rfl) rfl d_Model_stick_2 ?_
  refine V_iload_n F 1 d_Model_stick_5 rfl rfl ?_
  refine V_iconst F (v := 0) d_Model_stick_6 rfl ?_
  refine V_aload_n F 0 d_Model_stick_7 rfl rfl ?_
  refine V_get F 0 CI_Model 1 i_Model rfl rfl (by decide) m_597 rfl rfl d_Model_stick_8 ?_
  refine V_iconst F (v := 1) d_Model_stick_11 rfl ?_
  refine V_isub F d_Model_stick_12 ?_
  refine V_top (y := nI (nn - 1)) (pk_sub (a := nn) (b := 1) (by omega)) ?_
  refine V_callS_i (w1 := fun (u_ : Unit) => [(x0, .inr (CI_Model, [.int (nI 0), .int (nI nn), .ref x1, .ref x2, .ref x3, .ref x4, .ref x5, .ref x6, .ref x7, .ref x8, .ref x9, .ref x10, .ref x11, .int (nI n), .ref x12, .ref x13, .ref x14, .ref x15, .ref x16, .ref x17, .ref x18, .ref x19, .ref x20, .int (bP bt), .int (nI sg)]))]) (wr := [(x0, .inr (CI_Model, [.int (nI 0), .int (nI nn), .ref x1, .ref x2, .ref x3, .ref x4, .ref x5, .ref x6, .ref x7, .ref x8, .ref x9, .ref x10, .ref x11, .int (nI n), .ref x12, .ref x13, .ref x14, .ref x15, .ref x16, .ref x17, .ref x18, .ref x19, .ref x20, .int (bP bt), .int (nI sg)]))]) (isC := []) (isR := [0]) (pm := [0]) (As := [.int x, .int 0, .int (nI (nn - 1))]) (rest := []) F (c_Model_in l D cI cL cB x 0 (nI (nn - 1)) ) (cS_S 3 F.ts m_680 m_681 m_42 m_682 (by decide +kernel) ⟨Nat.le_of_ble_eq_true rfl, Nat.le_of_ble_eq_true rfl⟩) rfl (Nat.le_of_ble_eq_true rfl) d_Model_stick_13 ⟨Nat.le_of_ble_eq_true rfl, Nat.le_of_ble_eq_true rfl⟩ ⟨rfl, rfl, rfl, rfl, rfl, fun _ => rfl, rfl⟩ (fun r13 uu13 q13_ => ?_) rfl
  subst q13_
  refine V_top (y := bP (vp_in x nn)) (bP_c (in_iff (m := nn) (by omega) (by omega))) ?_
  refine V_ifb_ne F 25 d_Model_stick_16 (by decide) (fun h16 => ?_) (fun h16 => ?_)
  · skip
    exact False.elim (hx h16)
  · skip
    refine V_aload_n F 0 d_Model_stick_19 rfl rfl ?_
    refine V_iconst F (v := 1) d_Model_stick_20 rfl ?_
    refine V_callV_i (w1 := fun (u_ : Unit) => [(x0, .inr (CI_Model, [.int (nI 1), .int (nI nn), .ref x1, .ref x2, .ref x3, .ref x4, .ref x5, .ref x6, .ref x7, .ref x8, .ref x9, .ref x10, .ref x11, .int (nI n), .ref x12, .ref x13, .ref x14, .ref x15, .ref x16, .ref x17, .ref x18, .ref x19, .ref x20, .int (bP bt), .int (nI sg)]))]) (wr := []) (isC := [0]) (isR := []) (pm := [0]) (As := [.int 1]) (rest := []) F (c_Model_raise l D cI cL cB x0 x1 x2 x3 x4 x5 x6 x7 x8 x9 x10 x11 x12 x13 x14 x15 x16 x17 x18 x19 x20 0 nn n sg bt 1 ) (cS_V 1 F.ts m_689 m_690 m_18 m_42 m_691 (by decide +kernel) ⟨Nat.le_of_ble_eq_true rfl, Nat.le_of_ble_eq_true rfl⟩) (ci := CI_Model) (q0 := 0) rfl rfl rfl (Nat.le_of_ble_eq_true rfl) d_Model_stick_21 ⟨Nat.le_of_ble_eq_true rfl, Nat.le_of_ble_eq_true rfl⟩ ⟨rfl, rfl, rfl, rfl, rfl, fun _ => rfl, rfl⟩ (fun r21 uu21 q21_ => ?_) rfl
    subst q21_
    exact V_iret F hr () rfl [0] rfl rfl (by decide) (by decide) d_Model_stick_24

set_option maxHeartbeats 4000000 in
set_option maxRecDepth 100000 in
theorem c_Model_stick_2 (l : Launch) (D : va_G) (cI cL cB : ClassId) (x0 : Nat) (x1 : Nat) (x2 : Nat) (x3 : Nat) (x4 : Nat) (x5 : Nat) (x6 : Nat) (x7 : Nat) (x8 : Nat) (x9 : Nat) (x10 : Nat) (x11 : Nat) (x12 : Nat) (x13 : Nat) (x14 : Nat) (x15 : Nat) (x16 : Nat) (x17 : Nat) (x18 : Nat) (x19 : Nat) (x20 : Nat) (th : Nat) (nn : Nat) (n : Nat) (sg : Nat) (bt : Prop) (j : Nat) (y : Int32) (h40 : 1 ≤ nn) (hnn : nn ≤ 80) (hj : j < nn) (hy : ¬ stk y) : Cti l y_Model_stick (wK w_Model_stick) ({ frames := 1, cells := 0, slots := 0, locals := 22 }) D classes (TY cI cL cB) [.ref x0, .int (nI j), .int y] [(x0, .inr (CI_Model, [.int (nI th), .int (nI nn), .ref x1, .ref x2, .ref x3, .ref x4, .ref x5, .ref x6, .ref x7, .ref x8, .ref x9, .ref x10, .ref x11, .int (nI n), .ref x12, .ref x13, .ref x14, .ref x15, .ref x16, .ref x17, .ref x18, .ref x19, .ref x20, .int (bP bt), .int (nI sg)]))] (fun (r : Int32) (u_ : Unit) => r = nI 0) (fun (u_ : Unit) => [(x0, .inr (CI_Model, [.int (nI 2), .int (nI nn), .ref x1, .ref x2, .ref x3, .ref x4, .ref x5, .ref x6, .ref x7, .ref x8, .ref x9, .ref x10, .ref x11, .int (nI n), .ref x12, .ref x13, .ref x14, .ref x15, .ref x16, .ref x17, .ref x18, .ref x19, .ref x20, .int (bP bt), .int (nI sg)]))]) 0 0 := by
  refine Ctg_of (cc := prog_9_method_30_code) (maxL := 4) (ret := (some .int)) "CircuitSimulatorModel" [(0, .ref x0), (1, .int (nI j)), (2, .int y)] (by decide) rfl rfl (Nat.le_of_ble_eq_true rfl) rfl ?_
  intro p_ e_ s_ m_ args_ below_ meth_ c_ A_ F hr hin
  refine V_aload_n F 0 d_Model_stick_0 rfl rfl ?_
  refine V_iconst F (v := 0) d_Model_stick_1 rfl ?_
  refine V_put F 0 CI_Model 0 (w' := [(x0, .inr (CI_Model, [.int (nI 0), .int (nI nn), .ref x1, .ref x2, .ref x3, .ref x4, .ref x5, .ref x6, .ref x7, .ref x8, .ref x9, .ref x10, .ref x11, .int (nI n), .ref x12, .ref x13, .ref x14, .ref x15, .ref x16, .ref x17, .ref x18, .ref x19, .ref x20, .int (bP bt), .int (nI sg)]))]) t_Model tk_Model n_Model i_Model rfl rfl (by decide) m_596 rfl rfl rfl rfl (Nat.le_of_ble_eq_true rfl) rfl d_Model_stick_2 ?_
  refine V_iload_n F 1 d_Model_stick_5 rfl rfl ?_
  refine V_iconst F (v := 0) d_Model_stick_6 rfl ?_
  refine V_aload_n F 0 d_Model_stick_7 rfl rfl ?_
  refine V_get F 0 CI_Model 1 i_Model rfl rfl (by decide) m_597 rfl rfl d_Model_stick_8 ?_
  refine V_iconst F (v := 1) d_Model_stick_11 rfl ?_
  refine V_isub F d_Model_stick_12 ?_
  refine V_top (y := nI (nn - 1)) (pk_sub (a := nn) (b := 1) (by omega)) ?_
  refine V_callS_i (w1 := fun (u_ : Unit) => [(x0, .inr (CI_Model, [.int (nI 0), .int (nI nn), .ref x1, .ref x2, .ref x3, .ref x4, .ref x5, .ref x6, .ref x7, .ref x8, .ref x9, .ref x10, .ref x11, .int (nI n), .ref x12, .ref x13, .ref x14, .ref x15, .ref x16, .ref x17, .ref x18, .ref x19, .ref x20, .int (bP bt), .int (nI sg)]))]) (wr := [(x0, .inr (CI_Model, [.int (nI 0), .int (nI nn), .ref x1, .ref x2, .ref x3, .ref x4, .ref x5, .ref x6, .ref x7, .ref x8, .ref x9, .ref x10, .ref x11, .int (nI n), .ref x12, .ref x13, .ref x14, .ref x15, .ref x16, .ref x17, .ref x18, .ref x19, .ref x20, .int (bP bt), .int (nI sg)]))]) (isC := []) (isR := [0]) (pm := [0]) (As := [.int (nI j), .int 0, .int (nI (nn - 1))]) (rest := []) F (c_Model_in l D cI cL cB (nI j) 0 (nI (nn - 1)) ) (cS_S 3 F.ts m_680 m_681 m_42 m_682 (by decide +kernel) ⟨Nat.le_of_ble_eq_true rfl, Nat.le_of_ble_eq_true rfl⟩) rfl (Nat.le_of_ble_eq_true rfl) d_Model_stick_13 ⟨Nat.le_of_ble_eq_true rfl, Nat.le_of_ble_eq_true rfl⟩ ⟨rfl, rfl, rfl, rfl, rfl, fun _ => rfl, rfl⟩ (fun r13 uu13 q13_ => ?_) rfl
  subst q13_
  refine V_top (y := bP (vp_in (nI j) nn)) (bP_c (in_iff (m := nn) (by omega) (by omega))) ?_
  refine V_ifb_ne F 25 d_Model_stick_16 (by decide) (fun h16 => ?_) (fun h16 => ?_)
  · skip
    refine V_iload_n F 2 d_Model_stick_25 rfl rfl ?_
    refine V_iconst F (v := (-1)) d_Model_stick_26 rfl ?_
    refine V_iconst F (v := 2) d_Model_stick_27 rfl ?_
    refine V_callS_i (w1 := fun (u_ : Unit) => [(x0, .inr (CI_Model, [.int (nI 0), .int (nI nn), .ref x1, .ref x2, .ref x3, .ref x4, .ref x5, .ref x6, .ref x7, .ref x8, .ref x9, .ref x10, .ref x11, .int (nI n), .ref x12, .ref x13, .ref x14, .ref x15, .ref x16, .ref x17, .ref x18, .ref x19, .ref x20, .int (bP bt), .int (nI sg)]))]) (wr := [(x0, .inr (CI_Model, [.int (nI 0), .int (nI nn), .ref x1, .ref x2, .ref x3, .ref x4, .ref x5, .ref x6, .ref x7, .ref x8, .ref x9, .ref x10, .ref x11, .int (nI n), .ref x12, .ref x13, .ref x14, .ref x15, .ref x16, .ref x17, .ref x18, .ref x19, .ref x20, .int (bP bt), .int (nI sg)]))]) (isC := []) (isR := [0]) (pm := [0]) (As := [.int y, .int (-1), .int 2]) (rest := []) F (c_Model_in l D cI cL cB y (-1) 2 ) (cS_S 3 F.ts m_680 m_681 m_42 m_682 (by decide +kernel) ⟨Nat.le_of_ble_eq_true rfl, Nat.le_of_ble_eq_true rfl⟩) rfl (Nat.le_of_ble_eq_true rfl) d_Model_stick_28 ⟨Nat.le_of_ble_eq_true rfl, Nat.le_of_ble_eq_true rfl⟩ ⟨rfl, rfl, rfl, rfl, rfl, fun _ => rfl, rfl⟩ (fun r28 uu28 q28_ => ?_) rfl
    subst q28_
    refine V_top (y := bP (stk y)) (bP_c stk_iff) ?_
    refine V_ifb_ne F 40 d_Model_stick_31 (by decide) (fun h31 => ?_) (fun h31 => ?_)
    · skip
      exact False.elim (hy h31)
    · skip
      refine V_aload_n F 0 d_Model_stick_34 rfl rfl ?_
      refine V_iconst F (v := 2) d_Model_stick_35 rfl ?_
      refine V_callV_i (w1 := fun (u_ : Unit) => [(x0, .inr (CI_Model, [.int (nI 2), .int (nI nn), .ref x1, .ref x2, .ref x3, .ref x4, .ref x5, .ref x6, .ref x7, .ref x8, .ref x9, .ref x10, .ref x11, .int (nI n), .ref x12, .ref x13, .ref x14, .ref x15, .ref x16, .ref x17, .ref x18, .ref x19, .ref x20, .int (bP bt), .int (nI sg)]))]) (wr := []) (isC := [0]) (isR := []) (pm := [0]) (As := [.int 2]) (rest := []) F (c_Model_raise l D cI cL cB x0 x1 x2 x3 x4 x5 x6 x7 x8 x9 x10 x11 x12 x13 x14 x15 x16 x17 x18 x19 x20 0 nn n sg bt 2 ) (cS_V 1 F.ts m_689 m_690 m_18 m_42 m_691 (by decide +kernel) ⟨Nat.le_of_ble_eq_true rfl, Nat.le_of_ble_eq_true rfl⟩) (ci := CI_Model) (q0 := 0) rfl rfl rfl (Nat.le_of_ble_eq_true rfl) d_Model_stick_36 ⟨Nat.le_of_ble_eq_true rfl, Nat.le_of_ble_eq_true rfl⟩ ⟨rfl, rfl, rfl, rfl, rfl, fun _ => rfl, rfl⟩ (fun r36 uu36 q36_ => ?_) rfl
      subst q36_
      exact V_iret F hr () rfl [0] rfl rfl (by decide) (by decide) d_Model_stick_39
  · skip
    exact False.elim (h16 (vp_in_nI (by omega) (by omega)))

set_option maxHeartbeats 4000000 in
set_option maxRecDepth 100000 in
theorem c_Model_stick_n (l : Launch) (D : va_G) (cI cL cB : ClassId) (x0 : Nat) (x1 : Nat) (x2 : Nat) (x3 : Nat) (x4 : Nat) (x5 : Nat) (x6 : Nat) (x7 : Nat) (x8 : Nat) (x9 : Nat) (x10 : Nat) (x11 : Nat) (x12 : Nat) (x13 : Nat) (x14 : Nat) (x15 : Nat) (x16 : Nat) (x17 : Nat) (x18 : Nat) (x19 : Nat) (x20 : Nat) (th : Nat) (nn : Nat) (n : Nat) (sg : Nat) (bt : Prop) (sk : Nat → Nat) (j : Nat) (sv : Nat) (h40 : 1 ≤ nn) (hnn : nn ≤ 80) (hj : j < nn) (hs : sv ≤ 3) (hsk : sk j ≤ 3) (hb : ¬ bt) : Cti l y_Model_stick (wK w_Model_stick) ({ frames := 1, cells := 0, slots := 0, locals := 22 }) D classes (TY cI cL cB) [.ref x0, .int (nI j), .int (nI sv - 1)] [(x0, .inr (CI_Model, [.int (nI th), .int (nI nn), .ref x1, .ref x2, .ref x3, .ref x4, .ref x5, .ref x6, .ref x7, .ref x8, .ref x9, .ref x10, .ref x11, .int (nI n), .ref x12, .ref x13, .ref x14, .ref x15, .ref x16, .ref x17, .ref x18, .ref x19, .ref x20, .int (bP bt), .int (nI sg)])), (x3, .inl (cI, 80, .inl (cS sk)))] (fun (r : Int32) (u_ : Unit) => r = nI (if sk j = sv then 0 else 1)) (fun (u_ : Unit) => [(x0, .inr (CI_Model, [.int (nI 0), .int (nI nn), .ref x1, .ref x2, .ref x3, .ref x4, .ref x5, .ref x6, .ref x7, .ref x8, .ref x9, .ref x10, .ref x11, .int (nI n), .ref x12, .ref x13, .ref x14, .ref x15, .ref x16, .ref x17, .ref x18, .ref x19, .ref x20, .int (bP bt), .int (nI sg)])), (x3, .inl (cI, 80, .inl (cS (up sk j sv))))]) 0 0 := by
  refine Ctg_of (cc := prog_9_method_30_code) (maxL := 4) (ret := (some .int)) "CircuitSimulatorModel" [(0, .ref x0), (1, .int (nI j)), (2, .int (nI sv - 1))] (by decide) rfl rfl (Nat.le_of_ble_eq_true rfl) rfl ?_
  intro p_ e_ s_ m_ args_ below_ meth_ c_ A_ F hr hin
  refine V_aload_n F 0 d_Model_stick_0 rfl rfl ?_
  refine V_iconst F (v := 0) d_Model_stick_1 rfl ?_
  refine V_put F 0 CI_Model 0 (w' := [(x0, .inr (CI_Model, [.int (nI 0), .int (nI nn), .ref x1, .ref x2, .ref x3, .ref x4, .ref x5, .ref x6, .ref x7, .ref x8, .ref x9, .ref x10, .ref x11, .int (nI n), .ref x12, .ref x13, .ref x14, .ref x15, .ref x16, .ref x17, .ref x18, .ref x19, .ref x20, .int (bP bt), .int (nI sg)])), (x3, .inl (cI, 80, .inl (cS sk)))]) t_Model tk_Model n_Model i_Model rfl rfl (by decide) m_596 rfl rfl rfl rfl (Nat.le_of_ble_eq_true rfl) rfl d_Model_stick_2 ?_
  refine V_iload_n F 1 d_Model_stick_5 rfl rfl ?_
  refine V_iconst F (v := 0) d_Model_stick_6 rfl ?_
  refine V_aload_n F 0 d_Model_stick_7 rfl rfl ?_
  refine V_get F 0 CI_Model 1 i_Model rfl rfl (by decide) m_597 rfl rfl d_Model_stick_8 ?_
  refine V_iconst F (v := 1) d_Model_stick_11 rfl ?_
  refine V_isub F d_Model_stick_12 ?_
  refine V_top (y := nI (nn - 1)) (pk_sub (a := nn) (b := 1) (by omega)) ?_
  refine V_callS_i (w1 := fun (u_ : Unit) => [(x0, .inr (CI_Model, [.int (nI 0), .int (nI nn), .ref x1, .ref x2, .ref x3, .ref x4, .ref x5, .ref x6, .ref x7, .ref x8, .ref x9, .ref x10, .ref x11, .int (nI n), .ref x12, .ref x13, .ref x14, .ref x15, .ref x16, .ref x17, .ref x18, .ref x19, .ref x20, .int (bP bt), .int (nI sg)])), (x3, .inl (cI, 80, .inl (cS sk)))]) (wr := [(x0, .inr (CI_Model, [.int (nI 0), .int (nI nn), .ref x1, .ref x2, .ref x3, .ref x4, .ref x5, .ref x6, .ref x7, .ref x8, .ref x9, .ref x10, .ref x11, .int (nI n), .ref x12, .ref x13, .ref x14, .ref x15, .ref x16, .ref x17, .ref x18, .ref x19, .ref x20, .int (bP bt), .int (nI sg)])), (x3, .inl (cI, 80, .inl (cS sk)))]) (isC := []) (isR := [0, 1]) (pm := [0, 1]) (As := [.int (nI j), .int 0, .int (nI (nn - 1))]) (rest := []) F (c_Model_in l D cI cL cB (nI j) 0 (nI (nn - 1)) ) (cS_S 3 F.ts m_680 m_681 m_42 m_682 (by decide +kernel) ⟨Nat.le_of_ble_eq_true rfl, Nat.le_of_ble_eq_true rfl⟩) rfl (Nat.le_of_ble_eq_true rfl) d_Model_stick_13 ⟨Nat.le_of_ble_eq_true rfl, Nat.le_of_ble_eq_true rfl⟩ ⟨rfl, rfl, rfl, rfl, rfl, fun _ => rfl, rfl⟩ (fun r13 uu13 q13_ => ?_) rfl
  subst q13_
  refine V_top (y := bP (vp_in (nI j) nn)) (bP_c (in_iff (m := nn) (by omega) (by omega))) ?_
  refine V_ifb_ne F 25 d_Model_stick_16 (by decide) (fun h16 => ?_) (fun h16 => ?_)
  · skip
    refine V_iload_n F 2 d_Model_stick_25 rfl rfl ?_
    refine V_iconst F (v := (-1)) d_Model_stick_26 rfl ?_
    refine V_iconst F (v := 2) d_Model_stick_27 rfl ?_
    refine V_callS_i (w1 := fun (u_ : Unit) => [(x0, .inr (CI_Model, [.int (nI 0), .int (nI nn), .ref x1, .ref x2, .ref x3, .ref x4, .ref x5, .ref x6, .ref x7, .ref x8, .ref x9, .ref x10, .ref x11, .int (nI n), .ref x12, .ref x13, .ref x14, .ref x15, .ref x16, .ref x17, .ref x18, .ref x19, .ref x20, .int (bP bt), .int (nI sg)])), (x3, .inl (cI, 80, .inl (cS sk)))]) (wr := [(x0, .inr (CI_Model, [.int (nI 0), .int (nI nn), .ref x1, .ref x2, .ref x3, .ref x4, .ref x5, .ref x6, .ref x7, .ref x8, .ref x9, .ref x10, .ref x11, .int (nI n), .ref x12, .ref x13, .ref x14, .ref x15, .ref x16, .ref x17, .ref x18, .ref x19, .ref x20, .int (bP bt), .int (nI sg)])), (x3, .inl (cI, 80, .inl (cS sk)))]) (isC := []) (isR := [0, 1]) (pm := [0, 1]) (As := [.int (nI sv - 1), .int (-1), .int 2]) (rest := []) F (c_Model_in l D cI cL cB (nI sv - 1) (-1) 2 ) (cS_S 3 F.ts m_680 m_681 m_42 m_682 (by decide +kernel) ⟨Nat.le_of_ble_eq_true rfl, Nat.le_of_ble_eq_true rfl⟩) rfl (Nat.le_of_ble_eq_true rfl) d_Model_stick_28 ⟨Nat.le_of_ble_eq_true rfl, Nat.le_of_ble_eq_true rfl⟩ ⟨rfl, rfl, rfl, rfl, rfl, fun _ => rfl, rfl⟩ (fun r28 uu28 q28_ => ?_) rfl
    subst q28_
    refine V_top (y := bP (stk (nI sv - 1))) (bP_c stk_iff) ?_
    refine V_ifb_ne F 40 d_Model_stick_31 (by decide) (fun h31 => ?_) (fun h31 => ?_)
    · skip
      refine V_aload_n F 0 d_Model_stick_40 rfl rfl ?_
      refine V_get F 0 CI_Model 4 i_Model rfl rfl (by decide) m_600 rfl rfl d_Model_stick_41 ?_
      refine V_iload_n F 1 d_Model_stick_44 rfl rfl ?_
      refine V_ialdnS F 1 0 (k := j) rfl rfl (by omega) (by decide) d_Model_stick_45 ?_
      refine V_iload_n F 2 d_Model_stick_46 rfl rfl ?_
      refine V_icmpss_eq F 54 (a := sk j) (b := sv) (by omega) (by omega) d_Model_stick_47 (by decide) (fun h47 => ?_) (fun h47 => ?_)
      · skip
        refine V_iconst F (v := 0) d_Model_stick_54 rfl ?_
        refine V_istore_n F (lv' := [(3, .int (nI 0)), (0, .ref x0), (1, .int (nI j)), (2, .int (nI sv - 1))]) d_Model_stick_55 rfl (by decide) rfl ?_
        refine V_aload_n F 1 d_Model_stick_56 rfl rfl ?_
        refine V_get F 0 CI_Model 4 i_Model rfl rfl (by decide) m_600 rfl rfl d_Model_stick_57 ?_
        refine V_iload_n F 2 d_Model_stick_60 rfl rfl ?_
        refine V_iload_n F 3 d_Model_stick_61 rfl rfl ?_
        refine V_iastn F 1 0 (k := j) (w' := [(x0, .inr (CI_Model, [.int (nI 0), .int (nI nn), .ref x1, .ref x2, .ref x3, .ref x4, .ref x5, .ref x6, .ref x7, .ref x8, .ref x9, .ref x10, .ref x11, .int (nI n), .ref x12, .ref x13, .ref x14, .ref x15, .ref x16, .ref x17, .ref x18, .ref x19, .ref x20, .int (bP bt), .int (nI sg)])), (x3, .inl (cI, 80, .inl (cS (up sk j sv))))]) rfl rfl (by omega) (by decide) (by rw [upd_cS] <;> rfl) d_Model_stick_62 ?_
        refine V_aload_n F 1 d_Model_stick_63 rfl rfl ?_
        refine V_get F 0 CI_Model 23 i_Model rfl rfl (by decide) m_619 rfl rfl d_Model_stick_64 ?_
        refine V_ifb_eq F 74 d_Model_stick_67 (by decide) (fun h67 => ?_) (fun h67 => ?_)
        · skip
          refine V_iload_n F 0 d_Model_stick_74 rfl rfl ?_
          refine V_ifn_eq F 82 (a := 0) (by omega) d_Model_stick_75 (by decide) (fun h75 => ?_) (fun h75 => ?_)
          · skip
            refine V_iconst F (v := 0) d_Model_stick_82 rfl ?_
            exact V_iret F hr () (congrArg nI (by split <;> omega)) [0, 1] rfl rfl (by decide) (by decide) d_Model_stick_83
          · skip
            refine V_iconst F (v := 1) d_Model_stick_78 rfl ?_
            refine V_goto F 83 d_Model_stick_79 (by decide) ?_
            exact V_iret F hr () (congrArg nI (by split <;> omega)) [0, 1] rfl rfl (by decide) (by decide) d_Model_stick_83
        · skip
          exact False.elim (hb h67)
      · skip
        refine V_iconst F (v := 1) d_Model_stick_50 rfl ?_
        refine V_goto F 55 d_Model_stick_51 (by decide) ?_
        refine V_istore_n F (lv' := [(3, .int (nI 1)), (0, .ref x0), (1, .int (nI j)), (2, .int (nI sv - 1))]) d_Model_stick_55 rfl (by decide) rfl ?_
        refine V_aload_n F 1 d_Model_stick_56 rfl rfl ?_
        refine V_get F 0 CI_Model 4 i_Model rfl rfl (by decide) m_600 rfl rfl d_Model_stick_57 ?_
        refine V_iload_n F 2 d_Model_stick_60 rfl rfl ?_
        refine V_iload_n F 3 d_Model_stick_61 rfl rfl ?_
        refine V_iastn F 1 0 (k := j) (w' := [(x0, .inr (CI_Model, [.int (nI 0), .int (nI nn), .ref x1, .ref x2, .ref x3, .ref x4, .ref x5, .ref x6, .ref x7, .ref x8, .ref x9, .ref x10, .ref x11, .int (nI n), .ref x12, .ref x13, .ref x14, .ref x15, .ref x16, .ref x17, .ref x18, .ref x19, .ref x20, .int (bP bt), .int (nI sg)])), (x3, .inl (cI, 80, .inl (cS (up sk j sv))))]) rfl rfl (by omega) (by decide) (by rw [upd_cS] <;> rfl) d_Model_stick_62 ?_
        refine V_aload_n F 1 d_Model_stick_63 rfl rfl ?_
        refine V_get F 0 CI_Model 23 i_Model rfl rfl (by decide) m_619 rfl rfl d_Model_stick_64 ?_
        refine V_ifb_eq F 74 d_Model_stick_67 (by decide) (fun h67 => ?_) (fun h67 => ?_)
        · skip
          refine V_iload_n F 0 d_Model_stick_74 rfl rfl ?_
          refine V_ifn_eq F 82 (a := 1) (by omega) d_Model_stick_75 (by decide) (fun h75 => ?_) (fun h75 => ?_)
          · skip
            refine V_iconst F (v := 0) d_Model_stick_82 rfl ?_
            exact V_iret F hr () (congrArg nI (by split <;> omega)) [0, 1] rfl rfl (by decide) (by decide) d_Model_stick_83
          · skip
            refine V_iconst F (v := 1) d_Model_stick_78 rfl ?_
            refine V_goto F 83 d_Model_stick_79 (by decide) ?_
            exact V_iret F hr () (congrArg nI (by split <;> omega)) [0, 1] rfl rfl (by decide) (by decide) d_Model_stick_83
        · skip
          exact False.elim (hb h67)
    · skip
      exact False.elim (h31 (stk_s hs))
  · skip
    exact False.elim (h16 (vp_in_nI (by omega) (by omega)))

set_option maxHeartbeats 4000000 in
set_option maxRecDepth 100000 in
theorem c_Model_stick_b (l : Launch) (D : va_G) (cI cL cB : ClassId) (x0 : Nat) (x1 : Nat) (x2 : Nat) (x3 : Nat) (x4 : Nat) (x5 : Nat) (x6 : Nat) (x7 : Nat) (x8 : Nat) (x9 : Nat) (x10 : Nat) (x11 : Nat) (x12 : Nat) (x13 : Nat) (x14 : Nat) (x15 : Nat) (x16 : Nat) (x17 : Nat) (x18 : Nat) (x19 : Nat) (x20 : Nat) (th : Nat) (nn : Nat) (n : Nat) (sg : Nat) (bt : Prop) (v : Nat → Nat) (bf : Nat → Nat) (sk : Nat → Nat) (tn : Nat → Nat) (k : Nat → Nat) (o : Nat → Nat) (A : Nat → Int32) (B : Nat → Int32) (C : Nat → Int32) (q : Nat → Nat) (dr : Nat → Nat) (L : Nat → Nat) (j : Nat) (sv : Nat) (hn : n ≤ 60) (hnn : nn ≤ 80) (hw : WfC nn n k o A B C) (hU : Up n k o A B C L) (hL : ∀ j, j < nn → L j ≤ 30) (hsk : ∀ j, j < nn → sk j ≤ 3) (hv : ∀ j, j < nn → v j ≤ 3) (hq : ∀ i, i < n → q i ≤ 3) (h40 : 1 ≤ nn) (hj : j < nn) (hs : sv ≤ 3) (hb : bt) : Cti l y_Model_stick (wK w_Model_stick) ({ frames := 3, cells := 0, slots := 0, locals := 69 }) D classes (TY cI cL cB) [.ref x0, .int (nI j), .int (nI sv - 1)] [(x0, .inr (CI_Model, [.int (nI th), .int (nI nn), .ref x1, .ref x2, .ref x3, .ref x4, .ref x5, .ref x6, .ref x7, .ref x8, .ref x9, .ref x10, .ref x11, .int (nI n), .ref x12, .ref x13, .ref x14, .ref x15, .ref x16, .ref x17, .ref x18, .ref x19, .ref x20, .int (bP bt), .int (nI sg)])), (x1, .inl (cI, 80, .inl (cN v))), (x2, .inl (cI, 80, .inl (cN bf))), (x3, .inl (cI, 80, .inl (cS sk))), (x4, .inl (cI, 80, .inl (cN tn))), (x5, .inl (cI, 60, .inl (cN k))), (x6, .inl (cI, 60, .inl (cN o))), (x7, .inl (cI, 60, .inl A)), (x8, .inl (cI, 60, .inl B)), (x9, .inl (cI, 60, .inl C)), (x10, .inl (cI, 60, .inl (cN q))), (x11, .inl (cI, 60, .inl (cN dr)))] (fun (r : Int32) (u_ : (Nat → Nat) × (Nat → Nat) × (Nat → Nat) × (Nat → Nat) × (Nat → Nat)) => r = nI (if sk j = sv then 0 else 1) ∧ (SetP nn n k o A B C q (up sk j sv) v tn u_.1 u_.2.2.1 u_.2.2.2.1)) (fun (u_ : (Nat → Nat) × (Nat → Nat) × (Nat → Nat) × (Nat → Nat) × (Nat → Nat)) => [(x0, .inr (CI_Model, [.int (nI 0), .int (nI nn), .ref x1, .ref x2, .ref x3, .ref x4, .ref x5, .ref x6, .ref x7, .ref x8, .ref x9, .ref x10, .ref x11, .int (nI n), .ref x12, .ref x13, .ref x14, .ref x15, .ref x16, .ref x17, .ref x18, .ref x19, .ref x20, .int (bP bt), .int (nI (sg + 1))])), (x1, .inl (cI, 80, .inl (cN u_.1))), (x2, .inl (cI, 80, .inl (cN u_.2.1))), (x3, .inl (cI, 80, .inl (cS (up sk j sv)))), (x4, .inl (cI, 80, .inl (cN u_.2.2.1))), (x5, .inl (cI, 60, .inl (cN k))), (x6, .inl (cI, 60, .inl (cN o))), (x7, .inl (cI, 60, .inl A)), (x8, .inl (cI, 60, .inl B)), (x9, .inl (cI, 60, .inl C)), (x10, .inl (cI, 60, .inl (cN u_.2.2.2.1))), (x11, .inl (cI, 60, .inl (cN u_.2.2.2.2)))]) 0 0 := by
  refine Ctg_of (cc := prog_9_method_30_code) (maxL := 4) (ret := (some .int)) "CircuitSimulatorModel" [(0, .ref x0), (1, .int (nI j)), (2, .int (nI sv - 1))] (by decide) rfl rfl (Nat.le_of_ble_eq_true rfl) rfl ?_
  intro p_ e_ s_ m_ args_ below_ meth_ c_ A_ F hr hin
  refine V_aload_n F 0 d_Model_stick_0 rfl rfl ?_
  refine V_iconst F (v := 0) d_Model_stick_1 rfl ?_
  refine V_put F 0 CI_Model 0 (w' := [(x0, .inr (CI_Model, [.int (nI 0), .int (nI nn), .ref x1, .ref x2, .ref x3, .ref x4, .ref x5, .ref x6, .ref x7, .ref x8, .ref x9, .ref x10, .ref x11, .int (nI n), .ref x12, .ref x13, .ref x14, .ref x15, .ref x16, .ref x17, .ref x18, .ref x19, .ref x20, .int (bP bt), .int (nI sg)])), (x1, .inl (cI, 80, .inl (cN v))), (x2, .inl (cI, 80, .inl (cN bf))), (x3, .inl (cI, 80, .inl (cS sk))), (x4, .inl (cI, 80, .inl (cN tn))), (x5, .inl (cI, 60, .inl (cN k))), (x6, .inl (cI, 60, .inl (cN o))), (x7, .inl (cI, 60, .inl A)), (x8, .inl (cI, 60, .inl B)), (x9, .inl (cI, 60, .inl C)), (x10, .inl (cI, 60, .inl (cN q))), (x11, .inl (cI, 60, .inl (cN dr)))]) t_Model tk_Model n_Model i_Model rfl rfl (by decide) m_596 rfl rfl rfl rfl (Nat.le_of_ble_eq_true rfl) rfl d_Model_stick_2 ?_
  refine V_iload_n F 1 d_Model_stick_5 rfl rfl ?_
  refine V_iconst F (v := 0) d_Model_stick_6 rfl ?_
  refine V_aload_n F 0 d_Model_stick_7 rfl rfl ?_
  refine V_get F 0 CI_Model 1 i_Model rfl rfl (by decide) m_597 rfl rfl d_Model_stick_8 ?_
  refine V_iconst F (v := 1) d_Model_stick_11 rfl ?_
  refine V_isub F d_Model_stick_12 ?_
  refine V_top (y := nI (nn - 1)) (pk_sub (a := nn) (b := 1) (by omega)) ?_
  refine V_callS_i (w1 := fun (u_ : Unit) => [(x0, .inr (CI_Model, [.int (nI 0), .int (nI nn), .ref x1, .ref x2, .ref x3, .ref x4, .ref x5, .ref x6, .ref x7, .ref x8, .ref x9, .ref x10, .ref x11, .int (nI n), .ref x12, .ref x13, .ref x14, .ref x15, .ref x16, .ref x17, .ref x18, .ref x19, .ref x20, .int (bP bt), .int (nI sg)])), (x1, .inl (cI, 80, .inl (cN v))), (x2, .inl (cI, 80, .inl (cN bf))), (x3, .inl (cI, 80, .inl (cS sk))), (x4, .inl (cI, 80, .inl (cN tn))), (x5, .inl (cI, 60, .inl (cN k))), (x6, .inl (cI, 60, .inl (cN o))), (x7, .inl (cI, 60, .inl A)), (x8, .inl (cI, 60, .inl B)), (x9, .inl (cI, 60, .inl C)), (x10, .inl (cI, 60, .inl (cN q))), (x11, .inl (cI, 60, .inl (cN dr)))]) (wr := [(x0, .inr (CI_Model, [.int (nI 0), .int (nI nn), .ref x1, .ref x2, .ref x3, .ref x4, .ref x5, .ref x6, .ref x7, .ref x8, .ref x9, .ref x10, .ref x11, .int (nI n), .ref x12, .ref x13, .ref x14, .ref x15, .ref x16, .ref x17, .ref x18, .ref x19, .ref x20, .int (bP bt), .int (nI sg)])), (x1, .inl (cI, 80, .inl (cN v))), (x2, .inl (cI, 80, .inl (cN bf))), (x3, .inl (cI, 80, .inl (cS sk))), (x4, .inl (cI, 80, .inl (cN tn))), (x5, .inl (cI, 60, .inl (cN k))), (x6, .inl (cI, 60, .inl (cN o))), (x7, .inl (cI, 60, .inl A)), (x8, .inl (cI, 60, .inl B)), (x9, .inl (cI, 60, .inl C)), (x10, .inl (cI, 60, .inl (cN q))), (x11, .inl (cI, 60, .inl (cN dr)))]) (isC := []) (isR := [0, 1, 2, 3, 4, 5, 6, 7, 8, 9, 10, 11]) (pm := [0, 1, 2, 3, 4, 5, 6, 7, 8, 9, 10, 11]) (As := [.int (nI j), .int 0, .int (nI (nn - 1))]) (rest := []) F (c_Model_in l D cI cL cB (nI j) 0 (nI (nn - 1)) ) (cS_S 3 F.ts m_680 m_681 m_42 m_682 (by decide +kernel) ⟨Nat.le_of_ble_eq_true rfl, Nat.le_of_ble_eq_true rfl⟩) rfl (Nat.le_of_ble_eq_true rfl) d_Model_stick_13 ⟨Nat.le_of_ble_eq_true rfl, Nat.le_of_ble_eq_true rfl⟩ ⟨rfl, rfl, rfl, rfl, rfl, fun _ => rfl, rfl⟩ (fun r13 uu13 q13_ => ?_) rfl
  subst q13_
  refine V_top (y := bP (vp_in (nI j) nn)) (bP_c (in_iff (m := nn) (by omega) (by omega))) ?_
  refine V_ifb_ne F 25 d_Model_stick_16 (by decide) (fun h16 => ?_) (fun h16 => ?_)
  · skip
    refine V_iload_n F 2 d_Model_stick_25 rfl rfl ?_
    refine V_iconst F (v := (-1)) d_Model_stick_26 rfl ?_
    refine V_iconst F (v := 2) d_Model_stick_27 rfl ?_
    refine V_callS_i (w1 := fun (u_ : Unit) => [(x0, .inr (CI_Model, [.int (nI 0), .int (nI nn), .ref x1, .ref x2, .ref x3, .ref x4, .ref x5, .ref x6, .ref x7, .ref x8, .ref x9, .ref x10, .ref x11, .int (nI n), .ref x12, .ref x13, .ref x14, .ref x15, .ref x16, .ref x17, .ref x18, .ref x19, .ref x20, .int (bP bt), .int (nI sg)])), (x1, .inl (cI, 80, .inl (cN v))), (x2, .inl (cI, 80, .inl (cN bf))), (x3, .inl (cI, 80, .inl (cS sk))), (x4, .inl (cI, 80, .inl (cN tn))), (x5, .inl (cI, 60, .inl (cN k))), (x6, .inl (cI, 60, .inl (cN o))), (x7, .inl (cI, 60, .inl A)), (x8, .inl (cI, 60, .inl B)), (x9, .inl (cI, 60, .inl C)), (x10, .inl (cI, 60, .inl (cN q))), (x11, .inl (cI, 60, .inl (cN dr)))]) (wr := [(x0, .inr (CI_Model, [.int (nI 0), .int (nI nn), .ref x1, .ref x2, .ref x3, .ref x4, .ref x5, .ref x6, .ref x7, .ref x8, .ref x9, .ref x10, .ref x11, .int (nI n), .ref x12, .ref x13, .ref x14, .ref x15, .ref x16, .ref x17, .ref x18, .ref x19, .ref x20, .int (bP bt), .int (nI sg)])), (x1, .inl (cI, 80, .inl (cN v))), (x2, .inl (cI, 80, .inl (cN bf))), (x3, .inl (cI, 80, .inl (cS sk))), (x4, .inl (cI, 80, .inl (cN tn))), (x5, .inl (cI, 60, .inl (cN k))), (x6, .inl (cI, 60, .inl (cN o))), (x7, .inl (cI, 60, .inl A)), (x8, .inl (cI, 60, .inl B)), (x9, .inl (cI, 60, .inl C)), (x10, .inl (cI, 60, .inl (cN q))), (x11, .inl (cI, 60, .inl (cN dr)))]) (isC := []) (isR := [0, 1, 2, 3, 4, 5, 6, 7, 8, 9, 10, 11]) (pm := [0, 1, 2, 3, 4, 5, 6, 7, 8, 9, 10, 11]) (As := [.int (nI sv - 1), .int (-1), .int 2]) (rest := []) F (c_Model_in l D cI cL cB (nI sv - 1) (-1) 2 ) (cS_S 3 F.ts m_680 m_681 m_42 m_682 (by decide +kernel) ⟨Nat.le_of_ble_eq_true rfl, Nat.le_of_ble_eq_true rfl⟩) rfl (Nat.le_of_ble_eq_true rfl) d_Model_stick_28 ⟨Nat.le_of_ble_eq_true rfl, Nat.le_of_ble_eq_true rfl⟩ ⟨rfl, rfl, rfl, rfl, rfl, fun _ => rfl, rfl⟩ (fun r28 uu28 q28_ => ?_) rfl
    subst q28_
    refine V_top (y := bP (stk (nI sv - 1))) (bP_c stk_iff) ?_
    refine V_ifb_ne F 40 d_Model_stick_31 (by decide) (fun h31 => ?_) (fun h31 => ?_)
    · skip
      have hs8 := hsk j hj
      refine V_aload_n F 0 d_Model_stick_40 rfl rfl ?_
      refine V_get F 0 CI_Model 4 i_Model rfl rfl (by decide) m_600 rfl rfl d_Model_stick_41 ?_
      refine V_iload_n F 1 d_Model_stick_44 rfl rfl ?_
      refine V_ialdnS F 3 0 (k := j) rfl rfl (by omega) (by decide) d_Model_stick_45 ?_
      refine V_iload_n F 2 d_Model_stick_46 rfl rfl ?_
      refine V_icmpss_eq F 54 (a := sk j) (b := sv) (by omega) (by omega) d_Model_stick_47 (by decide) (fun h47 => ?_) (fun h47 => ?_)
      · skip
        refine V_iconst F (v := 0) d_Model_stick_54 rfl ?_
        refine V_istore_n F (lv' := [(3, .int (nI 0)), (0, .ref x0), (1, .int (nI j)), (2, .int (nI sv - 1))]) d_Model_stick_55 rfl (by decide) rfl ?_
        refine V_aload_n F 1 d_Model_stick_56 rfl rfl ?_
        refine V_get F 0 CI_Model 4 i_Model rfl rfl (by decide) m_600 rfl rfl d_Model_stick_57 ?_
        refine V_iload_n F 2 d_Model_stick_60 rfl rfl ?_
        refine V_iload_n F 3 d_Model_stick_61 rfl rfl ?_
        refine V_iastn F 3 0 (k := j) (w' := [(x0, .inr (CI_Model, [.int (nI 0), .int (nI nn), .ref x1, .ref x2, .ref x3, .ref x4, .ref x5, .ref x6, .ref x7, .ref x8, .ref x9, .ref x10, .ref x11, .int (nI n), .ref x12, .ref x13, .ref x14, .ref x15, .ref x16, .ref x17, .ref x18, .ref x19, .ref x20, .int (bP bt), .int (nI sg)])), (x1, .inl (cI, 80, .inl (cN v))), (x2, .inl (cI, 80, .inl (cN bf))), (x3, .inl (cI, 80, .inl (cS (up sk j sv)))), (x4, .inl (cI, 80, .inl (cN tn))), (x5, .inl (cI, 60, .inl (cN k))), (x6, .inl (cI, 60, .inl (cN o))), (x7, .inl (cI, 60, .inl A)), (x8, .inl (cI, 60, .inl B)), (x9, .inl (cI, 60, .inl C)), (x10, .inl (cI, 60, .inl (cN q))), (x11, .inl (cI, 60, .inl (cN dr)))]) rfl rfl (by omega) (by decide) (by rw [upd_cS] <;> rfl) d_Model_stick_62 ?_
        refine V_aload_n F 1 d_Model_stick_63 rfl rfl ?_
        refine V_get F 0 CI_Model 23 i_Model rfl rfl (by decide) m_619 rfl rfl d_Model_stick_64 ?_
        refine V_ifb_eq F 74 d_Model_stick_67 (by decide) (fun h67 => ?_) (fun h67 => ?_)
        · skip
          exact False.elim (h67 hb)
        · skip
          refine V_aload_n F 1 d_Model_stick_70 rfl rfl ?_
          refine V_callV_v (w1 := fun (u_ : (Nat → Nat) × (Nat → Nat) × (Nat → Nat) × (Nat → Nat) × (Nat → Nat)) => [(x0, .inr (CI_Model, [.int (nI 0), .int (nI nn), .ref x1, .ref x2, .ref x3, .ref x4, .ref x5, .ref x6, .ref x7, .ref x8, .ref x9, .ref x10, .ref x11, .int (nI n), .ref x12, .ref x13, .ref x14, .ref x15, .ref x16, .ref x17, .ref x18, .ref x19, .ref x20, .int (bP bt), .int (nI (sg + 1))])), (x1, .inl (cI, 80, .inl (cN u_.1))), (x2, .inl (cI, 80, .inl (cN u_.2.1))), (x3, .inl (cI, 80, .inl (cS (up sk j sv)))), (x4, .inl (cI, 80, .inl (cN u_.2.2.1))), (x5, .inl (cI, 60, .inl (cN k))), (x6, .inl (cI, 60, .inl (cN o))), (x7, .inl (cI, 60, .inl A)), (x8, .inl (cI, 60, .inl B)), (x9, .inl (cI, 60, .inl C)), (x10, .inl (cI, 60, .inl (cN u_.2.2.2.1))), (x11, .inl (cI, 60, .inl (cN u_.2.2.2.2)))]) (wr := []) (isC := [0, 1, 2, 3, 4, 5, 6, 7, 8, 9, 10, 11]) (isR := []) (pm := [0, 1, 2, 3, 4, 5, 6, 7, 8, 9, 10, 11]) (As := []) (rest := []) F (c_Model_settle l D cI cL cB x0 x1 x2 x3 x4 x5 x6 x7 x8 x9 x10 x11 x12 x13 x14 x15 x16 x17 x18 x19 x20 0 nn n sg bt v bf (up sk j sv) tn k o A B C q dr L (by first | assumption | omega | (simp only [] at *; omega)) (by first | assumption | omega | (simp only [] at *; omega)) (by first | assumption | omega | (simp only [] at *; omega)) (by first | assumption | omega | (simp only [] at *; omega)) (by first | assumption | omega | (simp only [] at *; omega)) (up_le hsk hs) (by first | assumption | omega | (simp only [] at *; omega)) (by first | assumption | omega | (simp only [] at *; omega))) (cS_V 0 F.ts m_737 m_738 m_30 m_42 m_739 (by decide +kernel) ⟨Nat.le_of_ble_eq_true rfl, Nat.le_of_ble_eq_true rfl⟩) (ci := CI_Model) (q0 := 0) rfl rfl rfl (Nat.le_of_ble_eq_true rfl) d_Model_stick_71 ⟨Nat.le_of_ble_eq_true rfl, Nat.le_of_ble_eq_true rfl⟩ ⟨rfl, rfl, rfl, rfl, rfl, fun _ => rfl, rfl⟩ (fun uu71 q71_ => ?_) rfl
          obtain ⟨v2_71, bf2_71, tn2_71, q2_71, dr2_71⟩ := uu71
          have e71 : SetP nn n k o A B C q (up sk j sv) v tn v2_71 tn2_71 q2_71 := q71_
          clear q71_
          refine V_cast (w' := [(x0, .inr (CI_Model, [.int (nI 0), .int (nI nn), .ref x1, .ref x2, .ref x3, .ref x4, .ref x5, .ref x6, .ref x7, .ref x8, .ref x9, .ref x10, .ref x11, .int (nI n), .ref x12, .ref x13, .ref x14, .ref x15, .ref x16, .ref x17, .ref x18, .ref x19, .ref x20, .int (bP bt), .int (nI (sg + 1))])), (x1, .inl (cI, 80, .inl (cN v2_71))), (x2, .inl (cI, 80, .inl (cN bf2_71))), (x3, .inl (cI, 80, .inl (cS (up sk j sv)))), (x4, .inl (cI, 80, .inl (cN tn2_71))), (x5, .inl (cI, 60, .inl (cN k))), (x6, .inl (cI, 60, .inl (cN o))), (x7, .inl (cI, 60, .inl A)), (x8, .inl (cI, 60, .inl B)), (x9, .inl (cI, 60, .inl C)), (x10, .inl (cI, 60, .inl (cN q2_71))), (x11, .inl (cI, 60, .inl (cN dr2_71)))]) rfl rfl rfl ?_
          refine V_iload_n F 0 d_Model_stick_74 rfl rfl ?_
          refine V_ifn_eq F 82 (a := 0) (by omega) d_Model_stick_75 (by decide) (fun h75 => ?_) (fun h75 => ?_)
          · skip
            refine V_iconst F (v := 0) d_Model_stick_82 rfl ?_
            exact V_iret F hr (v2_71, bf2_71, tn2_71, q2_71, dr2_71) (show 0 = nI (if sk j = sv then 0 else 1) ∧ (SetP nn n k o A B C q (up sk j sv) v tn v2_71 tn2_71 q2_71) from ⟨congrArg nI (by split <;> omega), by assumption⟩) [0, 1, 2, 3, 4, 5, 6, 7, 8, 9, 10, 11] rfl rfl (by decide) (by decide) d_Model_stick_83
          · skip
            refine V_iconst F (v := 1) d_Model_stick_78 rfl ?_
            refine V_goto F 83 d_Model_stick_79 (by decide) ?_
            exact V_iret F hr (v2_71, bf2_71, tn2_71, q2_71, dr2_71) (show 1 = nI (if sk j = sv then 0 else 1) ∧ (SetP nn n k o A B C q (up sk j sv) v tn v2_71 tn2_71 q2_71) from ⟨congrArg nI (by split <;> omega), by assumption⟩) [0, 1, 2, 3, 4, 5, 6, 7, 8, 9, 10, 11] rfl rfl (by decide) (by decide) d_Model_stick_83
      · skip
        refine V_iconst F (v := 1) d_Model_stick_50 rfl ?_
        refine V_goto F 55 d_Model_stick_51 (by decide) ?_
        refine V_istore_n F (lv' := [(3, .int (nI 1)), (0, .ref x0), (1, .int (nI j)), (2, .int (nI sv - 1))]) d_Model_stick_55 rfl (by decide) rfl ?_
        refine V_aload_n F 1 d_Model_stick_56 rfl rfl ?_
        refine V_get F 0 CI_Model 4 i_Model rfl rfl (by decide) m_600 rfl rfl d_Model_stick_57 ?_
        refine V_iload_n F 2 d_Model_stick_60 rfl rfl ?_
        refine V_iload_n F 3 d_Model_stick_61 rfl rfl ?_
        refine V_iastn F 3 0 (k := j) (w' := [(x0, .inr (CI_Model, [.int (nI 0), .int (nI nn), .ref x1, .ref x2, .ref x3, .ref x4, .ref x5, .ref x6, .ref x7, .ref x8, .ref x9, .ref x10, .ref x11, .int (nI n), .ref x12, .ref x13, .ref x14, .ref x15, .ref x16, .ref x17, .ref x18, .ref x19, .ref x20, .int (bP bt), .int (nI sg)])), (x1, .inl (cI, 80, .inl (cN v))), (x2, .inl (cI, 80, .inl (cN bf))), (x3, .inl (cI, 80, .inl (cS (up sk j sv)))), (x4, .inl (cI, 80, .inl (cN tn))), (x5, .inl (cI, 60, .inl (cN k))), (x6, .inl (cI, 60, .inl (cN o))), (x7, .inl (cI, 60, .inl A)), (x8, .inl (cI, 60, .inl B)), (x9, .inl (cI, 60, .inl C)), (x10, .inl (cI, 60, .inl (cN q))), (x11, .inl (cI, 60, .inl (cN dr)))]) rfl rfl (by omega) (by decide) (by rw [upd_cS] <;> rfl) d_Model_stick_62 ?_
        refine V_aload_n F 1 d_Model_stick_63 rfl rfl ?_
        refine V_get F 0 CI_Model 23 i_Model rfl rfl (by decide) m_619 rfl rfl d_Model_stick_64 ?_
        refine V_ifb_eq F 74 d_Model_stick_67 (by decide) (fun h67 => ?_) (fun h67 => ?_)
        · skip
          exact False.elim (h67 hb)
        · skip
          refine V_aload_n F 1 d_Model_stick_70 rfl rfl ?_
          refine V_callV_v (w1 := fun (u_ : (Nat → Nat) × (Nat → Nat) × (Nat → Nat) × (Nat → Nat) × (Nat → Nat)) => [(x0, .inr (CI_Model, [.int (nI 0), .int (nI nn), .ref x1, .ref x2, .ref x3, .ref x4, .ref x5, .ref x6, .ref x7, .ref x8, .ref x9, .ref x10, .ref x11, .int (nI n), .ref x12, .ref x13, .ref x14, .ref x15, .ref x16, .ref x17, .ref x18, .ref x19, .ref x20, .int (bP bt), .int (nI (sg + 1))])), (x1, .inl (cI, 80, .inl (cN u_.1))), (x2, .inl (cI, 80, .inl (cN u_.2.1))), (x3, .inl (cI, 80, .inl (cS (up sk j sv)))), (x4, .inl (cI, 80, .inl (cN u_.2.2.1))), (x5, .inl (cI, 60, .inl (cN k))), (x6, .inl (cI, 60, .inl (cN o))), (x7, .inl (cI, 60, .inl A)), (x8, .inl (cI, 60, .inl B)), (x9, .inl (cI, 60, .inl C)), (x10, .inl (cI, 60, .inl (cN u_.2.2.2.1))), (x11, .inl (cI, 60, .inl (cN u_.2.2.2.2)))]) (wr := []) (isC := [0, 1, 2, 3, 4, 5, 6, 7, 8, 9, 10, 11]) (isR := []) (pm := [0, 1, 2, 3, 4, 5, 6, 7, 8, 9, 10, 11]) (As := []) (rest := []) F (c_Model_settle l D cI cL cB x0 x1 x2 x3 x4 x5 x6 x7 x8 x9 x10 x11 x12 x13 x14 x15 x16 x17 x18 x19 x20 0 nn n sg bt v bf (up sk j sv) tn k o A B C q dr L (by first | assumption | omega | (simp only [] at *; omega)) (by first | assumption | omega | (simp only [] at *; omega)) (by first | assumption | omega | (simp only [] at *; omega)) (by first | assumption | omega | (simp only [] at *; omega)) (by first | assumption | omega | (simp only [] at *; omega)) (up_le hsk hs) (by first | assumption | omega | (simp only [] at *; omega)) (by first | assumption | omega | (simp only [] at *; omega))) (cS_V 0 F.ts m_737 m_738 m_30 m_42 m_739 (by decide +kernel) ⟨Nat.le_of_ble_eq_true rfl, Nat.le_of_ble_eq_true rfl⟩) (ci := CI_Model) (q0 := 0) rfl rfl rfl (Nat.le_of_ble_eq_true rfl) d_Model_stick_71 ⟨Nat.le_of_ble_eq_true rfl, Nat.le_of_ble_eq_true rfl⟩ ⟨rfl, rfl, rfl, rfl, rfl, fun _ => rfl, rfl⟩ (fun uu71_4 q71_4_ => ?_) rfl
          obtain ⟨v2_71_4, bf2_71_4, tn2_71_4, q2_71_4, dr2_71_4⟩ := uu71_4
          have e71_4 : SetP nn n k o A B C q (up sk j sv) v tn v2_71_4 tn2_71_4 q2_71_4 := q71_4_
          clear q71_4_
          refine V_cast (w' := [(x0, .inr (CI_Model, [.int (nI 0), .int (nI nn), .ref x1, .ref x2, .ref x3, .ref x4, .ref x5, .ref x6, .ref x7, .ref x8, .ref x9, .ref x10, .ref x11, .int (nI n), .ref x12, .ref x13, .ref x14, .ref x15, .ref x16, .ref x17, .ref x18, .ref x19, .ref x20, .int (bP bt), .int (nI (sg + 1))])), (x1, .inl (cI, 80, .inl (cN v2_71_4))), (x2, .inl (cI, 80, .inl (cN bf2_71_4))), (x3, .inl (cI, 80, .inl (cS (up sk j sv)))), (x4, .inl (cI, 80, .inl (cN tn2_71_4))), (x5, .inl (cI, 60, .inl (cN k))), (x6, .inl (cI, 60, .inl (cN o))), (x7, .inl (cI, 60, .inl A)), (x8, .inl (cI, 60, .inl B)), (x9, .inl (cI, 60, .inl C)), (x10, .inl (cI, 60, .inl (cN q2_71_4))), (x11, .inl (cI, 60, .inl (cN dr2_71_4)))]) rfl rfl rfl ?_
          refine V_iload_n F 0 d_Model_stick_74 rfl rfl ?_
          refine V_ifn_eq F 82 (a := 1) (by omega) d_Model_stick_75 (by decide) (fun h75 => ?_) (fun h75 => ?_)
          · skip
            refine V_iconst F (v := 0) d_Model_stick_82 rfl ?_
            exact V_iret F hr (v2_71_4, bf2_71_4, tn2_71_4, q2_71_4, dr2_71_4) (show 0 = nI (if sk j = sv then 0 else 1) ∧ (SetP nn n k o A B C q (up sk j sv) v tn v2_71_4 tn2_71_4 q2_71_4) from ⟨congrArg nI (by split <;> omega), by assumption⟩) [0, 1, 2, 3, 4, 5, 6, 7, 8, 9, 10, 11] rfl rfl (by decide) (by decide) d_Model_stick_83
          · skip
            refine V_iconst F (v := 1) d_Model_stick_78 rfl ?_
            refine V_goto F 83 d_Model_stick_79 (by decide) ?_
            exact V_iret F hr (v2_71_4, bf2_71_4, tn2_71_4, q2_71_4, dr2_71_4) (show 1 = nI (if sk j = sv then 0 else 1) ∧ (SetP nn n k o A B C q (up sk j sv) v tn v2_71_4 tn2_71_4 q2_71_4) from ⟨congrArg nI (by split <;> omega), by assumption⟩) [0, 1, 2, 3, 4, 5, 6, 7, 8, 9, 10, 11] rfl rfl (by decide) (by decide) d_Model_stick_83
    · skip
      exact False.elim (h31 (stk_s hs))
  · skip
    exact False.elim (h16 (vp_in_nI (by omega) (by omega)))

set_option maxHeartbeats 4000000 in
set_option maxRecDepth 100000 in
theorem c_Model_reset_n (l : Launch) (D : va_G) (cI cL cB : ClassId) (x0 : Nat) (x1 : Nat) (x2 : Nat) (x3 : Nat) (x4 : Nat) (x5 : Nat) (x6 : Nat) (x7 : Nat) (x8 : Nat) (x9 : Nat) (x10 : Nat) (x11 : Nat) (x12 : Nat) (x13 : Nat) (x14 : Nat) (x15 : Nat) (x16 : Nat) (x17 : Nat) (x18 : Nat) (x19 : Nat) (x20 : Nat) (th : Nat) (nn : Nat) (n : Nat) (sg : Nat) (bt : Prop) (v : Nat → Nat) (sk : Nat → Nat) (tn : Nat → Nat) (k : Nat → Nat) (o : Nat → Nat) (A : Nat → Int32) (B : Nat → Int32) (C : Nat → Int32) (q : Nat → Nat) (hn : n ≤ 60) (hnn : nn ≤ 80) (hw : WfC nn n k o A B C) (hb : ¬ bt) : Cti l y_Model_reset (wK w_Model_reset) ({ frames := 0, cells := 0, slots := 0, locals := 0 }) D classes (TY cI cL cB) [.ref x0] [(x0, .inr (CI_Model, [.int (nI th), .int (nI nn), .ref x1, .ref x2, .ref x3, .ref x4, .ref x5, .ref x6, .ref x7, .ref x8, .ref x9, .ref x10, .ref x11, .int (nI n), .ref x12, .ref x13, .ref x14, .ref x15, .ref x16, .ref x17, .ref x18, .ref x19, .ref x20, .int (bP bt), .int (nI sg)])), (x1, .inl (cI, 80, .inl (cN v))), (x3, .inl (cI, 80, .inl (cS sk))), (x4, .inl (cI, 80, .inl (cN tn))), (x5, .inl (cI, 60, .inl (cN k))), (x6, .inl (cI, 60, .inl (cN o))), (x7, .inl (cI, 60, .inl A)), (x8, .inl (cI, 60, .inl B)), (x9, .inl (cI, 60, .inl C)), (x10, .inl (cI, 60, .inl (cN q)))] (fun (r : Int32) (u_ : (Nat → Nat) × (Nat → Nat) × (Nat → Nat) × (Nat → Nat)) => r = nI (sm tn 80) ∧ ((∀ j, j < 80 → u_.1 j = 2 ∧ u_.2.1 j = 0 ∧ u_.2.2.1 j = 0) ∧ HoldP n k C q u_.2.2.2)) (fun (u_ : (Nat → Nat) × (Nat → Nat) × (Nat → Nat) × (Nat → Nat)) => [(x0, .inr (CI_Model, [.int (nI 0), .int (nI nn), .ref x1, .ref x2, .ref x3, .ref x4, .ref x5, .ref x6, .ref x7, .ref x8, .ref x9, .ref x10, .ref x11, .int (nI n), .ref x12, .ref x13, .ref x14, .ref x15, .ref x16, .ref x17, .ref x18, .ref x19, .ref x20, .int (bP bt), .int (nI sg)])), (x1, .inl (cI, 80, .inl (cN u_.1))), (x3, .inl (cI, 80, .inl (cS u_.2.1))), (x4, .inl (cI, 80, .inl (cN u_.2.2.1))), (x5, .inl (cI, 60, .inl (cN k))), (x6, .inl (cI, 60, .inl (cN o))), (x7, .inl (cI, 60, .inl A)), (x8, .inl (cI, 60, .inl B)), (x9, .inl (cI, 60, .inl C)), (x10, .inl (cI, 60, .inl (cN u_.2.2.2)))]) 0 0 := by
  refine Ctg_of (cc := prog_9_method_35_code) (maxL := 3) (ret := (some .int)) "CircuitSimulatorModel" [(0, .ref x0)] (by decide) rfl rfl (Nat.le_of_ble_eq_true rfl) rfl ?_
  intro p_ e_ s_ m_ args_ below_ meth_ c_ A_ F hr hin
  refine V_aload_n F 0 d_Model_reset_0 rfl rfl ?_
  refine V_iconst F (v := 0) d_Model_reset_1 rfl ?_
  refine V_put F 0 CI_Model 0 (w' := [(x0, .inr (CI_Model, [.int (nI 0), .int (nI nn), .ref x1, .ref x2, .ref x3, .ref x4, .ref x5, .ref x6, .ref x7, .ref x8, .ref x9, .ref x10, .ref x11, .int (nI n), .ref x12, .ref x13, .ref x14, .ref x15, .ref x16, .ref x17, .ref x18, .ref x19, .ref x20, .int (bP bt), .int (nI sg)])), (x1, .inl (cI, 80, .inl (cN v))), (x3, .inl (cI, 80, .inl (cS sk))), (x4, .inl (cI, 80, .inl (cN tn))), (x5, .inl (cI, 60, .inl (cN k))), (x6, .inl (cI, 60, .inl (cN o))), (x7, .inl (cI, 60, .inl A)), (x8, .inl (cI, 60, .inl B)), (x9, .inl (cI, 60, .inl C)), (x10, .inl (cI, 60, .inl (cN q)))]) t_Model tk_Model n_Model i_Model rfl rfl (by decide) m_596 rfl rfl rfl rfl (Nat.le_of_ble_eq_true rfl) rfl d_Model_reset_2 ?_
  refine V_iconst F (v := 0) d_Model_reset_5 rfl ?_
  refine V_istore_n F (lv' := [(1, .int (nI 0)), (0, .ref x0)]) d_Model_reset_6 rfl (by decide) rfl ?_
  refine V_iconst F (v := 0) d_Model_reset_7 rfl ?_
  refine V_istore_n F (lv' := [(2, .int (nI 0)), (1, .int (nI 0)), (0, .ref x0)]) d_Model_reset_8 rfl (by decide) rfl ?_
  have L9 : ∀ (f_ : Nat) (i0 : Nat) (s0 : Nat) (v3 : Nat → Nat) (sk3 : Nat → Nat), 80 - i0 < f_ → (i0 ≤ 80) → (s0 = sm tn i0) → (∀ j, j < i0 → v3 j = 2) → (∀ j, j < i0 → sk3 j = 0) → V p_ l e_ ({ frames := 0, cells := 0, slots := 0, locals := 0 }) s_ m_ args_ below_ meth_ c_ A_ (MQ below_ (cQi D classes (fun (r : Int32) (u_ : (Nat → Nat) × (Nat → Nat) × (Nat → Nat) × (Nat → Nat)) => r = nI (sm tn 80) ∧ ((∀ j, j < 80 → u_.1 j = 2 ∧ u_.2.1 j = 0 ∧ u_.2.2.1 j = 0) ∧ HoldP n k C q u_.2.2.2)) (fun (u_ : (Nat → Nat) × (Nat → Nat) × (Nat → Nat) × (Nat → Nat)) => [(x0, .inr (CI_Model, [.int (nI 0), .int (nI nn), .ref x1, .ref x2, .ref x3, .ref x4, .ref x5, .ref x6, .ref x7, .ref x8, .ref x9, .ref x10, .ref x11, .int (nI n), .ref x12, .ref x13, .ref x14, .ref x15, .ref x16, .ref x17, .ref x18, .ref x19, .ref x20, .int (bP bt), .int (nI sg)])), (x1, .inl (cI, 80, .inl (cN u_.1))), (x3, .inl (cI, 80, .inl (cS u_.2.1))), (x4, .inl (cI, 80, .inl (cN u_.2.2.1))), (x5, .inl (cI, 60, .inl (cN k))), (x6, .inl (cI, 60, .inl (cN o))), (x7, .inl (cI, 60, .inl A)), (x8, .inl (cI, 60, .inl B)), (x9, .inl (cI, 60, .inl C)), (x10, .inl (cI, 60, .inl (cN u_.2.2.2)))]) A_) args_ s_ 0 0 A_) D classes 3 0 0 [(x0, .inr (CI_Model, [.int (nI 0), .int (nI nn), .ref x1, .ref x2, .ref x3, .ref x4, .ref x5, .ref x6, .ref x7, .ref x8, .ref x9, .ref x10, .ref x11, .int (nI n), .ref x12, .ref x13, .ref x14, .ref x15, .ref x16, .ref x17, .ref x18, .ref x19, .ref x20, .int (bP bt), .int (nI sg)])), (x1, .inl (cI, 80, .inl (cN v3))), (x3, .inl (cI, 80, .inl (cS sk3))), (x4, .inl (cI, 80, .inl (cN tn))), (x5, .inl (cI, 60, .inl (cN k))), (x6, .inl (cI, 60, .inl (cN o))), (x7, .inl (cI, 60, .inl A)), (x8, .inl (cI, 60, .inl B)), (x9, .inl (cI, 60, .inl C)), (x10, .inl (cI, 60, .inl (cN q)))] 9 [(0, .ref x0), (1, .int (nI s0)), (2, .int (nI i0))] [] := by
    intro f_
    induction f_ with
    | zero => intro i0 s0 v3 sk3 hm_; exact absurd hm_ (Nat.not_lt_zero _)
    | succ f_ ih9 =>
      intro i0 s0 v3 sk3 hm9 hi0 hs0 hv3 hk3
      refine V_iload_n F 2 d_Model_reset_9 rfl rfl ?_
      refine V_bipush F (v := 80) d_Model_reset_10 rfl ?_
      refine V_icmpn_ge F 44 (a := i0) (b := 80) (by omega) (by omega) d_Model_reset_12 (by decide) (fun h12 => ?_) (fun h12 => ?_)
      · skip
        have e12 : i0 = 80 := by omega
        rw [e12] at hs0
        refine V_iconst F (v := 0) d_Model_reset_44 rfl ?_
        refine V_istore_n F (lv' := [(2, .int (nI 0)), (0, .ref x0), (1, .int (nI s0))]) d_Model_reset_45 rfl (by decide) rfl ?_
        have L46 : ∀ (f_ : Nat) (i : Nat) (q3 : Nat → Nat), n - i < f_ → (i ≤ n) → (∀ t, t < n → q3 t = if t < i then (if k t = 8 then (C t).toNatClampNeg else if k t = 7 then 2 else q t) else q t) → V p_ l e_ ({ frames := 0, cells := 0, slots := 0, locals := 0 }) s_ m_ args_ below_ meth_ c_ A_ (MQ below_ (cQi D classes (fun (r : Int32) (u_ : (Nat → Nat) × (Nat → Nat) × (Nat → Nat) × (Nat → Nat)) => r = nI (sm tn 80) ∧ ((∀ j, j < 80 → u_.1 j = 2 ∧ u_.2.1 j = 0 ∧ u_.2.2.1 j = 0) ∧ HoldP n k C q u_.2.2.2)) (fun (u_ : (Nat → Nat) × (Nat → Nat) × (Nat → Nat) × (Nat → Nat)) => [(x0, .inr (CI_Model, [.int (nI 0), .int (nI nn), .ref x1, .ref x2, .ref x3, .ref x4, .ref x5, .ref x6, .ref x7, .ref x8, .ref x9, .ref x10, .ref x11, .int (nI n), .ref x12, .ref x13, .ref x14, .ref x15, .ref x16, .ref x17, .ref x18, .ref x19, .ref x20, .int (bP bt), .int (nI sg)])), (x1, .inl (cI, 80, .inl (cN u_.1))), (x3, .inl (cI, 80, .inl (cS u_.2.1))), (x4, .inl (cI, 80, .inl (cN u_.2.2.1))), (x5, .inl (cI, 60, .inl (cN k))), (x6, .inl (cI, 60, .inl (cN o))), (x7, .inl (cI, 60, .inl A)), (x8, .inl (cI, 60, .inl B)), (x9, .inl (cI, 60, .inl C)), (x10, .inl (cI, 60, .inl (cN u_.2.2.2)))]) A_) args_ s_ 0 0 A_) D classes 3 0 0 [(x0, .inr (CI_Model, [.int (nI 0), .int (nI nn), .ref x1, .ref x2, .ref x3, .ref x4, .ref x5, .ref x6, .ref x7, .ref x8, .ref x9, .ref x10, .ref x11, .int (nI n), .ref x12, .ref x13, .ref x14, .ref x15, .ref x16, .ref x17, .ref x18, .ref x19, .ref x20, .int (bP bt), .int (nI sg)])), (x1, .inl (cI, 80, .inl (cN v3))), (x3, .inl (cI, 80, .inl (cS sk3))), (x4, .inl (cI, 80, .inl (cN tn))), (x5, .inl (cI, 60, .inl (cN k))), (x6, .inl (cI, 60, .inl (cN o))), (x7, .inl (cI, 60, .inl A)), (x8, .inl (cI, 60, .inl B)), (x9, .inl (cI, 60, .inl C)), (x10, .inl (cI, 60, .inl (cN q3)))] 46 [(0, .ref x0), (1, .int (nI s0)), (2, .int (nI i))] [] := by
          intro f_
          induction f_ with
          | zero => intro i q3 hm_; exact absurd hm_ (Nat.not_lt_zero _)
          | succ f_ ih46 =>
            intro i q3 hm46 hi hI
            refine V_iload_n F 2 d_Model_reset_46 rfl rfl ?_
            refine V_aload_n F 0 d_Model_reset_47 rfl rfl ?_
            refine V_get F 0 CI_Model 13 i_Model rfl rfl (by decide) m_609 rfl rfl d_Model_reset_48 ?_
            refine V_icmpn_ge F 98 (a := i) (b := n) (by omega) (by omega) d_Model_reset_51 (by decide) (fun h51 => ?_) (fun h51 => ?_)
            · skip
              have e51 : i = n := by omega
              rw [e51] at hI
              have hq7 : HoldP n k C q q3 := fun t ht => by rw [hI t ht, if_pos ht]
              refine V_aload_n F 0 d_Model_reset_98 rfl rfl ?_
              refine V_get F 0 CI_Model 23 i_Model rfl rfl (by decide) m_619 rfl rfl d_Model_reset_99 ?_
              refine V_ifb_eq F 109 d_Model_reset_102 (by decide) (fun h102 => ?_) (fun h102 => ?_)
              · skip
                refine V_iconst F (v := 0) d_Model_reset_109 rfl ?_
                refine V_istore_n F (lv' := [(2, .int (nI 0)), (0, .ref x0), (1, .int (nI s0))]) d_Model_reset_110 rfl (by decide) rfl ?_
                have L111 : ∀ (f_ : Nat) (i5 : Nat) (tn5 : Nat → Nat), 80 - i5 < f_ → (i5 ≤ 80) → (∀ j, j < i5 → tn5 j = 0) → V p_ l e_ ({ frames := 0, cells := 0, slots := 0, locals := 0 }) s_ m_ args_ below_ meth_ c_ A_ (MQ below_ (cQi D classes (fun (r : Int32) (u_ : (Nat → Nat) × (Nat → Nat) × (Nat → Nat) × (Nat → Nat)) => r = nI (sm tn 80) ∧ ((∀ j, j < 80 → u_.1 j = 2 ∧ u_.2.1 j = 0 ∧ u_.2.2.1 j = 0) ∧ HoldP n k C q u_.2.2.2)) (fun (u_ : (Nat → Nat) × (Nat → Nat) × (Nat → Nat) × (Nat → Nat)) => [(x0, .inr (CI_Model, [.int (nI 0), .int (nI nn), .ref x1, .ref x2, .ref x3, .ref x4, .ref x5, .ref x6, .ref x7, .ref x8, .ref x9, .ref x10, .ref x11, .int (nI n), .ref x12, .ref x13, .ref x14, .ref x15, .ref x16, .ref x17, .ref x18, .ref x19, .ref x20, .int (bP bt), .int (nI sg)])), (x1, .inl (cI, 80, .inl (cN u_.1))), (x3, .inl (cI, 80, .inl (cS u_.2.1))), (x4, .inl (cI, 80, .inl (cN u_.2.2.1))), (x5, .inl (cI, 60, .inl (cN k))), (x6, .inl (cI, 60, .inl (cN o))), (x7, .inl (cI, 60, .inl A)), (x8, .inl (cI, 60, .inl B)), (x9, .inl (cI, 60, .inl C)), (x10, .inl (cI, 60, .inl (cN u_.2.2.2)))]) A_) args_ s_ 0 0 A_) D classes 3 0 0 [(x0, .inr (CI_Model, [.int (nI 0), .int (nI nn), .ref x1, .ref x2, .ref x3, .ref x4, .ref x5, .ref x6, .ref x7, .ref x8, .ref x9, .ref x10, .ref x11, .int (nI n), .ref x12, .ref x13, .ref x14, .ref x15, .ref x16, .ref x17, .ref x18, .ref x19, .ref x20, .int (bP bt), .int (nI sg)])), (x1, .inl (cI, 80, .inl (cN v3))), (x3, .inl (cI, 80, .inl (cS sk3))), (x4, .inl (cI, 80, .inl (cN tn5))), (x5, .inl (cI, 60, .inl (cN k))), (x6, .inl (cI, 60, .inl (cN o))), (x7, .inl (cI, 60, .inl A)), (x8, .inl (cI, 60, .inl B)), (x9, .inl (cI, 60, .inl C)), (x10, .inl (cI, 60, .inl (cN q3)))] 111 [(0, .ref x0), (1, .int (nI s0)), (2, .int (nI i5))] [] := by
                  intro f_
                  induction f_ with
                  | zero => intro i5 tn5 hm_; exact absurd hm_ (Nat.not_lt_zero _)
                  | succ f_ ih111 =>
                    intro i5 tn5 hm111 hi5 ht5
                    refine V_iload_n F 2 d_Model_reset_111 rfl rfl ?_
                    refine V_bipush F (v := 80) d_Model_reset_112 rfl ?_
                    refine V_icmpn_ge F 130 (a := i5) (b := 80) (by omega) (by omega) d_Model_reset_114 (by decide) (fun h114 => ?_) (fun h114 => ?_)
                    · skip
                      refine V_iload_n F 1 d_Model_reset_130 rfl rfl ?_
                      exact V_iret F hr (v3, sk3, tn5, q3) (show (nI s0) = nI (sm tn 80) ∧ ((∀ j, j < 80 → v3 j = 2 ∧ sk3 j = 0 ∧ tn5 j = 0) ∧ HoldP n k C q q3) from ⟨by rw [hs0], fun j hj => ⟨hv3 j (by omega), hk3 j (by omega), ht5 j (by omega)⟩, hq7⟩) [0, 1, 2, 3, 4, 5, 6, 7, 8, 9] rfl rfl (by decide) (by decide) d_Model_reset_131
                    · skip
                      refine V_aload_n F 0 d_Model_reset_117 rfl rfl ?_
                      refine V_get F 0 CI_Model 5 i_Model rfl rfl (by decide) m_601 rfl rfl d_Model_reset_118 ?_
                      refine V_iload_n F 2 d_Model_reset_121 rfl rfl ?_
                      refine V_iconst F (v := 0) d_Model_reset_122 rfl ?_
                      refine V_top (y := nI 0) rfl ?_
                      refine V_iastn F 3 0 (k := i5) (w' := [(x0, .inr (CI_Model, [.int (nI 0), .int (nI nn), .ref x1, .ref x2, .ref x3, .ref x4, .ref x5, .ref x6, .ref x7, .ref x8, .ref x9, .ref x10, .ref x11, .int (nI n), .ref x12, .ref x13, .ref x14, .ref x15, .ref x16, .ref x17, .ref x18, .ref x19, .ref x20, .int (bP bt), .int (nI sg)])), (x1, .inl (cI, 80, .inl (cN v3))), (x3, .inl (cI, 80, .inl (cS sk3))), (x4, .inl (cI, 80, .inl (cN (up tn5 i5 0)))), (x5, .inl (cI, 60, .inl (cN k))), (x6, .inl (cI, 60, .inl (cN o))), (x7, .inl (cI, 60, .inl A)), (x8, .inl (cI, 60, .inl B)), (x9, .inl (cI, 60, .inl C)), (x10, .inl (cI, 60, .inl (cN q3)))]) rfl rfl (by omega) (by decide) (by rw [upd_cN] <;> rfl) d_Model_reset_123 ?_
                      refine V_iinc F 2 (v := nI (i5 + 1)) (lv' := [(2, .int (nI (i5 + 1))), (0, .ref x0), (1, .int (nI s0))]) d_Model_reset_124 rfl (nI_inc _) (by decide) rfl ?_
                      refine V_goto F 111 d_Model_reset_127 (by decide) ?_
                      refine V_lv [1, 2, 0] rfl ?_
                      exact ih111 (i5 + 1) (up tn5 i5 0) (by omega) (by first | assumption | omega | (simp only [] at *; omega)) (up_all (f := fun _ => 0) ht5 rfl)
                refine V_lv [1, 2, 0] rfl ?_
                exact L111 ((80 - 0) + 1) 0 tn (Nat.lt_succ_self _) (by first | assumption | omega | (simp only [] at *; omega)) (fun t h => absurd h (Nat.not_lt_zero t))
              · skip
                exact False.elim (hb h102)
            · skip
              have hk8 := (hw i (by omega)).1
              refine V_aload_n F 0 d_Model_reset_54 rfl rfl ?_
              refine V_get F 0 CI_Model 6 i_Model rfl rfl (by decide) m_602 rfl rfl d_Model_reset_55 ?_
              refine V_iload_n F 2 d_Model_reset_58 rfl rfl ?_
              refine V_ialdnN F 4 0 (k := i) rfl rfl (by omega) (by decide) d_Model_reset_59 ?_
              refine V_bipush F (v := 6) d_Model_reset_60 rfl ?_
              refine V_icmpn_le F 92 (a := k i) (b := 6) (by omega) (by omega) d_Model_reset_62 (by decide) (fun h62 => ?_) (fun h62 => ?_)
              · skip
                refine V_iinc F 2 (v := nI (i + 1)) (lv' := [(2, .int (nI (i + 1))), (0, .ref x0), (1, .int (nI s0))]) d_Model_reset_92 rfl (nI_inc _) (by decide) rfl ?_
                refine V_goto F 46 d_Model_reset_95 (by decide) ?_
                refine V_lv [1, 2, 0] rfl ?_
                exact ih46 (i + 1) q3 (by omega) (by first | assumption | omega | (simp only [] at *; omega)) (hold_same hI (by rw [if_neg (by omega), if_neg (by omega)]))
              · skip
                refine V_aload_n F 0 d_Model_reset_65 rfl rfl ?_
                refine V_get F 0 CI_Model 11 i_Model rfl rfl (by decide) m_607 rfl rfl d_Model_reset_66 ?_
                refine V_iload_n F 2 d_Model_reset_69 rfl rfl ?_
                refine V_aload_n F 0 d_Model_reset_70 rfl rfl ?_
                refine V_get F 0 CI_Model 6 i_Model rfl rfl (by decide) m_602 rfl rfl d_Model_reset_71 ?_
                refine V_iload_n F 2 d_Model_reset_74 rfl rfl ?_
                refine V_ialdnN F 4 0 (k := i) rfl rfl (by omega) (by decide) d_Model_reset_75 ?_
                refine V_bipush F (v := 8) d_Model_reset_76 rfl ?_
                refine V_icmpn_ne F 90 (a := k i) (b := 8) (by omega) (by omega) d_Model_reset_78 (by decide) (fun h78 => ?_) (fun h78 => ?_)
                · skip
                  refine V_iconst F (v := 2) d_Model_reset_90 rfl ?_
                  refine V_top (y := nI 2) rfl ?_
                  refine V_iastn F 9 0 (k := i) (w' := [(x0, .inr (CI_Model, [.int (nI 0), .int (nI nn), .ref x1, .ref x2, .ref x3, .ref x4, .ref x5, .ref x6, .ref x7, .ref x8, .ref x9, .ref x10, .ref x11, .int (nI n), .ref x12, .ref x13, .ref x14, .ref x15, .ref x16, .ref x17, .ref x18, .ref x19, .ref x20, .int (bP bt), .int (nI sg)])), (x1, .inl (cI, 80, .inl (cN v3))), (x3, .inl (cI, 80, .inl (cS sk3))), (x4, .inl (cI, 80, .inl (cN tn))), (x5, .inl (cI, 60, .inl (cN k))), (x6, .inl (cI, 60, .inl (cN o))), (x7, .inl (cI, 60, .inl A)), (x8, .inl (cI, 60, .inl B)), (x9, .inl (cI, 60, .inl C)), (x10, .inl (cI, 60, .inl (cN (up q3 i 2))))]) rfl rfl (by omega) (by decide) (by rw [upd_cN] <;> rfl) d_Model_reset_91 ?_
                  refine V_iinc F 2 (v := nI (i + 1)) (lv' := [(2, .int (nI (i + 1))), (0, .ref x0), (1, .int (nI s0))]) d_Model_reset_92 rfl (nI_inc _) (by decide) rfl ?_
                  refine V_goto F 46 d_Model_reset_95 (by decide) ?_
                  refine V_lv [1, 2, 0] rfl ?_
                  exact ih46 (i + 1) (up q3 i 2) (by omega) (by first | assumption | omega | (simp only [] at *; omega)) (hold_step hI (by omega) (by rw [if_neg h78, if_pos (by omega)]))
                · skip
                  refine V_aload_n F 0 d_Model_reset_81 rfl rfl ?_
                  refine V_get F 0 CI_Model 10 i_Model rfl rfl (by decide) m_606 rfl rfl d_Model_reset_82 ?_
                  refine V_iload_n F 2 d_Model_reset_85 rfl rfl ?_
                  refine V_ialdn F 8 0 (k := i) rfl rfl (by omega) (by decide) d_Model_reset_86 ?_
                  refine V_goto F 91 d_Model_reset_87 (by decide) ?_
                  refine V_top (y := nI ((C i).toNatClampNeg)) (vin_nI ((hw i (by omega)).2.2.2 (by omega)).2 (by decide)) ?_
                  refine V_iastn F 9 0 (k := i) (w' := [(x0, .inr (CI_Model, [.int (nI 0), .int (nI nn), .ref x1, .ref x2, .ref x3, .ref x4, .ref x5, .ref x6, .ref x7, .ref x8, .ref x9, .ref x10, .ref x11, .int (nI n), .ref x12, .ref x13, .ref x14, .ref x15, .ref x16, .ref x17, .ref x18, .ref x19, .ref x20, .int (bP bt), .int (nI sg)])), (x1, .inl (cI, 80, .inl (cN v3))), (x3, .inl (cI, 80, .inl (cS sk3))), (x4, .inl (cI, 80, .inl (cN tn))), (x5, .inl (cI, 60, .inl (cN k))), (x6, .inl (cI, 60, .inl (cN o))), (x7, .inl (cI, 60, .inl A)), (x8, .inl (cI, 60, .inl B)), (x9, .inl (cI, 60, .inl C)), (x10, .inl (cI, 60, .inl (cN (up q3 i ((C i).toNatClampNeg)))))]) rfl rfl (by omega) (by decide) (by rw [upd_cN] <;> rfl) d_Model_reset_91 ?_
                  refine V_iinc F 2 (v := nI (i + 1)) (lv' := [(2, .int (nI (i + 1))), (0, .ref x0), (1, .int (nI s0))]) d_Model_reset_92 rfl (nI_inc _) (by decide) rfl ?_
                  refine V_goto F 46 d_Model_reset_95 (by decide) ?_
                  refine V_lv [1, 2, 0] rfl ?_
                  exact ih46 (i + 1) (up q3 i ((C i).toNatClampNeg)) (by omega) (by first | assumption | omega | (simp only [] at *; omega)) (hold_step hI (by omega) (by rw [if_pos h78]))
        refine V_lv [1, 2, 0] rfl ?_
        exact L46 ((n - 0) + 1) 0 q (Nat.lt_succ_self _) (by first | assumption | omega | (simp only [] at *; omega)) (fun t _ => by rw [if_neg (Nat.not_lt_zero t)])
      · skip
        refine V_iload_n F 1 d_Model_reset_15 rfl rfl ?_
        refine V_aload_n F 0 d_Model_reset_16 rfl rfl ?_
        refine V_get F 0 CI_Model 5 i_Model rfl rfl (by decide) m_601 rfl rfl d_Model_reset_17 ?_
        refine V_iload_n F 2 d_Model_reset_20 rfl rfl ?_
        refine V_ialdnN F 3 0 (k := i0) rfl rfl (by omega) (by decide) d_Model_reset_21 ?_
        refine V_iadd F d_Model_reset_22 ?_
        refine V_top (y := nI (s0 + (tn i0))) (nI_add _ _) ?_
        refine V_istore_n F (lv' := [(1, .int (nI (s0 + (tn i0)))), (0, .ref x0), (2, .int (nI i0))]) d_Model_reset_23 rfl (by decide) rfl ?_
        refine V_aload_n F 1 d_Model_reset_24 rfl rfl ?_
        refine V_get F 0 CI_Model 2 i_Model rfl rfl (by decide) m_598 rfl rfl d_Model_reset_25 ?_
        refine V_iload_n F 2 d_Model_reset_28 rfl rfl ?_
        refine V_iconst F (v := 2) d_Model_reset_29 rfl ?_
        refine V_top (y := nI 2) rfl ?_
        refine V_iastn F 1 0 (k := i0) (w' := [(x0, .inr (CI_Model, [.int (nI 0), .int (nI nn), .ref x1, .ref x2, .ref x3, .ref x4, .ref x5, .ref x6, .ref x7, .ref x8, .ref x9, .ref x10, .ref x11, .int (nI n), .ref x12, .ref x13, .ref x14, .ref x15, .ref x16, .ref x17, .ref x18, .ref x19, .ref x20, .int (bP bt), .int (nI sg)])), (x1, .inl (cI, 80, .inl (cN (up v3 i0 2)))), (x3, .inl (cI, 80, .inl (cS sk3))), (x4, .inl (cI, 80, .inl (cN tn))), (x5, .inl (cI, 60, .inl (cN k))), (x6, .inl (cI, 60, .inl (cN o))), (x7, .inl (cI, 60, .inl A)), (x8, .inl (cI, 60, .inl B)), (x9, .inl (cI, 60, .inl C)), (x10, .inl (cI, 60, .inl (cN q)))]) rfl rfl (by omega) (by decide) (by rw [upd_cN] <;> rfl) d_Model_reset_30 ?_
        refine V_aload_n F 1 d_Model_reset_31 rfl rfl ?_
        refine V_get F 0 CI_Model 4 i_Model rfl rfl (by decide) m_600 rfl rfl d_Model_reset_32 ?_
        refine V_iload_n F 2 d_Model_reset_35 rfl rfl ?_
        refine V_iconst F (v := (-1)) d_Model_reset_36 rfl ?_
        refine V_top (y := nI 0 - 1) rfl ?_
        refine V_iastn F 2 0 (k := i0) (w' := [(x0, .inr (CI_Model, [.int (nI 0), .int (nI nn), .ref x1, .ref x2, .ref x3, .ref x4, .ref x5, .ref x6, .ref x7, .ref x8, .ref x9, .ref x10, .ref x11, .int (nI n), .ref x12, .ref x13, .ref x14, .ref x15, .ref x16, .ref x17, .ref x18, .ref x19, .ref x20, .int (bP bt), .int (nI sg)])), (x1, .inl (cI, 80, .inl (cN (up v3 i0 2)))), (x3, .inl (cI, 80, .inl (cS (up sk3 i0 0)))), (x4, .inl (cI, 80, .inl (cN tn))), (x5, .inl (cI, 60, .inl (cN k))), (x6, .inl (cI, 60, .inl (cN o))), (x7, .inl (cI, 60, .inl A)), (x8, .inl (cI, 60, .inl B)), (x9, .inl (cI, 60, .inl C)), (x10, .inl (cI, 60, .inl (cN q)))]) rfl rfl (by omega) (by decide) (by rw [upd_cS] <;> rfl) d_Model_reset_37 ?_
        refine V_iinc F 2 (v := nI (i0 + 1)) (lv' := [(2, .int (nI (i0 + 1))), (1, .int (nI (s0 + (tn i0)))), (0, .ref x0)]) d_Model_reset_38 rfl (nI_inc _) (by decide) rfl ?_
        refine V_goto F 9 d_Model_reset_41 (by decide) ?_
        refine V_lv [2, 1, 0] rfl ?_
        exact ih9 (i0 + 1) (s0 + (tn i0)) (up v3 i0 2) (up sk3 i0 0) (by omega) (by first | assumption | omega | (simp only [] at *; omega)) (by rw [hs0]; rfl) (up_all (f := fun _ => 2) hv3 rfl) (up_all (f := fun _ => 0) hk3 rfl)
  refine V_lv [2, 1, 0] rfl ?_
  exact L9 ((80 - 0) + 1) 0 0 v sk (Nat.lt_succ_self _) (by first | assumption | omega | (simp only [] at *; omega)) rfl (fun t h => absurd h (Nat.not_lt_zero t)) (fun t h => absurd h (Nat.not_lt_zero t))

set_option maxHeartbeats 4000000 in
set_option maxRecDepth 100000 in
theorem c_Model_reset_b (l : Launch) (D : va_G) (cI cL cB : ClassId) (x0 : Nat) (x1 : Nat) (x2 : Nat) (x3 : Nat) (x4 : Nat) (x5 : Nat) (x6 : Nat) (x7 : Nat) (x8 : Nat) (x9 : Nat) (x10 : Nat) (x11 : Nat) (x12 : Nat) (x13 : Nat) (x14 : Nat) (x15 : Nat) (x16 : Nat) (x17 : Nat) (x18 : Nat) (x19 : Nat) (x20 : Nat) (th : Nat) (nn : Nat) (n : Nat) (sg : Nat) (bt : Prop) (v : Nat → Nat) (bf : Nat → Nat) (sk : Nat → Nat) (tn : Nat → Nat) (k : Nat → Nat) (o : Nat → Nat) (A : Nat → Int32) (B : Nat → Int32) (C : Nat → Int32) (q : Nat → Nat) (dr : Nat → Nat) (L : Nat → Nat) (hn : n ≤ 60) (hnn : nn ≤ 80) (hw : WfC nn n k o A B C) (hb : bt) (hU : Up n k o A B C L) (hL : ∀ j, j < nn → L j ≤ 30) (hq : ∀ i, i < n → q i ≤ 3) : Cti l y_Model_reset (wK w_Model_reset) ({ frames := 3, cells := 0, slots := 0, locals := 69 }) D classes (TY cI cL cB) [.ref x0] [(x0, .inr (CI_Model, [.int (nI th), .int (nI nn), .ref x1, .ref x2, .ref x3, .ref x4, .ref x5, .ref x6, .ref x7, .ref x8, .ref x9, .ref x10, .ref x11, .int (nI n), .ref x12, .ref x13, .ref x14, .ref x15, .ref x16, .ref x17, .ref x18, .ref x19, .ref x20, .int (bP bt), .int (nI sg)])), (x1, .inl (cI, 80, .inl (cN v))), (x2, .inl (cI, 80, .inl (cN bf))), (x3, .inl (cI, 80, .inl (cS sk))), (x4, .inl (cI, 80, .inl (cN tn))), (x5, .inl (cI, 60, .inl (cN k))), (x6, .inl (cI, 60, .inl (cN o))), (x7, .inl (cI, 60, .inl A)), (x8, .inl (cI, 60, .inl B)), (x9, .inl (cI, 60, .inl C)), (x10, .inl (cI, 60, .inl (cN q))), (x11, .inl (cI, 60, .inl (cN dr)))] (fun (r : Int32) (u_ : (Nat → Nat) × (Nat → Nat) × (Nat → Nat) × (Nat → Nat) × (Nat → Nat) × (Nat → Nat) × (Nat → Nat) × (Nat → Nat)) => r = nI (sm tn 80) ∧ (HoldP n k C q u_.2.2.2.2.2.2.1 ∧ (∀ j, j < 80 → u_.2.2.2.2.2.2.2 j = 2 ∧ u_.2.2.1 j = 0 ∧ u_.2.2.2.1 j = 0) ∧ ∃ tn4, SetP nn n k o A B C u_.2.2.2.2.2.2.1 u_.2.2.1 u_.2.2.2.2.2.2.2 tn u_.1 tn4 u_.2.2.2.2.1)) (fun (u_ : (Nat → Nat) × (Nat → Nat) × (Nat → Nat) × (Nat → Nat) × (Nat → Nat) × (Nat → Nat) × (Nat → Nat) × (Nat → Nat)) => [(x0, .inr (CI_Model, [.int (nI 0), .int (nI nn), .ref x1, .ref x2, .ref x3, .ref x4, .ref x5, .ref x6, .ref x7, .ref x8, .ref x9, .ref x10, .ref x11, .int (nI n), .ref x12, .ref x13, .ref x14, .ref x15, .ref x16, .ref x17, .ref x18, .ref x19, .ref x20, .int (bP bt), .int (nI (sg + 1))])), (x1, .inl (cI, 80, .inl (cN u_.1))), (x2, .inl (cI, 80, .inl (cN u_.2.1))), (x3, .inl (cI, 80, .inl (cS u_.2.2.1))), (x4, .inl (cI, 80, .inl (cN u_.2.2.2.1))), (x5, .inl (cI, 60, .inl (cN k))), (x6, .inl (cI, 60, .inl (cN o))), (x7, .inl (cI, 60, .inl A)), (x8, .inl (cI, 60, .inl B)), (x9, .inl (cI, 60, .inl C)), (x10, .inl (cI, 60, .inl (cN u_.2.2.2.2.1))), (x11, .inl (cI, 60, .inl (cN u_.2.2.2.2.2.1)))]) 0 0 := by
  refine Ctg_of (cc := prog_9_method_35_code) (maxL := 3) (ret := (some .int)) "CircuitSimulatorModel" [(0, .ref x0)] (by decide) rfl rfl (Nat.le_of_ble_eq_true rfl) rfl ?_
  intro p_ e_ s_ m_ args_ below_ meth_ c_ A_ F hr hin
  refine V_aload_n F 0 d_Model_reset_0 rfl rfl ?_
  refine V_iconst F (v := 0) d_Model_reset_1 rfl ?_
  refine V_put F 0 CI_Model 0 (w' := [(x0, .inr (CI_Model, [.int (nI 0), .int (nI nn), .ref x1, .ref x2, .ref x3, .ref x4, .ref x5, .ref x6, .ref x7, .ref x8, .ref x9, .ref x10, .ref x11, .int (nI n), .ref x12, .ref x13, .ref x14, .ref x15, .ref x16, .ref x17, .ref x18, .ref x19, .ref x20, .int (bP bt), .int (nI sg)])), (x1, .inl (cI, 80, .inl (cN v))), (x2, .inl (cI, 80, .inl (cN bf))), (x3, .inl (cI, 80, .inl (cS sk))), (x4, .inl (cI, 80, .inl (cN tn))), (x5, .inl (cI, 60, .inl (cN k))), (x6, .inl (cI, 60, .inl (cN o))), (x7, .inl (cI, 60, .inl A)), (x8, .inl (cI, 60, .inl B)), (x9, .inl (cI, 60, .inl C)), (x10, .inl (cI, 60, .inl (cN q))), (x11, .inl (cI, 60, .inl (cN dr)))]) t_Model tk_Model n_Model i_Model rfl rfl (by decide) m_596 rfl rfl rfl rfl (Nat.le_of_ble_eq_true rfl) rfl d_Model_reset_2 ?_
  refine V_iconst F (v := 0) d_Model_reset_5 rfl ?_
  refine V_istore_n F (lv' := [(1, .int (nI 0)), (0, .ref x0)]) d_Model_reset_6 rfl (by decide) rfl ?_
  refine V_iconst F (v := 0) d_Model_reset_7 rfl ?_
  refine V_istore_n F (lv' := [(2, .int (nI 0)), (1, .int (nI 0)), (0, .ref x0)]) d_Model_reset_8 rfl (by decide) rfl ?_
  have L9 : ∀ (f_ : Nat) (i0 : Nat) (s0 : Nat) (v3 : Nat → Nat) (sk3 : Nat → Nat), 80 - i0 < f_ → (i0 ≤ 80) → (s0 = sm tn i0) → (∀ j, j < i0 → v3 j = 2) → (∀ j, j < i0 → sk3 j = 0) → V p_ l e_ ({ frames := 3, cells := 0, slots := 0, locals := 69 }) s_ m_ args_ below_ meth_ c_ A_ (MQ below_ (cQi D classes (fun (r : Int32) (u_ : (Nat → Nat) × (Nat → Nat) × (Nat → Nat) × (Nat → Nat) × (Nat → Nat) × (Nat → Nat) × (Nat → Nat) × (Nat → Nat)) => r = nI (sm tn 80) ∧ (HoldP n k C q u_.2.2.2.2.2.2.1 ∧ (∀ j, j < 80 → u_.2.2.2.2.2.2.2 j = 2 ∧ u_.2.2.1 j = 0 ∧ u_.2.2.2.1 j = 0) ∧ ∃ tn4, SetP nn n k o A B C u_.2.2.2.2.2.2.1 u_.2.2.1 u_.2.2.2.2.2.2.2 tn u_.1 tn4 u_.2.2.2.2.1)) (fun (u_ : (Nat → Nat) × (Nat → Nat) × (Nat → Nat) × (Nat → Nat) × (Nat → Nat) × (Nat → Nat) × (Nat → Nat) × (Nat → Nat)) => [(x0, .inr (CI_Model, [.int (nI 0), .int (nI nn), .ref x1, .ref x2, .ref x3, .ref x4, .ref x5, .ref x6, .ref x7, .ref x8, .ref x9, .ref x10, .ref x11, .int (nI n), .ref x12, .ref x13, .ref x14, .ref x15, .ref x16, .ref x17, .ref x18, .ref x19, .ref x20, .int (bP bt), .int (nI (sg + 1))])), (x1, .inl (cI, 80, .inl (cN u_.1))), (x2, .inl (cI, 80, .inl (cN u_.2.1))), (x3, .inl (cI, 80, .inl (cS u_.2.2.1))), (x4, .inl (cI, 80, .inl (cN u_.2.2.2.1))), (x5, .inl (cI, 60, .inl (cN k))), (x6, .inl (cI, 60, .inl (cN o))), (x7, .inl (cI, 60, .inl A)), (x8, .inl (cI, 60, .inl B)), (x9, .inl (cI, 60, .inl C)), (x10, .inl (cI, 60, .inl (cN u_.2.2.2.2.1))), (x11, .inl (cI, 60, .inl (cN u_.2.2.2.2.2.1)))]) A_) args_ s_ 0 0 A_) D classes 3 0 0 [(x0, .inr (CI_Model, [.int (nI 0), .int (nI nn), .ref x1, .ref x2, .ref x3, .ref x4, .ref x5, .ref x6, .ref x7, .ref x8, .ref x9, .ref x10, .ref x11, .int (nI n), .ref x12, .ref x13, .ref x14, .ref x15, .ref x16, .ref x17, .ref x18, .ref x19, .ref x20, .int (bP bt), .int (nI sg)])), (x1, .inl (cI, 80, .inl (cN v3))), (x2, .inl (cI, 80, .inl (cN bf))), (x3, .inl (cI, 80, .inl (cS sk3))), (x4, .inl (cI, 80, .inl (cN tn))), (x5, .inl (cI, 60, .inl (cN k))), (x6, .inl (cI, 60, .inl (cN o))), (x7, .inl (cI, 60, .inl A)), (x8, .inl (cI, 60, .inl B)), (x9, .inl (cI, 60, .inl C)), (x10, .inl (cI, 60, .inl (cN q))), (x11, .inl (cI, 60, .inl (cN dr)))] 9 [(0, .ref x0), (1, .int (nI s0)), (2, .int (nI i0))] [] := by
    intro f_
    induction f_ with
    | zero => intro i0 s0 v3 sk3 hm_; exact absurd hm_ (Nat.not_lt_zero _)
    | succ f_ ih9 =>
      intro i0 s0 v3 sk3 hm9 hi0 hs0 hv3 hk3
      refine V_iload_n F 2 d_Model_reset_9 rfl rfl ?_
      refine V_bipush F (v := 80) d_Model_reset_10 rfl ?_
      refine V_icmpn_ge F 44 (a := i0) (b := 80) (by omega) (by omega) d_Model_reset_12 (by decide) (fun h12 => ?_) (fun h12 => ?_)
      · skip
        have e12 : i0 = 80 := by omega
        rw [e12] at hs0
        refine V_iconst F (v := 0) d_Model_reset_44 rfl ?_
        refine V_istore_n F (lv' := [(2, .int (nI 0)), (0, .ref x0), (1, .int (nI s0))]) d_Model_reset_45 rfl (by decide) rfl ?_
        have L46 : ∀ (f_ : Nat) (i : Nat) (q3 : Nat → Nat), n - i < f_ → (i ≤ n) → (∀ t, t < n → q3 t = if t < i then (if k t = 8 then (C t).toNatClampNeg else if k t = 7 then 2 else q t) else q t) → V p_ l e_ ({ frames := 3, cells := 0, slots := 0, locals := 69 }) s_ m_ args_ below_ meth_ c_ A_ (MQ below_ (cQi D classes (fun (r : Int32) (u_ : (Nat → Nat) × (Nat → Nat) × (Nat → Nat) × (Nat → Nat) × (Nat → Nat) × (Nat → Nat) × (Nat → Nat) × (Nat → Nat)) => r = nI (sm tn 80) ∧ (HoldP n k C q u_.2.2.2.2.2.2.1 ∧ (∀ j, j < 80 → u_.2.2.2.2.2.2.2 j = 2 ∧ u_.2.2.1 j = 0 ∧ u_.2.2.2.1 j = 0) ∧ ∃ tn4, SetP nn n k o A B C u_.2.2.2.2.2.2.1 u_.2.2.1 u_.2.2.2.2.2.2.2 tn u_.1 tn4 u_.2.2.2.2.1)) (fun (u_ : (Nat → Nat) × (Nat → Nat) × (Nat → Nat) × (Nat → Nat) × (Nat → Nat) × (Nat → Nat) × (Nat → Nat) × (Nat → Nat)) => [(x0, .inr (CI_Model, [.int (nI 0), .int (nI nn), .ref x1, .ref x2, .ref x3, .ref x4, .ref x5, .ref x6, .ref x7, .ref x8, .ref x9, .ref x10, .ref x11, .int (nI n), .ref x12, .ref x13, .ref x14, .ref x15, .ref x16, .ref x17, .ref x18, .ref x19, .ref x20, .int (bP bt), .int (nI (sg + 1))])), (x1, .inl (cI, 80, .inl (cN u_.1))), (x2, .inl (cI, 80, .inl (cN u_.2.1))), (x3, .inl (cI, 80, .inl (cS u_.2.2.1))), (x4, .inl (cI, 80, .inl (cN u_.2.2.2.1))), (x5, .inl (cI, 60, .inl (cN k))), (x6, .inl (cI, 60, .inl (cN o))), (x7, .inl (cI, 60, .inl A)), (x8, .inl (cI, 60, .inl B)), (x9, .inl (cI, 60, .inl C)), (x10, .inl (cI, 60, .inl (cN u_.2.2.2.2.1))), (x11, .inl (cI, 60, .inl (cN u_.2.2.2.2.2.1)))]) A_) args_ s_ 0 0 A_) D classes 3 0 0 [(x0, .inr (CI_Model, [.int (nI 0), .int (nI nn), .ref x1, .ref x2, .ref x3, .ref x4, .ref x5, .ref x6, .ref x7, .ref x8, .ref x9, .ref x10, .ref x11, .int (nI n), .ref x12, .ref x13, .ref x14, .ref x15, .ref x16, .ref x17, .ref x18, .ref x19, .ref x20, .int (bP bt), .int (nI sg)])), (x1, .inl (cI, 80, .inl (cN v3))), (x2, .inl (cI, 80, .inl (cN bf))), (x3, .inl (cI, 80, .inl (cS sk3))), (x4, .inl (cI, 80, .inl (cN tn))), (x5, .inl (cI, 60, .inl (cN k))), (x6, .inl (cI, 60, .inl (cN o))), (x7, .inl (cI, 60, .inl A)), (x8, .inl (cI, 60, .inl B)), (x9, .inl (cI, 60, .inl C)), (x10, .inl (cI, 60, .inl (cN q3))), (x11, .inl (cI, 60, .inl (cN dr)))] 46 [(0, .ref x0), (1, .int (nI s0)), (2, .int (nI i))] [] := by
          intro f_
          induction f_ with
          | zero => intro i q3 hm_; exact absurd hm_ (Nat.not_lt_zero _)
          | succ f_ ih46 =>
            intro i q3 hm46 hi hI
            refine V_iload_n F 2 d_Model_reset_46 rfl rfl ?_
            refine V_aload_n F 0 d_Model_reset_47 rfl rfl ?_
            refine V_get F 0 CI_Model 13 i_Model rfl rfl (by decide) m_609 rfl rfl d_Model_reset_48 ?_
            refine V_icmpn_ge F 98 (a := i) (b := n) (by omega) (by omega) d_Model_reset_51 (by decide) (fun h51 => ?_) (fun h51 => ?_)
            · skip
              have e51 : i = n := by omega
              rw [e51] at hI
              have hq7 : HoldP n k C q q3 := fun t ht => by rw [hI t ht, if_pos ht]
              refine V_aload_n F 0 d_Model_reset_98 rfl rfl ?_
              refine V_get F 0 CI_Model 23 i_Model rfl rfl (by decide) m_619 rfl rfl d_Model_reset_99 ?_
              refine V_ifb_eq F 109 d_Model_reset_102 (by decide) (fun h102 => ?_) (fun h102 => ?_)
              · skip
                exact False.elim (h102 hb)
              · skip
                refine V_aload_n F 0 d_Model_reset_105 rfl rfl ?_
                refine V_callV_v (w1 := fun (u_ : (Nat → Nat) × (Nat → Nat) × (Nat → Nat) × (Nat → Nat) × (Nat → Nat)) => [(x0, .inr (CI_Model, [.int (nI 0), .int (nI nn), .ref x1, .ref x2, .ref x3, .ref x4, .ref x5, .ref x6, .ref x7, .ref x8, .ref x9, .ref x10, .ref x11, .int (nI n), .ref x12, .ref x13, .ref x14, .ref x15, .ref x16, .ref x17, .ref x18, .ref x19, .ref x20, .int (bP bt), .int (nI (sg + 1))])), (x1, .inl (cI, 80, .inl (cN u_.1))), (x2, .inl (cI, 80, .inl (cN u_.2.1))), (x3, .inl (cI, 80, .inl (cS sk3))), (x4, .inl (cI, 80, .inl (cN u_.2.2.1))), (x5, .inl (cI, 60, .inl (cN k))), (x6, .inl (cI, 60, .inl (cN o))), (x7, .inl (cI, 60, .inl A)), (x8, .inl (cI, 60, .inl B)), (x9, .inl (cI, 60, .inl C)), (x10, .inl (cI, 60, .inl (cN u_.2.2.2.1))), (x11, .inl (cI, 60, .inl (cN u_.2.2.2.2)))]) (wr := []) (isC := [0, 1, 2, 3, 4, 5, 6, 7, 8, 9, 10, 11]) (isR := []) (pm := [0, 1, 2, 3, 4, 5, 6, 7, 8, 9, 10, 11]) (As := []) (rest := []) F (c_Model_settle l D cI cL cB x0 x1 x2 x3 x4 x5 x6 x7 x8 x9 x10 x11 x12 x13 x14 x15 x16 x17 x18 x19 x20 0 nn n sg bt v3 bf sk3 tn k o A B C q3 dr L (by first | assumption | omega | (simp only [] at *; omega)) (by first | assumption | omega | (simp only [] at *; omega)) (by first | assumption | omega | (simp only [] at *; omega)) (by first | assumption | omega | (simp only [] at *; omega)) (by first | assumption | omega | (simp only [] at *; omega)) (fun j hj => by rw [hk3 j (by omega)]; omega) (fun j hj => by rw [hv3 j (by omega)]; omega) (HoldP_le hw hq7 hq)) (cS_V 0 F.ts m_737 m_738 m_30 m_42 m_739 (by decide +kernel) ⟨Nat.le_of_ble_eq_true rfl, Nat.le_of_ble_eq_true rfl⟩) (ci := CI_Model) (q0 := 0) rfl rfl rfl (Nat.le_of_ble_eq_true rfl) d_Model_reset_106 ⟨Nat.le_of_ble_eq_true rfl, Nat.le_of_ble_eq_true rfl⟩ ⟨rfl, rfl, rfl, rfl, rfl, fun _ => rfl, rfl⟩ (fun uu106 q106_ => ?_) rfl
                obtain ⟨v2_106, bf2_106, tn2_106, q2_106, dr2_106⟩ := uu106
                have e106 : SetP nn n k o A B C q3 sk3 v3 tn v2_106 tn2_106 q2_106 := q106_
                clear q106_
                refine V_cast (w' := [(x0, .inr (CI_Model, [.int (nI 0), .int (nI nn), .ref x1, .ref x2, .ref x3, .ref x4, .ref x5, .ref x6, .ref x7, .ref x8, .ref x9, .ref x10, .ref x11, .int (nI n), .ref x12, .ref x13, .ref x14, .ref x15, .ref x16, .ref x17, .ref x18, .ref x19, .ref x20, .int (bP bt), .int (nI (sg + 1))])), (x1, .inl (cI, 80, .inl (cN v2_106))), (x2, .inl (cI, 80, .inl (cN bf2_106))), (x3, .inl (cI, 80, .inl (cS sk3))), (x4, .inl (cI, 80, .inl (cN tn2_106))), (x5, .inl (cI, 60, .inl (cN k))), (x6, .inl (cI, 60, .inl (cN o))), (x7, .inl (cI, 60, .inl A)), (x8, .inl (cI, 60, .inl B)), (x9, .inl (cI, 60, .inl C)), (x10, .inl (cI, 60, .inl (cN q2_106))), (x11, .inl (cI, 60, .inl (cN dr2_106)))]) rfl rfl rfl ?_
                refine V_iconst F (v := 0) d_Model_reset_109 rfl ?_
                refine V_istore_n F (lv' := [(2, .int (nI 0)), (0, .ref x0), (1, .int (nI s0))]) d_Model_reset_110 rfl (by decide) rfl ?_
                have L111 : ∀ (f_ : Nat) (i5 : Nat) (tn5 : Nat → Nat), 80 - i5 < f_ → (i5 ≤ 80) → (∀ j, j < i5 → tn5 j = 0) → V p_ l e_ ({ frames := 3, cells := 0, slots := 0, locals := 69 }) s_ m_ args_ below_ meth_ c_ A_ (MQ below_ (cQi D classes (fun (r : Int32) (u_ : (Nat → Nat) × (Nat → Nat) × (Nat → Nat) × (Nat → Nat) × (Nat → Nat) × (Nat → Nat) × (Nat → Nat) × (Nat → Nat)) => r = nI (sm tn 80) ∧ (HoldP n k C q u_.2.2.2.2.2.2.1 ∧ (∀ j, j < 80 → u_.2.2.2.2.2.2.2 j = 2 ∧ u_.2.2.1 j = 0 ∧ u_.2.2.2.1 j = 0) ∧ ∃ tn4, SetP nn n k o A B C u_.2.2.2.2.2.2.1 u_.2.2.1 u_.2.2.2.2.2.2.2 tn u_.1 tn4 u_.2.2.2.2.1)) (fun (u_ : (Nat → Nat) × (Nat → Nat) × (Nat → Nat) × (Nat → Nat) × (Nat → Nat) × (Nat → Nat) × (Nat → Nat) × (Nat → Nat)) => [(x0, .inr (CI_Model, [.int (nI 0), .int (nI nn), .ref x1, .ref x2, .ref x3, .ref x4, .ref x5, .ref x6, .ref x7, .ref x8, .ref x9, .ref x10, .ref x11, .int (nI n), .ref x12, .ref x13, .ref x14, .ref x15, .ref x16, .ref x17, .ref x18, .ref x19, .ref x20, .int (bP bt), .int (nI (sg + 1))])), (x1, .inl (cI, 80, .inl (cN u_.1))), (x2, .inl (cI, 80, .inl (cN u_.2.1))), (x3, .inl (cI, 80, .inl (cS u_.2.2.1))), (x4, .inl (cI, 80, .inl (cN u_.2.2.2.1))), (x5, .inl (cI, 60, .inl (cN k))), (x6, .inl (cI, 60, .inl (cN o))), (x7, .inl (cI, 60, .inl A)), (x8, .inl (cI, 60, .inl B)), (x9, .inl (cI, 60, .inl C)), (x10, .inl (cI, 60, .inl (cN u_.2.2.2.2.1))), (x11, .inl (cI, 60, .inl (cN u_.2.2.2.2.2.1)))]) A_) args_ s_ 0 0 A_) D classes 3 0 0 [(x0, .inr (CI_Model, [.int (nI 0), .int (nI nn), .ref x1, .ref x2, .ref x3, .ref x4, .ref x5, .ref x6, .ref x7, .ref x8, .ref x9, .ref x10, .ref x11, .int (nI n), .ref x12, .ref x13, .ref x14, .ref x15, .ref x16, .ref x17, .ref x18, .ref x19, .ref x20, .int (bP bt), .int (nI (sg + 1))])), (x1, .inl (cI, 80, .inl (cN v2_106))), (x2, .inl (cI, 80, .inl (cN bf2_106))), (x3, .inl (cI, 80, .inl (cS sk3))), (x4, .inl (cI, 80, .inl (cN tn5))), (x5, .inl (cI, 60, .inl (cN k))), (x6, .inl (cI, 60, .inl (cN o))), (x7, .inl (cI, 60, .inl A)), (x8, .inl (cI, 60, .inl B)), (x9, .inl (cI, 60, .inl C)), (x10, .inl (cI, 60, .inl (cN q2_106))), (x11, .inl (cI, 60, .inl (cN dr2_106)))] 111 [(0, .ref x0), (1, .int (nI s0)), (2, .int (nI i5))] [] := by
                  intro f_
                  induction f_ with
                  | zero => intro i5 tn5 hm_; exact absurd hm_ (Nat.not_lt_zero _)
                  | succ f_ ih111 =>
                    intro i5 tn5 hm111 hi5 ht5
                    refine V_iload_n F 2 d_Model_reset_111 rfl rfl ?_
                    refine V_bipush F (v := 80) d_Model_reset_112 rfl ?_
                    refine V_icmpn_ge F 130 (a := i5) (b := 80) (by omega) (by omega) d_Model_reset_114 (by decide) (fun h114 => ?_) (fun h114 => ?_)
                    · skip
                      refine V_iload_n F 1 d_Model_reset_130 rfl rfl ?_
                      exact V_iret F hr (v2_106, bf2_106, sk3, tn5, q2_106, dr2_106, q3, v3) (show (nI s0) = nI (sm tn 80) ∧ (HoldP n k C q q3 ∧ (∀ j, j < 80 → v3 j = 2 ∧ sk3 j = 0 ∧ tn5 j = 0) ∧ ∃ tn4, SetP nn n k o A B C q3 sk3 v3 tn v2_106 tn4 q2_106) from ⟨by rw [hs0], hq7, fun j hj => ⟨hv3 j (by omega), hk3 j (by omega), ht5 j (by omega)⟩, _, e106⟩) [0, 1, 2, 3, 4, 5, 6, 7, 8, 9, 10, 11] rfl rfl (by decide) (by decide) d_Model_reset_131
                    · skip
                      refine V_aload_n F 0 d_Model_reset_117 rfl rfl ?_
                      refine V_get F 0 CI_Model 5 i_Model rfl rfl (by decide) m_601 rfl rfl d_Model_reset_118 ?_
                      refine V_iload_n F 2 d_Model_reset_121 rfl rfl ?_
                      refine V_iconst F (v := 0) d_Model_reset_122 rfl ?_
                      refine V_top (y := nI 0) rfl ?_
                      refine V_iastn F 4 0 (k := i5) (w' := [(x0, .inr (CI_Model, [.int (nI 0), .int (nI nn), .ref x1, .ref x2, .ref x3, .ref x4, .ref x5, .ref x6, .ref x7, .ref x8, .ref x9, .ref x10, .ref x11, .int (nI n), .ref x12, .ref x13, .ref x14, .ref x15, .ref x16, .ref x17, .ref x18, .ref x19, .ref x20, .int (bP bt), .int (nI (sg + 1))])), (x1, .inl (cI, 80, .inl (cN v2_106))), (x2, .inl (cI, 80, .inl (cN bf2_106))), (x3, .inl (cI, 80, .inl (cS sk3))), (x4, .inl (cI, 80, .inl (cN (up tn5 i5 0)))), (x5, .inl (cI, 60, .inl (cN k))), (x6, .inl (cI, 60, .inl (cN o))), (x7, .inl (cI, 60, .inl A)), (x8, .inl (cI, 60, .inl B)), (x9, .inl (cI, 60, .inl C)), (x10, .inl (cI, 60, .inl (cN q2_106))), (x11, .inl (cI, 60, .inl (cN dr2_106)))]) rfl rfl (by omega) (by decide) (by rw [upd_cN] <;> rfl) d_Model_reset_123 ?_
                      refine V_iinc F 2 (v := nI (i5 + 1)) (lv' := [(2, .int (nI (i5 + 1))), (0, .ref x0), (1, .int (nI s0))]) d_Model_reset_124 rfl (nI_inc _) (by decide) rfl ?_
                      refine V_goto F 111 d_Model_reset_127 (by decide) ?_
                      refine V_lv [1, 2, 0] rfl ?_
                      exact ih111 (i5 + 1) (up tn5 i5 0) (by omega) (by first | assumption | omega | (simp only [] at *; omega)) (up_all (f := fun _ => 0) ht5 rfl)
                refine V_lv [1, 2, 0] rfl ?_
                exact L111 ((80 - 0) + 1) 0 tn2_106 (Nat.lt_succ_self _) (by first | assumption | omega | (simp only [] at *; omega)) (fun t h => absurd h (Nat.not_lt_zero t))
            · skip
              have hk8 := (hw i (by omega)).1
              refine V_aload_n F 0 d_Model_reset_54 rfl rfl ?_
              refine V_get F 0 CI_Model 6 i_Model rfl rfl (by decide) m_602 rfl rfl d_Model_reset_55 ?_
              refine V_iload_n F 2 d_Model_reset_58 rfl rfl ?_
              refine V_ialdnN F 5 0 (k := i) rfl rfl (by omega) (by decide) d_Model_reset_59 ?_
              refine V_bipush F (v := 6) d_Model_reset_60 rfl ?_
              refine V_icmpn_le F 92 (a := k i) (b := 6) (by omega) (by omega) d_Model_reset_62 (by decide) (fun h62 => ?_) (fun h62 => ?_)
              · skip
                refine V_iinc F 2 (v := nI (i + 1)) (lv' := [(2, .int (nI (i + 1))), (0, .ref x0), (1, .int (nI s0))]) d_Model_reset_92 rfl (nI_inc _) (by decide) rfl ?_
                refine V_goto F 46 d_Model_reset_95 (by decide) ?_
                refine V_lv [1, 2, 0] rfl ?_
                exact ih46 (i + 1) q3 (by omega) (by first | assumption | omega | (simp only [] at *; omega)) (hold_same hI (by rw [if_neg (by omega), if_neg (by omega)]))
              · skip
                refine V_aload_n F 0 d_Model_reset_65 rfl rfl ?_
                refine V_get F 0 CI_Model 11 i_Model rfl rfl (by decide) m_607 rfl rfl d_Model_reset_66 ?_
                refine V_iload_n F 2 d_Model_reset_69 rfl rfl ?_
                refine V_aload_n F 0 d_Model_reset_70 rfl rfl ?_
                refine V_get F 0 CI_Model 6 i_Model rfl rfl (by decide) m_602 rfl rfl d_Model_reset_71 ?_
                refine V_iload_n F 2 d_Model_reset_74 rfl rfl ?_
                refine V_ialdnN F 5 0 (k := i) rfl rfl (by omega) (by decide) d_Model_reset_75 ?_
                refine V_bipush F (v := 8) d_Model_reset_76 rfl ?_
                refine V_icmpn_ne F 90 (a := k i) (b := 8) (by omega) (by omega) d_Model_reset_78 (by decide) (fun h78 => ?_) (fun h78 => ?_)
                · skip
                  refine V_iconst F (v := 2) d_Model_reset_90 rfl ?_
                  refine V_top (y := nI 2) rfl ?_
                  refine V_iastn F 10 0 (k := i) (w' := [(x0, .inr (CI_Model, [.int (nI 0), .int (nI nn), .ref x1, .ref x2, .ref x3, .ref x4, .ref x5, .ref x6, .ref x7, .ref x8, .ref x9, .ref x10, .ref x11, .int (nI n), .ref x12, .ref x13, .ref x14, .ref x15, .ref x16, .ref x17, .ref x18, .ref x19, .ref x20, .int (bP bt), .int (nI sg)])), (x1, .inl (cI, 80, .inl (cN v3))), (x2, .inl (cI, 80, .inl (cN bf))), (x3, .inl (cI, 80, .inl (cS sk3))), (x4, .inl (cI, 80, .inl (cN tn))), (x5, .inl (cI, 60, .inl (cN k))), (x6, .inl (cI, 60, .inl (cN o))), (x7, .inl (cI, 60, .inl A)), (x8, .inl (cI, 60, .inl B)), (x9, .inl (cI, 60, .inl C)), (x10, .inl (cI, 60, .inl (cN (up q3 i 2)))), (x11, .inl (cI, 60, .inl (cN dr)))]) rfl rfl (by omega) (by decide) (by rw [upd_cN] <;> rfl) d_Model_reset_91 ?_
                  refine V_iinc F 2 (v := nI (i + 1)) (lv' := [(2, .int (nI (i + 1))), (0, .ref x0), (1, .int (nI s0))]) d_Model_reset_92 rfl (nI_inc _) (by decide) rfl ?_
                  refine V_goto F 46 d_Model_reset_95 (by decide) ?_
                  refine V_lv [1, 2, 0] rfl ?_
                  exact ih46 (i + 1) (up q3 i 2) (by omega) (by first | assumption | omega | (simp only [] at *; omega)) (hold_step hI (by omega) (by rw [if_neg h78, if_pos (by omega)]))
                · skip
                  refine V_aload_n F 0 d_Model_reset_81 rfl rfl ?_
                  refine V_get F 0 CI_Model 10 i_Model rfl rfl (by decide) m_606 rfl rfl d_Model_reset_82 ?_
                  refine V_iload_n F 2 d_Model_reset_85 rfl rfl ?_
                  refine V_ialdn F 9 0 (k := i) rfl rfl (by omega) (by decide) d_Model_reset_86 ?_
                  refine V_goto F 91 d_Model_reset_87 (by decide) ?_
                  refine V_top (y := nI ((C i).toNatClampNeg)) (vin_nI ((hw i (by omega)).2.2.2 (by omega)).2 (by decide)) ?_
                  refine V_iastn F 10 0 (k := i) (w' := [(x0, .inr (CI_Model, [.int (nI 0), .int (nI nn), .ref x1, .ref x2, .ref x3, .ref x4, .ref x5, .ref x6, .ref x7, .ref x8, .ref x9, .ref x10, .ref x11, .int (nI n), .ref x12, .ref x13, .ref x14, .ref x15, .ref x16, .ref x17, .ref x18, .ref x19, .ref x20, .int (bP bt), .int (nI sg)])), (x1, .inl (cI, 80, .inl (cN v3))), (x2, .inl (cI, 80, .inl (cN bf))), (x3, .inl (cI, 80, .inl (cS sk3))), (x4, .inl (cI, 80, .inl (cN tn))), (x5, .inl (cI, 60, .inl (cN k))), (x6, .inl (cI, 60, .inl (cN o))), (x7, .inl (cI, 60, .inl A)), (x8, .inl (cI, 60, .inl B)), (x9, .inl (cI, 60, .inl C)), (x10, .inl (cI, 60, .inl (cN (up q3 i ((C i).toNatClampNeg))))), (x11, .inl (cI, 60, .inl (cN dr)))]) rfl rfl (by omega) (by decide) (by rw [upd_cN] <;> rfl) d_Model_reset_91 ?_
                  refine V_iinc F 2 (v := nI (i + 1)) (lv' := [(2, .int (nI (i + 1))), (0, .ref x0), (1, .int (nI s0))]) d_Model_reset_92 rfl (nI_inc _) (by decide) rfl ?_
                  refine V_goto F 46 d_Model_reset_95 (by decide) ?_
                  refine V_lv [1, 2, 0] rfl ?_
                  exact ih46 (i + 1) (up q3 i ((C i).toNatClampNeg)) (by omega) (by first | assumption | omega | (simp only [] at *; omega)) (hold_step hI (by omega) (by rw [if_pos h78]))
        refine V_lv [1, 2, 0] rfl ?_
        exact L46 ((n - 0) + 1) 0 q (Nat.lt_succ_self _) (by first | assumption | omega | (simp only [] at *; omega)) (fun t _ => by rw [if_neg (Nat.not_lt_zero t)])
      · skip
        refine V_iload_n F 1 d_Model_reset_15 rfl rfl ?_
        refine V_aload_n F 0 d_Model_reset_16 rfl rfl ?_
        refine V_get F 0 CI_Model 5 i_Model rfl rfl (by decide) m_601 rfl rfl d_Model_reset_17 ?_
        refine V_iload_n F 2 d_Model_reset_20 rfl rfl ?_
        refine V_ialdnN F 4 0 (k := i0) rfl rfl (by omega) (by decide) d_Model_reset_21 ?_
        refine V_iadd F d_Model_reset_22 ?_
        refine V_top (y := nI (s0 + (tn i0))) (nI_add _ _) ?_
        refine V_istore_n F (lv' := [(1, .int (nI (s0 + (tn i0)))), (0, .ref x0), (2, .int (nI i0))]) d_Model_reset_23 rfl (by decide) rfl ?_
        refine V_aload_n F 1 d_Model_reset_24 rfl rfl ?_
        refine V_get F 0 CI_Model 2 i_Model rfl rfl (by decide) m_598 rfl rfl d_Model_reset_25 ?_
        refine V_iload_n F 2 d_Model_reset_28 rfl rfl ?_
        refine V_iconst F (v := 2) d_Model_reset_29 rfl ?_
        refine V_top (y := nI 2) rfl ?_
        refine V_iastn F 1 0 (k := i0) (w' := [(x0, .inr (CI_Model, [.int (nI 0), .int (nI nn), .ref x1, .ref x2, .ref x3, .ref x4, .ref x5, .ref x6, .ref x7, .ref x8, .ref x9, .ref x10, .ref x11, .int (nI n), .ref x12, .ref x13, .ref x14, .ref x15, .ref x16, .ref x17, .ref x18, .ref x19, .ref x20, .int (bP bt), .int (nI sg)])), (x1, .inl (cI, 80, .inl (cN (up v3 i0 2)))), (x2, .inl (cI, 80, .inl (cN bf))), (x3, .inl (cI, 80, .inl (cS sk3))), (x4, .inl (cI, 80, .inl (cN tn))), (x5, .inl (cI, 60, .inl (cN k))), (x6, .inl (cI, 60, .inl (cN o))), (x7, .inl (cI, 60, .inl A)), (x8, .inl (cI, 60, .inl B)), (x9, .inl (cI, 60, .inl C)), (x10, .inl (cI, 60, .inl (cN q))), (x11, .inl (cI, 60, .inl (cN dr)))]) rfl rfl (by omega) (by decide) (by rw [upd_cN] <;> rfl) d_Model_reset_30 ?_
        refine V_aload_n F 1 d_Model_reset_31 rfl rfl ?_
        refine V_get F 0 CI_Model 4 i_Model rfl rfl (by decide) m_600 rfl rfl d_Model_reset_32 ?_
        refine V_iload_n F 2 d_Model_reset_35 rfl rfl ?_
        refine V_iconst F (v := (-1)) d_Model_reset_36 rfl ?_
        refine V_top (y := nI 0 - 1) rfl ?_
        refine V_iastn F 3 0 (k := i0) (w' := [(x0, .inr (CI_Model, [.int (nI 0), .int (nI nn), .ref x1, .ref x2, .ref x3, .ref x4, .ref x5, .ref x6, .ref x7, .ref x8, .ref x9, .ref x10, .ref x11, .int (nI n), .ref x12, .ref x13, .ref x14, .ref x15, .ref x16, .ref x17, .ref x18, .ref x19, .ref x20, .int (bP bt), .int (nI sg)])), (x1, .inl (cI, 80, .inl (cN (up v3 i0 2)))), (x2, .inl (cI, 80, .inl (cN bf))), (x3, .inl (cI, 80, .inl (cS (up sk3 i0 0)))), (x4, .inl (cI, 80, .inl (cN tn))), (x5, .inl (cI, 60, .inl (cN k))), (x6, .inl (cI, 60, .inl (cN o))), (x7, .inl (cI, 60, .inl A)), (x8, .inl (cI, 60, .inl B)), (x9, .inl (cI, 60, .inl C)), (x10, .inl (cI, 60, .inl (cN q))), (x11, .inl (cI, 60, .inl (cN dr)))]) rfl rfl (by omega) (by decide) (by rw [upd_cS] <;> rfl) d_Model_reset_37 ?_
        refine V_iinc F 2 (v := nI (i0 + 1)) (lv' := [(2, .int (nI (i0 + 1))), (1, .int (nI (s0 + (tn i0)))), (0, .ref x0)]) d_Model_reset_38 rfl (nI_inc _) (by decide) rfl ?_
        refine V_goto F 9 d_Model_reset_41 (by decide) ?_
        refine V_lv [2, 1, 0] rfl ?_
        exact ih9 (i0 + 1) (s0 + (tn i0)) (up v3 i0 2) (up sk3 i0 0) (by omega) (by first | assumption | omega | (simp only [] at *; omega)) (by rw [hs0]; rfl) (up_all (f := fun _ => 2) hv3 rfl) (up_all (f := fun _ => 0) hk3 rfl)
  refine V_lv [2, 1, 0] rfl ?_
  exact L9 ((80 - 0) + 1) 0 0 v sk (Nat.lt_succ_self _) (by first | assumption | omega | (simp only [] at *; omega)) rfl (fun t h => absurd h (Nat.not_lt_zero t)) (fun t h => absurd h (Nat.not_lt_zero t))
