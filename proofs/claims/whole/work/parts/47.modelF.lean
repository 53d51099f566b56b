set_option maxHeartbeats 4000000 in
set_option maxRecDepth 100000 in
theorem c_Model_value_1 (l : Launch) (D : va_G) (cI cL cB : ClassId) (x0 : Nat) (x1 : Nat) (x2 : Nat) (x3 : Nat) (x4 : Nat) (x5 : Nat) (x6 : Nat) (x7 : Nat) (x8 : Nat) (x9 : Nat) (x10 : Nat) (x11 : Nat) (x12 : Nat) (x13 : Nat) (x14 : Nat) (x15 : Nat) (x16 : Nat) (x17 : Nat) (x18 : Nat) (x19 : Nat) (x20 : Nat) (th : Nat) (nn : Nat) (n : Nat) (sg : Nat) (bt : Prop) (x : Int32) (h40 : 1 ≤ nn) (hnn : nn ≤ 80) (hx : ¬ vp_in x nn) : Cti l y_Model_value (wK w_Model_value) ({ frames := 1, cells := 0, slots := 0, locals := 22 }) D classes (TY cI cL cB) [.ref x0, .int x] [(x0, .inr (CI_Model, [.int (nI th), .int (nI nn), .ref x1, .ref x2, .ref x3, .ref x4, .ref x5, .ref x6, .ref x7, .ref x8, .ref x9, .ref x10, .ref x11, .int (nI n), .ref x12, .ref x13, .ref x14, .ref x15, .ref x16, .ref x17, .ref x18, .ref x19, .ref x20, .int (bP bt), .int (nI sg)]))] (fun (r : Int32) (u_ : Unit) => r = nI 0) (fun (u_ : Unit) => [(x0, .inr (CI_Model, [.int (nI 1), .int (nI nn), .ref x1, .ref x2, .ref x3, .ref x4, .ref x5, .ref x6, .ref x7, .ref x8, .ref x9, .ref x10, .ref x11, .int (nI n), .ref x12, .ref x13, .ref x14, .ref x15, .ref x16, .ref x17, .ref x18, .ref x19, .ref x20, .int (bP bt), .int (nI sg)]))]) 0 0 := by
  refine Ctg_of (cc := prog_9_method_31_code) (maxL := 2) (ret := (some .int)) "CircuitSimulatorModel" [(0, .ref x0), (1, .int x)] (by decide) rfl rfl (Nat.le_of_ble_eq_true rfl) rfl ?_
  intro p_ e_ s_ m_ args_ below_ meth_ c_ A_ F hr hin
  refine V_aload_n F 0 d_Model_value_0 rfl rfl ?_
  refine V_iconst F (v := 0) d_Model_value_1 rfl ?_
  refine V_put F 0 CI_Model 0 (w' := [(x0, .inr (CI_Model, [.int (nI 0), .int (nI nn), .ref x1, .ref x2, .ref x3, .ref x4, .ref x5, .ref x6, .ref x7, .ref x8, .ref x9, .ref x10, .ref x11, .int (nI n), .ref x12, .ref x13, .ref x14, .ref x15, .ref x16, .ref x17, .ref x18, .ref x19, .ref x20, .int (bP bt), .int (nI sg)]))]) t_Model tk_Model n_Model i_Model rfl rfl (by decide) m_596 rfl rfl rfl rfl (Nat.le_of_ble_eq_true rfl) rfl d_Model_value_2 ?_
  refine V_iload_n F 1 d_Model_value_5 rfl rfl ?_
  refine V_iconst F (v := 0) d_Model_value_6 rfl ?_
  refine V_aload_n F 0 d_Model_value_7 rfl rfl ?_
  refine V_get F 0 CI_Model 1 i_Model rfl rfl (by decide) m_597 rfl rfl d_Model_value_8 ?_
  refine V_iconst F (v := 1) d_Model_value_11 rfl ?_
  refine V_isub F d_Model_value_12 ?_
  refine V_top (y := nI (nn - 1)) (pk_sub (a := nn) (b := 1) (by omega)) ?_
  refine V_callS_i (w1 := fun (u_ : Unit) => [(x0, .inr (CI_Model, [.int (nI 0), .int (nI nn), .ref x1, .ref x2, .ref x3, .ref x4, .ref x5, .ref x6, .ref x7, .ref x8, .ref x9, .ref x10, .ref x11, .int (nI n), .ref x12, .ref x13, .ref x14, .ref x15, .ref x16, .ref x17, .ref x18, .ref x19, .ref x20, .int (bP bt), .int (nI sg)]))]) (wr := [(x0, .inr (CI_Model, [.int (nI 0), .int (nI nn), .ref x1, .ref x2, .ref x3, .ref x4, .ref x5, .ref x6, .ref x7, .ref x8, .ref x9, .ref x10, .ref x11, .int (nI n), .ref x12, .ref x13, .ref x14, .ref x15, .ref x16, .ref x17, .ref x18, .ref x19, .ref x20, .int (bP bt), .int (nI sg)]))]) (isC := []) (isR := [0]) (pm := [0]) (As := [.int x, .int 0, .int (nI (nn - 1))]) (rest := []) F (c_Model_in l D cI cL cB x 0 (nI (nn - 1)) ) (cS_S 3 F.ts m_680 m_681 m_42 m_682 (by decide +kernel) ⟨Nat.le_of_ble_eq_true rfl, Nat.le_of_ble_eq_true rfl⟩) rfl (Nat.le_of_ble_eq_true rfl) d_Model_value_13 ⟨Nat.le_of_ble_eq_true rfl, Nat.le_of_ble_eq_true rfl⟩ ⟨rfl, rfl, rfl, rfl, rfl, fun _ => rfl, rfl⟩ (fun r13 uu13 q13_ => ?_) rfl
  subst q13_
  refine V_top (y := bP (vp_in x nn)) (bP_c (in_iff (m := nn) (by omega) (by omega))) ?_
  refine V_ifb_eq F 28 d_Model_value_16 (by decide) (fun h16 => ?_) (fun h16 => ?_)
  · skip
    refine V_aload_n F 0 d_Model_value_28 rfl rfl ?_
    refine V_iconst F (v := 1) d_Model_value_29 rfl ?_
    refine V_callV_i (w1 := fun (u_ : Unit) => [(x0, .inr (CI_Model, [.int (nI 1), .int (nI nn), .ref x1, .ref x2, .ref x3, .ref x4, .ref x5, .ref x6, .ref x7, .ref x8, .ref x9, .ref x10, .ref x11, .int (nI n), .ref x12, .ref x13, .ref x14, .ref x15, .ref x16, .ref x17, .ref x18, .ref x19, .ref x20, .int (bP bt), .int (nI sg)]))]) (wr := []) (isC := [0]) (isR := []) (pm := [0]) (As := [.int 1]) (rest := []) F (c_Model_raise l D cI cL cB x0 x1 x2 x3 x4 x5 x6 x7 x8 x9 x10 x11 x12 x13 x14 x15 x16 x17 x18 x19 x20 0 nn n sg bt 1 ) (cS_V 1 F.ts m_689 m_690 m_18 m_42 m_691 (by decide +kernel) ⟨Nat.le_of_ble_eq_true rfl, Nat.le_of_ble_eq_true rfl⟩) (ci := CI_Model) (q0 := 0) rfl rfl rfl (Nat.le_of_ble_eq_true rfl) d_Model_value_30 ⟨Nat.le_of_ble_eq_true rfl, Nat.le_of_ble_eq_true rfl⟩ ⟨rfl, rfl, rfl, rfl, rfl, fun _ => rfl, rfl⟩ (fun r30 uu30 q30_ => ?_) rfl
    subst q30_
    exact V_iret F hr () rfl [0] rfl rfl (by decide) (by decide) d_Model_value_33
  · skip
    exact False.elim (hx h16)

set_option maxHeartbeats 4000000 in
set_option maxRecDepth 100000 in
theorem c_Model_value_0 (l : Launch) (D : va_G) (cI cL cB : ClassId) (x0 : Nat) (x1 : Nat) (x2 : Nat) (x3 : Nat) (x4 : Nat) (x5 : Nat) (x6 : Nat) (x7 : Nat) (x8 : Nat) (x9 : Nat) (x10 : Nat) (x11 : Nat) (x12 : Nat) (x13 : Nat) (x14 : Nat) (x15 : Nat) (x16 : Nat) (x17 : Nat) (x18 : Nat) (x19 : Nat) (x20 : Nat) (th : Nat) (nn : Nat) (n : Nat) (sg : Nat) (bt : Prop) (v : Nat → Nat) (j : Nat) (h40 : 1 ≤ nn) (hnn : nn ≤ 80) (hj : j < nn) : Cti l y_Model_value (wK w_Model_value) ({ frames := 1, cells := 0, slots := 0, locals := 22 }) D classes (TY cI cL cB) [.ref x0, .int (nI j)] [(x0, .inr (CI_Model, [.int (nI th), .int (nI nn), .ref x1, .ref x2, .ref x3, .ref x4, .ref x5, .ref x6, .ref x7, .ref x8, .ref x9, .ref x10, .ref x11, .int (nI n), .ref x12, .ref x13, .ref x14, .ref x15, .ref x16, .ref x17, .ref x18, .ref x19, .ref x20, .int (bP bt), .int (nI sg)])), (x1, .inl (cI, 80, .inl (cN v)))] (fun (r : Int32) (u_ : Unit) => r = nI (v j)) (fun (u_ : Unit) => [(x0, .inr (CI_Model, [.int (nI 0), .int (nI nn), .ref x1, .ref x2, .ref x3, .ref x4, .ref x5, .ref x6, .ref x7, .ref x8, .ref x9, .ref x10, .ref x11, .int (nI n), .ref x12, .ref x13, .ref x14, .ref x15, .ref x16, .ref x17, .ref x18, .ref x19, .ref x20, .int (bP bt), .int (nI sg)])), (x1, .inl (cI, 80, .inl (cN v)))]) 0 0 := by
  refine Ctg_of (cc := prog_9_method_31_code) (maxL := 2) (ret := (some .int)) "CircuitSimulatorModel" [(0, .ref x0), (1, .int (nI j))] (by decide) rfl rfl (Nat.le_of_ble_eq_true rfl) rfl ?_
  intro p_ e_ s_ m_ args_ below_ meth_ c_ A_ F hr hin
  refine V_aload_n F 0 d_Model_value_0 rfl rfl ?_
  refine V_iconst F (v := 0) d_Model_value_1 rfl ?_
  refine V_put F 0 CI_Model 0 (w' := [(x0, .inr (CI_Model, [.int (nI 0), .int (nI nn), .ref x1, .ref x2, .ref x3, .ref x4, .ref x5, .ref x6, .ref x7, .ref x8, .ref x9, .ref x10, .ref x11, .int (nI n), .ref x12, .ref x13, .ref x14, .ref x15, .ref x16, .ref x17, .ref x18, .ref x19, .ref x20, .int (bP bt), .int (nI sg)])), (x1, .inl (cI, 80, .inl (cN v)))]) t_Model tk_Model n_Model i_Model rfl rfl (by decide) m_596 rfl rfl rfl rfl (Nat.le_of_ble_eq_true rfl) rfl d_Model_value_2 ?_
  refine V_iload_n F 1 d_Model_value_5 rfl rfl ?_
  refine V_iconst F (v := 0) d_Model_value_6 rfl ?_
  refine V_aload_n F 0 d_Model_value_7 rfl rfl ?_
  refine V_get F 0 CI_Model 1 i_Model rfl rfl (by decide) m_597 rfl rfl d_Model_value_8 ?_
  refine V_iconst F (v := 1) d_Model_value_11 rfl ?_
  refine V_isub F d_Model_value_12 ?_
  refine V_top (y := nI (nn - 1)) (pk_sub (a := nn) (b := 1) (by omega)) ?_
  refine V_callS_i (w1 := fun (u_ : Unit) => [(x0, .inr (CI_Model, [.int (nI 0), .int (nI nn), .ref x1, .ref x2, .ref x3, .ref x4, .ref x5, .ref x6, .ref x7, .ref x8, .ref x9, .ref x10, .ref x11, .int (nI n), .ref x12, .ref x13, .ref x14, .ref x15, .ref x16, .ref x17, .ref x18, .ref x19, .ref x20, .int (bP bt), .int (nI sg)])), (x1, .inl (cI, 80, .inl (cN v)))]) (wr := [(x0, .inr (CI_Model, [.int (nI 0), .int (nI nn), .ref x1, .ref x2, .ref x3, .ref x4, .ref x5, .ref x6, .ref x7, .ref x8, .ref x9, .ref x10, .ref x11, .int (nI n), .ref x12, .ref x13, .ref x14, .ref x15, .ref x16, .ref x17, .ref x18, .ref x19, .ref x20, .int (bP bt), .int (nI sg)])), (x1, .inl (cI, 80, .inl (cN v)))]) (isC := []) (isR := [0, 1]) (pm := [0, 1]) (As := [.int (nI j), .int 0, .int (nI (nn - 1))]) (rest := []) F (c_Model_in l D cI cL cB (nI j) 0 (nI (nn - 1)) ) (cS_S 3 F.ts m_680 m_681 m_42 m_682 (by decide +kernel) ⟨Nat.le_of_ble_eq_true rfl, Nat.le_of_ble_eq_true rfl⟩) rfl (Nat.le_of_ble_eq_true rfl) d_Model_value_13 ⟨Nat.le_of_ble_eq_true rfl, Nat.le_of_ble_eq_true rfl⟩ ⟨rfl, rfl, rfl, rfl, rfl, fun _ => rfl, rfl⟩ (fun r13 uu13 q13_ => ?_) rfl
  subst q13_
  refine V_top (y := bP (vp_in (nI j) nn)) (bP_c (in_iff (m := nn) (by omega) (by omega))) ?_
  refine V_ifb_eq F 28 d_Model_value_16 (by decide) (fun h16 => ?_) (fun h16 => ?_)
  · skip
    exact False.elim (h16 (vp_in_nI (by omega) (by omega)))
  · skip
    refine V_aload_n F 0 d_Model_value_19 rfl rfl ?_
    refine V_get F 0 CI_Model 2 i_Model rfl rfl (by decide) m_598 rfl rfl d_Model_value_20 ?_
    refine V_iload_n F 1 d_Model_value_23 rfl rfl ?_
    refine V_ialdnN F 1 0 (k := j) rfl rfl (by omega) (by decide) d_Model_value_24 ?_
    refine V_goto F 33 d_Model_value_25 (by decide) ?_
    exact V_iret F hr () rfl [0, 1] rfl rfl (by decide) (by decide) d_Model_value_33

set_option maxHeartbeats 4000000 in
set_option maxRecDepth 100000 in
theorem c_Model_flips_1 (l : Launch) (D : va_G) (cI cL cB : ClassId) (x0 : Nat) (x1 : Nat) (x2 : Nat) (x3 : Nat) (x4 : Nat) (x5 : Nat) (x6 : Nat) (x7 : Nat) (x8 : Nat) (x9 : Nat) (x10 : Nat) (x11 : Nat) (x12 : Nat) (x13 : Nat) (x14 : Nat) (x15 : Nat) (x16 : Nat) (x17 : Nat) (x18 : Nat) (x19 : Nat) (x20 : Nat) (th : Nat) (nn : Nat) (n : Nat) (sg : Nat) (bt : Prop) (x : Int32) (h40 : 1 ≤ nn) (hnn : nn ≤ 80) (hx : ¬ vp_in x nn) : Cti l y_Model_flips (wK w_Model_flips) ({ frames := 1, cells := 0, slots := 0, locals := 22 }) D classes (TY cI cL cB) [.ref x0, .int x] [(x0, .inr (CI_Model, [.int (nI th), .int (nI nn), .ref x1, .ref x2, .ref x3, .ref x4, .ref x5, .ref x6, .ref x7, .ref x8, .ref x9, .ref x10, .ref x11, .int (nI n), .ref x12, .ref x13, .ref x14, .ref x15, .ref x16, .ref x17, .ref x18, .ref x19, .ref x20, .int (bP bt), .int (nI sg)]))] (fun (r : Int32) (u_ : Unit) => r = nI 0) (fun (u_ : Unit) => [(x0, .inr (CI_Model, [.int (nI 1), .int (nI nn), .ref x1, .ref x2, .ref x3, .ref x4, .ref x5, .ref x6, .ref x7, .ref x8, .ref x9, .ref x10, .ref x11, .int (nI n), .ref x12, .ref x13, .ref x14, .ref x15, .ref x16, .ref x17, .ref x18, .ref x19, .ref x20, .int (bP bt), .int (nI sg)]))]) 0 0 := by
  refine Ctg_of (cc := prog_9_method_33_code) (maxL := 2) (ret := (some .int)) "CircuitSimulatorModel" [(0, .ref x0), (1, .int x)] (by decide) rfl rfl (Nat.le_of_ble_eq_true rfl) rfl ?_
  intro p_ e_ s_ m_ args_ below_ meth_ c_ A_ F hr hin
  refine V_aload_n F 0 d_Model_flips_0 rfl rfl ?_
  refine V_iconst F (v := 0) d_Model_flips_1 rfl ?_
  refine V_put F 0 CI_Model 0 (w' := [(x0, .inr (CI_Model, [.int (nI 0), .int (nI nn), .ref x1, .ref x2, .ref x3, .ref x4, .ref x5, .ref x6, .ref x7, .ref x8, .ref x9, .ref x10, .ref x11, .int (nI n), .ref x12, .ref x13, .ref x14, .ref x15, .ref x16, .ref x17, .ref x18, .ref x19, .ref x20, .int (bP bt), .int (nI sg)]))]) t_Model tk_Model n_Model i_Model rfl rfl (by decide) m_596 rfl rfl rfl rfl (Nat.le_of_ble_eq_true rfl) rfl d_Model_flips_2 ?_
  refine V_iload_n F 1 d_Model_flips_5 rfl rfl ?_
  refine V_iconst F (v := 0) d_Model_flips_6 rfl ?_
  refine V_aload_n F 0 d_Model_flips_7 rfl rfl ?_
  refine V_get F 0 CI_Model 1 i_Model rfl rfl (by decide) m_597 rfl rfl d_Model_flips_8 ?_
  refine V_iconst F (v := 1) d_Model_flips_11 rfl ?_
  refine V_isub F d_Model_flips_12 ?_
  refine V_top (y := nI (nn - 1)) (pk_sub (a := nn) (b := 1) (by omega)) ?_
  refine V_callS_i (w1 := fun (u_ : Unit) => [(x0, .inr (CI_Model, [.int (nI 0), .int (nI nn), .ref x1, .ref x2, .ref x3, .ref x4, .ref x5, .ref x6, .ref x7, .ref x8, .ref x9, .ref x10, .ref x11, .int (nI n), .ref x12, .ref x13, .ref x14, .ref x15, .ref x16, .ref x17, .ref x18, .ref x19, .ref x20, .int (bP bt), .int (nI sg)]))]) (wr := [(x0, .inr (CI_Model, [.int (nI 0), .int (nI nn), .ref x1, .ref x2, .ref x3, .ref x4, .ref x5, .ref x6, .ref x7, .ref x8, .ref x9, .ref x10, .ref x11, .int (nI n), .ref x12, .ref x13, .ref x14, .ref x15, .ref x16, .ref x17, .ref x18, .ref x19, .ref x20, .int (bP bt), .int (nI sg)]))]) (isC := []) (isR := [0]) (pm := [0]) (As := [.int x, .int 0, .int (nI (nn - 1))]) (rest := []) F (c_Model_in l D cI cL cB x 0 (nI (nn - 1)) ) (cS_S 3 F.ts m_680 m_681 m_42 m_682 (by decide +kernel) ⟨Nat.le_of_ble_eq_true rfl, Nat.le_of_ble_eq_true rfl⟩) rfl (Nat.le_of_ble_eq_true rfl) d_Model_flips_13 ⟨Nat.le_of_ble_eq_true rfl, Nat.le_of_ble_eq_true rfl⟩ ⟨rfl, rfl, rfl, rfl, rfl, fun _ => rfl, rfl⟩ (fun r13 uu13 q13_ => ?_) rfl
  subst q13_
  refine V_top (y := bP (vp_in x nn)) (bP_c (in_iff (m := nn) (by omega) (by omega))) ?_
  refine V_ifb_eq F 28 d_Model_flips_16 (by decide) (fun h16 => ?_) (fun h16 => ?_)
  · skip
    refine V_aload_n F 0 d_Model_flips_28 rfl rfl ?_
    refine V_iconst F (v := 1) d_Model_flips_29 rfl ?_
    refine V_callV_i (w1 := fun (u_ : Unit) => [(x0, .inr (CI_Model, [.int (nI 1), .int (nI nn), .ref x1, .ref x2, .ref x3, .ref x4, .ref x5, .ref x6, .ref x7, .ref x8, .ref x9, .ref x10, .ref x11, .int (nI n), .ref x12, .ref x13, .ref x14, .ref x15, .ref x16, .ref x17, .ref x18, .ref x19, .ref x20, .int (bP bt), .int (nI sg)]))]) (wr := []) (isC := [0]) (isR := []) (pm := [0]) (As := [.int 1]) (rest := []) F (c_Model_raise l D cI cL cB x0 x1 x2 x3 x4 x5 x6 x7 x8 x9 x10 x11 x12 x13 x14 x15 x16 x17 x18 x19 x20 0 nn n sg bt 1 ) (cS_V 1 F.ts m_689 m_690 m_18 m_42 m_691 (by decide +kernel) ⟨Nat.le_of_ble_eq_true rfl, Nat.le_of_ble_eq_true rfl⟩) (ci := CI_Model) (q0 := 0) rfl rfl rfl (Nat.le_of_ble_eq_true rfl) d_Model_flips_30 ⟨Nat.le_of_ble_eq_true rfl, Nat.le_of_ble_eq_true rfl⟩ ⟨rfl, rfl, rfl, rfl, rfl, fun _ => rfl, rfl⟩ (fun r30 uu30 q30_ => ?_) rfl
    subst q30_
    exact V_iret F hr () rfl [0] rfl rfl (by decide) (by decide) d_Model_flips_33
  · skip
    exact False.elim (hx h16)

set_option maxHeartbeats 4000000 in
set_option maxRecDepth 100000 in
theorem c_Model_flips_0 (l : Launch) (D : va_G) (cI cL cB : ClassId) (x0 : Nat) (x1 : Nat) (x2 : Nat) (x3 : Nat) (x4 : Nat) (x5 : Nat) (x6 : Nat) (x7 : Nat) (x8 : Nat) (x9 : Nat) (x10 : Nat) (x11 : Nat) (x12 : Nat) (x13 : Nat) (x14 : Nat) (x15 : Nat) (x16 : Nat) (x17 : Nat) (x18 : Nat) (x19 : Nat) (x20 : Nat) (th : Nat) (nn : Nat) (n : Nat) (sg : Nat) (bt : Prop) (tn : Nat → Nat) (j : Nat) (h40 : 1 ≤ nn) (hnn : nn ≤ 80) (hj : j < nn) : Cti l y_Model_flips (wK w_Model_flips) ({ frames := 1, cells := 0, slots := 0, locals := 22 }) D classes (TY cI cL cB) [.ref x0, .int (nI j)] [(x0, .inr (CI_Model, [.int (nI th), .int (nI nn), .ref x1, .ref x2, .ref x3, .ref x4, .ref x5, .ref x6, .ref x7, .ref x8, .ref x9, .ref x10, .ref x11, .int (nI n), .ref x12, .ref x13, .ref x14, .ref x15, .ref x16, .ref x17, .ref x18, .ref x19, .ref x20, .int (bP bt), .int (nI sg)])), (x4, .inl (cI, 80, .inl (cN tn)))] (fun (r : Int32) (u_ : Unit) => r = nI (tn j)) (fun (u_ : Unit) => [(x0, .inr (CI_Model, [.int (nI 0), .int (nI nn), .ref x1, .ref x2, .ref x3, .ref x4, .ref x5, .ref x6, .ref x7, .ref x8, .ref x9, .ref x10, .ref x11, .int (nI n), .ref x12, .ref x13, .ref x14, .ref x15, .ref x16, .ref x17, .ref x18, .ref x19, .ref x20, .int (bP bt), .int (nI sg)])), (x4, .inl (cI, 80, .inl (cN tn)))]) 0 0 := by
  refine Ctg_of (cc := prog_9_method_33_code) (maxL := 2) (ret := (some .int)) "CircuitSimulatorModel" [(0, .ref x0), (1, .int (nI j))] (by decide) rfl rfl (Nat.le_of_ble_eq_true rfl) rfl ?_
  intro p_ e_ s_ m_ args_ below_ meth_ c_ A_ F hr hin
  refine V_aload_n F 0 d_Model_flips_0 rfl rfl ?_
  refine V_iconst F (v := 0) d_Model_flips_1 rfl ?_
  refine V_put F 0 CI_Model 0 (w' := [(x0, .inr (CI_Model, [.int (nI 0), .int (nI nn), .ref x1, .ref x2, .ref x3, .ref x4, .ref x5, .ref x6, .ref x7, .ref x8, .ref x9, .ref x10, .ref x11, .int (nI n), .ref x12, .ref x13, .ref x14, .ref x15, .ref x16, .ref x17, .ref x18, .ref x19, .ref x20, .int (bP bt), .int (nI sg)])), (x4, .inl (cI, 80, .inl (cN tn)))]) t_Model tk_Model n_Model i_Model rfl rfl (by decide) m_596 rfl rfl rfl rfl (Nat.le_of_ble_eq_true rfl) rfl d_Model_flips_2 ?_
  refine V_iload_n F 1 d_Model_flips_5 rfl rfl ?_
  refine V_iconst F (v := 0) d_Model_flips_6 rfl ?_
  refine V_aload_n F 0 d_Model_flips_7 rfl rfl ?_
  refine V_get F 0 CI_Model 1 i_Model rfl rfl (by decide) m_597 rfl rfl d_Model_flips_8 ?_
  refine V_iconst F (v := 1) d_Model_flips_11 rfl ?_
  refine V_isub F d_Model_flips_12 ?_
  refine V_top (y := nI (nn - 1)) (pk_sub (a := nn) (b := 1) (by omega)) ?_
  refine V_callS_i (w1 := fun (u_ : Unit) => [(x0, .inr (CI_Model, [.int (nI 0), .int (nI nn), .ref x1, .ref x2, .ref x3, .ref x4, .ref x5, .ref x6, .ref x7, .ref x8, .ref x9, .ref x10, .ref x11, .int (nI n), .ref x12, .ref x13, .ref x14, .ref x15, .ref x16, .ref x17, .ref x18, .ref x19, .ref x20, .int (bP bt), .int (nI sg)])), (x4, .inl (cI, 80, .inl (cN tn)))]) (wr := [(x0, .inr (CI_Model, [.int (nI 0), .int (nI nn), .ref x1, .ref x2, .ref x3, .ref x4, .ref x5, .ref x6, .ref x7, .ref x8, .ref x9, .ref x10, .ref x11, .int (nI n), .ref x12, .ref x13, .ref x14, .ref x15, .ref x16, .ref x17, .ref x18, .ref x19, .ref x20, .int (bP bt), .int (nI sg)])), (x4, .inl (cI, 80, .inl (cN tn)))]) (isC := []) (isR := [0, 1]) (pm := [0, 1]) (As := [.int (nI j), .int 0, .int (nI (nn - 1))]) (rest := []) F (c_Model_in l D cI cL cB (nI j) 0 (nI (nn - 1)) ) (cS_S 3 F.ts m_680 m_681 m_42 m_682 (by decide +kernel) ⟨Nat.le_of_ble_eq_true rfl, Nat.le_of_ble_eq_true rfl⟩) rfl (Nat.le_of_ble_eq_true rfl) d_Model_flips_13 ⟨Nat.le_of_ble_eq_true rfl, Nat.le_of_ble_eq_true rfl⟩ ⟨rfl, rfl, rfl, rfl, rfl, fun _ => rfl, rfl⟩ (fun r13 uu13 q13_ => ?_) rfl
  subst q13_
  refine V_top (y := bP (vp_in (nI j) nn)) (bP_c (in_iff (m := nn) (by omega) (by omega))) ?_
  refine V_ifb_eq F 28 d_Model_flips_16 (by decide) (fun h16 => ?_) (fun h16 => ?_)
  · skip
    exact False.elim (h16 (vp_in_nI (by omega) (by omega)))
  · skip
    refine V_aload_n F 0 d_Model_flips_19 rfl rfl ?_
    refine V_get F 0 CI_Model 5 i_Model rfl rfl (by decide) m_601 rfl rfl d_Model_flips_20 ?_
    refine V_iload_n F 1 d_Model_flips_23 rfl rfl ?_
    refine V_ialdnN F 1 0 (k := j) rfl rfl (by omega) (by decide) d_Model_flips_24 ?_
    refine V_goto F 33 d_Model_flips_25 (by decide) ?_
    exact V_iret F hr () rfl [0, 1] rfl rfl (by decide) (by decide) d_Model_flips_33

set_option maxHeartbeats 4000000 in
set_option maxRecDepth 100000 in
theorem c_Model_level_1 (l : Launch) (D : va_G) (cI cL cB : ClassId) (x0 : Nat) (x1 : Nat) (x2 : Nat) (x3 : Nat) (x4 : Nat) (x5 : Nat) (x6 : Nat) (x7 : Nat) (x8 : Nat) (x9 : Nat) (x10 : Nat) (x11 : Nat) (x12 : Nat) (x13 : Nat) (x14 : Nat) (x15 : Nat) (x16 : Nat) (x17 : Nat) (x18 : Nat) (x19 : Nat) (x20 : Nat) (th : Nat) (nn : Nat) (n : Nat) (sg : Nat) (bt : Prop) (x : Int32) (h40 : 1 ≤ nn) (hnn : nn ≤ 80) (hx : ¬ vp_in x nn) : Cti l y_Model_level (wK w_Model_level) ({ frames := 1, cells := 0, slots := 0, locals := 22 }) D classes (TY cI cL cB) [.ref x0, .int x] [(x0, .inr (CI_Model, [.int (nI th), .int (nI nn), .ref x1, .ref x2, .ref x3, .ref x4, .ref x5, .ref x6, .ref x7, .ref x8, .ref x9, .ref x10, .ref x11, .int (nI n), .ref x12, .ref x13, .ref x14, .ref x15, .ref x16, .ref x17, .ref x18, .ref x19, .ref x20, .int (bP bt), .int (nI sg)]))] (fun (r : Int32) (u_ : Unit) => r = nI 0) (fun (u_ : Unit) => [(x0, .inr (CI_Model, [.int (nI 1), .int (nI nn), .ref x1, .ref x2, .ref x3, .ref x4, .ref x5, .ref x6, .ref x7, .ref x8, .ref x9, .ref x10, .ref x11, .int (nI n), .ref x12, .ref x13, .ref x14, .ref x15, .ref x16, .ref x17, .ref x18, .ref x19, .ref x20, .int (bP bt), .int (nI sg)]))]) 0 0 := by
  refine Ctg_of (cc := prog_9_method_32_code) (maxL := 2) (ret := (some .int)) "CircuitSimulatorModel" [(0, .ref x0), (1, .int x)] (by decide) rfl rfl (Nat.le_of_ble_eq_true rfl) rfl ?_
  intro p_ e_ s_ m_ args_ below_ meth_ c_ A_ F hr hin
  refine V_aload_n F 0 d_Model_level_0 rfl rfl ?_
  refine V_iconst F (v := 0) d_Model_level_1 rfl ?_
  refine V_put F 0 CI_Model 0 (w' := [(x0, .inr (CI_Model, [.int (nI 0), .int (nI nn), .ref x1, .ref x2, .ref x3, .ref x4, .ref x5, .ref x6, .ref x7, .ref x8, .ref x9, .ref x10, .ref x11, .int (nI n), .ref x12, .ref x13, .ref x14, .ref x15, .ref x16, .ref x17, .ref x18, .ref x19, .ref x20, .int (bP bt), .int (nI sg)]))]) t_Model tk_Model n_Model i_Model rfl rfl (by decide) m_596 rfl rfl rfl rfl (Nat.le_of_ble_eq_true rfl) rfl d_Model_level_2 ?_
  refine V_iload_n F 1 d_Model_level_5 rfl rfl ?_
  refine V_iconst F (v := 0) d_Model_level_6 rfl ?_
  refine V_aload_n F 0 d_Model_level_7 rfl rfl ?_
  refine V_get F 0 CI_Model 1 i_Model rfl rfl (by decide) m_597 rfl rfl d_Model_level_8 ?_
  refine V_iconst F (v := 1) d_Model_level_11 rfl ?_
  refine V_isub F d_Model_level_12 ?_
  refine V_top (y := nI (nn - 1)) (pk_sub (a := nn) (b := 1) (by omega)) ?_
  refine V_callS_i (w1 := fun (u_ : Unit) => [(x0, .inr (CI_Model, [.int (nI 0), .int (nI nn), .ref x1, .ref x2, .ref x3, .ref x4, .ref x5, .ref x6, .ref x7, .ref x8, .ref x9, .ref x10, .ref x11, .int (nI n), .ref x12, .ref x13, .ref x14, .ref x15, .ref x16, .ref x17, .ref x18, .ref x19, .ref x20, .int (bP bt), .int (nI sg)]))]) (wr := [(x0, .inr (CI_Model, [.int (nI 0), .int (nI nn), .ref x1, .ref x2, .ref x3, .ref x4, .ref x5, .ref x6, .ref x7, .ref x8, .ref x9, .ref x10, .ref x11, .int (nI n), .ref x12, .ref x13, .ref x14, .ref x15, .ref x16, .ref x17, .ref x18, .ref x19, .ref x20, .int (bP bt), .int (nI sg)]))]) (isC := []) (isR := [0]) (pm := [0]) (As := [.int x, .int 0, .int (nI (nn - 1))]) (rest := []) F (c_Model_in l D cI cL cB x 0 (nI (nn - 1)) ) (cS_S 3 F.ts m_680 m_681 m_42 m_682 (by decide +kernel) ⟨Nat.le_of_ble_eq_true rfl, Nat.le_of_ble_eq_true rfl⟩) rfl (Nat.le_of_ble_eq_true rfl) d_Model_level_13 ⟨Nat.le_of_ble_eq_true rfl, Nat.le_of_ble_eq_true rfl⟩ ⟨rfl, rfl, rfl, rfl, rfl, fun _ => rfl, rfl⟩ (fun r13 uu13 q13_ => ?_) rfl
  subst q13_
  refine V_top (y := bP (vp_in x nn)) (bP_c (in_iff (m := nn) (by omega) (by omega))) ?_
  refine V_ifb_ne F 25 d_Model_level_16 (by decide) (fun h16 => ?_) (fun h16 => ?_)
  · skip
    exact False.elim (hx h16)
  · skip
    refine V_aload_n F 0 d_Model_level_19 rfl rfl ?_
    refine V_iconst F (v := 1) d_Model_level_20 rfl ?_
    refine V_callV_i (w1 := fun (u_ : Unit) => [(x0, .inr (CI_Model, [.int (nI 1), .int (nI nn), .ref x1, .ref x2, .ref x3, .ref x4, .ref x5, .ref x6, .ref x7, .ref x8, .ref x9, .ref x10, .ref x11, .int (nI n), .ref x12, .ref x13, .ref x14, .ref x15, .ref x16, .ref x17, .ref x18, .ref x19, .ref x20, .int (bP bt), .int (nI sg)]))]) (wr := []) (isC := [0]) (isR := []) (pm := [0]) (As := [.int 1]) (rest := []) F (c_Model_raise l D cI cL cB x0 x1 x2 x3 x4 x5 x6 x7 x8 x9 x10 x11 x12 x13 x14 x15 x16 x17 x18 x19 x20 0 nn n sg bt 1 ) (cS_V 1 F.ts m_689 m_690 m_18 m_42 m_691 (by decide +kernel) ⟨Nat.le_of_ble_eq_true rfl, Nat.le_of_ble_eq_true rfl⟩) (ci := CI_Model) (q0 := 0) rfl rfl rfl (Nat.le_of_ble_eq_true rfl) d_Model_level_21 ⟨Nat.le_of_ble_eq_true rfl, Nat.le_of_ble_eq_true rfl⟩ ⟨rfl, rfl, rfl, rfl, rfl, fun _ => rfl, rfl⟩ (fun r21 uu21 q21_ => ?_) rfl
    subst q21_
    exact V_iret F hr () rfl [0] rfl rfl (by decide) (by decide) d_Model_level_24

set_option maxHeartbeats 4000000 in
set_option maxRecDepth 100000 in
theorem c_Model_level_2 (l : Launch) (D : va_G) (cI cL cB : ClassId) (x0 : Nat) (x1 : Nat) (x2 : Nat) (x3 : Nat) (x4 : Nat) (x5 : Nat) (x6 : Nat) (x7 : Nat) (x8 : Nat) (x9 : Nat) (x10 : Nat) (x11 : Nat) (x12 : Nat) (x13 : Nat) (x14 : Nat) (x15 : Nat) (x16 : Nat) (x17 : Nat) (x18 : Nat) (x19 : Nat) (x20 : Nat) (th : Nat) (nn : Nat) (n : Nat) (sg : Nat) (bt : Prop) (j : Nat) (h40 : 1 ≤ nn) (hnn : nn ≤ 80) (hj : j < nn) (hb : ¬ bt) : Cti l y_Model_level (wK w_Model_level) ({ frames := 1, cells := 0, slots := 0, locals := 22 }) D classes (TY cI cL cB) [.ref x0, .int (nI j)] [(x0, .inr (CI_Model, [.int (nI th), .int (nI nn), .ref x1, .ref x2, .ref x3, .ref x4, .ref x5, .ref x6, .ref x7, .ref x8, .ref x9, .ref x10, .ref x11, .int (nI n), .ref x12, .ref x13, .ref x14, .ref x15, .ref x16, .ref x17, .ref x18, .ref x19, .ref x20, .int (bP bt), .int (nI sg)]))] (fun (r : Int32) (u_ : Unit) => r = nI 0) (fun (u_ : Unit) => [(x0, .inr (CI_Model, [.int (nI 2), .int (nI nn), .ref x1, .ref x2, .ref x3, .ref x4, .ref x5, .ref x6, .ref x7, .ref x8, .ref x9, .ref x10, .ref x11, .int (nI n), .ref x12, .ref x13, .ref x14, .ref x15, .ref x16, .ref x17, .ref x18, .ref x19, .ref x20, .int (bP bt), .int (nI sg)]))]) 0 0 := by
  refine Ctg_of (cc := prog_9_method_32_code) (maxL := 2) (ret := (some .int)) "CircuitSimulatorModel" [(0, .ref x0), (1, .int (nI j))] (by decide) rfl rfl (Nat.le_of_ble_eq_true rfl) rfl ?_
  intro p_ e_ s_ m_ args_ below_ meth_ c_ A_ F hr hin
  refine V_aload_n F 0 d_Model_level_0 rfl rfl ?_
  refine V_iconst F (v := 0) d_Model_level_1 rfl ?_
  refine V_put F 0 CI_Model 0 (w' := [(x0, .inr (CI_Model, [.int (nI 0), .int (nI nn), .ref x1, .ref x2, .ref x3, .ref x4, .ref x5, .ref x6, .ref x7, .ref x8, .ref x9, .ref x10, .ref x11, .int (nI n), .ref x12, .ref x13, .ref x14, .ref x15, .ref x16, .ref x17, .ref x18, .ref x19, .ref x20, .int (bP bt), .int (nI sg)]))]) t_Model tk_Model n_Model i_Model rfl rfl (by decide) m_596 rfl rfl rfl rfl (Nat.le_of_ble_eq_true rfl) rfl d_Model_level_2 ?_
  refine V_iload_n F 1 d_Model_level_5 rfl rfl ?_
  refine V_iconst F (v := 0) d_Model_level_6 rfl ?_
  refine V_aload_n F 0 d_Model_level_7 rfl rfl ?_
  refine V_get F 0 CI_Model 1 i_Model rfl rfl (by decide) m_597 rfl rfl d_Model_level_8 ?_
  refine V_iconst F (v := 1) d_Model_level_11 rfl ?_
  refine V_isub F d_Model_level_12 ?_
  refine V_top (y := nI (nn - 1)) (pk_sub (a := nn) (b := 1) (by omega)) ?_
  refine V_callS_i (w1 := fun (u_ : Unit) => [(x0, .inr (CI_Model, [.int (nI 0), .int (nI nn), .ref x1, .ref x2, .ref x3, .ref x4, .ref x5, .ref x6, .ref x7, .ref x8, .ref x9, .ref x10, .ref x11, .int (nI n), .ref x12, .ref x13, .ref x14, .ref x15, .ref x16, .ref x17, .ref x18, .ref x19, .ref x20, .int (bP bt), .int (nI sg)]))]) (wr := [(x0, .inr (CI_Model, [.int (nI 0), .int (nI nn), .ref x1, .ref x2, .ref x3, .ref x4, .ref x5, .ref x6, .ref x7, .ref x8, .ref x9, .ref x10, .ref x11, .int (nI n), .ref x12, .ref x13, .ref x14, .ref x15, .ref x16, .ref x17, .ref x18, .ref x19, .ref x20, .int (bP bt), .int (nI sg)]))]) (isC := []) (isR := [0]) (pm := [0]) (As := [.int (nI j), .int 0, .int (nI (nn - 1))]) (rest := []) F (c_Model_in l D cI cL cB (nI j) 0 (nI (nn - 1)) ) (cS_S 3 F.ts m_680 m_681 m_42 m_682 (by decide +kernel) ⟨Nat.le_of_ble_eq_true rfl, Nat.le_of_ble_eq_true rfl⟩) rfl (Nat.le_of_ble_eq_true rfl) d_Model_level_13 ⟨Nat.le_of_ble_eq_true rfl, Nat.le_of_ble_eq_true rfl⟩ ⟨rfl, rfl, rfl, rfl, rfl, fun _ => rfl, rfl⟩ (fun r13 uu13 q13_ => ?_) rfl
  subst q13_
  refine V_top (y := bP (vp_in (nI j) nn)) (bP_c (in_iff (m := nn) (by omega) (by omega))) ?_
  refine V_ifb_ne F 25 d_Model_level_16 (by decide) (fun h16 => ?_) (fun h16 => ?_)
  · skip
    refine V_aload_n F 0 d_Model_level_25 rfl rfl ?_
    refine V_get F 0 CI_Model 23 i_Model rfl rfl (by decide) m_619 rfl rfl d_Model_level_26 ?_
    refine V_ifb_eq F 40 d_Model_level_29 (by decide) (fun h29 => ?_) (fun h29 => ?_)
    · skip
      refine V_aload_n F 0 d_Model_level_40 rfl rfl ?_
      refine V_iconst F (v := 2) d_Model_level_41 rfl ?_
      refine V_callV_i (w1 := fun (u_ : Unit) => [(x0, .inr (CI_Model, [.int (nI 2), .int (nI nn), .ref x1, .ref x2, .ref x3, .ref x4, .ref x5, .ref x6, .ref x7, .ref x8, .ref x9, .ref x10, .ref x11, .int (nI n), .ref x12, .ref x13, .ref x14, .ref x15, .ref x16, .ref x17, .ref x18, .ref x19, .ref x20, .int (bP bt), .int (nI sg)]))]) (wr := []) (isC := [0]) (isR := []) (pm := [0]) (As := [.int 2]) (rest := []) F (c_Model_raise l D cI cL cB x0 x1 x2 x3 x4 x5 x6 x7 x8 x9 x10 x11 x12 x13 x14 x15 x16 x17 x18 x19 x20 0 nn n sg bt 2 ) (cS_V 1 F.ts m_689 m_690 m_18 m_42 m_691 (by decide +kernel) ⟨Nat.le_of_ble_eq_true rfl, Nat.le_of_ble_eq_true rfl⟩) (ci := CI_Model) (q0 := 0) rfl rfl rfl (Nat.le_of_ble_eq_true rfl) d_Model_level_42 ⟨Nat.le_of_ble_eq_true rfl, Nat.le_of_ble_eq_true rfl⟩ ⟨rfl, rfl, rfl, rfl, rfl, fun _ => rfl, rfl⟩ (fun r42 uu42 q42_ => ?_) rfl
      subst q42_
      exact V_iret F hr () rfl [0] rfl rfl (by decide) (by decide) d_Model_level_45
    · skip
      exact False.elim (hb h29)
  · skip
    exact False.elim (h16 (vp_in_nI (by omega) (by omega)))

set_option maxHeartbeats 4000000 in
set_option maxRecDepth 100000 in
theorem c_Model_level_0 (l : Launch) (D : va_G) (cI cL cB : ClassId) (x0 : Nat) (x1 : Nat) (x2 : Nat) (x3 : Nat) (x4 : Nat) (x5 : Nat) (x6 : Nat) (x7 : Nat) (x8 : Nat) (x9 : Nat) (x10 : Nat) (x11 : Nat) (x12 : Nat) (x13 : Nat) (x14 : Nat) (x15 : Nat) (x16 : Nat) (x17 : Nat) (x18 : Nat) (x19 : Nat) (x20 : Nat) (th : Nat) (nn : Nat) (n : Nat) (sg : Nat) (bt : Prop) (bf : Nat → Nat) (k : Nat → Nat) (o : Nat → Nat) (A : Nat → Int32) (B : Nat → Int32) (C : Nat → Int32) (j : Nat) (hn : n ≤ 60) (hnn : nn ≤ 80) (hw : WfC nn n k o A B C) (h40 : 1 ≤ nn) (hj : j < nn) (hb : bt) : Cti l y_Model_level (wK w_Model_level) ({ frames := 2, cells := 0, slots := 0, locals := 46 }) D classes (TY cI cL cB) [.ref x0, .int (nI j)] [(x0, .inr (CI_Model, [.int (nI th), .int (nI nn), .ref x1, .ref x2, .ref x3, .ref x4, .ref x5, .ref x6, .ref x7, .ref x8, .ref x9, .ref x10, .ref x11, .int (nI n), .ref x12, .ref x13, .ref x14, .ref x15, .ref x16, .ref x17, .ref x18, .ref x19, .ref x20, .int (bP bt), .int (nI sg)])), (x2, .inl (cI, 80, .inl (cN bf))), (x5, .inl (cI, 60, .inl (cN k))), (x6, .inl (cI, 60, .inl (cN o))), (x7, .inl (cI, 60, .inl A)), (x8, .inl (cI, 60, .inl B)), (x9, .inl (cI, 60, .inl C))] (fun (r : Int32) (u_ : (Nat → Nat)) => r = nI (u_ j) ∧ (LI n k o A B C 80 0 u_)) (fun (u_ : (Nat → Nat)) => [(x0, .inr (CI_Model, [.int (nI 0), .int (nI nn), .ref x1, .ref x2, .ref x3, .ref x4, .ref x5, .ref x6, .ref x7, .ref x8, .ref x9, .ref x10, .ref x11, .int (nI n), .ref x12, .ref x13, .ref x14, .ref x15, .ref x16, .ref x17, .ref x18, .ref x19, .ref x20, .int (bP bt), .int (nI sg)])), (x2, .inl (cI, 80, .inl (cN u_))), (x5, .inl (cI, 60, .inl (cN k))), (x6, .inl (cI, 60, .inl (cN o))), (x7, .inl (cI, 60, .inl A)), (x8, .inl (cI, 60, .inl B)), (x9, .inl (cI, 60, .inl C))]) 0 0 := by
  refine Ctg_of (cc := prog_9_method_32_code) (maxL := 2) (ret := (some .int)) "CircuitSimulatorModel" [(0, .ref x0), (1, .int (nI j))] (by decide) rfl rfl (Nat.le_of_ble_eq_true rfl) rfl ?_
  intro p_ e_ s_ m_ args_ below_ meth_ c_ A_ F hr hin
  refine V_aload_n F 0 d_Model_level_0 rfl rfl ?_
  refine V_iconst F (v := 0) d_Model_level_1 rfl ?_
  refine V_put F 0 CI_Model 0 (w' := [(x0, .inr (CI_Model, [.int (nI 0), .int (nI nn), .ref x1, .ref x2, .ref x3, .ref x4, .ref x5, .ref x6, .ref x7, .ref x8, .ref x9, .ref x10, .ref x11, .int (nI n), .ref x12, .ref x13, .ref x14, .ref x15, .ref x16, .ref x17, .ref x18, .ref x19, .ref x20, .int (bP bt), .int (nI sg)])), (x2, .inl (cI, 80, .inl (cN bf))), (x5, .inl (cI, 60, .inl (cN k))), (x6, .inl (cI, 60, .inl (cN o))), (x7, .inl (cI, 60, .inl A)), (x8, .inl (cI, 60, .inl B)), (x9, .inl (cI, 60, .inl C))]) t_Model tk_Model n_Model i_Model rfl rfl (by decide) m_596 rfl rfl rfl rfl (Nat.le_of_ble_eq_true rfl) rfl d_Model_level_2 ?_
  refine V_iload_n F 1 d_Model_level_5 rfl rfl ?_
  refine V_iconst F (v := 0) d_Model_level_6 rfl ?_
  refine V_aload_n F 0 d_Model_level_7 rfl rfl ?_
  refine V_get F 0 CI_Model 1 i_Model rfl rfl (by decide) m_597 rfl rfl d_Model_level_8 ?_
  refine V_iconst F (v := 1) d_Model_level_11 rfl ?_
  refine V_isub F d_Model_level_12 ?_
  refine V_top (y := nI (nn - 1)) (pk_sub (a := nn) (b := 1) (by omega)) ?_
  refine V_callS_i (w1 := fun (u_ : Unit) => [(x0, .inr (CI_Model, [.int (nI 0), .int (nI nn), .ref x1, .ref x2, .ref x3, .ref x4, .ref x5, .ref x6, .ref x7, .ref x8, .ref x9, .ref x10, .ref x11, .int (nI n), .ref x12, .ref x13, .ref x14, .ref x15, .ref x16, .ref x17, .ref x18, .ref x19, .ref x20, .int (bP bt), .int (nI sg)])), (x2, .inl (cI, 80, .inl (cN bf))), (x5, .inl (cI, 60, .inl (cN k))), (x6, .inl (cI, 60, .inl (cN o))), (x7, .inl (cI, 60, .inl A)), (x8, .inl (cI, 60, .inl B)), (x9, .inl (cI, 60, .inl C))]) (wr := [(x0, .inr (CI_Model, [.int (nI 0), .int (nI nn), .ref x1, .ref x2, .ref x3, .ref x4, .ref x5, .ref x6, .ref x7, .ref x8, .ref x9, .ref x10, .ref x11, .int (nI n), .ref x12, .ref x13, .ref x14, .ref x15, .ref x16, .ref x17, .ref x18, .ref x19, .ref x20, .int (bP bt), .int (nI sg)])), (x2, .inl (cI, 80, .inl (cN bf))), (x5, .inl (cI, 60, .inl (cN k))), (x6, .inl (cI, 60, .inl (cN o))), (x7, .inl (cI, 60, .inl A)), (x8, .inl (cI, 60, .inl B)), (x9, .inl (cI, 60, .inl C))]) (isC := []) (isR := [0, 1, 2, 3, 4, 5, 6]) (pm := [0, 1, 2, 3, 4, 5, 6]) (As := [.int (nI j), .int 0, .int (nI (nn - 1))]) (rest := []) F (c_Model_in l D cI cL cB (nI j) 0 (nI (nn - 1)) ) (cS_S 3 F.ts m_680 m_681 m_42 m_682 (by decide +kernel) ⟨Nat.le_of_ble_eq_true rfl, Nat.le_of_ble_eq_true rfl⟩) rfl (Nat.le_of_ble_eq_true rfl) d_Model_level_13 ⟨Nat.le_of_ble_eq_true rfl, Nat.le_of_ble_eq_true rfl⟩ ⟨rfl, rfl, rfl, rfl, rfl, fun _ => rfl, rfl⟩ (fun r13 uu13 q13_ => ?_) rfl
  subst q13_
  refine V_top (y := bP (vp_in (nI j) nn)) (bP_c (in_iff (m := nn) (by omega) (by omega))) ?_
  refine V_ifb_ne F 25 d_Model_level_16 (by decide) (fun h16 => ?_) (fun h16 => ?_)
  · skip
    refine V_aload_n F 0 d_Model_level_25 rfl rfl ?_
    refine V_get F 0 CI_Model 23 i_Model rfl rfl (by decide) m_619 rfl rfl d_Model_level_26 ?_
    refine V_ifb_eq F 40 d_Model_level_29 (by decide) (fun h29 => ?_) (fun h29 => ?_)
    · skip
      exact False.elim (h29 hb)
    · skip
      refine V_aload_n F 0 d_Model_level_32 rfl rfl ?_
      refine V_iload_n F 1 d_Model_level_33 rfl rfl ?_
      refine V_callV_i (w1 := fun (u_ : (Nat → Nat)) => [(x0, .inr (CI_Model, [.int (nI 0), .int (nI nn), .ref x1, .ref x2, .ref x3, .ref x4, .ref x5, .ref x6, .ref x7, .ref x8, .ref x9, .ref x10, .ref x11, .int (nI n), .ref x12, .ref x13, .ref x14, .ref x15, .ref x16, .ref x17, .ref x18, .ref x19, .ref x20, .int (bP bt), .int (nI sg)])), (x2, .inl (cI, 80, .inl (cN u_))), (x5, .inl (cI, 60, .inl (cN k))), (x6, .inl (cI, 60, .inl (cN o))), (x7, .inl (cI, 60, .inl A)), (x8, .inl (cI, 60, .inl B)), (x9, .inl (cI, 60, .inl C))]) (wr := []) (isC := [0, 1, 2, 3, 4, 5, 6]) (isR := []) (pm := [0, 1, 2, 3, 4, 5, 6]) (As := [.int (nI j)]) (rest := []) F (c_Model_levelOf_n l D cI cL cB x0 x1 x2 x3 x4 x5 x6 x7 x8 x9 x10 x11 x12 x13 x14 x15 x16 x17 x18 x19 x20 0 nn n sg bt bf k o A B C j (by first | assumption | omega | (simp only [] at *; omega)) (by first | assumption | omega | (simp only [] at *; omega)) (by first | assumption | omega | (simp only [] at *; omega)) (by first | assumption | omega | (simp only [] at *; omega))) (cS_V 1 F.ts m_734 m_735 m_29 m_42 m_736 (by decide +kernel) ⟨Nat.le_of_ble_eq_true rfl, Nat.le_of_ble_eq_true rfl⟩) (ci := CI_Model) (q0 := 0) rfl rfl rfl (Nat.le_of_ble_eq_true rfl) d_Model_level_34 ⟨Nat.le_of_ble_eq_true rfl, Nat.le_of_ble_eq_true rfl⟩ ⟨rfl, rfl, rfl, rfl, rfl, fun _ => rfl, rfl⟩ (fun r34 uu34 q34_ => ?_) rfl
      obtain ⟨bf2_34, rfl⟩ : ∃ z, z = uu34 := ⟨_, rfl⟩
      have e34 : r34 = nI (bf2_34 j) ∧ (LI n k o A B C 80 0 bf2_34) := q34_
      clear q34_
      obtain ⟨er34, e34⟩ := e34
      subst er34
      refine V_goto F 45 d_Model_level_37 (by decide) ?_
      exact V_iret F hr bf2_34 ⟨rfl, e34⟩ [0, 1, 2, 3, 4, 5, 6] rfl rfl (by decide) (by decide) d_Model_level_45
  · skip
    exact False.elim (h16 (vp_in_nI (by omega) (by omega)))

set_option maxHeartbeats 4000000 in
set_option maxRecDepth 100000 in
theorem c_Model_state_1 (l : Launch) (D : va_G) (cI cL cB : ClassId) (x0 : Nat) (x1 : Nat) (x2 : Nat) (x3 : Nat) (x4 : Nat) (x5 : Nat) (x6 : Nat) (x7 : Nat) (x8 : Nat) (x9 : Nat) (x10 : Nat) (x11 : Nat) (x12 : Nat) (x13 : Nat) (x14 : Nat) (x15 : Nat) (x16 : Nat) (x17 : Nat) (x18 : Nat) (x19 : Nat) (x20 : Nat) (th : Nat) (nn : Nat) (n : Nat) (sg : Nat) (bt : Prop) (k : Nat → Nat) (x : Int32) (hn : n ≤ 60) (hk : ∀ i, i < n → k i ≤ 8) (hx : ¬ (vp_in x n ∧ 6 < k x.toNatClampNeg)) : Cti l y_Model_state (wK w_Model_state) ({ frames := 1, cells := 0, slots := 0, locals := 22 }) D classes (TY cI cL cB) [.ref x0, .int x] [(x0, .inr (CI_Model, [.int (nI th), .int (nI nn), .ref x1, .ref x2, .ref x3, .ref x4, .ref x5, .ref x6, .ref x7, .ref x8, .ref x9, .ref x10, .ref x11, .int (nI n), .ref x12, .ref x13, .ref x14, .ref x15, .ref x16, .ref x17, .ref x18, .ref x19, .ref x20, .int (bP bt), .int (nI sg)])), (x5, .inl (cI, 60, .inl (cN k)))] (fun (r : Int32) (u_ : Unit) => r = nI 0) (fun (u_ : Unit) => [(x0, .inr (CI_Model, [.int (nI 1), .int (nI nn), .ref x1, .ref x2, .ref x3, .ref x4, .ref x5, .ref x6, .ref x7, .ref x8, .ref x9, .ref x10, .ref x11, .int (nI n), .ref x12, .ref x13, .ref x14, .ref x15, .ref x16, .ref x17, .ref x18, .ref x19, .ref x20, .int (bP bt), .int (nI sg)])), (x5, .inl (cI, 60, .inl (cN k)))]) 0 0 := by
  refine Ctg_of (cc := prog_9_method_34_code) (maxL := 2) (ret := (some .int)) "CircuitSimulatorModel" [(0, .ref x0), (1, .int x)] (by decide) rfl rfl (Nat.le_of_ble_eq_true rfl) rfl ?_
  intro p_ e_ s_ m_ args_ below_ meth_ c_ A_ F hr hin
  refine V_aload_n F 0 d_Model_state_0 rfl rfl ?_
  refine V_iconst F (v := 0) d_Model_state_1 rfl ?_
  refine V_put F 0 CI_Model 0 (w' := [(x0, .inr (CI_Model, [.int (nI 0), .int (nI nn), .ref x1, .ref x2, .ref x3, .ref x4, .ref x5, .ref x6, .ref x7, .ref x8, .ref x9, .ref x10, .ref x11, .int (nI n), .ref x12, .ref x13, .ref x14, .ref x15, .ref x16, .ref x17, .ref x18, .ref x19, .ref x20, .int (bP bt), .int (nI sg)])), (x5, .inl (cI, 60, .inl (cN k)))]) t_Model tk_Model n_Model i_Model rfl rfl (by decide) m_596 rfl rfl rfl rfl (Nat.le_of_ble_eq_true rfl) rfl d_Model_state_2 ?_
  refine V_iload_n F 1 d_Model_state_5 rfl rfl ?_
  refine V_iconst F (v := 0) d_Model_state_6 rfl ?_
  refine V_aload_n F 0 d_Model_state_7 rfl rfl ?_
  refine V_get F 0 CI_Model 13 i_Model rfl rfl (by decide) m_609 rfl rfl d_Model_state_8 ?_
  refine V_iconst F (v := 1) d_Model_state_11 rfl ?_
  refine V_isub F d_Model_state_12 ?_
  refine V_top (y := nI n - 1) rfl ?_
  refine V_callS_i (w1 := fun (u_ : Unit) => [(x0, .inr (CI_Model, [.int (nI 0), .int (nI nn), .ref x1, .ref x2, .ref x3, .ref x4, .ref x5, .ref x6, .ref x7, .ref x8, .ref x9, .ref x10, .ref x11, .int (nI n), .ref x12, .ref x13, .ref x14, .ref x15, .ref x16, .ref x17, .ref x18, .ref x19, .ref x20, .int (bP bt), .int (nI sg)])), (x5, .inl (cI, 60, .inl (cN k)))]) (wr := [(x0, .inr (CI_Model, [.int (nI 0), .int (nI nn), .ref x1, .ref x2, .ref x3, .ref x4, .ref x5, .ref x6, .ref x7, .ref x8, .ref x9, .ref x10, .ref x11, .int (nI n), .ref x12, .ref x13, .ref x14, .ref x15, .ref x16, .ref x17, .ref x18, .ref x19, .ref x20, .int (bP bt), .int (nI sg)])), (x5, .inl (cI, 60, .inl (cN k)))]) (isC := []) (isR := [0, 1]) (pm := [0, 1]) (As := [.int x, .int 0, .int (nI n - 1)]) (rest := []) F (c_Model_in l D cI cL cB x 0 (nI n - 1) ) (cS_S 3 F.ts m_680 m_681 m_42 m_682 (by decide +kernel) ⟨Nat.le_of_ble_eq_true rfl, Nat.le_of_ble_eq_true rfl⟩) rfl (Nat.le_of_ble_eq_true rfl) d_Model_state_13 ⟨Nat.le_of_ble_eq_true rfl, Nat.le_of_ble_eq_true rfl⟩ ⟨rfl, rfl, rfl, rfl, rfl, fun _ => rfl, rfl⟩ (fun r13 uu13 q13_ => ?_) rfl
  subst q13_
  refine V_top (y := bP (vp_in x n)) (bP_c (in_iff2 (m := n) (by omega))) ?_
  refine V_ifb_eq F 39 d_Model_state_16 (by decide) (fun h16 => ?_) (fun h16 => ?_)
  · skip
    refine V_aload_n F 0 d_Model_state_39 rfl rfl ?_
    refine V_iconst F (v := 1) d_Model_state_40 rfl ?_
    refine V_callV_i (w1 := fun (u_ : Unit) => [(x0, .inr (CI_Model, [.int (nI 1), .int (nI nn), .ref x1, .ref x2, .ref x3, .ref x4, .ref x5, .ref x6, .ref x7, .ref x8, .ref x9, .ref x10, .ref x11, .int (nI n), .ref x12, .ref x13, .ref x14, .ref x15, .ref x16, .ref x17, .ref x18, .ref x19, .ref x20, .int (bP bt), .int (nI sg)])), (x5, .inl (cI, 60, .inl (cN k)))]) (wr := [(x5, .inl (cI, 60, .inl (cN k)))]) (isC := [0]) (isR := [1]) (pm := [1, 0]) (As := [.int 1]) (rest := []) F (c_Model_raise l D cI cL cB x0 x1 x2 x3 x4 x5 x6 x7 x8 x9 x10 x11 x12 x13 x14 x15 x16 x17 x18 x19 x20 0 nn n sg bt 1 ) (cS_V 1 F.ts m_689 m_690 m_18 m_42 m_691 (by decide +kernel) ⟨Nat.le_of_ble_eq_true rfl, Nat.le_of_ble_eq_true rfl⟩) (ci := CI_Model) (q0 := 0) rfl rfl rfl (Nat.le_of_ble_eq_true rfl) d_Model_state_41 ⟨Nat.le_of_ble_eq_true rfl, Nat.le_of_ble_eq_true rfl⟩ ⟨rfl, rfl, rfl, rfl, rfl, fun _ => rfl, rfl⟩ (fun r41 uu41 q41_ => ?_) rfl
    subst q41_
    exact V_iret F hr () rfl [0, 1] rfl rfl (by decide) (by decide) d_Model_state_44
  · skip
    have hk8 := hk _ (vp_lt h16)
    refine V_aload_n F 0 d_Model_state_19 rfl rfl ?_
    refine V_get F 0 CI_Model 6 i_Model rfl rfl (by decide) m_602 rfl rfl d_Model_state_20 ?_
    refine V_iload_n F 1 d_Model_state_23 rfl rfl ?_
    refine V_ialdN F 1 0 rfl rfl (vin_mono h16 hn) d_Model_state_24 ?_
    refine V_bipush F (v := 6) d_Model_state_25 rfl ?_
    refine V_icmpn_le F 39 (a := k (x).toNatClampNeg) (b := 6) (by omega) (by omega) d_Model_state_27 (by decide) (fun h27 => ?_) (fun h27 => ?_)
    · skip
      refine V_aload_n F 0 d_Model_state_39 rfl rfl ?_
      refine V_iconst F (v := 1) d_Model_state_40 rfl ?_
      refine V_callV_i (w1 := fun (u_ : Unit) => [(x0, .inr (CI_Model, [.int (nI 1), .int (nI nn), .ref x1, .ref x2, .ref x3, .ref x4, .ref x5, .ref x6, .ref x7, .ref x8, .ref x9, .ref x10, .ref x11, .int (nI n), .ref x12, .ref x13, .ref x14, .ref x15, .ref x16, .ref x17, .ref x18, .ref x19, .ref x20, .int (bP bt), .int (nI sg)])), (x5, .inl (cI, 60, .inl (cN k)))]) (wr := [(x5, .inl (cI, 60, .inl (cN k)))]) (isC := [0]) (isR := [1]) (pm := [1, 0]) (As := [.int 1]) (rest := []) F (c_Model_raise l D cI cL cB x0 x1 x2 x3 x4 x5 x6 x7 x8 x9 x10 x11 x12 x13 x14 x15 x16 x17 x18 x19 x20 0 nn n sg bt 1 ) (cS_V 1 F.ts m_689 m_690 m_18 m_42 m_691 (by decide +kernel) ⟨Nat.le_of_ble_eq_true rfl, Nat.le_of_ble_eq_true rfl⟩) (ci := CI_Model) (q0 := 0) rfl rfl rfl (Nat.le_of_ble_eq_true rfl) d_Model_state_41 ⟨Nat.le_of_ble_eq_true rfl, Nat.le_of_ble_eq_true rfl⟩ ⟨rfl, rfl, rfl, rfl, rfl, fun _ => rfl, rfl⟩ (fun r41_3 uu41_3 q41_3_ => ?_) rfl
      subst q41_3_
      exact V_iret F hr () rfl [0, 1] rfl rfl (by decide) (by decide) d_Model_state_44
    · skip
      exact False.elim (hx ⟨h16, h27⟩)

set_option maxHeartbeats 4000000 in
set_option maxRecDepth 100000 in
theorem c_Model_state_0 (l : Launch) (D : va_G) (cI cL cB : ClassId) (x0 : Nat) (x1 : Nat) (x2 : Nat) (x3 : Nat) (x4 : Nat) (x5 : Nat) (x6 : Nat) (x7 : Nat) (x8 : Nat) (x9 : Nat) (x10 : Nat) (x11 : Nat) (x12 : Nat) (x13 : Nat) (x14 : Nat) (x15 : Nat) (x16 : Nat) (x17 : Nat) (x18 : Nat) (x19 : Nat) (x20 : Nat) (th : Nat) (nn : Nat) (n : Nat) (sg : Nat) (bt : Prop) (k : Nat → Nat) (q : Nat → Nat) (i : Nat) (hn : n ≤ 60) (hi : i < n) (hk : k i ≤ 8) (hx : 6 < k i) : Cti l y_Model_state (wK w_Model_state) ({ frames := 1, cells := 0, slots := 0, locals := 22 }) D classes (TY cI cL cB) [.ref x0, .int (nI i)] [(x0, .inr (CI_Model, [.int (nI th), .int (nI nn), .ref x1, .ref x2, .ref x3, .ref x4, .ref x5, .ref x6, .ref x7, .ref x8, .ref x9, .ref x10, .ref x11, .int (nI n), .ref x12, .ref x13, .ref x14, .ref x15, .ref x16, .ref x17, .ref x18, .ref x19, .ref x20, .int (bP bt), .int (nI sg)])), (x5, .inl (cI, 60, .inl (cN k))), (x10, .inl (cI, 60, .inl (cN q)))] (fun (r : Int32) (u_ : Unit) => r = nI (q i)) (fun (u_ : Unit) => [(x0, .inr (CI_Model, [.int (nI 0), .int (nI nn), .ref x1, .ref x2, .ref x3, .ref x4, .ref x5, .ref x6, .ref x7, .ref x8, .ref x9, .ref x10, .ref x11, .int (nI n), .ref x12, .ref x13, .ref x14, .ref x15, .ref x16, .ref x17, .ref x18, .ref x19, .ref x20, .int (bP bt), .int (nI sg)])), (x5, .inl (cI, 60, .inl (cN k))), (x10, .inl (cI, 60, .inl (cN q)))]) 0 0 := by
  refine Ctg_of (cc := prog_9_method_34_code) (maxL := 2) (ret := (some .int)) "CircuitSimulatorModel" [(0, .ref x0), (1, .int (nI i))] (by decide) rfl rfl (Nat.le_of_ble_eq_true rfl) rfl ?_
  intro p_ e_ s_ m_ args_ below_ meth_ c_ A_ F hr hin
  refine V_aload_n F 0 d_Model_state_0 rfl rfl ?_
  refine V_iconst F (v := 0) d_Model_state_1 rfl ?_
  refine V_put F 0 CI_Model 0 (w' := [(x0, .inr (CI_Model, [.int (nI 0), .int (nI nn), .ref x1, .ref x2, .ref x3, .ref x4, .ref x5, .ref x6, .ref x7, .ref x8, .ref x9, .ref x10, .ref x11, .int (nI n), .ref x12, .ref x13, .ref x14, .ref x15, .ref x16, .ref x17, .ref x18, .ref x19, .ref x20, .int (bP bt), .int (nI sg)])), (x5, .inl (cI, 60, .inl (cN k))), (x10, .inl (cI, 60, .inl (cN q)))]) t_Model tk_Model n_Model i_Model rfl rfl (by decide) m_596 rfl rfl rfl rfl (Nat.le_of_ble_eq_true rfl) rfl d_Model_state_2 ?_
  refine V_iload_n F 1 d_Model_state_5 rfl rfl ?_
  refine V_iconst F (v := 0) d_Model_state_6 rfl ?_
  refine V_aload_n F 0 d_Model_state_7 rfl rfl ?_
  refine V_get F 0 CI_Model 13 i_Model rfl rfl (by decide) m_609 rfl rfl d_Model_state_8 ?_
  refine V_iconst F (v := 1) d_Model_state_11 rfl ?_
  refine V_isub F d_Model_state_12 ?_
  refine V_top (y := nI n - 1) rfl ?_
  refine V_callS_i (w1 := fun (u_ : Unit) => [(x0, .inr (CI_Model, [.int (nI 0), .int (nI nn), .ref x1, .ref x2, .ref x3, .ref x4, .ref x5, .ref x6, .ref x7, .ref x8, .ref x9, .ref x10, .ref x11, .int (nI n), .ref x12, .ref x13, .ref x14, .ref x15, .ref x16, .ref x17, .ref x18, .ref x19, .ref x20, .int (bP bt), .int (nI sg)])), (x5, .inl (cI, 60, .inl (cN k))), (x10, .inl (cI, 60, .inl (cN q)))]) (wr := [(x0, .inr (CI_Model, [.int (nI 0), .int (nI nn), .ref x1, .ref x2, .ref x3, .ref x4, .ref x5, .ref x6, .ref x7, .ref x8, .ref x9, .ref x10, .ref x11, .int (nI n), .ref x12, .ref x13, .ref x14, .ref x15, .ref x16, .ref x17, .ref x18, .ref x19, .ref x20, .int (bP bt), .int (nI sg)])), (x5, .inl (cI, 60, .inl (cN k))), (x10, .inl (cI, 60, .inl (cN q)))]) (isC := []) (isR := [0, 1, 2]) (pm := [0, 1, 2]) (As := [.int (nI i), .int 0, .int (nI n - 1)]) (rest := []) F (c_Model_in l D cI cL cB (nI i) 0 (nI n - 1) ) (cS_S 3 F.ts m_680 m_681 m_42 m_682 (by decide +kernel) ⟨Nat.le_of_ble_eq_true rfl, Nat.le_of_ble_eq_true rfl⟩) rfl (Nat.le_of_ble_eq_true rfl) d_Model_state_13 ⟨Nat.le_of_ble_eq_true rfl, Nat.le_of_ble_eq_true rfl⟩ ⟨rfl, rfl, rfl, rfl, rfl, fun _ => rfl, rfl⟩ (fun r13 uu13 q13_ => ?_) rfl
  subst q13_
  refine V_top (y := bP (vp_in (nI i) n)) (bP_c (in_iff2 (m := n) (by omega))) ?_
  refine V_ifb_eq F 39 d_Model_state_16 (by decide) (fun h16 => ?_) (fun h16 => ?_)
  · skip
    exact False.elim (h16 (vp_in_nI (by omega) (by omega)))
  · skip
    refine V_aload_n F 0 d_Model_state_19 rfl rfl ?_
    refine V_get F 0 CI_Model 6 i_Model rfl rfl (by decide) m_602 rfl rfl d_Model_state_20 ?_
    refine V_iload_n F 1 d_Model_state_23 rfl rfl ?_
    refine V_ialdnN F 1 0 (k := i) rfl rfl (by omega) (by decide) d_Model_state_24 ?_
    refine V_bipush F (v := 6) d_Model_state_25 rfl ?_
    refine V_icmpn_le F 39 (a := k i) (b := 6) (by omega) (by omega) d_Model_state_27 (by decide) (fun h27 => ?_) (fun h27 => ?_)
    · skip
      exact False.elim (by omega)
    · skip
      refine V_aload_n F 0 d_Model_state_30 rfl rfl ?_
      refine V_get F 0 CI_Model 11 i_Model rfl rfl (by decide) m_607 rfl rfl d_Model_state_31 ?_
      refine V_iload_n F 1 d_Model_state_34 rfl rfl ?_
      refine V_ialdnN F 2 0 (k := i) rfl rfl (by omega) (by decide) d_Model_state_35 ?_
      refine V_goto F 44 d_Model_state_36 (by decide) ?_
      exact V_iret F hr () rfl [0, 1, 2] rfl rfl (by decide) (by decide) d_Model_state_44

set_option maxHeartbeats 4000000 in
set_option maxRecDepth 100000 in
theorem c_Model_loop_1 (l : Launch) (D : va_G) (cI cL cB : ClassId) (x0 : Nat) (x1 : Nat) (x2 : Nat) (x3 : Nat) (x4 : Nat) (x5 : Nat) (x6 : Nat) (x7 : Nat) (x8 : Nat) (x9 : Nat) (x10 : Nat) (x11 : Nat) (x12 : Nat) (x13 : Nat) (x14 : Nat) (x15 : Nat) (x16 : Nat) (x17 : Nat) (x18 : Nat) (x19 : Nat) (x20 : Nat) (th : Nat) (nn : Nat) (n : Nat) (sg : Nat) (bt : Prop) (k : Nat → Nat) (o : Nat → Nat) (A : Nat → Int32) (B : Nat → Int32) (C : Nat → Int32) (X : Nat → Int64) (Y : Nat → Int64) (hn : n ≤ 60) (hnn : nn ≤ 80) (hw : WfC nn n k o A B C) (hx : ∀ j, j < nn → ¬ wOut (R0 n k o A B C) nn nn j j) : Cti l y_Model_loop (wK w_Model_loop) ({ frames := 3, cells := 0, slots := 0, locals := 65 }) D classes (TY cI cL cB) [.ref x0] [(x0, .inr (CI_Model, [.int (nI th), .int (nI nn), .ref x1, .ref x2, .ref x3, .ref x4, .ref x5, .ref x6, .ref x7, .ref x8, .ref x9, .ref x10, .ref x11, .int (nI n), .ref x12, .ref x13, .ref x14, .ref x15, .ref x16, .ref x17, .ref x18, .ref x19, .ref x20, .int (bP bt), .int (nI sg)])), (x5, .inl (cI, 60, .inl (cN k))), (x6, .inl (cI, 60, .inl (cN o))), (x7, .inl (cI, 60, .inl A)), (x8, .inl (cI, 60, .inl B)), (x9, .inl (cI, 60, .inl C)), (x19, .inl (cL, 80, .inr (.inl X))), (x20, .inl (cL, 80, .inr (.inl Y)))] (fun (r : Int32) (u_ : (Nat → Int64) × (Nat → Int64)) => r = nI 0 ∧ (True)) (fun (u_ : (Nat → Int64) × (Nat → Int64)) => [(x0, .inr (CI_Model, [.int (nI 1), .int (nI nn), .ref x1, .ref x2, .ref x3, .ref x4, .ref x5, .ref x6, .ref x7, .ref x8, .ref x9, .ref x10, .ref x11, .int (nI n), .ref x12, .ref x13, .ref x14, .ref x15, .ref x16, .ref x17, .ref x18, .ref x19, .ref x20, .int (bP bt), .int (nI sg)])), (x5, .inl (cI, 60, .inl (cN k))), (x6, .inl (cI, 60, .inl (cN o))), (x7, .inl (cI, 60, .inl A)), (x8, .inl (cI, 60, .inl B)), (x9, .inl (cI, 60, .inl C)), (x19, .inl (cL, 80, .inr (.inl u_.1))), (x20, .inl (cL, 80, .inr (.inl u_.2)))]) 0 0 := by
  refine Ctg_of (cc := prog_9_method_27_code) (maxL := 2) (ret := (some .int)) "CircuitSimulatorModel" [(0, .ref x0)] (by decide) rfl rfl (Nat.le_of_ble_eq_true rfl) rfl ?_
  intro p_ e_ s_ m_ args_ below_ meth_ c_ A_ F hr hin
  refine V_aload_n F 0 d_Model_loop_0 rfl rfl ?_
  refine V_iconst F (v := 0) d_Model_loop_1 rfl ?_
  refine V_put F 0 CI_Model 0 (w' := [(x0, .inr (CI_Model, [.int (nI 0), .int (nI nn), .ref x1, .ref x2, .ref x3, .ref x4, .ref x5, .ref x6, .ref x7, .ref x8, .ref x9, .ref x10, .ref x11, .int (nI n), .ref x12, .ref x13, .ref x14, .ref x15, .ref x16, .ref x17, .ref x18, .ref x19, .ref x20, .int (bP bt), .int (nI sg)])), (x5, .inl (cI, 60, .inl (cN k))), (x6, .inl (cI, 60, .inl (cN o))), (x7, .inl (cI, 60, .inl A)), (x8, .inl (cI, 60, .inl B)), (x9, .inl (cI, 60, .inl C)), (x19, .inl (cL, 80, .inr (.inl X))), (x20, .inl (cL, 80, .inr (.inl Y)))]) t_Model tk_Model n_Model i_Model rfl rfl (by decide) m_596 rfl rfl rfl rfl (Nat.le_of_ble_eq_true rfl) rfl d_Model_loop_2 ?_
  refine V_aload_n F 0 d_Model_loop_5 rfl rfl ?_
  refine V_callV_i (w1 := fun (u_ : (Nat → Int64) × (Nat → Int64)) => [(x0, .inr (CI_Model, [.int (nI 0), .int (nI nn), .ref x1, .ref x2, .ref x3, .ref x4, .ref x5, .ref x6, .ref x7, .ref x8, .ref x9, .ref x10, .ref x11, .int (nI n), .ref x12, .ref x13, .ref x14, .ref x15, .ref x16, .ref x17, .ref x18, .ref x19, .ref x20, .int (bP bt), .int (nI sg)])), (x5, .inl (cI, 60, .inl (cN k))), (x6, .inl (cI, 60, .inl (cN o))), (x7, .inl (cI, 60, .inl A)), (x8, .inl (cI, 60, .inl B)), (x9, .inl (cI, 60, .inl C)), (x19, .inl (cL, 80, .inr (.inl u_.1))), (x20, .inl (cL, 80, .inr (.inl u_.2)))]) (wr := []) (isC := [0, 1, 2, 3, 4, 5, 6, 7]) (isR := []) (pm := [0, 1, 2, 3, 4, 5, 6, 7]) (As := []) (rest := []) F (c_Model_looped l D cI cL cB x0 x1 x2 x3 x4 x5 x6 x7 x8 x9 x10 x11 x12 x13 x14 x15 x16 x17 x18 x19 x20 0 nn n sg bt k o A B C X Y (by first | assumption | omega | (simp only [] at *; omega)) (by first | assumption | omega | (simp only [] at *; omega)) (by first | assumption | omega | (simp only [] at *; omega))) (cS_V 0 F.ts m_719 m_720 m_24 m_42 m_721 (by decide +kernel) ⟨Nat.le_of_ble_eq_true rfl, Nat.le_of_ble_eq_true rfl⟩) (ci := CI_Model) (q0 := 0) rfl rfl rfl (Nat.le_of_ble_eq_true rfl) d_Model_loop_6 ⟨Nat.le_of_ble_eq_true rfl, Nat.le_of_ble_eq_true rfl⟩ ⟨rfl, rfl, rfl, rfl, rfl, fun _ => rfl, rfl⟩ (fun r6 uu6 q6_ => ?_) rfl
  obtain ⟨X9_6, Y9_6⟩ := uu6
  have e6 : LD (wOut (R0 n k o A B C) nn nn) nn r6 := q6_
  clear q6_
  refine V_cast (w' := [(x0, .inr (CI_Model, [.int (nI 0), .int (nI nn), .ref x1, .ref x2, .ref x3, .ref x4, .ref x5, .ref x6, .ref x7, .ref x8, .ref x9, .ref x10, .ref x11, .int (nI n), .ref x12, .ref x13, .ref x14, .ref x15, .ref x16, .ref x17, .ref x18, .ref x19, .ref x20, .int (bP bt), .int (nI sg)])), (x5, .inl (cI, 60, .inl (cN k))), (x6, .inl (cI, 60, .inl (cN o))), (x7, .inl (cI, 60, .inl A)), (x8, .inl (cI, 60, .inl B)), (x9, .inl (cI, 60, .inl C)), (x19, .inl (cL, 80, .inr (.inl X9_6))), (x20, .inl (cL, 80, .inr (.inl Y9_6)))]) rfl rfl rfl ?_
  have e6 : r6 = -1 := e6.uniq (Or.inl ⟨rfl, hx⟩)
  subst e6
  refine V_istore_n F (lv' := [(1, .int (-1)), (0, .ref x0)]) d_Model_loop_9 rfl (by decide) rfl ?_
  refine V_iload_n F 0 d_Model_loop_10 rfl rfl ?_
  refine V_if_ge F 22 d_Model_loop_11 (by decide) (fun h11 => ?_) (fun h11 => ?_)
  · skip
    exact False.elim (absurd h11 (by decide))
  · skip
    refine V_aload_n F 1 d_Model_loop_14 rfl rfl ?_
    refine V_iconst F (v := 1) d_Model_loop_15 rfl ?_
    refine V_callV_i (w1 := fun (u_ : Unit) => [(x0, .inr (CI_Model, [.int (nI 1), .int (nI nn), .ref x1, .ref x2, .ref x3, .ref x4, .ref x5, .ref x6, .ref x7, .ref x8, .ref x9, .ref x10, .ref x11, .int (nI n), .ref x12, .ref x13, .ref x14, .ref x15, .ref x16, .ref x17, .ref x18, .ref x19, .ref x20, .int (bP bt), .int (nI sg)])), (x5, .inl (cI, 60, .inl (cN k))), (x6, .inl (cI, 60, .inl (cN o))), (x7, .inl (cI, 60, .inl A)), (x8, .inl (cI, 60, .inl B)), (x9, .inl (cI, 60, .inl C)), (x19, .inl (cL, 80, .inr (.inl X9_6))), (x20, .inl (cL, 80, .inr (.inl Y9_6)))]) (wr := [(x5, .inl (cI, 60, .inl (cN k))), (x6, .inl (cI, 60, .inl (cN o))), (x7, .inl (cI, 60, .inl A)), (x8, .inl (cI, 60, .inl B)), (x9, .inl (cI, 60, .inl C)), (x19, .inl (cL, 80, .inr (.inl X9_6))), (x20, .inl (cL, 80, .inr (.inl Y9_6)))]) (isC := [0]) (isR := [1, 2, 3, 4, 5, 6, 7]) (pm := [7, 0, 1, 2, 3, 4, 5, 6]) (As := [.int 1]) (rest := []) F (c_Model_raise l D cI cL cB x0 x1 x2 x3 x4 x5 x6 x7 x8 x9 x10 x11 x12 x13 x14 x15 x16 x17 x18 x19 x20 0 nn n sg bt 1 ) (cS_V 1 F.ts m_689 m_690 m_18 m_42 m_691 (by decide +kernel) ⟨Nat.le_of_ble_eq_true rfl, Nat.le_of_ble_eq_true rfl⟩) (ci := CI_Model) (q0 := 0) rfl rfl rfl (Nat.le_of_ble_eq_true rfl) d_Model_loop_16 ⟨Nat.le_of_ble_eq_true rfl, Nat.le_of_ble_eq_true rfl⟩ ⟨rfl, rfl, rfl, rfl, rfl, fun _ => rfl, rfl⟩ (fun r16 uu16 q16_ => ?_) rfl
    subst q16_
    refine V_goto F 23 d_Model_loop_19 (by decide) ?_
    exact V_iret F hr (X9_6, Y9_6) (show (nI 0) = nI 0 ∧ (True) from ⟨rfl, trivial⟩) [0, 1, 2, 3, 4, 5, 6, 7] rfl rfl (by decide) (by decide) d_Model_loop_23

set_option maxHeartbeats 4000000 in
set_option maxRecDepth 100000 in
theorem c_Model_loop_0 (l : Launch) (D : va_G) (cI cL cB : ClassId) (x0 : Nat) (x1 : Nat) (x2 : Nat) (x3 : Nat) (x4 : Nat) (x5 : Nat) (x6 : Nat) (x7 : Nat) (x8 : Nat) (x9 : Nat) (x10 : Nat) (x11 : Nat) (x12 : Nat) (x13 : Nat) (x14 : Nat) (x15 : Nat) (x16 : Nat) (x17 : Nat) (x18 : Nat) (x19 : Nat) (x20 : Nat) (th : Nat) (nn : Nat) (n : Nat) (sg : Nat) (bt : Prop) (k : Nat → Nat) (o : Nat → Nat) (A : Nat → Int32) (B : Nat → Int32) (C : Nat → Int32) (X : Nat → Int64) (Y : Nat → Int64) (j : Nat) (hn : n ≤ 60) (hnn : nn ≤ 80) (hw : WfC nn n k o A B C) (hj : j < nn) (hx : wOut (R0 n k o A B C) nn nn j j) (hl : ∀ i, i < j → ¬ wOut (R0 n k o A B C) nn nn i i) : Cti l y_Model_loop (wK w_Model_loop) ({ frames := 3, cells := 0, slots := 0, locals := 65 }) D classes (TY cI cL cB) [.ref x0] [(x0, .inr (CI_Model, [.int (nI th), .int (nI nn), .ref x1, .ref x2, .ref x3, .ref x4, .ref x5, .ref x6, .ref x7, .ref x8, .ref x9, .ref x10, .ref x11, .int (nI n), .ref x12, .ref x13, .ref x14, .ref x15, .ref x16, .ref x17, .ref x18, .ref x19, .ref x20, .int (bP bt), .int (nI sg)])), (x5, .inl (cI, 60, .inl (cN k))), (x6, .inl (cI, 60, .inl (cN o))), (x7, .inl (cI, 60, .inl A)), (x8, .inl (cI, 60, .inl B)), (x9, .inl (cI, 60, .inl C)), (x19, .inl (cL, 80, .inr (.inl X))), (x20, .inl (cL, 80, .inr (.inl Y)))] (fun (r : Int32) (u_ : (Nat → Int64) × (Nat → Int64)) => r = nI j ∧ (True)) (fun (u_ : (Nat → Int64) × (Nat → Int64)) => [(x0, .inr (CI_Model, [.int (nI 0), .int (nI nn), .ref x1, .ref x2, .ref x3, .ref x4, .ref x5, .ref x6, .ref x7, .ref x8, .ref x9, .ref x10, .ref x11, .int (nI n), .ref x12, .ref x13, .ref x14, .ref x15, .ref x16, .ref x17, .ref x18, .ref x19, .ref x20, .int (bP bt), .int (nI sg)])), (x5, .inl (cI, 60, .inl (cN k))), (x6, .inl (cI, 60, .inl (cN o))), (x7, .inl (cI, 60, .inl A)), (x8, .inl (cI, 60, .inl B)), (x9, .inl (cI, 60, .inl C)), (x19, .inl (cL, 80, .inr (.inl u_.1))), (x20, .inl (cL, 80, .inr (.inl u_.2)))]) 0 0 := by
  refine Ctg_of (cc := prog_9_method_27_code) (maxL := 2) (ret := (some .int)) "CircuitSimulatorModel" [(0, .ref x0)] (by decide) rfl rfl (Nat.le_of_ble_eq_true rfl) rfl ?_
  intro p_ e_ s_ m_ args_ below_ meth_ c_ A_ F hr hin
  refine V_aload_n F 0 d_Model_loop_0 rfl rfl ?_
  refine V_iconst F (v := 0) d_Model_loop_1 rfl ?_
  refine V_put F 0 CI_Model 0 (w' := [(x0, .inr (CI_Model, [.int (nI 0), .int (nI nn), .ref x1, .ref x2, .ref x3, .ref x4, .ref x5, .ref x6, .ref x7, .ref x8, .ref x9, .ref x10, .ref x11, .int (nI n), .ref x12, .ref x13, .ref x14, .ref x15, .ref x16, .ref x17, .ref x18, .ref x19, .ref x20, .int (bP bt), .int (nI sg)])), (x5, .inl (cI, 60, .inl (cN k))), (x6, .inl (cI, 60, .inl (cN o))), (x7, .inl (cI, 60, .inl A)), (x8, .inl (cI, 60, .inl B)), (x9, .inl (cI, 60, .inl C)), (x19, .inl (cL, 80, .inr (.inl X))), (x20, .inl (cL, 80, .inr (.inl Y)))]) t_Model tk_Model n_Model i_Model rfl rfl (by decide) m_596 rfl rfl rfl rfl (Nat.le_of_ble_eq_true rfl) rfl d_Model_loop_2 ?_
  refine V_aload_n F 0 d_Model_loop_5 rfl rfl ?_
  refine V_callV_i (w1 := fun (u_ : (Nat → Int64) × (Nat → Int64)) => [(x0, .inr (CI_Model, [.int (nI 0), .int (nI nn), .ref x1, .ref x2, .ref x3, .ref x4, .ref x5, .ref x6, .ref x7, .ref x8, .ref x9, .ref x10, .ref x11, .int (nI n), .ref x12, .ref x13, .ref x14, .ref x15, .ref x16, .ref x17, .ref x18, .ref x19, .ref x20, .int (bP bt), .int (nI sg)])), (x5, .inl (cI, 60, .inl (cN k))), (x6, .inl (cI, 60, .inl (cN o))), (x7, .inl (cI, 60, .inl A)), (x8, .inl (cI, 60, .inl B)), (x9, .inl (cI, 60, .inl C)), (x19, .inl (cL, 80, .inr (.inl u_.1))), (x20, .inl (cL, 80, .inr (.inl u_.2)))]) (wr := []) (isC := [0, 1, 2, 3, 4, 5, 6, 7]) (isR := []) (pm := [0, 1, 2, 3, 4, 5, 6, 7]) (As := []) (rest := []) F (c_Model_looped l D cI cL cB x0 x1 x2 x3 x4 x5 x6 x7 x8 x9 x10 x11 x12 x13 x14 x15 x16 x17 x18 x19 x20 0 nn n sg bt k o A B C X Y (by first | assumption | omega | (simp only [] at *; omega)) (by first | assumption | omega | (simp only [] at *; omega)) (by first | assumption | omega | (simp only [] at *; omega))) (cS_V 0 F.ts m_719 m_720 m_24 m_42 m_721 (by decide +kernel) ⟨Nat.le_of_ble_eq_true rfl, Nat.le_of_ble_eq_true rfl⟩) (ci := CI_Model) (q0 := 0) rfl rfl rfl (Nat.le_of_ble_eq_true rfl) d_Model_loop_6 ⟨Nat.le_of_ble_eq_true rfl, Nat.le_of_ble_eq_true rfl⟩ ⟨rfl, rfl, rfl, rfl, rfl, fun _ => rfl, rfl⟩ (fun r6 uu6 q6_ => ?_) rfl
  obtain ⟨X9_6, Y9_6⟩ := uu6
  have e6 : LD (wOut (R0 n k o A B C) nn nn) nn r6 := q6_
  clear q6_
  refine V_cast (w' := [(x0, .inr (CI_Model, [.int (nI 0), .int (nI nn), .ref x1, .ref x2, .ref x3, .ref x4, .ref x5, .ref x6, .ref x7, .ref x8, .ref x9, .ref x10, .ref x11, .int (nI n), .ref x12, .ref x13, .ref x14, .ref x15, .ref x16, .ref x17, .ref x18, .ref x19, .ref x20, .int (bP bt), .int (nI sg)])), (x5, .inl (cI, 60, .inl (cN k))), (x6, .inl (cI, 60, .inl (cN o))), (x7, .inl (cI, 60, .inl A)), (x8, .inl (cI, 60, .inl B)), (x9, .inl (cI, 60, .inl C)), (x19, .inl (cL, 80, .inr (.inl X9_6))), (x20, .inl (cL, 80, .inr (.inl Y9_6)))]) rfl rfl rfl ?_
  have e6 : r6 = nI j := e6.uniq (Or.inr ⟨j, hj, rfl, hx, hl⟩)
  subst e6
  refine V_istore_n F (lv' := [(1, .int (nI j)), (0, .ref x0)]) d_Model_loop_9 rfl (by decide) rfl ?_
  refine V_iload_n F 0 d_Model_loop_10 rfl rfl ?_
  refine V_ifn_ge F 22 (a := j) (by omega) d_Model_loop_11 (by decide) (fun h11 => ?_) (fun h11 => ?_)
  · skip
    refine V_iload_n F 0 d_Model_loop_22 rfl rfl ?_
    exact V_iret F hr (X9_6, Y9_6) (show (nI j) = nI j ∧ (True) from ⟨rfl, trivial⟩) [0, 1, 2, 3, 4, 5, 6, 7] rfl rfl (by decide) (by decide) d_Model_loop_23
  · skip
    exact False.elim h11

set_option maxHeartbeats 4000000 in
set_option maxRecDepth 100000 in
theorem c_Model_build_1 (l : Launch) (D : va_G) (cI cL cB : ClassId) (x0 : Nat) (x1 : Nat) (x2 : Nat) (x3 : Nat) (x4 : Nat) (x5 : Nat) (x6 : Nat) (x7 : Nat) (x8 : Nat) (x9 : Nat) (x10 : Nat) (x11 : Nat) (x12 : Nat) (x13 : Nat) (x14 : Nat) (x15 : Nat) (x16 : Nat) (x17 : Nat) (x18 : Nat) (x19 : Nat) (x20 : Nat) (th : Nat) (nn : Nat) (n : Nat) (sg : Nat) (bt : Prop) (bf : Nat → Nat) (k : Nat → Nat) (o : Nat → Nat) (A : Nat → Int32) (B : Nat → Int32) (C : Nat → Int32) (X : Nat → Int64) (Y : Nat → Int64) (hn : n ≤ 60) (hnn : nn ≤ 80) (hw : WfC nn n k o A B C) (hx : ¬ ∃ L, Up n k o A B C L ∧ ∀ c, c < n → L (o c) ≤ 30) : Cti l y_Model_build (wK w_Model_build) ({ frames := 3, cells := 0, slots := 0, locals := 65 }) D classes (TY cI cL cB) [.ref x0] [(x0, .inr (CI_Model, [.int (nI th), .int (nI nn), .ref x1, .ref x2, .ref x3, .ref x4, .ref x5, .ref x6, .ref x7, .ref x8, .ref x9, .ref x10, .ref x11, .int (nI n), .ref x12, .ref x13, .ref x14, .ref x15, .ref x16, .ref x17, .ref x18, .ref x19, .ref x20, .int (bP bt), .int (nI sg)])), (x2, .inl (cI, 80, .inl (cN bf))), (x5, .inl (cI, 60, .inl (cN k))), (x6, .inl (cI, 60, .inl (cN o))), (x7, .inl (cI, 60, .inl A)), (x8, .inl (cI, 60, .inl B)), (x9, .inl (cI, 60, .inl C)), (x19, .inl (cL, 80, .inr (.inl X))), (x20, .inl (cL, 80, .inr (.inl Y)))] (fun (r : Int32) (u_ : (Nat → Nat) × (Nat → Int64) × (Nat → Int64)) => r = nI 0 ∧ (True)) (fun (u_ : (Nat → Nat) × (Nat → Int64) × (Nat → Int64)) => [(x0, .inr (CI_Model, [.int (nI 1), .int (nI nn), .ref x1, .ref x2, .ref x3, .ref x4, .ref x5, .ref x6, .ref x7, .ref x8, .ref x9, .ref x10, .ref x11, .int (nI n), .ref x12, .ref x13, .ref x14, .ref x15, .ref x16, .ref x17, .ref x18, .ref x19, .ref x20, .int (bP bt), .int (nI sg)])), (x2, .inl (cI, 80, .inl (cN u_.1))), (x5, .inl (cI, 60, .inl (cN k))), (x6, .inl (cI, 60, .inl (cN o))), (x7, .inl (cI, 60, .inl A)), (x8, .inl (cI, 60, .inl B)), (x9, .inl (cI, 60, .inl C)), (x19, .inl (cL, 80, .inr (.inl u_.2.1))), (x20, .inl (cL, 80, .inr (.inl u_.2.2)))]) 0 0 := by
  refine Ctg_of (cc := prog_9_method_26_code) (maxL := 2) (ret := (some .int)) "CircuitSimulatorModel" [(0, .ref x0)] (by decide) rfl rfl (Nat.le_of_ble_eq_true rfl) rfl ?_
  intro p_ e_ s_ m_ args_ below_ meth_ c_ A_ F hr hin
  refine V_aload_n F 0 d_Model_build_0 rfl rfl ?_
  refine V_iconst F (v := 0) d_Model_build_1 rfl ?_
  refine V_put F 0 CI_Model 0 (w' := [(x0, .inr (CI_Model, [.int (nI 0), .int (nI nn), .ref x1, .ref x2, .ref x3, .ref x4, .ref x5, .ref x6, .ref x7, .ref x8, .ref x9, .ref x10, .ref x11, .int (nI n), .ref x12, .ref x13, .ref x14, .ref x15, .ref x16, .ref x17, .ref x18, .ref x19, .ref x20, .int (bP bt), .int (nI sg)])), (x2, .inl (cI, 80, .inl (cN bf))), (x5, .inl (cI, 60, .inl (cN k))), (x6, .inl (cI, 60, .inl (cN o))), (x7, .inl (cI, 60, .inl A)), (x8, .inl (cI, 60, .inl B)), (x9, .inl (cI, 60, .inl C)), (x19, .inl (cL, 80, .inr (.inl X))), (x20, .inl (cL, 80, .inr (.inl Y)))]) t_Model tk_Model n_Model i_Model rfl rfl (by decide) m_596 rfl rfl rfl rfl (Nat.le_of_ble_eq_true rfl) rfl d_Model_build_2 ?_
  refine V_aload_n F 0 d_Model_build_5 rfl rfl ?_
  refine V_callV_i (w1 := fun (u_ : (Nat → Int64) × (Nat → Int64)) => [(x0, .inr (CI_Model, [.int (nI 0), .int (nI nn), .ref x1, .ref x2, .ref x3, .ref x4, .ref x5, .ref x6, .ref x7, .ref x8, .ref x9, .ref x10, .ref x11, .int (nI n), .ref x12, .ref x13, .ref x14, .ref x15, .ref x16, .ref x17, .ref x18, .ref x19, .ref x20, .int (bP bt), .int (nI sg)])), (x2, .inl (cI, 80, .inl (cN bf))), (x5, .inl (cI, 60, .inl (cN k))), (x6, .inl (cI, 60, .inl (cN o))), (x7, .inl (cI, 60, .inl A)), (x8, .inl (cI, 60, .inl B)), (x9, .inl (cI, 60, .inl C)), (x19, .inl (cL, 80, .inr (.inl u_.1))), (x20, .inl (cL, 80, .inr (.inl u_.2)))]) (wr := [(x2, .inl (cI, 80, .inl (cN bf)))]) (isC := [0, 2, 3, 4, 5, 6, 7, 8]) (isR := [1]) (pm := [1, 0, 2, 3, 4, 5, 6, 7, 8]) (As := []) (rest := []) F (c_Model_looped l D cI cL cB x0 x1 x2 x3 x4 x5 x6 x7 x8 x9 x10 x11 x12 x13 x14 x15 x16 x17 x18 x19 x20 0 nn n sg bt k o A B C X Y (by first | assumption | omega | (simp only [] at *; omega)) (by first | assumption | omega | (simp only [] at *; omega)) (by first | assumption | omega | (simp only [] at *; omega))) (cS_V 0 F.ts m_719 m_720 m_24 m_42 m_721 (by decide +kernel) ⟨Nat.le_of_ble_eq_true rfl, Nat.le_of_ble_eq_true rfl⟩) (ci := CI_Model) (q0 := 0) rfl rfl rfl (Nat.le_of_ble_eq_true rfl) d_Model_build_6 ⟨Nat.le_of_ble_eq_true rfl, Nat.le_of_ble_eq_true rfl⟩ ⟨rfl, rfl, rfl, rfl, rfl, fun _ => rfl, rfl⟩ (fun r6 uu6 q6_ => ?_) rfl
  obtain ⟨X9_6, Y9_6⟩ := uu6
  have e6 : LD (wOut (R0 n k o A B C) nn nn) nn r6 := q6_
  clear q6_
  refine V_cast (w' := [(x0, .inr (CI_Model, [.int (nI 0), .int (nI nn), .ref x1, .ref x2, .ref x3, .ref x4, .ref x5, .ref x6, .ref x7, .ref x8, .ref x9, .ref x10, .ref x11, .int (nI n), .ref x12, .ref x13, .ref x14, .ref x15, .ref x16, .ref x17, .ref x18, .ref x19, .ref x20, .int (bP bt), .int (nI sg)])), (x2, .inl (cI, 80, .inl (cN bf))), (x5, .inl (cI, 60, .inl (cN k))), (x6, .inl (cI, 60, .inl (cN o))), (x7, .inl (cI, 60, .inl A)), (x8, .inl (cI, 60, .inl B)), (x9, .inl (cI, 60, .inl C)), (x19, .inl (cL, 80, .inr (.inl X9_6))), (x20, .inl (cL, 80, .inr (.inl Y9_6)))]) rfl rfl rfl ?_
  refine V_if_lt F 18 d_Model_build_9 (by decide) (fun h9 => ?_) (fun h9 => ?_)
  · skip
    refine V_aload_n F 0 d_Model_build_18 rfl rfl ?_
    refine V_iconst F (v := (-1)) d_Model_build_19 rfl ?_
    refine V_callV_i (w1 := fun (u_ : (Nat → Nat)) => [(x0, .inr (CI_Model, [.int (nI 0), .int (nI nn), .ref x1, .ref x2, .ref x3, .ref x4, .ref x5, .ref x6, .ref x7, .ref x8, .ref x9, .ref x10, .ref x11, .int (nI n), .ref x12, .ref x13, .ref x14, .ref x15, .ref x16, .ref x17, .ref x18, .ref x19, .ref x20, .int (bP bt), .int (nI sg)])), (x2, .inl (cI, 80, .inl (cN u_))), (x5, .inl (cI, 60, .inl (cN k))), (x6, .inl (cI, 60, .inl (cN o))), (x7, .inl (cI, 60, .inl A)), (x8, .inl (cI, 60, .inl B)), (x9, .inl (cI, 60, .inl C)), (x19, .inl (cL, 80, .inr (.inl X9_6))), (x20, .inl (cL, 80, .inr (.inl Y9_6)))]) (wr := [(x19, .inl (cL, 80, .inr (.inl X9_6))), (x20, .inl (cL, 80, .inr (.inl Y9_6)))]) (isC := [0, 1, 2, 3, 4, 5, 6]) (isR := [7, 8]) (pm := [2, 3, 4, 5, 6, 7, 8, 0, 1]) (As := [.int (-1)]) (rest := []) F (c_Model_levelOf_m l D cI cL cB x0 x1 x2 x3 x4 x5 x6 x7 x8 x9 x10 x11 x12 x13 x14 x15 x16 x17 x18 x19 x20 0 nn n sg bt bf k o A B C (by first | assumption | omega | (simp only [] at *; omega)) (by first | assumption | omega | (simp only [] at *; omega)) (by first | assumption | omega | (simp only [] at *; omega))) (cS_V 1 F.ts m_734 m_735 m_29 m_42 m_736 (by decide +kernel) ⟨Nat.le_of_ble_eq_true rfl, Nat.le_of_ble_eq_true rfl⟩) (ci := CI_Model) (q0 := 0) rfl rfl rfl (Nat.le_of_ble_eq_true rfl) d_Model_build_20 ⟨Nat.le_of_ble_eq_true rfl, Nat.le_of_ble_eq_true rfl⟩ ⟨rfl, rfl, rfl, rfl, rfl, fun _ => rfl, rfl⟩ (fun r20 uu20 q20_ => ?_) rfl
    obtain ⟨bf2_20, rfl⟩ : ∃ z, z = uu20 := ⟨_, rfl⟩
    have e20 : LI n k o A B C 80 0 bf2_20 ∧ ∃ mx, r20 = nI mx ∧ IsMax bf2_20 nn mx := q20_
    clear q20_
    obtain ⟨e20, mx, er20, hmx⟩ := e20
    subst er20
    have hmb : mx ≤ 80 * 60 + 0 := hmx.le e20.2.2.2
    refine V_istore_n F (lv' := [(1, .int (nI mx)), (0, .ref x0)]) d_Model_build_23 rfl (by decide) rfl ?_
    refine V_iload_n F 0 d_Model_build_24 rfl rfl ?_
    refine V_bipush F (v := 30) d_Model_build_25 rfl ?_
    refine V_icmpn_le F 36 (a := mx) (b := 30) (by omega) (by omega) d_Model_build_27 (by decide) (fun h27 => ?_) (fun h27 => ?_)
    · skip
      exact False.elim (hx ⟨_, e20.up hw (by decide) (fun j hj => Nat.le_trans (hmx.1 j hj) h27), fun c hc => Nat.le_trans (hmx.1 _ (hw c hc).2.1) h27⟩)
    · skip
      refine V_aload_n F 1 d_Model_build_30 rfl rfl ?_
      refine V_iconst F (v := 1) d_Model_build_31 rfl ?_
      refine V_callV_i (w1 := fun (u_ : Unit) => [(x0, .inr (CI_Model, [.int (nI 1), .int (nI nn), .ref x1, .ref x2, .ref x3, .ref x4, .ref x5, .ref x6, .ref x7, .ref x8, .ref x9, .ref x10, .ref x11, .int (nI n), .ref x12, .ref x13, .ref x14, .ref x15, .ref x16, .ref x17, .ref x18, .ref x19, .ref x20, .int (bP bt), .int (nI sg)])), (x2, .inl (cI, 80, .inl (cN bf2_20))), (x5, .inl (cI, 60, .inl (cN k))), (x6, .inl (cI, 60, .inl (cN o))), (x7, .inl (cI, 60, .inl A)), (x8, .inl (cI, 60, .inl B)), (x9, .inl (cI, 60, .inl C)), (x19, .inl (cL, 80, .inr (.inl X9_6))), (x20, .inl (cL, 80, .inr (.inl Y9_6)))]) (wr := [(x2, .inl (cI, 80, .inl (cN bf2_20))), (x5, .inl (cI, 60, .inl (cN k))), (x6, .inl (cI, 60, .inl (cN o))), (x7, .inl (cI, 60, .inl A)), (x8, .inl (cI, 60, .inl B)), (x9, .inl (cI, 60, .inl C)), (x19, .inl (cL, 80, .inr (.inl X9_6))), (x20, .inl (cL, 80, .inr (.inl Y9_6)))]) (isC := [0]) (isR := [1, 2, 3, 4, 5, 6, 7, 8]) (pm := [8, 0, 1, 2, 3, 4, 5, 6, 7]) (As := [.int 1]) (rest := []) F (c_Model_raise l D cI cL cB x0 x1 x2 x3 x4 x5 x6 x7 x8 x9 x10 x11 x12 x13 x14 x15 x16 x17 x18 x19 x20 0 nn n sg bt 1 ) (cS_V 1 F.ts m_689 m_690 m_18 m_42 m_691 (by decide +kernel) ⟨Nat.le_of_ble_eq_true rfl, Nat.le_of_ble_eq_true rfl⟩) (ci := CI_Model) (q0 := 0) rfl rfl rfl (Nat.le_of_ble_eq_true rfl) d_Model_build_32 ⟨Nat.le_of_ble_eq_true rfl, Nat.le_of_ble_eq_true rfl⟩ ⟨rfl, rfl, rfl, rfl, rfl, fun _ => rfl, rfl⟩ (fun r32 uu32 q32_ => ?_) rfl
      subst q32_
      exact V_iret F hr (bf2_20, X9_6, Y9_6) (show (nI 0) = nI 0 ∧ (True) from ⟨rfl, trivial⟩) [0, 1, 2, 3, 4, 5, 6, 7, 8] rfl rfl (by decide) (by decide) d_Model_build_35
  · skip
    refine V_aload_n F 0 d_Model_build_12 rfl rfl ?_
    refine V_iconst F (v := 1) d_Model_build_13 rfl ?_
    refine V_callV_i (w1 := fun (u_ : Unit) => [(x0, .inr (CI_Model, [.int (nI 1), .int (nI nn), .ref x1, .ref x2, .ref x3, .ref x4, .ref x5, .ref x6, .ref x7, .ref x8, .ref x9, .ref x10, .ref x11, .int (nI n), .ref x12, .ref x13, .ref x14, .ref x15, .ref x16, .ref x17, .ref x18, .ref x19, .ref x20, .int (bP bt), .int (nI sg)])), (x2, .inl (cI, 80, .inl (cN bf))), (x5, .inl (cI, 60, .inl (cN k))), (x6, .inl (cI, 60, .inl (cN o))), (x7, .inl (cI, 60, .inl A)), (x8, .inl (cI, 60, .inl B)), (x9, .inl (cI, 60, .inl C)), (x19, .inl (cL, 80, .inr (.inl X9_6))), (x20, .inl (cL, 80, .inr (.inl Y9_6)))]) (wr := [(x2, .inl (cI, 80, .inl (cN bf))), (x5, .inl (cI, 60, .inl (cN k))), (x6, .inl (cI, 60, .inl (cN o))), (x7, .inl (cI, 60, .inl A)), (x8, .inl (cI, 60, .inl B)), (x9, .inl (cI, 60, .inl C)), (x19, .inl (cL, 80, .inr (.inl X9_6))), (x20, .inl (cL, 80, .inr (.inl Y9_6)))]) (isC := [0]) (isR := [1, 2, 3, 4, 5, 6, 7, 8]) (pm := [8, 0, 1, 2, 3, 4, 5, 6, 7]) (As := [.int 1]) (rest := []) F (c_Model_raise l D cI cL cB x0 x1 x2 x3 x4 x5 x6 x7 x8 x9 x10 x11 x12 x13 x14 x15 x16 x17 x18 x19 x20 0 nn n sg bt 1 ) (cS_V 1 F.ts m_689 m_690 m_18 m_42 m_691 (by decide +kernel) ⟨Nat.le_of_ble_eq_true rfl, Nat.le_of_ble_eq_true rfl⟩) (ci := CI_Model) (q0 := 0) rfl rfl rfl (Nat.le_of_ble_eq_true rfl) d_Model_build_14 ⟨Nat.le_of_ble_eq_true rfl, Nat.le_of_ble_eq_true rfl⟩ ⟨rfl, rfl, rfl, rfl, rfl, fun _ => rfl, rfl⟩ (fun r14 uu14 q14_ => ?_) rfl
    subst q14_
    exact V_iret F hr (bf, X9_6, Y9_6) (show (nI 0) = nI 0 ∧ (True) from ⟨rfl, trivial⟩) [0, 1, 2, 3, 4, 5, 6, 7, 8] rfl rfl (by decide) (by decide) d_Model_build_17

set_option maxHeartbeats 4000000 in
set_option maxRecDepth 100000 in
theorem c_Model_build_b (l : Launch) (D : va_G) (cI cL cB : ClassId) (x0 : Nat) (x1 : Nat) (x2 : Nat) (x3 : Nat) (x4 : Nat) (x5 : Nat) (x6 : Nat) (x7 : Nat) (x8 : Nat) (x9 : Nat) (x10 : Nat) (x11 : Nat) (x12 : Nat) (x13 : Nat) (x14 : Nat) (x15 : Nat) (x16 : Nat) (x17 : Nat) (x18 : Nat) (x19 : Nat) (x20 : Nat) (th : Nat) (nn : Nat) (n : Nat) (sg : Nat) (bt : Prop) (bf : Nat → Nat) (k : Nat → Nat) (o : Nat → Nat) (A : Nat → Int32) (B : Nat → Int32) (C : Nat → Int32) (X : Nat → Int64) (Y : Nat → Int64) (g : Nat → Nat) (od : Nat → Nat) (gr : Nat) (hn : n ≤ 60) (hnn : nn ≤ 80) (hw : WfC nn n k o A B C) (hg : Ranked nn n k o A B C g od gr) (hgr : gr ≤ 30) (hb : bt) : Cti l y_Model_build (wK w_Model_build) ({ frames := 3, cells := 0, slots := 0, locals := 65 }) D classes (TY cI cL cB) [.ref x0] [(x0, .inr (CI_Model, [.int (nI th), .int (nI nn), .ref x1, .ref x2, .ref x3, .ref x4, .ref x5, .ref x6, .ref x7, .ref x8, .ref x9, .ref x10, .ref x11, .int (nI n), .ref x12, .ref x13, .ref x14, .ref x15, .ref x16, .ref x17, .ref x18, .ref x19, .ref x20, .int (bP bt), .int (nI sg)])), (x2, .inl (cI, 80, .inl (cN bf))), (x5, .inl (cI, 60, .inl (cN k))), (x6, .inl (cI, 60, .inl (cN o))), (x7, .inl (cI, 60, .inl A)), (x8, .inl (cI, 60, .inl B)), (x9, .inl (cI, 60, .inl C)), (x19, .inl (cL, 80, .inr (.inl X))), (x20, .inl (cL, 80, .inr (.inl Y)))] (fun (r : Int32) (u_ : (Nat → Nat) × (Nat → Int64) × (Nat → Int64)) => r = nI gr ∧ (True)) (fun (u_ : (Nat → Nat) × (Nat → Int64) × (Nat → Int64)) => [(x0, .inr (CI_Model, [.int (nI 0), .int (nI nn), .ref x1, .ref x2, .ref x3, .ref x4, .ref x5, .ref x6, .ref x7, .ref x8, .ref x9, .ref x10, .ref x11, .int (nI n), .ref x12, .ref x13, .ref x14, .ref x15, .ref x16, .ref x17, .ref x18, .ref x19, .ref x20, .int (bP bt), .int (nI sg)])), (x2, .inl (cI, 80, .inl (cN u_.1))), (x5, .inl (cI, 60, .inl (cN k))), (x6, .inl (cI, 60, .inl (cN o))), (x7, .inl (cI, 60, .inl A)), (x8, .inl (cI, 60, .inl B)), (x9, .inl (cI, 60, .inl C)), (x19, .inl (cL, 80, .inr (.inl u_.2.1))), (x20, .inl (cL, 80, .inr (.inl u_.2.2)))]) 0 0 := by
  refine Ctg_of (cc := prog_9_method_26_code) (maxL := 2) (ret := (some .int)) "CircuitSimulatorModel" [(0, .ref x0)] (by decide) rfl rfl (Nat.le_of_ble_eq_true rfl) rfl ?_
  intro p_ e_ s_ m_ args_ below_ meth_ c_ A_ F hr hin
  refine V_aload_n F 0 d_Model_build_0 rfl rfl ?_
  refine V_iconst F (v := 0) d_Model_build_1 rfl ?_
  refine V_put F 0 CI_Model 0 (w' := [(x0, .inr (CI_Model, [.int (nI 0), .int (nI nn), .ref x1, .ref x2, .ref x3, .ref x4, .ref x5, .ref x6, .ref x7, .ref x8, .ref x9, .ref x10, .ref x11, .int (nI n), .ref x12, .ref x13, .ref x14, .ref x15, .ref x16, .ref x17, .ref x18, .ref x19, .ref x20, .int (bP bt), .int (nI sg)])), (x2, .inl (cI, 80, .inl (cN bf))), (x5, .inl (cI, 60, .inl (cN k))), (x6, .inl (cI, 60, .inl (cN o))), (x7, .inl (cI, 60, .inl A)), (x8, .inl (cI, 60, .inl B)), (x9, .inl (cI, 60, .inl C)), (x19, .inl (cL, 80, .inr (.inl X))), (x20, .inl (cL, 80, .inr (.inl Y)))]) t_Model tk_Model n_Model i_Model rfl rfl (by decide) m_596 rfl rfl rfl rfl (Nat.le_of_ble_eq_true rfl) rfl d_Model_build_2 ?_
  refine V_aload_n F 0 d_Model_build_5 rfl rfl ?_
  refine V_callV_i (w1 := fun (u_ : (Nat → Int64) × (Nat → Int64)) => [(x0, .inr (CI_Model, [.int (nI 0), .int (nI nn), .ref x1, .ref x2, .ref x3, .ref x4, .ref x5, .ref x6, .ref x7, .ref x8, .ref x9, .ref x10, .ref x11, .int (nI n), .ref x12, .ref x13, .ref x14, .ref x15, .ref x16, .ref x17, .ref x18, .ref x19, .ref x20, .int (bP bt), .int (nI sg)])), (x2, .inl (cI, 80, .inl (cN bf))), (x5, .inl (cI, 60, .inl (cN k))), (x6, .inl (cI, 60, .inl (cN o))), (x7, .inl (cI, 60, .inl A)), (x8, .inl (cI, 60, .inl B)), (x9, .inl (cI, 60, .inl C)), (x19, .inl (cL, 80, .inr (.inl u_.1))), (x20, .inl (cL, 80, .inr (.inl u_.2)))]) (wr := [(x2, .inl (cI, 80, .inl (cN bf)))]) (isC := [0, 2, 3, 4, 5, 6, 7, 8]) (isR := [1]) (pm := [1, 0, 2, 3, 4, 5, 6, 7, 8]) (As := []) (rest := []) F (c_Model_looped l D cI cL cB x0 x1 x2 x3 x4 x5 x6 x7 x8 x9 x10 x11 x12 x13 x14 x15 x16 x17 x18 x19 x20 0 nn n sg bt k o A B C X Y (by first | assumption | omega | (simp only [] at *; omega)) (by first | assumption | omega | (simp only [] at *; omega)) (by first | assumption | omega | (simp only [] at *; omega))) (cS_V 0 F.ts m_719 m_720 m_24 m_42 m_721 (by decide +kernel) ⟨Nat.le_of_ble_eq_true rfl, Nat.le_of_ble_eq_true rfl⟩) (ci := CI_Model) (q0 := 0) rfl rfl rfl (Nat.le_of_ble_eq_true rfl) d_Model_build_6 ⟨Nat.le_of_ble_eq_true rfl, Nat.le_of_ble_eq_true rfl⟩ ⟨rfl, rfl, rfl, rfl, rfl, fun _ => rfl, rfl⟩ (fun r6 uu6 q6_ => ?_) rfl
  obtain ⟨X9_6, Y9_6⟩ := uu6
  have e6 : LD (wOut (R0 n k o A B C) nn nn) nn r6 := q6_
  clear q6_
  refine V_cast (w' := [(x0, .inr (CI_Model, [.int (nI 0), .int (nI nn), .ref x1, .ref x2, .ref x3, .ref x4, .ref x5, .ref x6, .ref x7, .ref x8, .ref x9, .ref x10, .ref x11, .int (nI n), .ref x12, .ref x13, .ref x14, .ref x15, .ref x16, .ref x17, .ref x18, .ref x19, .ref x20, .int (bP bt), .int (nI sg)])), (x2, .inl (cI, 80, .inl (cN bf))), (x5, .inl (cI, 60, .inl (cN k))), (x6, .inl (cI, 60, .inl (cN o))), (x7, .inl (cI, 60, .inl A)), (x8, .inl (cI, 60, .inl B)), (x9, .inl (cI, 60, .inl C)), (x19, .inl (cL, 80, .inr (.inl X9_6))), (x20, .inl (cL, 80, .inr (.inl Y9_6)))]) rfl rfl rfl ?_
  have e6 : r6 = -1 := e6.uniq (Or.inl ⟨rfl, fun j _ => wOut_no hg.1 j⟩)
  subst e6
  refine V_if_lt F 18 d_Model_build_9 (by decide) (fun h9 => ?_) (fun h9 => ?_)
  · skip
    refine V_aload_n F 0 d_Model_build_18 rfl rfl ?_
    refine V_iconst F (v := (-1)) d_Model_build_19 rfl ?_
    refine V_callV_i (w1 := fun (u_ : (Nat → Nat)) => [(x0, .inr (CI_Model, [.int (nI 0), .int (nI nn), .ref x1, .ref x2, .ref x3, .ref x4, .ref x5, .ref x6, .ref x7, .ref x8, .ref x9, .ref x10, .ref x11, .int (nI n), .ref x12, .ref x13, .ref x14, .ref x15, .ref x16, .ref x17, .ref x18, .ref x19, .ref x20, .int (bP bt), .int (nI sg)])), (x2, .inl (cI, 80, .inl (cN u_))), (x5, .inl (cI, 60, .inl (cN k))), (x6, .inl (cI, 60, .inl (cN o))), (x7, .inl (cI, 60, .inl A)), (x8, .inl (cI, 60, .inl B)), (x9, .inl (cI, 60, .inl C)), (x19, .inl (cL, 80, .inr (.inl X9_6))), (x20, .inl (cL, 80, .inr (.inl Y9_6)))]) (wr := [(x19, .inl (cL, 80, .inr (.inl X9_6))), (x20, .inl (cL, 80, .inr (.inl Y9_6)))]) (isC := [0, 1, 2, 3, 4, 5, 6]) (isR := [7, 8]) (pm := [2, 3, 4, 5, 6, 7, 8, 0, 1]) (As := [.int (-1)]) (rest := []) F (c_Model_levelOf_m l D cI cL cB x0 x1 x2 x3 x4 x5 x6 x7 x8 x9 x10 x11 x12 x13 x14 x15 x16 x17 x18 x19 x20 0 nn n sg bt bf k o A B C (by first | assumption | omega | (simp only [] at *; omega)) (by first | assumption | omega | (simp only [] at *; omega)) (by first | assumption | omega | (simp only [] at *; omega))) (cS_V 1 F.ts m_734 m_735 m_29 m_42 m_736 (by decide +kernel) ⟨Nat.le_of_ble_eq_true rfl, Nat.le_of_ble_eq_true rfl⟩) (ci := CI_Model) (q0 := 0) rfl rfl rfl (Nat.le_of_ble_eq_true rfl) d_Model_build_20 ⟨Nat.le_of_ble_eq_true rfl, Nat.le_of_ble_eq_true rfl⟩ ⟨rfl, rfl, rfl, rfl, rfl, fun _ => rfl, rfl⟩ (fun r20 uu20 q20_ => ?_) rfl
    obtain ⟨bf2_20, rfl⟩ : ∃ z, z = uu20 := ⟨_, rfl⟩
    have e20 : LI n k o A B C 80 0 bf2_20 ∧ ∃ mx, r20 = nI mx ∧ IsMax bf2_20 nn mx := q20_
    clear q20_
    obtain ⟨e20, mx, er20, hmx⟩ := e20
    subst er20
    have hms : mx = gr := hmx.uniq ⟨hg.2.2.2.2.1, hg.2.2.2.2.2⟩ (e20.same hw (by decide) hg)
    rw [hms]
    refine V_istore_n F (lv' := [(1, .int (nI gr)), (0, .ref x0)]) d_Model_build_23 rfl (by decide) rfl ?_
    refine V_iload_n F 0 d_Model_build_24 rfl rfl ?_
    refine V_bipush F (v := 30) d_Model_build_25 rfl ?_
    refine V_icmpn_le F 36 (a := gr) (b := 30) (by omega) (by omega) d_Model_build_27 (by decide) (fun h27 => ?_) (fun h27 => ?_)
    · skip
      refine V_aload_n F 1 d_Model_build_36 rfl rfl ?_
      refine V_get F 0 CI_Model 23 i_Model rfl rfl (by decide) m_619 rfl rfl d_Model_build_37 ?_
      refine V_ifb_ne F 52 d_Model_build_40 (by decide) (fun h40 => ?_) (fun h40 => ?_)
      · skip
        refine V_iload_n F 0 d_Model_build_52 rfl rfl ?_
        exact V_iret F hr (bf2_20, X9_6, Y9_6) (show (nI gr) = nI gr ∧ (True) from ⟨rfl, trivial⟩) [0, 1, 2, 3, 4, 5, 6, 7, 8] rfl rfl (by decide) (by decide) d_Model_build_53
      · skip
        exact False.elim (h40 hb)
    · skip
      exact False.elim (by omega)
  · skip
    exact False.elim (absurd (by decide) h9)

set_option maxHeartbeats 4000000 in
set_option maxRecDepth 100000 in
theorem c_Model_build_0 (l : Launch) (D : va_G) (cI cL cB : ClassId) (x0 : Nat) (x1 : Nat) (x2 : Nat) (x3 : Nat) (x4 : Nat) (x5 : Nat) (x6 : Nat) (x7 : Nat) (x8 : Nat) (x9 : Nat) (x10 : Nat) (x11 : Nat) (x12 : Nat) (x13 : Nat) (x14 : Nat) (x15 : Nat) (x16 : Nat) (x17 : Nat) (x18 : Nat) (x19 : Nat) (x20 : Nat) (th : Nat) (nn : Nat) (n : Nat) (sg : Nat) (bt : Prop) (v : Nat → Nat) (bf : Nat → Nat) (sk : Nat → Nat) (tn : Nat → Nat) (k : Nat → Nat) (o : Nat → Nat) (A : Nat → Int32) (B : Nat → Int32) (C : Nat → Int32) (q : Nat → Nat) (dr : Nat → Nat) (X : Nat → Int64) (Y : Nat → Int64) (g : Nat → Nat) (od : Nat → Nat) (gr : Nat) (hn : n ≤ 60) (hnn : nn ≤ 80) (hw : WfC nn n k o A B C) (hg : Ranked nn n k o A B C g od gr) (hgr : gr ≤ 30) (hb : ¬ bt) (hsk : ∀ j, j < nn → sk j ≤ 3) (hv : ∀ j, j < nn → v j ≤ 3) (hq : ∀ i, i < n → q i ≤ 3) : Cti l y_Model_build (wK w_Model_build) ({ frames := 3, cells := 0, slots := 0, locals := 69 }) D classes (TY cI cL cB) [.ref x0] [(x0, .inr (CI_Model, [.int (nI th), .int (nI nn), .ref x1, .ref x2, .ref x3, .ref x4, .ref x5, .ref x6, .ref x7, .ref x8, .ref x9, .ref x10, .ref x11, .int (nI n), .ref x12, .ref x13, .ref x14, .ref x15, .ref x16, .ref x17, .ref x18, .ref x19, .ref x20, .int (bP bt), .int (nI sg)])), (x1, .inl (cI, 80, .inl (cN v))), (x2, .inl (cI, 80, .inl (cN bf))), (x3, .inl (cI, 80, .inl (cS sk))), (x4, .inl (cI, 80, .inl (cN tn))), (x5, .inl (cI, 60, .inl (cN k))), (x6, .inl (cI, 60, .inl (cN o))), (x7, .inl (cI, 60, .inl A)), (x8, .inl (cI, 60, .inl B)), (x9, .inl (cI, 60, .inl C)), (x10, .inl (cI, 60, .inl (cN q))), (x11, .inl (cI, 60, .inl (cN dr))), (x19, .inl (cL, 80, .inr (.inl X))), (x20, .inl (cL, 80, .inr (.inl Y)))] (fun (r : Int32) (u_ : (Nat → Nat) × (Nat → Nat) × (Nat → Nat) × (Nat → Nat) × (Nat → Nat) × (Nat → Int64) × (Nat → Int64)) => r = nI gr ∧ (SetP nn n k o A B C q sk v tn u_.1 u_.2.2.1 u_.2.2.2.1)) (fun (u_ : (Nat → Nat) × (Nat → Nat) × (Nat → Nat) × (Nat → Nat) × (Nat → Nat) × (Nat → Int64) × (Nat → Int64)) => [(x0, .inr (CI_Model, [.int (nI 0), .int (nI nn), .ref x1, .ref x2, .ref x3, .ref x4, .ref x5, .ref x6, .ref x7, .ref x8, .ref x9, .ref x10, .ref x11, .int (nI n), .ref x12, .ref x13, .ref x14, .ref x15, .ref x16, .ref x17, .ref x18, .ref x19, .ref x20, .int (bP True), .int (nI (sg + 1))])), (x1, .inl (cI, 80, .inl (cN u_.1))), (x2, .inl (cI, 80, .inl (cN u_.2.1))), (x3, .inl (cI, 80, .inl (cS sk))), (x4, .inl (cI, 80, .inl (cN u_.2.2.1))), (x5, .inl (cI, 60, .inl (cN k))), (x6, .inl (cI, 60, .inl (cN o))), (x7, .inl (cI, 60, .inl A)), (x8, .inl (cI, 60, .inl B)), (x9, .inl (cI, 60, .inl C)), (x10, .inl (cI, 60, .inl (cN u_.2.2.2.1))), (x11, .inl (cI, 60, .inl (cN u_.2.2.2.2.1))), (x19, .inl (cL, 80, .inr (.inl u_.2.2.2.2.2.1))), (x20, .inl (cL, 80, .inr (.inl u_.2.2.2.2.2.2)))]) 0 0 := by
  refine Ctg_of (cc := prog_9_method_26_code) (maxL := 2) (ret := (some .int)) "CircuitSimulatorModel" [(0, .ref x0)] (by decide) rfl rfl (Nat.le_of_ble_eq_true rfl) rfl ?_
  intro p_ e_ s_ m_ args_ below_ meth_ c_ A_ F hr hin
  refine V_aload_n F 0 d_Model_build_0 rfl rfl ?_
  refine V_iconst F (v := 0) d_Model_build_1 rfl ?_
  refine V_put F 0 CI_Model 0 (w' := [(x0, .inr (CI_Model, [.int (nI 0), .int (nI nn), .ref x1, .ref x2, .ref x3, .ref x4, .ref x5, .ref x6, .ref x7, .ref x8, .ref x9, .ref x10, .ref x11, .int (nI n), .ref x12, .ref x13, .ref x14, .ref x15, .ref x16, .ref x17, .ref x18, .ref x19, .ref x20, .int (bP bt), .int (nI sg)])), (x1, .inl (cI, 80, .inl (cN v))), (x2, .inl (cI, 80, .inl (cN bf))), (x3, .inl (cI, 80, .inl (cS sk))), (x4, .inl (cI, 80, .inl (cN tn))), (x5, .inl (cI, 60, .inl (cN k))), (x6, .inl (cI, 60, .inl (cN o))), (x7, .inl (cI, 60, .inl A)), (x8, .inl (cI, 60, .inl B)), (x9, .inl (cI, 60, .inl C)), (x10, .inl (cI, 60, .inl (cN q))), (x11, .inl (cI, 60, .inl (cN dr))), (x19, .inl (cL, 80, .inr (.inl X))), (x20, .inl (cL, 80, .inr (.inl Y)))]) t_Model tk_Model n_Model i_Model rfl rfl (by decide) m_596 rfl rfl rfl rfl (Nat.le_of_ble_eq_true rfl) rfl d_Model_build_2 ?_
  refine V_aload_n F 0 d_Model_build_5 rfl rfl ?_
  refine V_callV_i (w1 := fun (u_ : (Nat → Int64) × (Nat → Int64)) => [(x0, .inr (CI_Model, [.int (nI 0), .int (nI nn), .ref x1, .ref x2, .ref x3, .ref x4, .ref x5, .ref x6, .ref x7, .ref x8, .ref x9, .ref x10, .ref x11, .int (nI n), .ref x12, .ref x13, .ref x14, .ref x15, .ref x16, .ref x17, .ref x18, .ref x19, .ref x20, .int (bP bt), .int (nI sg)])), (x1, .inl (cI, 80, .inl (cN v))), (x2, .inl (cI, 80, .inl (cN bf))), (x3, .inl (cI, 80, .inl (cS sk))), (x4, .inl (cI, 80, .inl (cN tn))), (x5, .inl (cI, 60, .inl (cN k))), (x6, .inl (cI, 60, .inl (cN o))), (x7, .inl (cI, 60, .inl A)), (x8, .inl (cI, 60, .inl B)), (x9, .inl (cI, 60, .inl C)), (x10, .inl (cI, 60, .inl (cN q))), (x11, .inl (cI, 60, .inl (cN dr))), (x19, .inl (cL, 80, .inr (.inl u_.1))), (x20, .inl (cL, 80, .inr (.inl u_.2)))]) (wr := [(x1, .inl (cI, 80, .inl (cN v))), (x2, .inl (cI, 80, .inl (cN bf))), (x3, .inl (cI, 80, .inl (cS sk))), (x4, .inl (cI, 80, .inl (cN tn))), (x10, .inl (cI, 60, .inl (cN q))), (x11, .inl (cI, 60, .inl (cN dr)))]) (isC := [0, 5, 6, 7, 8, 9, 12, 13]) (isR := [1, 2, 3, 4, 10, 11]) (pm := [6, 0, 1, 2, 3, 7, 8, 9, 10, 11, 4, 5, 12, 13]) (As := []) (rest := []) F (c_Model_looped l D cI cL cB x0 x1 x2 x3 x4 x5 x6 x7 x8 x9 x10 x11 x12 x13 x14 x15 x16 x17 x18 x19 x20 0 nn n sg bt k o A B C X Y (by first | assumption | omega | (simp only [] at *; omega)) (by first | assumption | omega | (simp only [] at *; omega)) (by first | assumption | omega | (simp only [] at *; omega))) (cS_V 0 F.ts m_719 m_720 m_24 m_42 m_721 (by decide +kernel) ⟨Nat.le_of_ble_eq_true rfl, Nat.le_of_ble_eq_true rfl⟩) (ci := CI_Model) (q0 := 0) rfl rfl rfl (Nat.le_of_ble_eq_true rfl) d_Model_build_6 ⟨Nat.le_of_ble_eq_true rfl, Nat.le_of_ble_eq_true rfl⟩ ⟨rfl, rfl, rfl, rfl, rfl, fun _ => rfl, rfl⟩ (fun r6 uu6 q6_ => ?_) rfl
  obtain ⟨X9_6, Y9_6⟩ := uu6
  have e6 : LD (wOut (R0 n k o A B C) nn nn) nn r6 := q6_
  clear q6_
  refine V_cast (w' := [(x0, .inr (CI_Model, [.int (nI 0), .int (nI nn), .ref x1, .ref x2, .ref x3, .ref x4, .ref x5, .ref x6, .ref x7, .ref x8, .ref x9, .ref x10, .ref x11, .int (nI n), .ref x12, .ref x13, .ref x14, .ref x15, .ref x16, .ref x17, .ref x18, .ref x19, .ref x20, .int (bP bt), .int (nI sg)])), (x1, .inl (cI, 80, .inl (cN v))), (x2, .inl (cI, 80, .inl (cN bf))), (x3, .inl (cI, 80, .inl (cS sk))), (x4, .inl (cI, 80, .inl (cN tn))), (x5, .inl (cI, 60, .inl (cN k))), (x6, .inl (cI, 60, .inl (cN o))), (x7, .inl (cI, 60, .inl A)), (x8, .inl (cI, 60, .inl B)), (x9, .inl (cI, 60, .inl C)), (x10, .inl (cI, 60, .inl (cN q))), (x11, .inl (cI, 60, .inl (cN dr))), (x19, .inl (cL, 80, .inr (.inl X9_6))), (x20, .inl (cL, 80, .inr (.inl Y9_6)))]) rfl rfl rfl ?_
  have e6 : r6 = -1 := e6.uniq (Or.inl ⟨rfl, fun j _ => wOut_no hg.1 j⟩)
  subst e6
  refine V_if_lt F 18 d_Model_build_9 (by decide) (fun h9 => ?_) (fun h9 => ?_)
  · skip
    refine V_aload_n F 0 d_Model_build_18 rfl rfl ?_
    refine V_iconst F (v := (-1)) d_Model_build_19 rfl ?_
    refine V_callV_i (w1 := fun (u_ : (Nat → Nat)) => [(x0, .inr (CI_Model, [.int (nI 0), .int (nI nn), .ref x1, .ref x2, .ref x3, .ref x4, .ref x5, .ref x6, .ref x7, .ref x8, .ref x9, .ref x10, .ref x11, .int (nI n), .ref x12, .ref x13, .ref x14, .ref x15, .ref x16, .ref x17, .ref x18, .ref x19, .ref x20, .int (bP bt), .int (nI sg)])), (x1, .inl (cI, 80, .inl (cN v))), (x2, .inl (cI, 80, .inl (cN u_))), (x3, .inl (cI, 80, .inl (cS sk))), (x4, .inl (cI, 80, .inl (cN tn))), (x5, .inl (cI, 60, .inl (cN k))), (x6, .inl (cI, 60, .inl (cN o))), (x7, .inl (cI, 60, .inl A)), (x8, .inl (cI, 60, .inl B)), (x9, .inl (cI, 60, .inl C)), (x10, .inl (cI, 60, .inl (cN q))), (x11, .inl (cI, 60, .inl (cN dr))), (x19, .inl (cL, 80, .inr (.inl X9_6))), (x20, .inl (cL, 80, .inr (.inl Y9_6)))]) (wr := [(x1, .inl (cI, 80, .inl (cN v))), (x3, .inl (cI, 80, .inl (cS sk))), (x4, .inl (cI, 80, .inl (cN tn))), (x10, .inl (cI, 60, .inl (cN q))), (x11, .inl (cI, 60, .inl (cN dr))), (x19, .inl (cL, 80, .inr (.inl X9_6))), (x20, .inl (cL, 80, .inr (.inl Y9_6)))]) (isC := [0, 2, 5, 6, 7, 8, 9]) (isR := [1, 3, 4, 10, 11, 12, 13]) (pm := [7, 0, 8, 1, 2, 9, 10, 11, 12, 13, 3, 4, 5, 6]) (As := [.int (-1)]) (rest := []) F (c_Model_levelOf_m l D cI cL cB x0 x1 x2 x3 x4 x5 x6 x7 x8 x9 x10 x11 x12 x13 x14 x15 x16 x17 x18 x19 x20 0 nn n sg bt bf k o A B C (by first | assumption | omega | (simp only [] at *; omega)) (by first | assumption | omega | (simp only [] at *; omega)) (by first | assumption | omega | (simp only [] at *; omega))) (cS_V 1 F.ts m_734 m_735 m_29 m_42 m_736 (by decide +kernel) ⟨Nat.le_of_ble_eq_true rfl, Nat.le_of_ble_eq_true rfl⟩) (ci := CI_Model) (q0 := 0) rfl rfl rfl (Nat.le_of_ble_eq_true rfl) d_Model_build_20 ⟨Nat.le_of_ble_eq_true rfl, Nat.le_of_ble_eq_true rfl⟩ ⟨rfl, rfl, rfl, rfl, rfl, fun _ => rfl, rfl⟩ (fun r20 uu20 q20_ => ?_) rfl
    obtain ⟨bf2_20, rfl⟩ : ∃ z, z = uu20 := ⟨_, rfl⟩
    have e20 : LI n k o A B C 80 0 bf2_20 ∧ ∃ mx, r20 = nI mx ∧ IsMax bf2_20 nn mx := q20_
    clear q20_
    obtain ⟨e20, mx, er20, hmx⟩ := e20
    subst er20
    have hms : mx = gr := hmx.uniq ⟨hg.2.2.2.2.1, hg.2.2.2.2.2⟩ (e20.same hw (by decide) hg)
    rw [hms]
    refine V_istore_n F (lv' := [(1, .int (nI gr)), (0, .ref x0)]) d_Model_build_23 rfl (by decide) rfl ?_
    refine V_iload_n F 0 d_Model_build_24 rfl rfl ?_
    refine V_bipush F (v := 30) d_Model_build_25 rfl ?_
    refine V_icmpn_le F 36 (a := gr) (b := 30) (by omega) (by omega) d_Model_build_27 (by decide) (fun h27 => ?_) (fun h27 => ?_)
    · skip
      refine V_aload_n F 1 d_Model_build_36 rfl rfl ?_
      refine V_get F 0 CI_Model 23 i_Model rfl rfl (by decide) m_619 rfl rfl d_Model_build_37 ?_
      refine V_ifb_ne F 52 d_Model_build_40 (by decide) (fun h40 => ?_) (fun h40 => ?_)
      · skip
        exact False.elim (hb h40)
      · skip
        refine V_aload_n F 1 d_Model_build_43 rfl rfl ?_
        refine V_iconst F (v := 1) d_Model_build_44 rfl ?_
        refine V_top (y := bP True) (bP_t trivial).symm ?_
        refine V_put F 0 CI_Model 23 (w' := [(x0, .inr (CI_Model, [.int (nI 0), .int (nI nn), .ref x1, .ref x2, .ref x3, .ref x4, .ref x5, .ref x6, .ref x7, .ref x8, .ref x9, .ref x10, .ref x11, .int (nI n), .ref x12, .ref x13, .ref x14, .ref x15, .ref x16, .ref x17, .ref x18, .ref x19, .ref x20, .int (bP True), .int (nI sg)])), (x1, .inl (cI, 80, .inl (cN v))), (x2, .inl (cI, 80, .inl (cN bf2_20))), (x3, .inl (cI, 80, .inl (cS sk))), (x4, .inl (cI, 80, .inl (cN tn))), (x5, .inl (cI, 60, .inl (cN k))), (x6, .inl (cI, 60, .inl (cN o))), (x7, .inl (cI, 60, .inl A)), (x8, .inl (cI, 60, .inl B)), (x9, .inl (cI, 60, .inl C)), (x10, .inl (cI, 60, .inl (cN q))), (x11, .inl (cI, 60, .inl (cN dr))), (x19, .inl (cL, 80, .inr (.inl X9_6))), (x20, .inl (cL, 80, .inr (.inl Y9_6)))]) t_Model tk_Model n_Model i_Model rfl rfl (by decide) m_619 rfl rfl (bP_nar _) (bP_fit _) (Nat.le_of_ble_eq_true rfl) rfl d_Model_build_45 ?_
        refine V_aload_n F 1 d_Model_build_48 rfl rfl ?_
        refine V_callV_v (w1 := fun (u_ : (Nat → Nat) × (Nat → Nat) × (Nat → Nat) × (Nat → Nat) × (Nat → Nat)) => [(x0, .inr (CI_Model, [.int (nI 0), .int (nI nn), .ref x1, .ref x2, .ref x3, .ref x4, .ref x5, .ref x6, .ref x7, .ref x8, .ref x9, .ref x10, .ref x11, .int (nI n), .ref x12, .ref x13, .ref x14, .ref x15, .ref x16, .ref x17, .ref x18, .ref x19, .ref x20, .int (bP True), .int (nI (sg + 1))])), (x1, .inl (cI, 80, .inl (cN u_.1))), (x2, .inl (cI, 80, .inl (cN u_.2.1))), (x3, .inl (cI, 80, .inl (cS sk))), (x4, .inl (cI, 80, .inl (cN u_.2.2.1))), (x5, .inl (cI, 60, .inl (cN k))), (x6, .inl (cI, 60, .inl (cN o))), (x7, .inl (cI, 60, .inl A)), (x8, .inl (cI, 60, .inl B)), (x9, .inl (cI, 60, .inl C)), (x10, .inl (cI, 60, .inl (cN u_.2.2.2.1))), (x11, .inl (cI, 60, .inl (cN u_.2.2.2.2))), (x19, .inl (cL, 80, .inr (.inl X9_6))), (x20, .inl (cL, 80, .inr (.inl Y9_6)))]) (wr := [(x19, .inl (cL, 80, .inr (.inl X9_6))), (x20, .inl (cL, 80, .inr (.inl Y9_6)))]) (isC := [0, 1, 2, 3, 4, 5, 6, 7, 8, 9, 10, 11]) (isR := [12, 13]) (pm := [2, 3, 4, 5, 6, 7, 8, 9, 10, 11, 12, 13, 0, 1]) (As := []) (rest := []) F (c_Model_settle l D cI cL cB x0 x1 x2 x3 x4 x5 x6 x7 x8 x9 x10 x11 x12 x13 x14 x15 x16 x17 x18 x19 x20 0 nn n sg True v bf2_20 sk tn k o A B C q dr g (by first | assumption | omega | (simp only [] at *; omega)) (by first | assumption | omega | (simp only [] at *; omega)) (by first | assumption | omega | (simp only [] at *; omega)) hg.1 hg.2.1 (by first | assumption | omega | (simp only [] at *; omega)) (by first | assumption | omega | (simp only [] at *; omega)) (by first | assumption | omega | (simp only [] at *; omega))) (cS_V 0 F.ts m_737 m_738 m_30 m_42 m_739 (by decide +kernel) ⟨Nat.le_of_ble_eq_true rfl, Nat.le_of_ble_eq_true rfl⟩) (ci := CI_Model) (q0 := 0) rfl rfl rfl (Nat.le_of_ble_eq_true rfl) d_Model_build_49 ⟨Nat.le_of_ble_eq_true rfl, Nat.le_of_ble_eq_true rfl⟩ ⟨rfl, rfl, rfl, rfl, rfl, fun _ => rfl, rfl⟩ (fun uu49 q49_ => ?_) rfl
        obtain ⟨v2_49, bf2_49, tn2_49, q2_49, dr2_49⟩ := uu49
        have e49 : SetP nn n k o A B C q sk v tn v2_49 tn2_49 q2_49 := q49_
        clear q49_
        refine V_cast (w' := [(x0, .inr (CI_Model, [.int (nI 0), .int (nI nn), .ref x1, .ref x2, .ref x3, .ref x4, .ref x5, .ref x6, .ref x7, .ref x8, .ref x9, .ref x10, .ref x11, .int (nI n), .ref x12, .ref x13, .ref x14, .ref x15, .ref x16, .ref x17, .ref x18, .ref x19, .ref x20, .int (bP True), .int (nI (sg + 1))])), (x1, .inl (cI, 80, .inl (cN v2_49))), (x2, .inl (cI, 80, .inl (cN bf2_49))), (x3, .inl (cI, 80, .inl (cS sk))), (x4, .inl (cI, 80, .inl (cN tn2_49))), (x5, .inl (cI, 60, .inl (cN k))), (x6, .inl (cI, 60, .inl (cN o))), (x7, .inl (cI, 60, .inl A)), (x8, .inl (cI, 60, .inl B)), (x9, .inl (cI, 60, .inl C)), (x10, .inl (cI, 60, .inl (cN q2_49))), (x11, .inl (cI, 60, .inl (cN dr2_49))), (x19, .inl (cL, 80, .inr (.inl X9_6))), (x20, .inl (cL, 80, .inr (.inl Y9_6)))]) rfl rfl rfl ?_
        refine V_iload_n F 0 d_Model_build_52 rfl rfl ?_
        exact V_iret F hr (v2_49, bf2_49, tn2_49, q2_49, dr2_49, X9_6, Y9_6) (show (nI gr) = nI gr ∧ (SetP nn n k o A B C q sk v tn v2_49 tn2_49 q2_49) from ⟨rfl, e49⟩) [0, 1, 2, 3, 4, 5, 6, 7, 8, 9, 10, 11, 12, 13] rfl rfl (by decide) (by decide) d_Model_build_53
    · skip
      exact False.elim (by omega)
  · skip
    exact False.elim (absurd (by decide) h9)
