set_option maxHeartbeats 4000000 in
set_option maxRecDepth 100000 in
theorem c_Model_cell_1 (l : Launch) (D : va_G) (cI cL cB : ClassId) (x0 : Nat) (x1 : Nat) (x2 : Nat) (x3 : Nat) (x4 : Nat) (x5 : Nat) (x6 : Nat) (x7 : Nat) (x8 : Nat) (x9 : Nat) (x10 : Nat) (x11 : Nat) (x12 : Nat) (x13 : Nat) (x14 : Nat) (x15 : Nat) (x16 : Nat) (x17 : Nat) (x18 : Nat) (x19 : Nat) (x20 : Nat) (th : Nat) (nn : Nat) (n : Nat) (sg : Nat) (bt : Prop) (kd : Int32) (ot : Int32) (a : Int32) (b : Int32) (c : Int32) (h40 : 1 ≤ nn) (hnn : nn ≤ 80) (hx : ¬ Fits kd ot a b c nn) : Cti l y_Model_cell (wK w_Model_cell) ({ frames := 2, cells := 0, slots := 0, locals := 47 }) D classes (TY cI cL cB) [.ref x0, .int kd, .int ot, .int a, .int b, .int c] [(x0, .inr (CI_Model, [.int (nI th), .int (nI nn), .ref x1, .ref x2, .ref x3, .ref x4, .ref x5, .ref x6, .ref x7, .ref x8, .ref x9, .ref x10, .ref x11, .int (nI n), .ref x12, .ref x13, .ref x14, .ref x15, .ref x16, .ref x17, .ref x18, .ref x19, .ref x20, .int (bP bt), .int (nI sg)]))] (fun (r : Int32) (u_ : Unit) => r = nI 0) (fun (u_ : Unit) => [(x0, .inr (CI_Model, [.int (nI 1), .int (nI nn), .ref x1, .ref x2, .ref x3, .ref x4, .ref x5, .ref x6, .ref x7, .ref x8, .ref x9, .ref x10, .ref x11, .int (nI n), .ref x12, .ref x13, .ref x14, .ref x15, .ref x16, .ref x17, .ref x18, .ref x19, .ref x20, .int (bP bt), .int (nI sg)]))]) 0 0 := by
  refine Ctg_of (cc := prog_9_method_9_code) (maxL := 6) (ret := (some .int)) "CircuitSimulatorModel" [(0, .ref x0), (1, .int kd), (2, .int ot), (3, .int a), (4, .int b), (5, .int c)] (by decide) rfl rfl (Nat.le_of_ble_eq_true rfl) rfl ?_
  intro p_ e_ s_ m_ args_ below_ meth_ c_ A_ F hr hin
  refine V_aload_n F 0 d_Model_cell_0 rfl rfl ?_
  refine V_iconst F (v := 0) d_Model_cell_1 rfl ?_
  refine V_put F 0 CI_Model 0 (w' := [(x0, .inr (CI_Model, [.int (nI 0), .int (nI nn), .ref x1, .ref x2, .ref x3, .ref x4, .ref x5, .ref x6, .ref x7, .ref x8, .ref x9, .ref x10, .ref x11, .int (nI n), .ref x12, .ref x13, .ref x14, .ref x15, .ref x16, .ref x17, .ref x18, .ref x19, .ref x20, .int (bP bt), .int (nI sg)]))]) t_Model tk_Model n_Model i_Model rfl rfl (by decide) m_596 rfl rfl rfl rfl (Nat.le_of_ble_eq_true rfl) rfl d_Model_cell_2 ?_
  refine V_iload_n F 1 d_Model_cell_5 rfl rfl ?_
  refine V_iconst F (v := 0) d_Model_cell_6 rfl ?_
  refine V_bipush F (v := 8) d_Model_cell_7 rfl ?_
  refine V_callS_i (w1 := fun (u_ : Unit) => [(x0, .inr (CI_Model, [.int (nI 0), .int (nI nn), .ref x1, .ref x2, .ref x3, .ref x4, .ref x5, .ref x6, .ref x7, .ref x8, .ref x9, .ref x10, .ref x11, .int (nI n), .ref x12, .ref x13, .ref x14, .ref x15, .ref x16, .ref x17, .ref x18, .ref x19, .ref x20, .int (bP bt), .int (nI sg)]))]) (wr := [(x0, .inr (CI_Model, [.int (nI 0), .int (nI nn), .ref x1, .ref x2, .ref x3, .ref x4, .ref x5, .ref x6, .ref x7, .ref x8, .ref x9, .ref x10, .ref x11, .int (nI n), .ref x12, .ref x13, .ref x14, .ref x15, .ref x16, .ref x17, .ref x18, .ref x19, .ref x20, .int (bP bt), .int (nI sg)]))]) (isC := []) (isR := [0]) (pm := [0]) (As := [.int kd, .int 0, .int 8]) (rest := []) F (c_Model_in l D cI cL cB kd 0 8 ) (cS_S 3 F.ts m_680 m_681 m_42 m_682 (by decide +kernel) ⟨Nat.le_of_ble_eq_true rfl, Nat.le_of_ble_eq_true rfl⟩) rfl (Nat.le_of_ble_eq_true rfl) d_Model_cell_9 ⟨Nat.le_of_ble_eq_true rfl, Nat.le_of_ble_eq_true rfl⟩ ⟨rfl, rfl, rfl, rfl, rfl, fun _ => rfl, rfl⟩ (fun r9 uu9 q9_ => ?_) rfl
  subst q9_
  refine V_top (y := bP (vp_in kd 9)) (bP_c (in_iff (m := 9) (by omega) (by omega))) ?_
  refine V_ifb_eq F 45 d_Model_cell_12 (by decide) (fun h12 => ?_) (fun h12 => ?_)
  · skip
    refine V_aload_n F 0 d_Model_cell_45 rfl rfl ?_
    refine V_iconst F (v := 1) d_Model_cell_46 rfl ?_
    refine V_callV_i (w1 := fun (u_ : Unit) => [(x0, .inr (CI_Model, [.int (nI 1), .int (nI nn), .ref x1, .ref x2, .ref x3, .ref x4, .ref x5, .ref x6, .ref x7, .ref x8, .ref x9, .ref x10, .ref x11, .int (nI n), .ref x12, .ref x13, .ref x14, .ref x15, .ref x16, .ref x17, .ref x18, .ref x19, .ref x20, .int (bP bt), .int (nI sg)]))]) (wr := []) (isC := [0]) (isR := []) (pm := [0]) (As := [.int 1]) (rest := []) F (c_Model_raise l D cI cL cB x0 x1 x2 x3 x4 x5 x6 x7 x8 x9 x10 x11 x12 x13 x14 x15 x16 x17 x18 x19 x20 0 nn n sg bt 1 ) (cS_V 1 F.ts m_689 m_690 m_18 m_42 m_691 (by decide +kernel) ⟨Nat.le_of_ble_eq_true rfl, Nat.le_of_ble_eq_true rfl⟩) (ci := CI_Model) (q0 := 0) rfl rfl rfl (Nat.le_of_ble_eq_true rfl) d_Model_cell_47 ⟨Nat.le_of_ble_eq_true rfl, Nat.le_of_ble_eq_true rfl⟩ ⟨rfl, rfl, rfl, rfl, rfl, fun _ => rfl, rfl⟩ (fun r47 uu47 q47_ => ?_) rfl
    subst q47_
    exact V_iret F hr () rfl [0] rfl rfl (by decide) (by decide) d_Model_cell_50
  · skip
    obtain ⟨kn, hkn, rfl⟩ := (vin_ex h12 (by decide))
    have hkn9 : kn ≤ 8 := by omega
    refine V_iload_n F 2 d_Model_cell_15 rfl rfl ?_
    refine V_iconst F (v := 0) d_Model_cell_16 rfl ?_
    refine V_aload_n F 0 d_Model_cell_17 rfl rfl ?_
    refine V_get F 0 CI_Model 1 i_Model rfl rfl (by decide) m_597 rfl rfl d_Model_cell_18 ?_
    refine V_iconst F (v := 1) d_Model_cell_21 rfl ?_
    refine V_isub F d_Model_cell_22 ?_
    refine V_top (y := nI (nn - 1)) (pk_sub (a := nn) (b := 1) (by omega)) ?_
    refine V_callS_i (w1 := fun (u_ : Unit) => [(x0, .inr (CI_Model, [.int (nI 0), .int (nI nn), .ref x1, .ref x2, .ref x3, .ref x4, .ref x5, .ref x6, .ref x7, .ref x8, .ref x9, .ref x10, .ref x11, .int (nI n), .ref x12, .ref x13, .ref x14, .ref x15, .ref x16, .ref x17, .ref x18, .ref x19, .ref x20, .int (bP bt), .int (nI sg)]))]) (wr := [(x0, .inr (CI_Model, [.int (nI 0), .int (nI nn), .ref x1, .ref x2, .ref x3, .ref x4, .ref x5, .ref x6, .ref x7, .ref x8, .ref x9, .ref x10, .ref x11, .int (nI n), .ref x12, .ref x13, .ref x14, .ref x15, .ref x16, .ref x17, .ref x18, .ref x19, .ref x20, .int (bP bt), .int (nI sg)]))]) (isC := []) (isR := [0]) (pm := [0]) (As := [.int ot, .int 0, .int (nI (nn - 1))]) (rest := []) F (c_Model_in l D cI cL cB ot 0 (nI (nn - 1)) ) (cS_S 3 F.ts m_680 m_681 m_42 m_682 (by decide +kernel) ⟨Nat.le_of_ble_eq_true rfl, Nat.le_of_ble_eq_true rfl⟩) rfl (Nat.le_of_ble_eq_true rfl) d_Model_cell_23 ⟨Nat.le_of_ble_eq_true rfl, Nat.le_of_ble_eq_true rfl⟩ ⟨rfl, rfl, rfl, rfl, rfl, fun _ => rfl, rfl⟩ (fun r23 uu23 q23_ => ?_) rfl
    subst q23_
    refine V_top (y := bP (vp_in ot nn)) (bP_c (in_iff (m := nn) (by omega) (by omega))) ?_
    refine V_ifb_eq F 45 d_Model_cell_26 (by decide) (fun h26 => ?_) (fun h26 => ?_)
    · skip
      refine V_aload_n F 0 d_Model_cell_45 rfl rfl ?_
      refine V_iconst F (v := 1) d_Model_cell_46 rfl ?_
      refine V_callV_i (w1 := fun (u_ : Unit) => [(x0, .inr (CI_Model, [.int (nI 1), .int (nI nn), .ref x1, .ref x2, .ref x3, .ref x4, .ref x5, .ref x6, .ref x7, .ref x8, .ref x9, .ref x10, .ref x11, .int (nI n), .ref x12, .ref x13, .ref x14, .ref x15, .ref x16, .ref x17, .ref x18, .ref x19, .ref x20, .int (bP bt), .int (nI sg)]))]) (wr := []) (isC := [0]) (isR := []) (pm := [0]) (As := [.int 1]) (rest := []) F (c_Model_raise l D cI cL cB x0 x1 x2 x3 x4 x5 x6 x7 x8 x9 x10 x11 x12 x13 x14 x15 x16 x17 x18 x19 x20 0 nn n sg bt 1 ) (cS_V 1 F.ts m_689 m_690 m_18 m_42 m_691 (by decide +kernel) ⟨Nat.le_of_ble_eq_true rfl, Nat.le_of_ble_eq_true rfl⟩) (ci := CI_Model) (q0 := 0) rfl rfl rfl (Nat.le_of_ble_eq_true rfl) d_Model_cell_47 ⟨Nat.le_of_ble_eq_true rfl, Nat.le_of_ble_eq_true rfl⟩ ⟨rfl, rfl, rfl, rfl, rfl, fun _ => rfl, rfl⟩ (fun r47_4 uu47_4 q47_4_ => ?_) rfl
      subst q47_4_
      exact V_iret F hr () rfl [0] rfl rfl (by decide) (by decide) d_Model_cell_50
    · skip
      refine V_iload_n F 1 d_Model_cell_29 rfl rfl ?_
      refine V_iload_n F 3 d_Model_cell_30 rfl rfl ?_
      refine V_iload F 4 d_Model_cell_31 rfl ?_
      refine V_iload F 5 d_Model_cell_33 rfl ?_
      refine V_aload_n F 0 d_Model_cell_35 rfl rfl ?_
      refine V_get F 0 CI_Model 1 i_Model rfl rfl (by decide) m_597 rfl rfl d_Model_cell_36 ?_
      refine V_callS_i (w1 := fun (u_ : Unit) => [(x0, .inr (CI_Model, [.int (nI 0), .int (nI nn), .ref x1, .ref x2, .ref x3, .ref x4, .ref x5, .ref x6, .ref x7, .ref x8, .ref x9, .ref x10, .ref x11, .int (nI n), .ref x12, .ref x13, .ref x14, .ref x15, .ref x16, .ref x17, .ref x18, .ref x19, .ref x20, .int (bP bt), .int (nI sg)]))]) (wr := [(x0, .inr (CI_Model, [.int (nI 0), .int (nI nn), .ref x1, .ref x2, .ref x3, .ref x4, .ref x5, .ref x6, .ref x7, .ref x8, .ref x9, .ref x10, .ref x11, .int (nI n), .ref x12, .ref x13, .ref x14, .ref x15, .ref x16, .ref x17, .ref x18, .ref x19, .ref x20, .int (bP bt), .int (nI sg)]))]) (isC := []) (isR := [0]) (pm := [0]) (As := [.int (nI kn), .int a, .int b, .int c, .int (nI nn)]) (rest := []) F (c_Model_fits l D cI cL cB kn a b c nn (by first | assumption | omega | (simp only [] at *; omega)) (by first | assumption | omega | (simp only [] at *; omega)) (by first | assumption | omega | (simp only [] at *; omega))) (cS_S 5 F.ts m_683 m_684 m_42 m_685 (by decide +kernel) ⟨Nat.le_of_ble_eq_true rfl, Nat.le_of_ble_eq_true rfl⟩) rfl (Nat.le_of_ble_eq_true rfl) d_Model_cell_39 ⟨Nat.le_of_ble_eq_true rfl, Nat.le_of_ble_eq_true rfl⟩ ⟨rfl, rfl, rfl, rfl, rfl, fun _ => rfl, rfl⟩ (fun r39 uu39 q39_ => ?_) rfl
      subst q39_
      refine V_ifb_ne F 51 d_Model_cell_42 (by decide) (fun h42 => ?_) (fun h42 => ?_)
      · skip
        exact False.elim (hx ((Fits_n hkn9).mpr ⟨h26, h42⟩))
      · skip
        refine V_aload_n F 0 d_Model_cell_45 rfl rfl ?_
        refine V_iconst F (v := 1) d_Model_cell_46 rfl ?_
        refine V_callV_i (w1 := fun (u_ : Unit) => [(x0, .inr (CI_Model, [.int (nI 1), .int (nI nn), .ref x1, .ref x2, .ref x3, .ref x4, .ref x5, .ref x6, .ref x7, .ref x8, .ref x9, .ref x10, .ref x11, .int (nI n), .ref x12, .ref x13, .ref x14, .ref x15, .ref x16, .ref x17, .ref x18, .ref x19, .ref x20, .int (bP bt), .int (nI sg)]))]) (wr := []) (isC := [0]) (isR := []) (pm := [0]) (As := [.int 1]) (rest := []) F (c_Model_raise l D cI cL cB x0 x1 x2 x3 x4 x5 x6 x7 x8 x9 x10 x11 x12 x13 x14 x15 x16 x17 x18 x19 x20 0 nn n sg bt 1 ) (cS_V 1 F.ts m_689 m_690 m_18 m_42 m_691 (by decide +kernel) ⟨Nat.le_of_ble_eq_true rfl, Nat.le_of_ble_eq_true rfl⟩) (ci := CI_Model) (q0 := 0) rfl rfl rfl (Nat.le_of_ble_eq_true rfl) d_Model_cell_47 ⟨Nat.le_of_ble_eq_true rfl, Nat.le_of_ble_eq_true rfl⟩ ⟨rfl, rfl, rfl, rfl, rfl, fun _ => rfl, rfl⟩ (fun r47_6 uu47_6 q47_6_ => ?_) rfl
        subst q47_6_
        exact V_iret F hr () rfl [0] rfl rfl (by decide) (by decide) d_Model_cell_50

set_option maxHeartbeats 4000000 in
set_option maxRecDepth 100000 in
theorem c_Model_cell_2 (l : Launch) (D : va_G) (cI cL cB : ClassId) (x0 : Nat) (x1 : Nat) (x2 : Nat) (x3 : Nat) (x4 : Nat) (x5 : Nat) (x6 : Nat) (x7 : Nat) (x8 : Nat) (x9 : Nat) (x10 : Nat) (x11 : Nat) (x12 : Nat) (x13 : Nat) (x14 : Nat) (x15 : Nat) (x16 : Nat) (x17 : Nat) (x18 : Nat) (x19 : Nat) (x20 : Nat) (th : Nat) (nn : Nat) (n : Nat) (sg : Nat) (bt : Prop) (k : Nat → Nat) (o : Nat → Nat) (A : Nat → Int32) (B : Nat → Int32) (C : Nat → Int32) (kn : Nat) (ot : Nat) (a : Int32) (b : Int32) (c : Int32) (hn : n ≤ 60) (hnn : nn ≤ 80) (hw : WfC nn n k o A B C) (h40 : 1 ≤ nn) (hkn : kn ≤ 8) (hot : ot < nn) (hf : FitsM kn a b c nn) (hx : ¬ MayD n k o ot kn) : Cti l y_Model_cell (wK w_Model_cell) ({ frames := 2, cells := 0, slots := 0, locals := 47 }) D classes (TY cI cL cB) [.ref x0, .int (nI kn), .int (nI ot), .int a, .int b, .int c] [(x0, .inr (CI_Model, [.int (nI th), .int (nI nn), .ref x1, .ref x2, .ref x3, .ref x4, .ref x5, .ref x6, .ref x7, .ref x8, .ref x9, .ref x10, .ref x11, .int (nI n), .ref x12, .ref x13, .ref x14, .ref x15, .ref x16, .ref x17, .ref x18, .ref x19, .ref x20, .int (bP bt), .int (nI sg)])), (x5, .inl (cI, 60, .inl (cN k))), (x6, .inl (cI, 60, .inl (cN o))), (x7, .inl (cI, 60, .inl A)), (x8, .inl (cI, 60, .inl B)), (x9, .inl (cI, 60, .inl C))] (fun (r : Int32) (u_ : Unit) => r = nI 0) (fun (u_ : Unit) => [(x0, .inr (CI_Model, [.int (nI 2), .int (nI nn), .ref x1, .ref x2, .ref x3, .ref x4, .ref x5, .ref x6, .ref x7, .ref x8, .ref x9, .ref x10, .ref x11, .int (nI n), .ref x12, .ref x13, .ref x14, .ref x15, .ref x16, .ref x17, .ref x18, .ref x19, .ref x20, .int (bP bt), .int (nI sg)])), (x5, .inl (cI, 60, .inl (cN k))), (x6, .inl (cI, 60, .inl (cN o))), (x7, .inl (cI, 60, .inl A)), (x8, .inl (cI, 60, .inl B)), (x9, .inl (cI, 60, .inl C))]) 0 0 := by
  refine Ctg_of (cc := prog_9_method_9_code) (maxL := 6) (ret := (some .int)) "CircuitSimulatorModel" [(0, .ref x0), (1, .int (nI kn)), (2, .int (nI ot)), (3, .int a), (4, .int b), (5, .int c)] (by decide) rfl rfl (Nat.le_of_ble_eq_true rfl) rfl ?_
  intro p_ e_ s_ m_ args_ below_ meth_ c_ A_ F hr hin
  refine V_aload_n F 0 d_Model_cell_0 rfl rfl ?_
  refine V_iconst F (v := 0) d_Model_cell_1 rfl ?_
  refine V_put F 0 CI_Model 0 (w' := [(x0, .inr (CI_Model, [.int (nI 0), .int (nI nn), .ref x1, .ref x2, .ref x3, .ref x4, .ref x5, .ref x6, .ref x7, .ref x8, .ref x9, .ref x10, .ref x11, .int (nI n), .ref x12, .ref x13, .ref x14, .ref x15, .ref x16, .ref x17, .ref x18, .ref x19, .ref x20, .int (bP bt), .int (nI sg)])), (x5, .inl (cI, 60, .inl (cN k))), (x6, .inl (cI, 60, .inl (cN o))), (x7, .inl (cI, 60, .inl A)), (x8, .inl (cI, 60, .inl B)), (x9, .inl (cI, 60, .inl C))]) t_Model tk_Model n_Model i_Model rfl rfl (by decide) m_596 rfl rfl rfl rfl (Nat.le_of_ble_eq_true rfl) rfl d_Model_cell_2 ?_
  refine V_iload_n F 1 d_Model_cell_5 rfl rfl ?_
  refine V_iconst F (v := 0) d_Model_cell_6 rfl ?_
  refine V_bipush F (v := 8) d_Model_cell_7 rfl ?_
  refine V_callS_i (w1 := fun (u_ : Unit) => [(x0, .inr (CI_Model, [.int (nI 0), .int (nI nn), .ref x1, .ref x2, .ref x3, .ref x4, .ref x5, .ref x6, .ref x7, .ref x8, .ref x9, .ref x10, .ref x11, .int (nI n), .ref x12, .ref x13, .ref x14, .ref x15, .ref x16, .ref x17, .ref x18, .ref x19, .ref x20, .int (bP bt), .int (nI sg)])), (x5, .inl (cI, 60, .inl (cN k))), (x6, .inl (cI, 60, .inl (cN o))), (x7, .inl (cI, 60, .inl A)), (x8, .inl (cI, 60, .inl B)), (x9, .inl (cI, 60, .inl C))]) (wr := [(x0, .inr (CI_Model, [.int (nI 0), .int (nI nn), .ref x1, .ref x2, .ref x3, .ref x4, .ref x5, .ref x6, .ref x7, .ref x8, .ref x9, .ref x10, .ref x11, .int (nI n), .ref x12, .ref x13, .ref x14, .ref x15, .ref x16, .ref x17, .ref x18, .ref x19, .ref x20, .int (bP bt), .int (nI sg)])), (x5, .inl (cI, 60, .inl (cN k))), (x6, .inl (cI, 60, .inl (cN o))), (x7, .inl (cI, 60, .inl A)), (x8, .inl (cI, 60, .inl B)), (x9, .inl (cI, 60, .inl C))]) (isC := []) (isR := [0, 1, 2, 3, 4, 5]) (pm := [0, 1, 2, 3, 4, 5]) (As := [.int (nI kn), .int 0, .int 8]) (rest := []) F (c_Model_in l D cI cL cB (nI kn) 0 8 ) (cS_S 3 F.ts m_680 m_681 m_42 m_682 (by decide +kernel) ⟨Nat.le_of_ble_eq_true rfl, Nat.le_of_ble_eq_true rfl⟩) rfl (Nat.le_of_ble_eq_true rfl) d_Model_cell_9 ⟨Nat.le_of_ble_eq_true rfl, Nat.le_of_ble_eq_true rfl⟩ ⟨rfl, rfl, rfl, rfl, rfl, fun _ => rfl, rfl⟩ (fun r9 uu9 q9_ => ?_) rfl
  subst q9_
  refine V_top (y := bP (vp_in (nI kn) 9)) (bP_c (in_iff (m := 9) (by omega) (by omega))) ?_
  refine V_ifb_eq F 45 d_Model_cell_12 (by decide) (fun h12 => ?_) (fun h12 => ?_)
  · skip
    exact False.elim (h12 (vp_in_nI (by omega) (by omega)))
  · skip
    refine V_iload_n F 2 d_Model_cell_15 rfl rfl ?_
    refine V_iconst F (v := 0) d_Model_cell_16 rfl ?_
    refine V_aload_n F 0 d_Model_cell_17 rfl rfl ?_
    refine V_get F 0 CI_Model 1 i_Model rfl rfl (by decide) m_597 rfl rfl d_Model_cell_18 ?_
    refine V_iconst F (v := 1) d_Model_cell_21 rfl ?_
    refine V_isub F d_Model_cell_22 ?_
    refine V_top (y := nI (nn - 1)) (pk_sub (a := nn) (b := 1) (by omega)) ?_
    refine V_callS_i (w1 := fun (u_ : Unit) => [(x0, .inr (CI_Model, [.int (nI 0), .int (nI nn), .ref x1, .ref x2, .ref x3, .ref x4, .ref x5, .ref x6, .ref x7, .ref x8, .ref x9, .ref x10, .ref x11, .int (nI n), .ref x12, .ref x13, .ref x14, .ref x15, .ref x16, .ref x17, .ref x18, .ref x19, .ref x20, .int (bP bt), .int (nI sg)])), (x5, .inl (cI, 60, .inl (cN k))), (x6, .inl (cI, 60, .inl (cN o))), (x7, .inl (cI, 60, .inl A)), (x8, .inl (cI, 60, .inl B)), (x9, .inl (cI, 60, .inl C))]) (wr := [(x0, .inr (CI_Model, [.int (nI 0), .int (nI nn), .ref x1, .ref x2, .ref x3, .ref x4, .ref x5, .ref x6, .ref x7, .ref x8, .ref x9, .ref x10, .ref x11, .int (nI n), .ref x12, .ref x13, .ref x14, .ref x15, .ref x16, .ref x17, .ref x18, .ref x19, .ref x20, .int (bP bt), .int (nI sg)])), (x5, .inl (cI, 60, .inl (cN k))), (x6, .inl (cI, 60, .inl (cN o))), (x7, .inl (cI, 60, .inl A)), (x8, .inl (cI, 60, .inl B)), (x9, .inl (cI, 60, .inl C))]) (isC := []) (isR := [0, 1, 2, 3, 4, 5]) (pm := [0, 1, 2, 3, 4, 5]) (As := [.int (nI ot), .int 0, .int (nI (nn - 1))]) (rest := []) F (c_Model_in l D cI cL cB (nI ot) 0 (nI (nn - 1)) ) (cS_S 3 F.ts m_680 m_681 m_42 m_682 (by decide +kernel) ⟨Nat.le_of_ble_eq_true rfl, Nat.le_of_ble_eq_true rfl⟩) rfl (Nat.le_of_ble_eq_true rfl) d_Model_cell_23 ⟨Nat.le_of_ble_eq_true rfl, Nat.le_of_ble_eq_true rfl⟩ ⟨rfl, rfl, rfl, rfl, rfl, fun _ => rfl, rfl⟩ (fun r23 uu23 q23_ => ?_) rfl
    subst q23_
    refine V_top (y := bP (vp_in (nI ot) nn)) (bP_c (in_iff (m := nn) (by omega) (by omega))) ?_
    refine V_ifb_eq F 45 d_Model_cell_26 (by decide) (fun h26 => ?_) (fun h26 => ?_)
    · skip
      exact False.elim (h26 (vp_in_nI (by omega) (by omega)))
    · skip
      refine V_iload_n F 1 d_Model_cell_29 rfl rfl ?_
      refine V_iload_n F 3 d_Model_cell_30 rfl rfl ?_
      refine V_iload F 4 d_Model_cell_31 rfl ?_
      refine V_iload F 5 d_Model_cell_33 rfl ?_
      refine V_aload_n F 0 d_Model_cell_35 rfl rfl ?_
      refine V_get F 0 CI_Model 1 i_Model rfl rfl (by decide) m_597 rfl rfl d_Model_cell_36 ?_
      refine V_callS_i (w1 := fun (u_ : Unit) => [(x0, .inr (CI_Model, [.int (nI 0), .int (nI nn), .ref x1, .ref x2, .ref x3, .ref x4, .ref x5, .ref x6, .ref x7, .ref x8, .ref x9, .ref x10, .ref x11, .int (nI n), .ref x12, .ref x13, .ref x14, .ref x15, .ref x16, .ref x17, .ref x18, .ref x19, .ref x20, .int (bP bt), .int (nI sg)])), (x5, .inl (cI, 60, .inl (cN k))), (x6, .inl (cI, 60, .inl (cN o))), (x7, .inl (cI, 60, .inl A)), (x8, .inl (cI, 60, .inl B)), (x9, .inl (cI, 60, .inl C))]) (wr := [(x0, .inr (CI_Model, [.int (nI 0), .int (nI nn), .ref x1, .ref x2, .ref x3, .ref x4, .ref x5, .ref x6, .ref x7, .ref x8, .ref x9, .ref x10, .ref x11, .int (nI n), .ref x12, .ref x13, .ref x14, .ref x15, .ref x16, .ref x17, .ref x18, .ref x19, .ref x20, .int (bP bt), .int (nI sg)])), (x5, .inl (cI, 60, .inl (cN k))), (x6, .inl (cI, 60, .inl (cN o))), (x7, .inl (cI, 60, .inl A)), (x8, .inl (cI, 60, .inl B)), (x9, .inl (cI, 60, .inl C))]) (isC := []) (isR := [0, 1, 2, 3, 4, 5]) (pm := [0, 1, 2, 3, 4, 5]) (As := [.int (nI kn), .int a, .int b, .int c, .int (nI nn)]) (rest := []) F (c_Model_fits l D cI cL cB kn a b c nn (by first | assumption | omega | (simp only [] at *; omega)) (by first | assumption | omega | (simp only [] at *; omega)) (by first | assumption | omega | (simp only [] at *; omega))) (cS_S 5 F.ts m_683 m_684 m_42 m_685 (by decide +kernel) ⟨Nat.le_of_ble_eq_true rfl, Nat.le_of_ble_eq_true rfl⟩) rfl (Nat.le_of_ble_eq_true rfl) d_Model_cell_39 ⟨Nat.le_of_ble_eq_true rfl, Nat.le_of_ble_eq_true rfl⟩ ⟨rfl, rfl, rfl, rfl, rfl, fun _ => rfl, rfl⟩ (fun r39 uu39 q39_ => ?_) rfl
      subst q39_
      refine V_ifb_ne F 51 d_Model_cell_42 (by decide) (fun h42 => ?_) (fun h42 => ?_)
      · skip
        refine V_aload_n F 0 d_Model_cell_51 rfl rfl ?_
        refine V_iload_n F 1 d_Model_cell_52 rfl rfl ?_
        refine V_iload_n F 2 d_Model_cell_53 rfl rfl ?_
        refine V_callV_i (w1 := fun (u_ : Unit) => [(x0, .inr (CI_Model, [.int (nI 0), .int (nI nn), .ref x1, .ref x2, .ref x3, .ref x4, .ref x5, .ref x6, .ref x7, .ref x8, .ref x9, .ref x10, .ref x11, .int (nI n), .ref x12, .ref x13, .ref x14, .ref x15, .ref x16, .ref x17, .ref x18, .ref x19, .ref x20, .int (bP bt), .int (nI sg)])), (x5, .inl (cI, 60, .inl (cN k))), (x6, .inl (cI, 60, .inl (cN o))), (x7, .inl (cI, 60, .inl A)), (x8, .inl (cI, 60, .inl B)), (x9, .inl (cI, 60, .inl C))]) (wr := [(x7, .inl (cI, 60, .inl A)), (x8, .inl (cI, 60, .inl B)), (x9, .inl (cI, 60, .inl C))]) (isC := [0, 1, 2]) (isR := [3, 4, 5]) (pm := [3, 4, 5, 0, 1, 2]) (As := [.int (nI kn), .int (nI ot)]) (rest := []) F (c_Model_mayDrive l D cI cL cB x0 x1 x2 x3 x4 x5 x6 x7 x8 x9 x10 x11 x12 x13 x14 x15 x16 x17 x18 x19 x20 0 nn n sg bt k o kn ot (by first | assumption | omega | (simp only [] at *; omega)) (fun i hi => (hw i hi).1) (fun i hi => by have := (hw i hi).2.1; omega) (by first | assumption | omega | (simp only [] at *; omega)) (by first | assumption | omega | (simp only [] at *; omega))) (cS_V 2 F.ts m_692 m_693 m_19 m_42 m_694 (by decide +kernel) ⟨Nat.le_of_ble_eq_true rfl, Nat.le_of_ble_eq_true rfl⟩) (ci := CI_Model) (q0 := 0) rfl rfl rfl (Nat.le_of_ble_eq_true rfl) d_Model_cell_54 ⟨Nat.le_of_ble_eq_true rfl, Nat.le_of_ble_eq_true rfl⟩ ⟨rfl, rfl, rfl, rfl, rfl, fun _ => rfl, rfl⟩ (fun r54 uu54 q54_ => ?_) rfl
        subst q54_
        refine V_ifb_ne F 66 d_Model_cell_57 (by decide) (fun h57 => ?_) (fun h57 => ?_)
        · skip
          exact False.elim (hx h57)
        · skip
          refine V_aload_n F 0 d_Model_cell_60 rfl rfl ?_
          refine V_iconst F (v := 2) d_Model_cell_61 rfl ?_
          refine V_callV_i (w1 := fun (u_ : Unit) => [(x0, .inr (CI_Model, [.int (nI 2), .int (nI nn), .ref x1, .ref x2, .ref x3, .ref x4, .ref x5, .ref x6, .ref x7, .ref x8, .ref x9, .ref x10, .ref x11, .int (nI n), .ref x12, .ref x13, .ref x14, .ref x15, .ref x16, .ref x17, .ref x18, .ref x19, .ref x20, .int (bP bt), .int (nI sg)])), (x5, .inl (cI, 60, .inl (cN k))), (x6, .inl (cI, 60, .inl (cN o))), (x7, .inl (cI, 60, .inl A)), (x8, .inl (cI, 60, .inl B)), (x9, .inl (cI, 60, .inl C))]) (wr := [(x5, .inl (cI, 60, .inl (cN k))), (x6, .inl (cI, 60, .inl (cN o))), (x7, .inl (cI, 60, .inl A)), (x8, .inl (cI, 60, .inl B)), (x9, .inl (cI, 60, .inl C))]) (isC := [0]) (isR := [1, 2, 3, 4, 5]) (pm := [5, 0, 1, 2, 3, 4]) (As := [.int 2]) (rest := []) F (c_Model_raise l D cI cL cB x0 x1 x2 x3 x4 x5 x6 x7 x8 x9 x10 x11 x12 x13 x14 x15 x16 x17 x18 x19 x20 0 nn n sg bt 2 ) (cS_V 1 F.ts m_689 m_690 m_18 m_42 m_691 (by decide +kernel) ⟨Nat.le_of_ble_eq_true rfl, Nat.le_of_ble_eq_true rfl⟩) (ci := CI_Model) (q0 := 0) rfl rfl rfl (Nat.le_of_ble_eq_true rfl) d_Model_cell_62 ⟨Nat.le_of_ble_eq_true rfl, Nat.le_of_ble_eq_true rfl⟩ ⟨rfl, rfl, rfl, rfl, rfl, fun _ => rfl, rfl⟩ (fun r62 uu62 q62_ => ?_) rfl
          subst q62_
          exact V_iret F hr () rfl [0, 1, 2, 3, 4, 5] rfl rfl (by decide) (by decide) d_Model_cell_65
      · skip
        exact False.elim (h42 hf)

set_option maxHeartbeats 4000000 in
set_option maxRecDepth 100000 in
theorem c_Model_cell_3 (l : Launch) (D : va_G) (cI cL cB : ClassId) (x0 : Nat) (x1 : Nat) (x2 : Nat) (x3 : Nat) (x4 : Nat) (x5 : Nat) (x6 : Nat) (x7 : Nat) (x8 : Nat) (x9 : Nat) (x10 : Nat) (x11 : Nat) (x12 : Nat) (x13 : Nat) (x14 : Nat) (x15 : Nat) (x16 : Nat) (x17 : Nat) (x18 : Nat) (x19 : Nat) (x20 : Nat) (th : Nat) (nn : Nat) (n : Nat) (sg : Nat) (bt : Prop) (k : Nat → Nat) (o : Nat → Nat) (A : Nat → Int32) (B : Nat → Int32) (C : Nat → Int32) (kn : Nat) (ot : Nat) (a : Int32) (b : Int32) (c : Int32) (hn : n ≤ 60) (hnn : nn ≤ 80) (hw : WfC nn n k o A B C) (h40 : 1 ≤ nn) (hkn : kn ≤ 8) (hot : ot < nn) (hf : FitsM kn a b c nn) (hx : MayD n k o ot kn) (h60 : n = 60) : Cti l y_Model_cell (wK w_Model_cell) ({ frames := 2, cells := 0, slots := 0, locals := 47 }) D classes (TY cI cL cB) [.ref x0, .int (nI kn), .int (nI ot), .int a, .int b, .int c] [(x0, .inr (CI_Model, [.int (nI th), .int (nI nn), .ref x1, .ref x2, .ref x3, .ref x4, .ref x5, .ref x6, .ref x7, .ref x8, .ref x9, .ref x10, .ref x11, .int (nI n), .ref x12, .ref x13, .ref x14, .ref x15, .ref x16, .ref x17, .ref x18, .ref x19, .ref x20, .int (bP bt), .int (nI sg)])), (x5, .inl (cI, 60, .inl (cN k))), (x6, .inl (cI, 60, .inl (cN o))), (x7, .inl (cI, 60, .inl A)), (x8, .inl (cI, 60, .inl B)), (x9, .inl (cI, 60, .inl C))] (fun (r : Int32) (u_ : Unit) => r = nI 0) (fun (u_ : Unit) => [(x0, .inr (CI_Model, [.int (nI 3), .int (nI nn), .ref x1, .ref x2, .ref x3, .ref x4, .ref x5, .ref x6, .ref x7, .ref x8, .ref x9, .ref x10, .ref x11, .int (nI n), .ref x12, .ref x13, .ref x14, .ref x15, .ref x16, .ref x17, .ref x18, .ref x19, .ref x20, .int (bP bt), .int (nI sg)])), (x5, .inl (cI, 60, .inl (cN k))), (x6, .inl (cI, 60, .inl (cN o))), (x7, .inl (cI, 60, .inl A)), (x8, .inl (cI, 60, .inl B)), (x9, .inl (cI, 60, .inl C))]) 0 0 := by
  refine Ctg_of (cc := prog_9_method_9_code) (maxL := 6) (ret := (some .int)) "CircuitSimulatorModel" [(0, .ref x0), (1, .int (nI kn)), (2, .int (nI ot)), (3, .int a), (4, .int b), (5, .int c)] (by decide) rfl rfl (Nat.le_of_ble_eq_true rfl) rfl ?_
  intro p_ e_ s_ m_ args_ below_ meth_ c_ A_ F hr hin
  refine V_aload_n F 0 d_Model_cell_0 rfl rfl ?_
  refine V_iconst F (v := 0) d_Model_cell_1 rfl ?_
  refine V_put F 0 CI_Model 0 (w' := [(x0, .inr (CI_Model, [.int (nI 0), .int (nI nn), .ref x1, .ref x2, .ref x3, .ref x4, .ref x5, .ref x6, .ref x7, .ref x8, .ref x9, .ref x10, .ref x11, .int (nI n), .ref x12, .ref x13, .ref x14, .ref x15, .ref x16, .ref x17, .ref x18, .ref x19, .ref x20, .int (bP bt), .int (nI sg)])), (x5, .inl (cI, 60, .inl (cN k))), (x6, .inl (cI, 60, .inl (cN o))), (x7, .inl (cI, 60, .inl A)), (x8, .inl (cI, 60, .inl B)), (x9, .inl (cI, 60, .inl C))]) t_Model tk_Model n_Model i_Model rfl rfl (by decide) m_596 rfl rfl rfl rfl (Nat.le_of_ble_eq_true rfl) rfl d_Model_cell_2 ?_
  refine V_iload_n F 1 d_Model_cell_5 rfl rfl ?_
  refine V_iconst F (v := 0) d_Model_cell_6 rfl ?_
  refine V_bipush F (v := 8) d_Model_cell_7 rfl ?_
  refine V_callS_i (w1 := fun (u_ : Unit) => [(x0, .inr (CI_Model, [.int (nI 0), .int (nI nn), .ref x1, .ref x2, .ref x3, .ref x4, .ref x5, .ref x6, .ref x7, .ref x8, .ref x9, .ref x10, .ref x11, .int (nI n), .ref x12, .ref x13, .ref x14, .ref x15, .ref x16, .ref x17, .ref x18, .ref x19, .ref x20, .int (bP bt), .int (nI sg)])), (x5, .inl (cI, 60, .inl (cN k))), (x6, .inl (cI, 60, .inl (cN o))), (x7, .inl (cI, 60, .inl A)), (x8, .inl (cI, 60, .inl B)), (x9, .inl (cI, 60, .inl C))]) (wr := [(x0, .inr (CI_Model, [.int (nI 0), .int (nI nn), .ref x1, .ref x2, .ref x3, .ref x4, .ref x5, .ref x6, .ref x7, .ref x8, .ref x9, .ref x10, .ref x11, .int (nI n), .ref x12, .ref x13, .ref x14, .ref x15, .ref x16, .ref x17, .ref x18, .ref x19, .ref x20, .int (bP bt), .int (nI sg)])), (x5, .inl (cI, 60, .inl (cN k))), (x6, .inl (cI, 60, .inl (cN o))), (x7, .inl (cI, 60, .inl A)), (x8, .inl (cI, 60, .inl B)), (x9, .inl (cI, 60, .inl C))]) (isC := []) (isR := [0, 1, 2, 3, 4, 5]) (pm := [0, 1, 2, 3, 4, 5]) (As := [.int (nI kn), .int 0, .int 8]) (rest := []) F (c_Model_in l D cI cL cB (nI kn) 0 8 ) (cS_S 3 F.ts m_680 m_681 m_42 m_682 (by decide +kernel) ⟨Nat.le_of_ble_eq_true rfl, Nat.le_of_ble_eq_true rfl⟩) rfl (Nat.le_of_ble_eq_true rfl) d_Model_cell_9 ⟨Nat.le_of_ble_eq_true rfl, Nat.le_of_ble_eq_true rfl⟩ ⟨rfl, rfl, rfl, rfl, rfl, fun _ => rfl, rfl⟩ (fun r9 uu9 q9_ => ?_) rfl
  subst q9_
  refine V_top (y := bP (vp_in (nI kn) 9)) (bP_c (in_iff (m := 9) (by omega) (by omega))) ?_
  refine V_ifb_eq F 45 d_Model_cell_12 (by decide) (fun h12 => ?_) (fun h12 => ?_)
  · skip
    exact False.elim (h12 (vp_in_nI (by omega) (by omega)))
  · skip
    refine V_iload_n F 2 d_Model_cell_15 rfl rfl ?_
    refine V_iconst F (v := 0) d_Model_cell_16 rfl ?_
    refine V_aload_n F 0 d_Model_cell_17 rfl rfl ?_
    refine V_get F 0 CI_Model 1 i_Model rfl rfl (by decide) m_597 rfl rfl d_Model_cell_18 ?_
    refine V_iconst F (v := 1) d_Model_cell_21 rfl ?_
    refine V_isub F d_Model_cell_22 ?_
    refine V_top (y := nI (nn - 1)) (pk_sub (a := nn) (b := 1) (by omega)) ?_
    refine V_callS_i (w1 := fun (u_ : Unit) => [(x0, .inr (CI_Model, [.int (nI 0), .int (nI nn), .ref x1, .ref x2, .ref x3, .ref x4, .ref x5, .ref x6, .ref x7, .ref x8, .ref x9, .ref x10, .ref x11, .int (nI n), .ref x12, .ref x13, .ref x14, .ref x15, .ref x16, .ref x17, .ref x18, .ref x19, .ref x20, .int (bP bt), .int (nI sg)])), (x5, .inl (cI, 60, .inl (cN k))), (x6, .inl (cI, 60, .inl (cN o))), (x7, .inl (cI, 60, .inl A)), (x8, .inl (cI, 60, .inl B)), (x9, .inl (cI, 60, .inl C))]) (wr := [(x0, .inr (CI_Model, [.int (nI 0), .int (nI nn), .ref x1, .ref x2, .ref x3, .ref x4, .ref x5, .ref x6, .ref x7, .ref x8, .ref x9, .ref x10, .ref x11, .int (nI n), .ref x12, .ref x13, .ref x14, .ref x15, .ref x16, .ref x17, .ref x18, .ref x19, .ref x20, .int (bP bt), .int (nI sg)])), (x5, .inl (cI, 60, .inl (cN k))), (x6, .inl (cI, 60, .inl (cN o))), (x7, .inl (cI, 60, .inl A)), (x8, .inl (cI, 60, .inl B)), (x9, .inl (cI, 60, .inl C))]) (isC := []) (isR := [0, 1, 2, 3, 4, 5]) (pm := [0, 1, 2, 3, 4, 5]) (As := [.int (nI ot), .int 0, .int (nI (nn - 1))]) (rest := []) F (c_Model_in l D cI cL cB (nI ot) 0 (nI (nn - 1)) ) (cS_S 3 F.ts m_680 m_681 m_42 m_682 (by decide +kernel) ⟨Nat.le_of_ble_eq_true rfl, Nat.le_of_ble_eq_true rfl⟩) rfl (Nat.le_of_ble_eq_true rfl) d_Model_cell_23 ⟨Nat.le_of_ble_eq_true rfl, Nat.le_of_ble_eq_true rfl⟩ ⟨rfl, rfl, rfl, rfl, rfl, fun _ => rfl, rfl⟩ (fun r23 uu23 q23_ => ?_) rfl
    subst q23_
    refine V_top (y := bP (vp_in (nI ot) nn)) (bP_c (in_iff (m := nn) (by omega) (by omega))) ?_
    refine V_ifb_eq F 45 d_Model_cell_26 (by decide) (fun h26 => ?_) (fun h26 => ?_)
    · skip
      exact False.elim (h26 (vp_in_nI (by omega) (by omega)))
    · skip
      refine V_iload_n F 1 d_Model_cell_29 rfl rfl ?_
      refine V_iload_n F 3 d_Model_cell_30 rfl rfl ?_
      refine V_iload F 4 d_Model_cell_31 rfl ?_
      refine V_iload F 5 d_Model_cell_33 rfl ?_
      refine V_aload_n F 0 d_Model_cell_35 rfl rfl ?_
      refine V_get F 0 CI_Model 1 i_Model rfl rfl (by decide) m_597 rfl rfl d_Model_cell_36 ?_
      refine V_callS_i (w1 := fun (u_ : Unit) => [(x0, .inr (CI_Model, [.int (nI 0), .int (nI nn), .ref x1, .ref x2, .ref x3, .ref x4, .ref x5, .ref x6, .ref x7, .ref x8, .ref x9, .ref x10, .ref x11, .int (nI n), .ref x12, .ref x13, .ref x14, .ref x15, .ref x16, .ref x17, .ref x18, .ref x19, .ref x20, .int (bP bt), .int (nI sg)])), (x5, .inl (cI, 60, .inl (cN k))), (x6, .inl (cI, 60, .inl (cN o))), (x7, .inl (cI, 60, .inl A)), (x8, .inl (cI, 60, .inl B)), (x9, .inl (cI, 60, .inl C))]) (wr := [(x0, .inr (CI_Model, [.int (nI 0), .int (nI nn), .ref x1, .ref x2, .ref x3, .ref x4, .ref x5, .ref x6, .ref x7, .ref x8, .ref x9, .ref x10, .ref x11, .int (nI n), .ref x12, .ref x13, .ref x14, .ref x15, .ref x16, .ref x17, .ref x18, .ref x19, .ref x20, .int (bP bt), .int (nI sg)])), (x5, .inl (cI, 60, .inl (cN k))), (x6, .inl (cI, 60, .inl (cN o))), (x7, .inl (cI, 60, .inl A)), (x8, .inl (cI, 60, .inl B)), (x9, .inl (cI, 60, .inl C))]) (isC := []) (isR := [0, 1, 2, 3, 4, 5]) (pm := [0, 1, 2, 3, 4, 5]) (As := [.int (nI kn), .int a, .int b, .int c, .int (nI nn)]) (rest := []) F (c_Model_fits l D cI cL cB kn a b c nn (by first | assumption | omega | (simp only [] at *; omega)) (by first | assumption | omega | (simp only [] at *; omega)) (by first | assumption | omega | (simp only [] at *; omega))) (cS_S 5 F.ts m_683 m_684 m_42 m_685 (by decide +kernel) ⟨Nat.le_of_ble_eq_true rfl, Nat.le_of_ble_eq_true rfl⟩) rfl (Nat.le_of_ble_eq_true rfl) d_Model_cell_39 ⟨Nat.le_of_ble_eq_true rfl, Nat.le_of_ble_eq_true rfl⟩ ⟨rfl, rfl, rfl, rfl, rfl, fun _ => rfl, rfl⟩ (fun r39 uu39 q39_ => ?_) rfl
      subst q39_
      refine V_ifb_ne F 51 d_Model_cell_42 (by decide) (fun h42 => ?_) (fun h42 => ?_)
      · skip
        refine V_aload_n F 0 d_Model_cell_51 rfl rfl ?_
        refine V_iload_n F 1 d_Model_cell_52 rfl rfl ?_
        refine V_iload_n F 2 d_Model_cell_53 rfl rfl ?_
        refine V_callV_i (w1 := fun (u_ : Unit) => [(x0, .inr (CI_Model, [.int (nI 0), .int (nI nn), .ref x1, .ref x2, .ref x3, .ref x4, .ref x5, .ref x6, .ref x7, .ref x8, .ref x9, .ref x10, .ref x11, .int (nI n), .ref x12, .ref x13, .ref x14, .ref x15, .ref x16, .ref x17, .ref x18, .ref x19, .ref x20, .int (bP bt), .int (nI sg)])), (x5, .inl (cI, 60, .inl (cN k))), (x6, .inl (cI, 60, .inl (cN o))), (x7, .inl (cI, 60, .inl A)), (x8, .inl (cI, 60, .inl B)), (x9, .inl (cI, 60, .inl C))]) (wr := [(x7, .inl (cI, 60, .inl A)), (x8, .inl (cI, 60, .inl B)), (x9, .inl (cI, 60, .inl C))]) (isC := [0, 1, 2]) (isR := [3, 4, 5]) (pm := [3, 4, 5, 0, 1, 2]) (As := [.int (nI kn), .int (nI ot)]) (rest := []) F (c_Model_mayDrive l D cI cL cB x0 x1 x2 x3 x4 x5 x6 x7 x8 x9 x10 x11 x12 x13 x14 x15 x16 x17 x18 x19 x20 0 nn n sg bt k o kn ot (by first | assumption | omega | (simp only [] at *; omega)) (fun i hi => (hw i hi).1) (fun i hi => by have := (hw i hi).2.1; omega) (by first | assumption | omega | (simp only [] at *; omega)) (by first | assumption | omega | (simp only [] at *; omega))) (cS_V 2 F.ts m_692 m_693 m_19 m_42 m_694 (by decide +kernel) ⟨Nat.le_of_ble_eq_true rfl, Nat.le_of_ble_eq_true rfl⟩) (ci := CI_Model) (q0 := 0) rfl rfl rfl (Nat.le_of_ble_eq_true rfl) d_Model_cell_54 ⟨Nat.le_of_ble_eq_true rfl, Nat.le_of_ble_eq_true rfl⟩ ⟨rfl, rfl, rfl, rfl, rfl, fun _ => rfl, rfl⟩ (fun r54 uu54 q54_ => ?_) rfl
        subst q54_
        refine V_ifb_ne F 66 d_Model_cell_57 (by decide) (fun h57 => ?_) (fun h57 => ?_)
        · skip
          refine V_aload_n F 0 d_Model_cell_66 rfl rfl ?_
          refine V_get F 0 CI_Model 13 i_Model rfl rfl (by decide) m_609 rfl rfl d_Model_cell_67 ?_
          refine V_bipush F (v := 60) d_Model_cell_70 rfl ?_
          refine V_icmpn_ne F 81 (a := n) (b := 60) (by omega) (by omega) d_Model_cell_72 (by decide) (fun h72 => ?_) (fun h72 => ?_)
          · skip
            exact False.elim (by omega)
          · skip
            refine V_aload_n F 0 d_Model_cell_75 rfl rfl ?_
            refine V_iconst F (v := 3) d_Model_cell_76 rfl ?_
            refine V_callV_i (w1 := fun (u_ : Unit) => [(x0, .inr (CI_Model, [.int (nI 3), .int (nI nn), .ref x1, .ref x2, .ref x3, .ref x4, .ref x5, .ref x6, .ref x7, .ref x8, .ref x9, .ref x10, .ref x11, .int (nI n), .ref x12, .ref x13, .ref x14, .ref x15, .ref x16, .ref x17, .ref x18, .ref x19, .ref x20, .int (bP bt), .int (nI sg)])), (x5, .inl (cI, 60, .inl (cN k))), (x6, .inl (cI, 60, .inl (cN o))), (x7, .inl (cI, 60, .inl A)), (x8, .inl (cI, 60, .inl B)), (x9, .inl (cI, 60, .inl C))]) (wr := [(x5, .inl (cI, 60, .inl (cN k))), (x6, .inl (cI, 60, .inl (cN o))), (x7, .inl (cI, 60, .inl A)), (x8, .inl (cI, 60, .inl B)), (x9, .inl (cI, 60, .inl C))]) (isC := [0]) (isR := [1, 2, 3, 4, 5]) (pm := [5, 0, 1, 2, 3, 4]) (As := [.int 3]) (rest := []) F (c_Model_raise l D cI cL cB x0 x1 x2 x3 x4 x5 x6 x7 x8 x9 x10 x11 x12 x13 x14 x15 x16 x17 x18 x19 x20 0 nn n sg bt 3 ) (cS_V 1 F.ts m_689 m_690 m_18 m_42 m_691 (by decide +kernel) ⟨Nat.le_of_ble_eq_true rfl, Nat.le_of_ble_eq_true rfl⟩) (ci := CI_Model) (q0 := 0) rfl rfl rfl (Nat.le_of_ble_eq_true rfl) d_Model_cell_77 ⟨Nat.le_of_ble_eq_true rfl, Nat.le_of_ble_eq_true rfl⟩ ⟨rfl, rfl, rfl, rfl, rfl, fun _ => rfl, rfl⟩ (fun r77 uu77 q77_ => ?_) rfl
            subst q77_
            exact V_iret F hr () rfl [0, 1, 2, 3, 4, 5] rfl rfl (by decide) (by decide) d_Model_cell_80
        · skip
          exact False.elim (h57 hx)
      · skip
        exact False.elim (h42 hf)

set_option maxHeartbeats 4000000 in
set_option maxRecDepth 100000 in
theorem c_Model_cell_0 (l : Launch) (D : va_G) (cI cL cB : ClassId) (x0 : Nat) (x1 : Nat) (x2 : Nat) (x3 : Nat) (x4 : Nat) (x5 : Nat) (x6 : Nat) (x7 : Nat) (x8 : Nat) (x9 : Nat) (x10 : Nat) (x11 : Nat) (x12 : Nat) (x13 : Nat) (x14 : Nat) (x15 : Nat) (x16 : Nat) (x17 : Nat) (x18 : Nat) (x19 : Nat) (x20 : Nat) (th : Nat) (nn : Nat) (n : Nat) (sg : Nat) (bt : Prop) (k : Nat → Nat) (o : Nat → Nat) (A : Nat → Int32) (B : Nat → Int32) (C : Nat → Int32) (q : Nat → Nat) (kn : Nat) (ot : Nat) (a : Int32) (b : Int32) (c : Int32) (hn : n ≤ 60) (hnn : nn ≤ 80) (hw : WfC nn n k o A B C) (h40 : 1 ≤ nn) (hkn : kn ≤ 8) (hot : ot < nn) (hf : FitsM kn a b c nn) (hx : MayD n k o ot kn) (h60 : n < 60) : Cti l y_Model_cell (wK w_Model_cell) ({ frames := 2, cells := 0, slots := 0, locals := 47 }) D classes (TY cI cL cB) [.ref x0, .int (nI kn), .int (nI ot), .int a, .int b, .int c] [(x0, .inr (CI_Model, [.int (nI th), .int (nI nn), .ref x1, .ref x2, .ref x3, .ref x4, .ref x5, .ref x6, .ref x7, .ref x8, .ref x9, .ref x10, .ref x11, .int (nI n), .ref x12, .ref x13, .ref x14, .ref x15, .ref x16, .ref x17, .ref x18, .ref x19, .ref x20, .int (bP bt), .int (nI sg)])), (x5, .inl (cI, 60, .inl (cN k))), (x6, .inl (cI, 60, .inl (cN o))), (x7, .inl (cI, 60, .inl A)), (x8, .inl (cI, 60, .inl B)), (x9, .inl (cI, 60, .inl C)), (x10, .inl (cI, 60, .inl (cN q)))] (fun (r : Int32) (u_ : (Nat → Nat)) => r = nI n ∧ (u_ = up q n (if kn = 8 then c.toNatClampNeg else 2))) (fun (u_ : (Nat → Nat)) => [(x0, .inr (CI_Model, [.int (nI 0), .int (nI nn), .ref x1, .ref x2, .ref x3, .ref x4, .ref x5, .ref x6, .ref x7, .ref x8, .ref x9, .ref x10, .ref x11, .int (nI (n + 1)), .ref x12, .ref x13, .ref x14, .ref x15, .ref x16, .ref x17, .ref x18, .ref x19, .ref x20, .int (bP False), .int (nI sg)])), (x5, .inl (cI, 60, .inl (cN (up k n kn)))), (x6, .inl (cI, 60, .inl (cN (up o n ot)))), (x7, .inl (cI, 60, .inl (upd A n a))), (x8, .inl (cI, 60, .inl (upd B n b))), (x9, .inl (cI, 60, .inl (upd C n c))), (x10, .inl (cI, 60, .inl (cN u_)))]) 0 0 := by
  refine Ctg_of (cc := prog_9_method_9_code) (maxL := 6) (ret := (some .int)) "CircuitSimulatorModel" [(0, .ref x0), (1, .int (nI kn)), (2, .int (nI ot)), (3, .int a), (4, .int b), (5, .int c)] (by decide) rfl rfl (Nat.le_of_ble_eq_true rfl) rfl ?_
  intro p_ e_ s_ m_ args_ below_ meth_ c_ A_ F hr hin
  refine V_aload_n F 0 d_Model_cell_0 rfl rfl ?_
  refine V_iconst F (v := 0) d_Model_cell_1 rfl ?_
  refine V_put F 0 CI_Model 0 (w' := [(x0, .inr (CI_Model, [.int (nI 0), .int (nI nn), .ref x1, .ref x2, .ref x3, .ref x4, .ref x5, .ref x6, .ref x7, .ref x8, .ref x9, .ref x10, .ref x11, .int (nI n), .ref x12, .ref x13, .ref x14, .ref x15, .ref x16, .ref x17, .ref x18, .ref x19, .ref x20, .int (bP bt), .int (nI sg)])), (x5, .inl (cI, 60, .inl (cN k))), (x6, .inl (cI, 60, .inl (cN o))), (x7, .inl (cI, 60, .inl A)), (x8, .inl (cI, 60, .inl B)), (x9, .inl (cI, 60, .inl C)), (x10, .inl (cI, 60, .inl (cN q)))]) t_Model tk_Model n_Model i_Model rfl rfl (by decide) m_596 rfl rfl rfl rfl (Nat.le_of_ble_eq_true rfl) rfl d_Model_cell_2 ?_
  refine V_iload_n F 1 d_Model_cell_5 rfl rfl ?_
  refine V_iconst F (v := 0) d_Model_cell_6 rfl ?_
  refine V_bipush F (v := 8) d_Model_cell_7 rfl ?_
  refine V_callS_i (w1 := fun (u_ : Unit) => [(x0, .inr (CI_Model, [.int (nI 0), .int (nI nn), .ref x1, .ref x2, .ref x3, .ref x4, .ref x5, .ref x6, .ref x7, .ref x8, .ref x9, .ref x10, .ref x11, .int (nI n), .ref x12, .ref x13, .ref x14, .ref x15, .ref x16, .ref x17, .ref x18, .ref x19, .ref x20, .int (bP bt), .int (nI sg)])), (x5, .inl (cI, 60, .inl (cN k))), (x6, .inl (cI, 60, .inl (cN o))), (x7, .inl (cI, 60, .inl A)), (x8, .inl (cI, 60, .inl B)), (x9, .inl (cI, 60, .inl C)), (x10, .inl (cI, 60, .inl (cN q)))]) (wr := [(x0, .inr (CI_Model, [.int (nI 0), .int (nI nn), .ref x1, .ref x2, .ref x3, .ref x4, .ref x5, .ref x6, .ref x7, .ref x8, .ref x9, .ref x10, .ref x11, .int (nI n), .ref x12, .ref x13, .ref x14, .ref x15, .ref x16, .ref x17, .ref x18, .ref x19, .ref x20, .int (bP bt), .int (nI sg)])), (x5, .inl (cI, 60, .inl (cN k))), (x6, .inl (cI, 60, .inl (cN o))), (x7, .inl (cI, 60, .inl A)), (x8, .inl (cI, 60, .inl B)), (x9, .inl (cI, 60, .inl C)), (x10, .inl (cI, 60, .inl (cN q)))]) (isC := []) (isR := [0, 1, 2, 3, 4, 5, 6]) (pm := [0, 1, 2, 3, 4, 5, 6]) (As := [.int (nI kn), .int 0, .int 8]) (rest := []) F (c_Model_in l D cI cL cB (nI kn) 0 8 ) (cS_S 3 F.ts m_680 m_681 m_42 m_682 (by decide +kernel) ⟨Nat.le_of_ble_eq_true rfl, Nat.le_of_ble_eq_true rfl⟩) rfl (Nat.le_of_ble_eq_true rfl) d_Model_cell_9 ⟨Nat.le_of_ble_eq_true rfl, Nat.le_of_ble_eq_true rfl⟩ ⟨rfl, rfl, rfl, rfl, rfl, fun _ => rfl, rfl⟩ (fun r9 uu9 q9_ => ?_) rfl
  subst q9_
  refine V_top (y := bP (vp_in (nI kn) 9)) (bP_c (in_iff (m := 9) (by omega) (by omega))) ?_
  refine V_ifb_eq F 45 d_Model_cell_12 (by decide) (fun h12 => ?_) (fun h12 => ?_)
  · skip
    exact False.elim (h12 (vp_in_nI (by omega) (by omega)))
  · skip
    refine V_iload_n F 2 d_Model_cell_15 rfl rfl ?_
    refine V_iconst F (v := 0) d_Model_cell_16 rfl ?_
    refine V_aload_n F 0 d_Model_cell_17 rfl rfl ?_
    refine V_get F 0 CI_Model 1 i_Model rfl rfl (by decide) m_597 rfl rfl d_Model_cell_18 ?_
    refine V_iconst F (v := 1) d_Model_cell_21 rfl ?_
    refine V_isub F d_Model_cell_22 ?_
    refine V_top (y := nI (nn - 1)) (pk_sub (a := nn) (b := 1) (by omega)) ?_
    refine V_callS_i (w1 := fun (u_ : Unit) => [(x0, .inr (CI_Model, [.int (nI 0), .int (nI nn), .ref x1, .ref x2, .ref x3, .ref x4, .ref x5, .ref x6, .ref x7, .ref x8, .ref x9, .ref x10, .ref x11, .int (nI n), .ref x12, .ref x13, .ref x14, .ref x15, .ref x16, .ref x17, .ref x18, .ref x19, .ref x20, .int (bP bt), .int (nI sg)])), (x5, .inl (cI, 60, .inl (cN k))), (x6, .inl (cI, 60, .inl (cN o))), (x7, .inl (cI, 60, .inl A)), (x8, .inl (cI, 60, .inl B)), (x9, .inl (cI, 60, .inl C)), (x10, .inl (cI, 60, .inl (cN q)))]) (wr := [(x0, .inr (CI_Model, [.int (nI 0), .int (nI nn), .ref x1, .ref x2, .ref x3, .ref x4, .ref x5, .ref x6, .ref x7, .ref x8, .ref x9, .ref x10, .ref x11, .int (nI n), .ref x12, .ref x13, .ref x14, .ref x15, .ref x16, .ref x17, .ref x18, .ref x19, .ref x20, .int (bP bt), .int (nI sg)])), (x5, .inl (cI, 60, .inl (cN k))), (x6, .inl (cI, 60, .inl (cN o))), (x7, .inl (cI, 60, .inl A)), (x8, .inl (cI, 60, .inl B)), (x9, .inl (cI, 60, .inl C)), (x10, .inl (cI, 60, .inl (cN q)))]) (isC := []) (isR := [0, 1, 2, 3, 4, 5, 6]) (pm := [0, 1, 2, 3, 4, 5, 6]) (As := [.int (nI ot), .int 0, .int (nI (nn - 1))]) (rest := []) F (c_Model_in l D cI cL cB (nI ot) 0 (nI (nn - 1)) ) (cS_S 3 F.ts m_680 m_681 m_42 m_682 (by decide +kernel) ⟨Nat.le_of_ble_eq_true rfl, Nat.le_of_ble_eq_true rfl⟩) rfl (Nat.le_of_ble_eq_true rfl) d_Model_cell_23 ⟨Nat.le_of_ble_eq_true rfl, Nat.le_of_ble_eq_true rfl⟩ ⟨rfl, rfl, rfl, rfl, rfl, fun _ => rfl, rfl⟩ (fun r23 uu23 q23_ => ?_) rfl
    subst q23_
    refine V_top (y := bP (vp_in (nI ot) nn)) (bP_c (in_iff (m := nn) (by omega) (by omega))) ?_
    refine V_ifb_eq F 45 d_Model_cell_26 (by decide) (fun h26 => ?_) (fun h26 => ?_)
    · skip
      exact False.elim (h26 (vp_in_nI (by omega) (by omega)))
    · skip
      refine V_iload_n F 1 d_Model_cell_29 rfl rfl ?_
      refine V_iload_n F 3 d_Model_cell_30 rfl rfl ?_
      refine V_iload F 4 d_Model_cell_31 rfl ?_
      refine V_iload F 5 d_Model_cell_33 rfl ?_
      refine V_aload_n F 0 d_Model_cell_35 rfl rfl ?_
      refine V_get F 0 CI_Model 1 i_Model rfl rfl (by decide) m_597 rfl rfl d_Model_cell_36 ?_
      refine V_callS_i (w1 := fun (u_ : Unit) => [(x0, .inr (CI_Model, [.int (nI 0), .int (nI nn), .ref x1, .ref x2, .ref x3, .ref x4, .ref x5, .ref x6, .ref x7, .ref x8, .ref x9, .ref x10, .ref x11, .int (nI n), .ref x12, .ref x13, .ref x14, .ref x15, .ref x16, .ref x17, .ref x18, .ref x19, .ref x20, .int (bP bt), .int (nI sg)])), (x5, .inl (cI, 60, .inl (cN k))), (x6, .inl (cI, 60, .inl (cN o))), (x7, .inl (cI, 60, .inl A)), (x8, .inl (cI, 60, .inl B)), (x9, .inl (cI, 60, .inl C)), (x10, .inl (cI, 60, .inl (cN q)))]) (wr := [(x0, .inr (CI_Model, [.int (nI 0), .int (nI nn), .ref x1, .ref x2, .ref x3, .ref x4, .ref x5, .ref x6, .ref x7, .ref x8, .ref x9, .ref x10, .ref x11, .int (nI n), .ref x12, .ref x13, .ref x14, .ref x15, .ref x16, .ref x17, .ref x18, .ref x19, .ref x20, .int (bP bt), .int (nI sg)])), (x5, .inl (cI, 60, .inl (cN k))), (x6, .inl (cI, 60, .inl (cN o))), (x7, .inl (cI, 60, .inl A)), (x8, .inl (cI, 60, .inl B)), (x9, .inl (cI, 60, .inl C)), (x10, .inl (cI, 60, .inl (cN q)))]) (isC := []) (isR := [0, 1, 2, 3, 4, 5, 6]) (pm := [0, 1, 2, 3, 4, 5, 6]) (As := [.int (nI kn), .int a, .int b, .int c, .int (nI nn)]) (rest := []) F (c_Model_fits l D cI cL cB kn a b c nn (by first | assumption | omega | (simp only [] at *; omega)) (by first | assumption | omega | (simp only [] at *; omega)) (by first | assumption | omega | (simp only [] at *; omega))) (cS_S 5 F.ts m_683 m_684 m_42 m_685 (by decide +kernel) ⟨Nat.le_of_ble_eq_true rfl, Nat.le_of_ble_eq_true rfl⟩) rfl (Nat.le_of_ble_eq_true rfl) d_Model_cell_39 ⟨Nat.le_of_ble_eq_true rfl, Nat.le_of_ble_eq_true rfl⟩ ⟨rfl, rfl, rfl, rfl, rfl, fun _ => rfl, rfl⟩ (fun r39 uu39 q39_ => ?_) rfl
      subst q39_
      refine V_ifb_ne F 51 d_Model_cell_42 (by decide) (fun h42 => ?_) (fun h42 => ?_)
      · skip
        refine V_aload_n F 0 d_Model_cell_51 rfl rfl ?_
        refine V_iload_n F 1 d_Model_cell_52 rfl rfl ?_
        refine V_iload_n F 2 d_Model_cell_53 rfl rfl ?_
        refine V_callV_i (w1 := fun (u_ : Unit) => [(x0, .inr (CI_Model, [.int (nI 0), .int (nI nn), .ref x1, .ref x2, .ref x3, .ref x4, .ref x5, .ref x6, .ref x7, .ref x8, .ref x9, .ref x10, .ref x11, .int (nI n), .ref x12, .ref x13, .ref x14, .ref x15, .ref x16, .ref x17, .ref x18, .ref x19, .ref x20, .int (bP bt), .int (nI sg)])), (x5, .inl (cI, 60, .inl (cN k))), (x6, .inl (cI, 60, .inl (cN o))), (x7, .inl (cI, 60, .inl A)), (x8, .inl (cI, 60, .inl B)), (x9, .inl (cI, 60, .inl C)), (x10, .inl (cI, 60, .inl (cN q)))]) (wr := [(x7, .inl (cI, 60, .inl A)), (x8, .inl (cI, 60, .inl B)), (x9, .inl (cI, 60, .inl C)), (x10, .inl (cI, 60, .inl (cN q)))]) (isC := [0, 1, 2]) (isR := [3, 4, 5, 6]) (pm := [4, 5, 6, 0, 1, 2, 3]) (As := [.int (nI kn), .int (nI ot)]) (rest := []) F (c_Model_mayDrive l D cI cL cB x0 x1 x2 x3 x4 x5 x6 x7 x8 x9 x10 x11 x12 x13 x14 x15 x16 x17 x18 x19 x20 0 nn n sg bt k o kn ot (by first | assumption | omega | (simp only [] at *; omega)) (fun i hi => (hw i hi).1) (fun i hi => by have := (hw i hi).2.1; omega) (by first | assumption | omega | (simp only [] at *; omega)) (by first | assumption | omega | (simp only [] at *; omega))) (cS_V 2 F.ts m_692 m_693 m_19 m_42 m_694 (by decide +kernel) ⟨Nat.le_of_ble_eq_true rfl, Nat.le_of_ble_eq_true rfl⟩) (ci := CI_Model) (q0 := 0) rfl rfl rfl (Nat.le_of_ble_eq_true rfl) d_Model_cell_54 ⟨Nat.le_of_ble_eq_true rfl, Nat.le_of_ble_eq_true rfl⟩ ⟨rfl, rfl, rfl, rfl, rfl, fun _ => rfl, rfl⟩ (fun r54 uu54 q54_ => ?_) rfl
        subst q54_
        refine V_ifb_ne F 66 d_Model_cell_57 (by decide) (fun h57 => ?_) (fun h57 => ?_)
        · skip
          refine V_aload_n F 0 d_Model_cell_66 rfl rfl ?_
          refine V_get F 0 CI_Model 13 i_Model rfl rfl (by decide) m_609 rfl rfl d_Model_cell_67 ?_
          refine V_bipush F (v := 60) d_Model_cell_70 rfl ?_
          refine V_icmpn_ne F 81 (a := n) (b := 60) (by omega) (by omega) d_Model_cell_72 (by decide) (fun h72 => ?_) (fun h72 => ?_)
          · skip
            refine V_aload_n F 0 d_Model_cell_81 rfl rfl ?_
            refine V_iload_n F 1 d_Model_cell_82 rfl rfl ?_
            refine V_iload_n F 2 d_Model_cell_83 rfl rfl ?_
            refine V_iload_n F 3 d_Model_cell_84 rfl rfl ?_
            refine V_iload F 4 d_Model_cell_85 rfl ?_
            refine V_iload F 5 d_Model_cell_87 rfl ?_
            refine V_callV_v (w1 := fun (u_ : (Nat → Nat)) => [(x0, .inr (CI_Model, [.int (nI 0), .int (nI nn), .ref x1, .ref x2, .ref x3, .ref x4, .ref x5, .ref x6, .ref x7, .ref x8, .ref x9, .ref x10, .ref x11, .int (nI (n + 1)), .ref x12, .ref x13, .ref x14, .ref x15, .ref x16, .ref x17, .ref x18, .ref x19, .ref x20, .int (bP False), .int (nI sg)])), (x5, .inl (cI, 60, .inl (cN (up k n kn)))), (x6, .inl (cI, 60, .inl (cN (up o n ot)))), (x7, .inl (cI, 60, .inl (upd A n a))), (x8, .inl (cI, 60, .inl (upd B n b))), (x9, .inl (cI, 60, .inl (upd C n c))), (x10, .inl (cI, 60, .inl (cN u_)))]) (wr := []) (isC := [0, 1, 2, 3, 4, 5, 6]) (isR := []) (pm := [0, 1, 2, 3, 4, 5, 6]) (As := [.int (nI kn), .int (nI ot), .int a, .int b, .int c]) (rest := []) F (c_Model_add l D cI cL cB x0 x1 x2 x3 x4 x5 x6 x7 x8 x9 x10 x11 x12 x13 x14 x15 x16 x17 x18 x19 x20 0 nn n sg bt k o A B C q kn ot c.toNatClampNeg a b c (by first | assumption | omega | (simp only [] at *; omega)) (by first | assumption | omega | (simp only [] at *; omega)) (fun z => vin_nI (hf.2.2.2 z).2 (by decide))) (cS_V 5 F.ts m_695 m_696 m_20 m_42 m_697 (by decide +kernel) ⟨Nat.le_of_ble_eq_true rfl, Nat.le_of_ble_eq_true rfl⟩) (ci := CI_Model) (q0 := 0) rfl rfl rfl (Nat.le_of_ble_eq_true rfl) d_Model_cell_89 ⟨Nat.le_of_ble_eq_true rfl, Nat.le_of_ble_eq_true rfl⟩ ⟨rfl, rfl, rfl, rfl, rfl, fun _ => rfl, rfl⟩ (fun uu89 q89_ => ?_) rfl
            obtain ⟨q2_89, rfl⟩ : ∃ z, z = uu89 := ⟨_, rfl⟩
            have e89 : q2_89 = up q n (if kn = 8 then c.toNatClampNeg else 2) := q89_
            clear q89_
            refine V_aload_n F 0 d_Model_cell_92 rfl rfl ?_
            refine V_get F 0 CI_Model 13 i_Model rfl rfl (by decide) m_609 rfl rfl d_Model_cell_93 ?_
            refine V_iconst F (v := 1) d_Model_cell_96 rfl ?_
            refine V_isub F d_Model_cell_97 ?_
            refine V_top (y := nI ((n + 1) - 1)) (pk_sub (a := n + 1) (b := 1) (by omega)) ?_
            exact V_iret F hr q2_89 ⟨rfl, e89⟩ [0, 1, 2, 3, 4, 5, 6] rfl rfl (by decide) (by decide) d_Model_cell_98
          · skip
            exact False.elim (by omega)
        · skip
          exact False.elim (h57 hx)
      · skip
        exact False.elim (h42 hf)

set_option maxHeartbeats 4000000 in
set_option maxRecDepth 100000 in
theorem c_Model_part_1 (l : Launch) (D : va_G) (cI cL cB : ClassId) (x0 : Nat) (x1 : Nat) (x2 : Nat) (x3 : Nat) (x4 : Nat) (x5 : Nat) (x6 : Nat) (x7 : Nat) (x8 : Nat) (x9 : Nat) (x10 : Nat) (x11 : Nat) (x12 : Nat) (x13 : Nat) (x14 : Nat) (x15 : Nat) (x16 : Nat) (x17 : Nat) (x18 : Nat) (x19 : Nat) (x20 : Nat) (th : Nat) (nn : Nat) (n : Nat) (sg : Nat) (bt : Prop) (t : Int32) (kd : Int32) (ot : Int32) (a : Int32) (b : Int32) (c : Int32) (hx : ¬ (vp_in t 2 ∧ kd ≠ 0 ∧ Fits kd ot a b c 10)) : Cti l y_Model_part (wK w_Model_part) ({ frames := 2, cells := 0, slots := 0, locals := 47 }) D classes (TY cI cL cB) [.ref x0, .int t, .int kd, .int ot, .int a, .int b, .int c] [(x0, .inr (CI_Model, [.int (nI th), .int (nI nn), .ref x1, .ref x2, .ref x3, .ref x4, .ref x5, .ref x6, .ref x7, .ref x8, .ref x9, .ref x10, .ref x11, .int (nI n), .ref x12, .ref x13, .ref x14, .ref x15, .ref x16, .ref x17, .ref x18, .ref x19, .ref x20, .int (bP bt), .int (nI sg)]))] (fun (r : Int32) (u_ : Unit) => r = nI 0) (fun (u_ : Unit) => [(x0, .inr (CI_Model, [.int (nI 1), .int (nI nn), .ref x1, .ref x2, .ref x3, .ref x4, .ref x5, .ref x6, .ref x7, .ref x8, .ref x9, .ref x10, .ref x11, .int (nI n), .ref x12, .ref x13, .ref x14, .ref x15, .ref x16, .ref x17, .ref x18, .ref x19, .ref x20, .int (bP bt), .int (nI sg)]))]) 0 0 := by
  refine Ctg_of (cc := prog_9_method_10_code) (maxL := 8) (ret := (some .int)) "CircuitSimulatorModel" [(0, .ref x0), (1, .int t), (2, .int kd), (3, .int ot), (4, .int a), (5, .int b), (6, .int c)] (by decide) rfl rfl (Nat.le_of_ble_eq_true rfl) rfl ?_
  intro p_ e_ s_ m_ args_ below_ meth_ c_ A_ F hr hin
  refine V_aload_n F 0 d_Model_part_0 rfl rfl ?_
  refine V_iconst F (v := 0) d_Model_part_1 rfl ?_
  refine V_put F 0 CI_Model 0 (w' := [(x0, .inr (CI_Model, [.int (nI 0), .int (nI nn), .ref x1, .ref x2, .ref x3, .ref x4, .ref x5, .ref x6, .ref x7, .ref x8, .ref x9, .ref x10, .ref x11, .int (nI n), .ref x12, .ref x13, .ref x14, .ref x15, .ref x16, .ref x17, .ref x18, .ref x19, .ref x20, .int (bP bt), .int (nI sg)]))]) t_Model tk_Model n_Model i_Model rfl rfl (by decide) m_596 rfl rfl rfl rfl (Nat.le_of_ble_eq_true rfl) rfl d_Model_part_2 ?_
  refine V_iload_n F 1 d_Model_part_5 rfl rfl ?_
  refine V_iconst F (v := 0) d_Model_part_6 rfl ?_
  refine V_iconst F (v := 1) d_Model_part_7 rfl ?_
  refine V_callS_i (w1 := fun (u_ : Unit) => [(x0, .inr (CI_Model, [.int (nI 0), .int (nI nn), .ref x1, .ref x2, .ref x3, .ref x4, .ref x5, .ref x6, .ref x7, .ref x8, .ref x9, .ref x10, .ref x11, .int (nI n), .ref x12, .ref x13, .ref x14, .ref x15, .ref x16, .ref x17, .ref x18, .ref x19, .ref x20, .int (bP bt), .int (nI sg)]))]) (wr := [(x0, .inr (CI_Model, [.int (nI 0), .int (nI nn), .ref x1, .ref x2, .ref x3, .ref x4, .ref x5, .ref x6, .ref x7, .ref x8, .ref x9, .ref x10, .ref x11, .int (nI n), .ref x12, .ref x13, .ref x14, .ref x15, .ref x16, .ref x17, .ref x18, .ref x19, .ref x20, .int (bP bt), .int (nI sg)]))]) (isC := []) (isR := [0]) (pm := [0]) (As := [.int t, .int 0, .int 1]) (rest := []) F (c_Model_in l D cI cL cB t 0 1 ) (cS_S 3 F.ts m_680 m_681 m_42 m_682 (by decide +kernel) ⟨Nat.le_of_ble_eq_true rfl, Nat.le_of_ble_eq_true rfl⟩) rfl (Nat.le_of_ble_eq_true rfl) d_Model_part_8 ⟨Nat.le_of_ble_eq_true rfl, Nat.le_of_ble_eq_true rfl⟩ ⟨rfl, rfl, rfl, rfl, rfl, fun _ => rfl, rfl⟩ (fun r8 uu8 q8_ => ?_) rfl
  subst q8_
  refine V_top (y := bP (vp_in t 2)) (bP_c (in_iff (m := 2) (by omega) (by omega))) ?_
  refine V_ifb_eq F 49 d_Model_part_11 (by decide) (fun h11 => ?_) (fun h11 => ?_)
  · skip
    refine V_aload_n F 0 d_Model_part_49 rfl rfl ?_
    refine V_iconst F (v := 1) d_Model_part_50 rfl ?_
    refine V_callV_i (w1 := fun (u_ : Unit) => [(x0, .inr (CI_Model, [.int (nI 1), .int (nI nn), .ref x1, .ref x2, .ref x3, .ref x4, .ref x5, .ref x6, .ref x7, .ref x8, .ref x9, .ref x10, .ref x11, .int (nI n), .ref x12, .ref x13, .ref x14, .ref x15, .ref x16, .ref x17, .ref x18, .ref x19, .ref x20, .int (bP bt), .int (nI sg)]))]) (wr := []) (isC := [0]) (isR := []) (pm := [0]) (As := [.int 1]) (rest := []) F (c_Model_raise l D cI cL cB x0 x1 x2 x3 x4 x5 x6 x7 x8 x9 x10 x11 x12 x13 x14 x15 x16 x17 x18 x19 x20 0 nn n sg bt 1 ) (cS_V 1 F.ts m_689 m_690 m_18 m_42 m_691 (by decide +kernel) ⟨Nat.le_of_ble_eq_true rfl, Nat.le_of_ble_eq_true rfl⟩) (ci := CI_Model) (q0 := 0) rfl rfl rfl (Nat.le_of_ble_eq_true rfl) d_Model_part_51 ⟨Nat.le_of_ble_eq_true rfl, Nat.le_of_ble_eq_true rfl⟩ ⟨rfl, rfl, rfl, rfl, rfl, fun _ => rfl, rfl⟩ (fun r51 uu51 q51_ => ?_) rfl
    subst q51_
    exact V_iret F hr () rfl [0] rfl rfl (by decide) (by decide) d_Model_part_54
  · skip
    refine V_iload_n F 2 d_Model_part_14 rfl rfl ?_
    refine V_iconst F (v := 1) d_Model_part_15 rfl ?_
    refine V_bipush F (v := 8) d_Model_part_16 rfl ?_
    refine V_callS_i (w1 := fun (u_ : Unit) => [(x0, .inr (CI_Model, [.int (nI 0), .int (nI nn), .ref x1, .ref x2, .ref x3, .ref x4, .ref x5, .ref x6, .ref x7, .ref x8, .ref x9, .ref x10, .ref x11, .int (nI n), .ref x12, .ref x13, .ref x14, .ref x15, .ref x16, .ref x17, .ref x18, .ref x19, .ref x20, .int (bP bt), .int (nI sg)]))]) (wr := [(x0, .inr (CI_Model, [.int (nI 0), .int (nI nn), .ref x1, .ref x2, .ref x3, .ref x4, .ref x5, .ref x6, .ref x7, .ref x8, .ref x9, .ref x10, .ref x11, .int (nI n), .ref x12, .ref x13, .ref x14, .ref x15, .ref x16, .ref x17, .ref x18, .ref x19, .ref x20, .int (bP bt), .int (nI sg)]))]) (isC := []) (isR := [0]) (pm := [0]) (As := [.int kd, .int 1, .int 8]) (rest := []) F (c_Model_in l D cI cL cB kd 1 8 ) (cS_S 3 F.ts m_680 m_681 m_42 m_682 (by decide +kernel) ⟨Nat.le_of_ble_eq_true rfl, Nat.le_of_ble_eq_true rfl⟩) rfl (Nat.le_of_ble_eq_true rfl) d_Model_part_18 ⟨Nat.le_of_ble_eq_true rfl, Nat.le_of_ble_eq_true rfl⟩ ⟨rfl, rfl, rfl, rfl, rfl, fun _ => rfl, rfl⟩ (fun r18 uu18 q18_ => ?_) rfl
    subst q18_
    refine V_top (y := bP (vp_in kd 9 ∧ kd ≠ 0)) (bP_c in18) ?_
    refine V_ifb_eq F 49 d_Model_part_21 (by decide) (fun h21 => ?_) (fun h21 => ?_)
    · skip
      refine V_aload_n F 0 d_Model_part_49 rfl rfl ?_
      refine V_iconst F (v := 1) d_Model_part_50 rfl ?_
      refine V_callV_i (w1 := fun (u_ : Unit) => [(x0, .inr (CI_Model, [.int (nI 1), .int (nI nn), .ref x1, .ref x2, .ref x3, .ref x4, .ref x5, .ref x6, .ref x7, .ref x8, .ref x9, .ref x10, .ref x11, .int (nI n), .ref x12, .ref x13, .ref x14, .ref x15, .ref x16, .ref x17, .ref x18, .ref x19, .ref x20, .int (bP bt), .int (nI sg)]))]) (wr := []) (isC := [0]) (isR := []) (pm := [0]) (As := [.int 1]) (rest := []) F (c_Model_raise l D cI cL cB x0 x1 x2 x3 x4 x5 x6 x7 x8 x9 x10 x11 x12 x13 x14 x15 x16 x17 x18 x19 x20 0 nn n sg bt 1 ) (cS_V 1 F.ts m_689 m_690 m_18 m_42 m_691 (by decide +kernel) ⟨Nat.le_of_ble_eq_true rfl, Nat.le_of_ble_eq_true rfl⟩) (ci := CI_Model) (q0 := 0) rfl rfl rfl (Nat.le_of_ble_eq_true rfl) d_Model_part_51 ⟨Nat.le_of_ble_eq_true rfl, Nat.le_of_ble_eq_true rfl⟩ ⟨rfl, rfl, rfl, rfl, rfl, fun _ => rfl, rfl⟩ (fun r51_4 uu51_4 q51_4_ => ?_) rfl
      subst q51_4_
      exact V_iret F hr () rfl [0] rfl rfl (by decide) (by decide) d_Model_part_54
    · skip
      obtain ⟨kn, hkn, rfl⟩ := (vin_ex h21.1 (by decide))
      have hkn9 : kn ≤ 8 := by omega
      refine V_iload_n F 3 d_Model_part_24 rfl rfl ?_
      refine V_iconst F (v := 0) d_Model_part_25 rfl ?_
      refine V_bipush F (v := 9) d_Model_part_26 rfl ?_
      refine V_callS_i (w1 := fun (u_ : Unit) => [(x0, .inr (CI_Model, [.int (nI 0), .int (nI nn), .ref x1, .ref x2, .ref x3, .ref x4, .ref x5, .ref x6, .ref x7, .ref x8, .ref x9, .ref x10, .ref x11, .int (nI n), .ref x12, .ref x13, .ref x14, .ref x15, .ref x16, .ref x17, .ref x18, .ref x19, .ref x20, .int (bP bt), .int (nI sg)]))]) (wr := [(x0, .inr (CI_Model, [.int (nI 0), .int (nI nn), .ref x1, .ref x2, .ref x3, .ref x4, .ref x5, .ref x6, .ref x7, .ref x8, .ref x9, .ref x10, .ref x11, .int (nI n), .ref x12, .ref x13, .ref x14, .ref x15, .ref x16, .ref x17, .ref x18, .ref x19, .ref x20, .int (bP bt), .int (nI sg)]))]) (isC := []) (isR := [0]) (pm := [0]) (As := [.int ot, .int 0, .int 9]) (rest := []) F (c_Model_in l D cI cL cB ot 0 9 ) (cS_S 3 F.ts m_680 m_681 m_42 m_682 (by decide +kernel) ⟨Nat.le_of_ble_eq_true rfl, Nat.le_of_ble_eq_true rfl⟩) rfl (Nat.le_of_ble_eq_true rfl) d_Model_part_28 ⟨Nat.le_of_ble_eq_true rfl, Nat.le_of_ble_eq_true rfl⟩ ⟨rfl, rfl, rfl, rfl, rfl, fun _ => rfl, rfl⟩ (fun r28 uu28 q28_ => ?_) rfl
      subst q28_
      refine V_top (y := bP (vp_in ot 10)) (bP_c (in_iff (m := 10) (by omega) (by omega))) ?_
      refine V_ifb_eq F 49 d_Model_part_31 (by decide) (fun h31 => ?_) (fun h31 => ?_)
      · skip
        refine V_aload_n F 0 d_Model_part_49 rfl rfl ?_
        refine V_iconst F (v := 1) d_Model_part_50 rfl ?_
        refine V_callV_i (w1 := fun (u_ : Unit) => [(x0, .inr (CI_Model, [.int (nI 1), .int (nI nn), .ref x1, .ref x2, .ref x3, .ref x4, .ref x5, .ref x6, .ref x7, .ref x8, .ref x9, .ref x10, .ref x11, .int (nI n), .ref x12, .ref x13, .ref x14, .ref x15, .ref x16, .ref x17, .ref x18, .ref x19, .ref x20, .int (bP bt), .int (nI sg)]))]) (wr := []) (isC := [0]) (isR := []) (pm := [0]) (As := [.int 1]) (rest := []) F (c_Model_raise l D cI cL cB x0 x1 x2 x3 x4 x5 x6 x7 x8 x9 x10 x11 x12 x13 x14 x15 x16 x17 x18 x19 x20 0 nn n sg bt 1 ) (cS_V 1 F.ts m_689 m_690 m_18 m_42 m_691 (by decide +kernel) ⟨Nat.le_of_ble_eq_true rfl, Nat.le_of_ble_eq_true rfl⟩) (ci := CI_Model) (q0 := 0) rfl rfl rfl (Nat.le_of_ble_eq_true rfl) d_Model_part_51 ⟨Nat.le_of_ble_eq_true rfl, Nat.le_of_ble_eq_true rfl⟩ ⟨rfl, rfl, rfl, rfl, rfl, fun _ => rfl, rfl⟩ (fun r51_6 uu51_6 q51_6_ => ?_) rfl
        subst q51_6_
        exact V_iret F hr () rfl [0] rfl rfl (by decide) (by decide) d_Model_part_54
      · skip
        refine V_iload_n F 2 d_Model_part_34 rfl rfl ?_
        refine V_iload F 4 d_Model_part_35 rfl ?_
        refine V_iload F 5 d_Model_part_37 rfl ?_
        refine V_iload F 6 d_Model_part_39 rfl ?_
        refine V_bipush F (v := 10) d_Model_part_41 rfl ?_
        refine V_callS_i (w1 := fun (u_ : Unit) => [(x0, .inr (CI_Model, [.int (nI 0), .int (nI nn), .ref x1, .ref x2, .ref x3, .ref x4, .ref x5, .ref x6, .ref x7, .ref x8, .ref x9, .ref x10, .ref x11, .int (nI n), .ref x12, .ref x13, .ref x14, .ref x15, .ref x16, .ref x17, .ref x18, .ref x19, .ref x20, .int (bP bt), .int (nI sg)]))]) (wr := [(x0, .inr (CI_Model, [.int (nI 0), .int (nI nn), .ref x1, .ref x2, .ref x3, .ref x4, .ref x5, .ref x6, .ref x7, .ref x8, .ref x9, .ref x10, .ref x11, .int (nI n), .ref x12, .ref x13, .ref x14, .ref x15, .ref x16, .ref x17, .ref x18, .ref x19, .ref x20, .int (bP bt), .int (nI sg)]))]) (isC := []) (isR := [0]) (pm := [0]) (As := [.int (nI kn), .int a, .int b, .int c, .int 10]) (rest := []) F (c_Model_fits l D cI cL cB kn a b c 10 (by first | assumption | omega | (simp only [] at *; omega)) (by first | assumption | omega | (simp only [] at *; omega)) (by first | assumption | omega | (simp only [] at *; omega))) (cS_S 5 F.ts m_683 m_684 m_42 m_685 (by decide +kernel) ⟨Nat.le_of_ble_eq_true rfl, Nat.le_of_ble_eq_true rfl⟩) rfl (Nat.le_of_ble_eq_true rfl) d_Model_part_43 ⟨Nat.le_of_ble_eq_true rfl, Nat.le_of_ble_eq_true rfl⟩ ⟨rfl, rfl, rfl, rfl, rfl, fun _ => rfl, rfl⟩ (fun r43 uu43 q43_ => ?_) rfl
        subst q43_
        refine V_ifb_ne F 55 d_Model_part_46 (by decide) (fun h46 => ?_) (fun h46 => ?_)
        · skip
          exact False.elim (hx ⟨h11, h21.2, (Fits_n hkn9).mpr ⟨h31, h46⟩⟩)
        · skip
          refine V_aload_n F 0 d_Model_part_49 rfl rfl ?_
          refine V_iconst F (v := 1) d_Model_part_50 rfl ?_
          refine V_callV_i (w1 := fun (u_ : Unit) => [(x0, .inr (CI_Model, [.int (nI 1), .int (nI nn), .ref x1, .ref x2, .ref x3, .ref x4, .ref x5, .ref x6, .ref x7, .ref x8, .ref x9, .ref x10, .ref x11, .int (nI n), .ref x12, .ref x13, .ref x14, .ref x15, .ref x16, .ref x17, .ref x18, .ref x19, .ref x20, .int (bP bt), .int (nI sg)]))]) (wr := []) (isC := [0]) (isR := []) (pm := [0]) (As := [.int 1]) (rest := []) F (c_Model_raise l D cI cL cB x0 x1 x2 x3 x4 x5 x6 x7 x8 x9 x10 x11 x12 x13 x14 x15 x16 x17 x18 x19 x20 0 nn n sg bt 1 ) (cS_V 1 F.ts m_689 m_690 m_18 m_42 m_691 (by decide +kernel) ⟨Nat.le_of_ble_eq_true rfl, Nat.le_of_ble_eq_true rfl⟩) (ci := CI_Model) (q0 := 0) rfl rfl rfl (Nat.le_of_ble_eq_true rfl) d_Model_part_51 ⟨Nat.le_of_ble_eq_true rfl, Nat.le_of_ble_eq_true rfl⟩ ⟨rfl, rfl, rfl, rfl, rfl, fun _ => rfl, rfl⟩ (fun r51_8 uu51_8 q51_8_ => ?_) rfl
          subst q51_8_
          exact V_iret F hr () rfl [0] rfl rfl (by decide) (by decide) d_Model_part_54

set_option maxHeartbeats 4000000 in
set_option maxRecDepth 100000 in
theorem c_Model_part_2 (l : Launch) (D : va_G) (cI cL cB : ClassId) (x0 : Nat) (x1 : Nat) (x2 : Nat) (x3 : Nat) (x4 : Nat) (x5 : Nat) (x6 : Nat) (x7 : Nat) (x8 : Nat) (x9 : Nat) (x10 : Nat) (x11 : Nat) (x12 : Nat) (x13 : Nat) (x14 : Nat) (x15 : Nat) (x16 : Nat) (x17 : Nat) (x18 : Nat) (x19 : Nat) (x20 : Nat) (th : Nat) (nn : Nat) (n : Nat) (sg : Nat) (bt : Prop) (pa : Nat → Nat) (tm : Nat) (kn : Nat) (ot : Nat) (a : Int32) (b : Int32) (c : Int32) (htm : tm < 2) (hk1 : 1 ≤ kn) (hkn : kn ≤ 8) (hot : ot < 10) (hf : FitsM kn a b c 10) (hpa : pa tm ≤ 10) (hx : pa tm = 10) : Cti l y_Model_part (wK w_Model_part) ({ frames := 2, cells := 0, slots := 0, locals := 47 }) D classes (TY cI cL cB) [.ref x0, .int (nI tm), .int (nI kn), .int (nI ot), .int a, .int b, .int c] [(x0, .inr (CI_Model, [.int (nI th), .int (nI nn), .ref x1, .ref x2, .ref x3, .ref x4, .ref x5, .ref x6, .ref x7, .ref x8, .ref x9, .ref x10, .ref x11, .int (nI n), .ref x12, .ref x13, .ref x14, .ref x15, .ref x16, .ref x17, .ref x18, .ref x19, .ref x20, .int (bP bt), .int (nI sg)])), (x17, .inl (cI, 2, .inl (cN pa)))] (fun (r : Int32) (u_ : Unit) => r = nI 0) (fun (u_ : Unit) => [(x0, .inr (CI_Model, [.int (nI 2), .int (nI nn), .ref x1, .ref x2, .ref x3, .ref x4, .ref x5, .ref x6, .ref x7, .ref x8, .ref x9, .ref x10, .ref x11, .int (nI n), .ref x12, .ref x13, .ref x14, .ref x15, .ref x16, .ref x17, .ref x18, .ref x19, .ref x20, .int (bP bt), .int (nI sg)])), (x17, .inl (cI, 2, .inl (cN pa)))]) 0 0 := by
  refine Ctg_of (cc := prog_9_method_10_code) (maxL := 8) (ret := (some .int)) "CircuitSimulatorModel" [(0, .ref x0), (1, .int (nI tm)), (2, .int (nI kn)), (3, .int (nI ot)), (4, .int a), (5, .int b), (6, .int c)] (by decide) rfl rfl (Nat.le_of_ble_eq_true rfl) rfl ?_
  intro p_ e_ s_ m_ args_ below_ meth_ c_ A_ F hr hin
  refine V_aload_n F 0 d_Model_part_0 rfl rfl ?_
  refine V_iconst F (v := 0) d_Model_part_1 rfl ?_
  refine V_put F 0 CI_Model 0 (w' := [(x0, .inr (CI_Model, [.int (nI 0), .int (nI nn), .ref x1, .ref x2, .ref x3, .ref x4, .ref x5, .ref x6, .ref x7, .ref x8, .ref x9, .ref x10, .ref x11, .int (nI n), .ref x12, .ref x13, .ref x14, .ref x15, .ref x16, .ref x17, .ref x18, .ref x19, .ref x20, .int (bP bt), .int (nI sg)])), (x17, .inl (cI, 2, .inl (cN pa)))]) t_Model tk_Model n_Model i_Model rfl rfl (by decide) m_596 rfl rfl rfl rfl (Nat.le_of_ble_eq_true rfl) rfl d_Model_part_2 ?_
  refine V_iload_n F 1 d_Model_part_5 rfl rfl ?_
  refine V_iconst F (v := 0) d_Model_part_6 rfl ?_
  refine V_iconst F (v := 1) d_Model_part_7 rfl ?_
  refine V_callS_i (w1 := fun (u_ : Unit) => [(x0, .inr (CI_Model, [.int (nI 0), .int (nI nn), .ref x1, .ref x2, .ref x3, .ref x4, .ref x5, .ref x6, .ref x7, .ref x8, .ref x9, .ref x10, .ref x11, .int (nI n), .ref x12, .ref x13, .ref x14, .ref x15, .ref x16, .ref x17, .ref x18, .ref x19, .ref x20, .int (bP bt), .int (nI sg)])), (x17, .inl (cI, 2, .inl (cN pa)))]) (wr := [(x0, .inr (CI_Model, [.int (nI 0), .int (nI nn), .ref x1, .ref x2, .ref x3, .ref x4, .ref x5, .ref x6, .ref x7, .ref x8, .ref x9, .ref x10, .ref x11, .int (nI n), .ref x12, .ref x13, .ref x14, .ref x15, .ref x16, .ref x17, .ref x18, .ref x19, .ref x20, .int (bP bt), .int (nI sg)])), (x17, .inl (cI, 2, .inl (cN pa)))]) (isC := []) (isR := [0, 1]) (pm := [0, 1]) (As := [.int (nI tm), .int 0, .int 1]) (rest := []) F (c_Model_in l D cI cL cB (nI tm) 0 1 ) (cS_S 3 F.ts m_680 m_681 m_42 m_682 (by decide +kernel) ⟨Nat.le_of_ble_eq_true rfl, Nat.le_of_ble_eq_true rfl⟩) rfl (Nat.le_of_ble_eq_true rfl) d_Model_part_8 ⟨Nat.le_of_ble_eq_true rfl, Nat.le_of_ble_eq_true rfl⟩ ⟨rfl, rfl, rfl, rfl, rfl, fun _ => rfl, rfl⟩ (fun r8 uu8 q8_ => ?_) rfl
  subst q8_
  refine V_top (y := bP (vp_in (nI tm) 2)) (bP_c (in_iff (m := 2) (by omega) (by omega))) ?_
  refine V_ifb_eq F 49 d_Model_part_11 (by decide) (fun h11 => ?_) (fun h11 => ?_)
  · skip
    exact False.elim (h11 (vp_in_nI (by omega) (by omega)))
  · skip
    refine V_iload_n F 2 d_Model_part_14 rfl rfl ?_
    refine V_iconst F (v := 1) d_Model_part_15 rfl ?_
    refine V_bipush F (v := 8) d_Model_part_16 rfl ?_
    refine V_callS_i (w1 := fun (u_ : Unit) => [(x0, .inr (CI_Model, [.int (nI 0), .int (nI nn), .ref x1, .ref x2, .ref x3, .ref x4, .ref x5, .ref x6, .ref x7, .ref x8, .ref x9, .ref x10, .ref x11, .int (nI n), .ref x12, .ref x13, .ref x14, .ref x15, .ref x16, .ref x17, .ref x18, .ref x19, .ref x20, .int (bP bt), .int (nI sg)])), (x17, .inl (cI, 2, .inl (cN pa)))]) (wr := [(x0, .inr (CI_Model, [.int (nI 0), .int (nI nn), .ref x1, .ref x2, .ref x3, .ref x4, .ref x5, .ref x6, .ref x7, .ref x8, .ref x9, .ref x10, .ref x11, .int (nI n), .ref x12, .ref x13, .ref x14, .ref x15, .ref x16, .ref x17, .ref x18, .ref x19, .ref x20, .int (bP bt), .int (nI sg)])), (x17, .inl (cI, 2, .inl (cN pa)))]) (isC := []) (isR := [0, 1]) (pm := [0, 1]) (As := [.int (nI kn), .int 1, .int 8]) (rest := []) F (c_Model_in l D cI cL cB (nI kn) 1 8 ) (cS_S 3 F.ts m_680 m_681 m_42 m_682 (by decide +kernel) ⟨Nat.le_of_ble_eq_true rfl, Nat.le_of_ble_eq_true rfl⟩) rfl (Nat.le_of_ble_eq_true rfl) d_Model_part_18 ⟨Nat.le_of_ble_eq_true rfl, Nat.le_of_ble_eq_true rfl⟩ ⟨rfl, rfl, rfl, rfl, rfl, fun _ => rfl, rfl⟩ (fun r18 uu18 q18_ => ?_) rfl
    subst q18_
    refine V_top (y := bP (vp_in (nI kn) 9 ∧ nI kn ≠ 0)) (bP_c in18) ?_
    refine V_ifb_eq F 49 d_Model_part_21 (by decide) (fun h21 => ?_) (fun h21 => ?_)
    · skip
      exact False.elim (h21 ⟨(vp_in_nI (by omega) (by omega)), fun z => by have := (nI_eq (a := kn) (b := 0) (by omega) (by decide)).mp z; omega⟩)
    · skip
      refine V_iload_n F 3 d_Model_part_24 rfl rfl ?_
      refine V_iconst F (v := 0) d_Model_part_25 rfl ?_
      refine V_bipush F (v := 9) d_Model_part_26 rfl ?_
      refine V_callS_i (w1 := fun (u_ : Unit) => [(x0, .inr (CI_Model, [.int (nI 0), .int (nI nn), .ref x1, .ref x2, .ref x3, .ref x4, .ref x5, .ref x6, .ref x7, .ref x8, .ref x9, .ref x10, .ref x11, .int (nI n), .ref x12, .ref x13, .ref x14, .ref x15, .ref x16, .ref x17, .ref x18, .ref x19, .ref x20, .int (bP bt), .int (nI sg)])), (x17, .inl (cI, 2, .inl (cN pa)))]) (wr := [(x0, .inr (CI_Model, [.int (nI 0), .int (nI nn), .ref x1, .ref x2, .ref x3, .ref x4, .ref x5, .ref x6, .ref x7, .ref x8, .ref x9, .ref x10, .ref x11, .int (nI n), .ref x12, .ref x13, .ref x14, .ref x15, .ref x16, .ref x17, .ref x18, .ref x19, .ref x20, .int (bP bt), .int (nI sg)])), (x17, .inl (cI, 2, .inl (cN pa)))]) (isC := []) (isR := [0, 1]) (pm := [0, 1]) (As := [.int (nI ot), .int 0, .int 9]) (rest := []) F (c_Model_in l D cI cL cB (nI ot) 0 9 ) (cS_S 3 F.ts m_680 m_681 m_42 m_682 (by decide +kernel) ⟨Nat.le_of_ble_eq_true rfl, Nat.le_of_ble_eq_true rfl⟩) rfl (Nat.le_of_ble_eq_true rfl) d_Model_part_28 ⟨Nat.le_of_ble_eq_true rfl, Nat.le_of_ble_eq_true rfl⟩ ⟨rfl, rfl, rfl, rfl, rfl, fun _ => rfl, rfl⟩ (fun r28 uu28 q28_ => ?_) rfl
      subst q28_
      refine V_top (y := bP (vp_in (nI ot) 10)) (bP_c (in_iff (m := 10) (by omega) (by omega))) ?_
      refine V_ifb_eq F 49 d_Model_part_31 (by decide) (fun h31 => ?_) (fun h31 => ?_)
      · skip
        exact False.elim (h31 (vp_in_nI (by omega) (by omega)))
      · skip
        refine V_iload_n F 2 d_Model_part_34 rfl rfl ?_
        refine V_iload F 4 d_Model_part_35 rfl ?_
        refine V_iload F 5 d_Model_part_37 rfl ?_
        refine V_iload F 6 d_Model_part_39 rfl ?_
        refine V_bipush F (v := 10) d_Model_part_41 rfl ?_
        refine V_callS_i (w1 := fun (u_ : Unit) => [(x0, .inr (CI_Model, [.int (nI 0), .int (nI nn), .ref x1, .ref x2, .ref x3, .ref x4, .ref x5, .ref x6, .ref x7, .ref x8, .ref x9, .ref x10, .ref x11, .int (nI n), .ref x12, .ref x13, .ref x14, .ref x15, .ref x16, .ref x17, .ref x18, .ref x19, .ref x20, .int (bP bt), .int (nI sg)])), (x17, .inl (cI, 2, .inl (cN pa)))]) (wr := [(x0, .inr (CI_Model, [.int (nI 0), .int (nI nn), .ref x1, .ref x2, .ref x3, .ref x4, .ref x5, .ref x6, .ref x7, .ref x8, .ref x9, .ref x10, .ref x11, .int (nI n), .ref x12, .ref x13, .ref x14, .ref x15, .ref x16, .ref x17, .ref x18, .ref x19, .ref x20, .int (bP bt), .int (nI sg)])), (x17, .inl (cI, 2, .inl (cN pa)))]) (isC := []) (isR := [0, 1]) (pm := [0, 1]) (As := [.int (nI kn), .int a, .int b, .int c, .int 10]) (rest := []) F (c_Model_fits l D cI cL cB kn a b c 10 (by first | assumption | omega | (simp only [] at *; omega)) (by first | assumption | omega | (simp only [] at *; omega)) (by first | assumption | omega | (simp only [] at *; omega))) (cS_S 5 F.ts m_683 m_684 m_42 m_685 (by decide +kernel) ⟨Nat.le_of_ble_eq_true rfl, Nat.le_of_ble_eq_true rfl⟩) rfl (Nat.le_of_ble_eq_true rfl) d_Model_part_43 ⟨Nat.le_of_ble_eq_true rfl, Nat.le_of_ble_eq_true rfl⟩ ⟨rfl, rfl, rfl, rfl, rfl, fun _ => rfl, rfl⟩ (fun r43 uu43 q43_ => ?_) rfl
        subst q43_
        refine V_ifb_ne F 55 d_Model_part_46 (by decide) (fun h46 => ?_) (fun h46 => ?_)
        · skip
          refine V_aload_n F 0 d_Model_part_55 rfl rfl ?_
          refine V_get F 0 CI_Model 19 i_Model rfl rfl (by decide) m_615 rfl rfl d_Model_part_56 ?_
          refine V_iload_n F 1 d_Model_part_59 rfl rfl ?_
          refine V_ialdnN F 1 0 (k := tm) rfl rfl (by omega) (by decide) d_Model_part_60 ?_
          refine V_bipush F (v := 10) d_Model_part_61 rfl ?_
          refine V_icmpn_ne F 72 (a := pa tm) (b := 10) (by omega) (by omega) d_Model_part_63 (by decide) (fun h63 => ?_) (fun h63 => ?_)
          · skip
            exact False.elim (by omega)
          · skip
            refine V_aload_n F 0 d_Model_part_66 rfl rfl ?_
            refine V_iconst F (v := 2) d_Model_part_67 rfl ?_
            refine V_callV_i (w1 := fun (u_ : Unit) => [(x0, .inr (CI_Model, [.int (nI 2), .int (nI nn), .ref x1, .ref x2, .ref x3, .ref x4, .ref x5, .ref x6, .ref x7, .ref x8, .ref x9, .ref x10, .ref x11, .int (nI n), .ref x12, .ref x13, .ref x14, .ref x15, .ref x16, .ref x17, .ref x18, .ref x19, .ref x20, .int (bP bt), .int (nI sg)])), (x17, .inl (cI, 2, .inl (cN pa)))]) (wr := [(x17, .inl (cI, 2, .inl (cN pa)))]) (isC := [0]) (isR := [1]) (pm := [1, 0]) (As := [.int 2]) (rest := []) F (c_Model_raise l D cI cL cB x0 x1 x2 x3 x4 x5 x6 x7 x8 x9 x10 x11 x12 x13 x14 x15 x16 x17 x18 x19 x20 0 nn n sg bt 2 ) (cS_V 1 F.ts m_689 m_690 m_18 m_42 m_691 (by decide +kernel) ⟨Nat.le_of_ble_eq_true rfl, Nat.le_of_ble_eq_true rfl⟩) (ci := CI_Model) (q0 := 0) rfl rfl rfl (Nat.le_of_ble_eq_true rfl) d_Model_part_68 ⟨Nat.le_of_ble_eq_true rfl, Nat.le_of_ble_eq_true rfl⟩ ⟨rfl, rfl, rfl, rfl, rfl, fun _ => rfl, rfl⟩ (fun r68 uu68 q68_ => ?_) rfl
            subst q68_
            exact V_iret F hr () rfl [0, 1] rfl rfl (by decide) (by decide) d_Model_part_71
        · skip
          exact False.elim (h46 hf)

set_option maxHeartbeats 4000000 in
set_option maxRecDepth 100000 in
theorem c_Model_part_0 (l : Launch) (D : va_G) (cI cL cB : ClassId) (x0 : Nat) (x1 : Nat) (x2 : Nat) (x3 : Nat) (x4 : Nat) (x5 : Nat) (x6 : Nat) (x7 : Nat) (x8 : Nat) (x9 : Nat) (x10 : Nat) (x11 : Nat) (x12 : Nat) (x13 : Nat) (x14 : Nat) (x15 : Nat) (x16 : Nat) (x17 : Nat) (x18 : Nat) (x19 : Nat) (x20 : Nat) (th : Nat) (nn : Nat) (n : Nat) (sg : Nat) (bt : Prop) (tk : Nat → Nat) (to : Nat → Nat) (tA : Nat → Int32) (tB : Nat → Int32) (tC : Nat → Int32) (pa : Nat → Nat) (tm : Nat) (kn : Nat) (ot : Nat) (a : Int32) (b : Int32) (c : Int32) (htm : tm < 2) (hk1 : 1 ≤ kn) (hkn : kn ≤ 8) (hot : ot < 10) (hf : FitsM kn a b c 10) (hpa : pa tm ≤ 10) (hx : pa tm < 10) : Cti l y_Model_part (wK w_Model_part) ({ frames := 2, cells := 0, slots := 0, locals := 47 }) D classes (TY cI cL cB) [.ref x0, .int (nI tm), .int (nI kn), .int (nI ot), .int a, .int b, .int c] [(x0, .inr (CI_Model, [.int (nI th), .int (nI nn), .ref x1, .ref x2, .ref x3, .ref x4, .ref x5, .ref x6, .ref x7, .ref x8, .ref x9, .ref x10, .ref x11, .int (nI n), .ref x12, .ref x13, .ref x14, .ref x15, .ref x16, .ref x17, .ref x18, .ref x19, .ref x20, .int (bP bt), .int (nI sg)])), (x12, .inl (cI, 20, .inl (cN tk))), (x13, .inl (cI, 20, .inl (cN to))), (x14, .inl (cI, 20, .inl tA)), (x15, .inl (cI, 20, .inl tB)), (x16, .inl (cI, 20, .inl tC)), (x17, .inl (cI, 2, .inl (cN pa)))] (fun (r : Int32) (u_ : Unit) => r = nI (pa tm + 1)) (fun (u_ : Unit) => [(x0, .inr (CI_Model, [.int (nI 0), .int (nI nn), .ref x1, .ref x2, .ref x3, .ref x4, .ref x5, .ref x6, .ref x7, .ref x8, .ref x9, .ref x10, .ref x11, .int (nI n), .ref x12, .ref x13, .ref x14, .ref x15, .ref x16, .ref x17, .ref x18, .ref x19, .ref x20, .int (bP bt), .int (nI sg)])), (x12, .inl (cI, 20, .inl (cN (up tk (10 * tm + pa tm) kn)))), (x13, .inl (cI, 20, .inl (cN (up to (10 * tm + pa tm) ot)))), (x14, .inl (cI, 20, .inl (upd tA (10 * tm + pa tm) a))), (x15, .inl (cI, 20, .inl (upd tB (10 * tm + pa tm) b))), (x16, .inl (cI, 20, .inl (upd tC (10 * tm + pa tm) c))), (x17, .inl (cI, 2, .inl (cN (up pa tm (pa tm + 1)))))]) 0 0 := by
  refine Ctg_of (cc := prog_9_method_10_code) (maxL := 8) (ret := (some .int)) "CircuitSimulatorModel" [(0, .ref x0), (1, .int (nI tm)), (2, .int (nI kn)), (3, .int (nI ot)), (4, .int a), (5, .int b), (6, .int c)] (by decide) rfl rfl (Nat.le_of_ble_eq_true rfl) rfl ?_
  intro p_ e_ s_ m_ args_ below_ meth_ c_ A_ F hr hin
  refine V_aload_n F 0 d_Model_part_0 rfl rfl ?_
  refine V_iconst F (v := 0) d_Model_part_1 rfl ?_
  refine V_put F 0 CI_Model 0 (w' := [(x0, .inr (CI_Model, [.int (nI 0), .int (nI nn), .ref x1, .ref x2, .ref x3, .ref x4, .ref x5, .ref x6, .ref x7, .ref x8, .ref x9, .ref x10, .ref x11, .int (nI n), .ref x12, .ref x13, .ref x14, .ref x15, .ref x16, .ref x17, .ref x18, .ref x19, .ref x20, .int (bP bt), .int (nI sg)])), (x12, .inl (cI, 20, .inl (cN tk))), (x13, .inl (cI, 20, .inl (cN to))), (x14, .inl (cI, 20, .inl tA)), (x15, .inl (cI, 20, .inl tB)), (x16, .inl (cI, 20, .inl tC)), (x17, .inl (cI, 2, .inl (cN pa)))]) t_Model tk_Model n_Model i_Model rfl rfl (by decide) m_596 rfl rfl rfl rfl (Nat.le_of_ble_eq_true rfl) rfl d_Model_part_2 ?_
  refine V_iload_n F 1 d_Model_part_5 rfl rfl ?_
  refine V_iconst F (v := 0) d_Model_part_6 rfl ?_
  refine V_iconst F (v := 1) d_Model_part_7 rfl ?_
  refine V_callS_i (w1 := fun (u_ : Unit) => [(x0, .inr (CI_Model, [.int (nI 0), .int (nI nn), .ref x1, .ref x2, .ref x3, .ref x4, .ref x5, .ref x6, .ref x7, .ref x8, .ref x9, .ref x10, .ref x11, .int (nI n), .ref x12, .ref x13, .ref x14, .ref x15, .ref x16, .ref x17, .ref x18, .ref x19, .ref x20, .int (bP bt), .int (nI sg)])), (x12, .inl (cI, 20, .inl (cN tk))), (x13, .inl (cI, 20, .inl (cN to))), (x14, .inl (cI, 20, .inl tA)), (x15, .inl (cI, 20, .inl tB)), (x16, .inl (cI, 20, .inl tC)), (x17, .inl (cI, 2, .inl (cN pa)))]) (wr := [(x0, .inr (CI_Model, [.int (nI 0), .int (nI nn), .ref x1, .ref x2, .ref x3, .ref x4, .ref x5, .ref x6, .ref x7, .ref x8, .ref x9, .ref x10, .ref x11, .int (nI n), .ref x12, .ref x13, .ref x14, .ref x15, .ref x16, .ref x17, .ref x18, .ref x19, .ref x20, .int (bP bt), .int (nI sg)])), (x12, .inl (cI, 20, .inl (cN tk))), (x13, .inl (cI, 20, .inl (cN to))), (x14, .inl (cI, 20, .inl tA)), (x15, .inl (cI, 20, .inl tB)), (x16, .inl (cI, 20, .inl tC)), (x17, .inl (cI, 2, .inl (cN pa)))]) (isC := []) (isR := [0, 1, 2, 3, 4, 5, 6]) (pm := [0, 1, 2, 3, 4, 5, 6]) (As := [.int (nI tm), .int 0, .int 1]) (rest := []) F (c_Model_in l D cI cL cB (nI tm) 0 1 ) (cS_S 3 F.ts m_680 m_681 m_42 m_682 (by decide +kernel) ⟨Nat.le_of_ble_eq_true rfl, Nat.le_of_ble_eq_true rfl⟩) rfl (Nat.le_of_ble_eq_true rfl) d_Model_part_8 ⟨Nat.le_of_ble_eq_true rfl, Nat.le_of_ble_eq_true rfl⟩ ⟨rfl, rfl, rfl, rfl, rfl, fun _ => rfl, rfl⟩ (fun r8 uu8 q8_ => ?_) rfl
  subst q8_
  refine V_top (y := bP (vp_in (nI tm) 2)) (bP_c (in_iff (m := 2) (by omega) (by omega))) ?_
  refine V_ifb_eq F 49 d_Model_part_11 (by decide) (fun h11 => ?_) (fun h11 => ?_)
  · skip
    exact False.elim (h11 (vp_in_nI (by omega) (by omega)))
  · skip
    refine V_iload_n F 2 d_Model_part_14 rfl rfl ?_
    refine V_iconst F (v := 1) d_Model_part_15 rfl ?_
    refine V_bipush F (v := 8) d_Model_part_16 rfl ?_
    refine V_callS_i (w1 := fun (u_ : Unit) => [(x0, .inr (CI_Model, [.int (nI 0), .int (nI nn), .ref x1, .ref x2, .ref x3, .ref x4, .ref x5, .ref x6, .ref x7, .ref x8, .ref x9, .ref x10, .ref x11, .int (nI n), .ref x12, .ref x13, .ref x14, .ref x15, .ref x16, .ref x17, .ref x18, .ref x19, .ref x20, .int (bP bt), .int (nI sg)])), (x12, .inl (cI, 20, .inl (cN tk))), (x13, .inl (cI, 20, .inl (cN to))), (x14, .inl (cI, 20, .inl tA)), (x15, .inl (cI, 20, .inl tB)), (x16, .inl (cI, 20, .inl tC)), (x17, .inl (cI, 2, .inl (cN pa)))]) (wr := [(x0, .inr (CI_Model, [.int (nI 0), .int (nI nn), .ref x1, .ref x2, .ref x3, .ref x4, .ref x5, .ref x6, .ref x7, .ref x8, .ref x9, .ref x10, .ref x11, .int (nI n), .ref x12, .ref x13, .ref x14, .ref x15, .ref x16, .ref x17, .ref x18, .ref x19, .ref x20, .int (bP bt), .int (nI sg)])), (x12, .inl (cI, 20, .inl (cN tk))), (x13, .inl (cI, 20, .inl (cN to))), (x14, .inl (cI, 20, .inl tA)), (x15, .inl (cI, 20, .inl tB)), (x16, .inl (cI, 20, .inl tC)), (x17, .inl (cI, 2, .inl (cN pa)))]) (isC := []) (isR := [0, 1, 2, 3, 4, 5, 6]) (pm := [0, 1, 2, 3, 4, 5, 6]) (As := [.int (nI kn), .int 1, .int 8]) (rest := []) F (c_Model_in l D cI cL cB (nI kn) 1 8 ) (cS_S 3 F.ts m_680 m_681 m_42 m_682 (by decide +kernel) ⟨Nat.le_of_ble_eq_true rfl, Nat.le_of_ble_eq_true rfl⟩) rfl (Nat.le_of_ble_eq_true rfl) d_Model_part_18 ⟨Nat.le_of_ble_eq_true rfl, Nat.le_of_ble_eq_true rfl⟩ ⟨rfl, rfl, rfl, rfl, rfl, fun _ => rfl, rfl⟩ (fun r18 uu18 q18_ => ?_) rfl
    subst q18_
    refine V_top (y := bP (vp_in (nI kn) 9 ∧ nI kn ≠ 0)) (bP_c in18) ?_
    refine V_ifb_eq F 49 d_Model_part_21 (by decide) (fun h21 => ?_) (fun h21 => ?_)
    · skip
      exact False.elim (h21 ⟨(vp_in_nI (by omega) (by omega)), fun z => by have := (nI_eq (a := kn) (b := 0) (by omega) (by decide)).mp z; omega⟩)
    · skip
      refine V_iload_n F 3 d_Model_part_24 rfl rfl ?_
      refine V_iconst F (v := 0) d_Model_part_25 rfl ?_
      refine V_bipush F (v := 9) d_Model_part_26 rfl ?_
      refine V_callS_i (w1 := fun (u_ : Unit) => [(x0, .inr (CI_Model, [.int (nI 0), .int (nI nn), .ref x1, .ref x2, .ref x3, .ref x4, .ref x5, .ref x6, .ref x7, .ref x8, .ref x9, .ref x10, .ref x11, .int (nI n), .ref x12, .ref x13, .ref x14, .ref x15, .ref x16, .ref x17, .ref x18, .ref x19, .ref x20, .int (bP bt), .int (nI sg)])), (x12, .inl (cI, 20, .inl (cN tk))), (x13, .inl (cI, 20, .inl (cN to))), (x14, .inl (cI, 20, .inl tA)), (x15, .inl (cI, 20, .inl tB)), (x16, .inl (cI, 20, .inl tC)), (x17, .inl (cI, 2, .inl (cN pa)))]) (wr := [(x0, .inr (CI_Model, [.int (nI 0), .int (nI nn), .ref x1, .ref x2, .ref x3, .ref x4, .ref x5, .ref x6, .ref x7, .ref x8, .ref x9, .ref x10, .ref x11, .int (nI n), .ref x12, .ref x13, .ref x14, .ref x15, .ref x16, .ref x17, .ref x18, .ref x19, .ref x20, .int (bP bt), .int (nI sg)])), (x12, .inl (cI, 20, .inl (cN tk))), (x13, .inl (cI, 20, .inl (cN to))), (x14, .inl (cI, 20, .inl tA)), (x15, .inl (cI, 20, .inl tB)), (x16, .inl (cI, 20, .inl tC)), (x17, .inl (cI, 2, .inl (cN pa)))]) (isC := []) (isR := [0, 1, 2, 3, 4, 5, 6]) (pm := [0, 1, 2, 3, 4, 5, 6]) (As := [.int (nI ot), .int 0, .int 9]) (rest := []) F (c_Model_in l D cI cL cB (nI ot) 0 9 ) (cS_S 3 F.ts m_680 m_681 m_42 m_682 (by decide +kernel) ⟨Nat.le_of_ble_eq_true rfl, Nat.le_of_ble_eq_true rfl⟩) rfl (Nat.le_of_ble_eq_true rfl) d_Model_part_28 ⟨Nat.le_of_ble_eq_true rfl, Nat.le_of_ble_eq_true rfl⟩ ⟨rfl, rfl, rfl, rfl, rfl, fun _ => rfl, rfl⟩ (fun r28 uu28 q28_ => ?_) rfl
      subst q28_
      refine V_top (y := bP (vp_in (nI ot) 10)) (bP_c (in_iff (m := 10) (by omega) (by omega))) ?_
      refine V_ifb_eq F 49 d_Model_part_31 (by decide) (fun h31 => ?_) (fun h31 => ?_)
      · skip
        exact False.elim (h31 (vp_in_nI (by omega) (by omega)))
      · skip
        refine V_iload_n F 2 d_Model_part_34 rfl rfl ?_
        refine V_iload F 4 d_Model_part_35 rfl ?_
        refine V_iload F 5 d_Model_part_37 rfl ?_
        refine V_iload F 6 d_Model_part_39 rfl ?_
        refine V_bipush F (v := 10) d_Model_part_41 rfl ?_
        refine V_callS_i (w1 := fun (u_ : Unit) => [(x0, .inr (CI_Model, [.int (nI 0), .int (nI nn), .ref x1, .ref x2, .ref x3, .ref x4, .ref x5, .ref x6, .ref x7, .ref x8, .ref x9, .ref x10, .ref x11, .int (nI n), .ref x12, .ref x13, .ref x14, .ref x15, .ref x16, .ref x17, .ref x18, .ref x19, .ref x20, .int (bP bt), .int (nI sg)])), (x12, .inl (cI, 20, .inl (cN tk))), (x13, .inl (cI, 20, .inl (cN to))), (x14, .inl (cI, 20, .inl tA)), (x15, .inl (cI, 20, .inl tB)), (x16, .inl (cI, 20, .inl tC)), (x17, .inl (cI, 2, .inl (cN pa)))]) (wr := [(x0, .inr (CI_Model, [.int (nI 0), .int (nI nn), .ref x1, .ref x2, .ref x3, .ref x4, .ref x5, .ref x6, .ref x7, .ref x8, .ref x9, .ref x10, .ref x11, .int (nI n), .ref x12, .ref x13, .ref x14, .ref x15, .ref x16, .ref x17, .ref x18, .ref x19, .ref x20, .int (bP bt), .int (nI sg)])), (x12, .inl (cI, 20, .inl (cN tk))), (x13, .inl (cI, 20, .inl (cN to))), (x14, .inl (cI, 20, .inl tA)), (x15, .inl (cI, 20, .inl tB)), (x16, .inl (cI, 20, .inl tC)), (x17, .inl (cI, 2, .inl (cN pa)))]) (isC := []) (isR := [0, 1, 2, 3, 4, 5, 6]) (pm := [0, 1, 2, 3, 4, 5, 6]) (As := [.int (nI kn), .int a, .int b, .int c, .int 10]) (rest := []) F (c_Model_fits l D cI cL cB kn a b c 10 (by first | assumption | omega | (simp only [] at *; omega)) (by first | assumption | omega | (simp only [] at *; omega)) (by first | assumption | omega | (simp only [] at *; omega))) (cS_S 5 F.ts m_683 m_684 m_42 m_685 (by decide +kernel) ⟨Nat.le_of_ble_eq_true rfl, Nat.le_of_ble_eq_true rfl⟩) rfl (Nat.le_of_ble_eq_true rfl) d_Model_part_43 ⟨Nat.le_of_ble_eq_true rfl, Nat.le_of_ble_eq_true rfl⟩ ⟨rfl, rfl, rfl, rfl, rfl, fun _ => rfl, rfl⟩ (fun r43 uu43 q43_ => ?_) rfl
        subst q43_
        refine V_ifb_ne F 55 d_Model_part_46 (by decide) (fun h46 => ?_) (fun h46 => ?_)
        · skip
          refine V_aload_n F 0 d_Model_part_55 rfl rfl ?_
          refine V_get F 0 CI_Model 19 i_Model rfl rfl (by decide) m_615 rfl rfl d_Model_part_56 ?_
          refine V_iload_n F 1 d_Model_part_59 rfl rfl ?_
          refine V_ialdnN F 6 0 (k := tm) rfl rfl (by omega) (by decide) d_Model_part_60 ?_
          refine V_bipush F (v := 10) d_Model_part_61 rfl ?_
          refine V_icmpn_ne F 72 (a := pa tm) (b := 10) (by omega) (by omega) d_Model_part_63 (by decide) (fun h63 => ?_) (fun h63 => ?_)
          · skip
            refine V_bipush F (v := 10) d_Model_part_72 rfl ?_
            refine V_iload_n F 1 d_Model_part_74 rfl rfl ?_
            refine V_imul F d_Model_part_75 ?_
            refine V_top (y := nI (10 * tm)) (pk_mul _ _) ?_
            refine V_aload_n F 0 d_Model_part_76 rfl rfl ?_
            refine V_get F 0 CI_Model 19 i_Model rfl rfl (by decide) m_615 rfl rfl d_Model_part_77 ?_
            refine V_iload_n F 1 d_Model_part_80 rfl rfl ?_
            refine V_ialdnN F 6 0 (k := tm) rfl rfl (by omega) (by decide) d_Model_part_81 ?_
            refine V_iadd F d_Model_part_82 ?_
            refine V_top (y := nI ((10 * tm) + (pa tm))) (nI_add _ _) ?_
            refine V_istore F (lv' := [(7, .int (nI ((10 * tm) + (pa tm)))), (0, .ref x0), (1, .int (nI tm)), (2, .int (nI kn)), (3, .int (nI ot)), (4, .int a), (5, .int b), (6, .int c)]) d_Model_part_83 (by decide) rfl ?_
            refine V_aload_n F 1 d_Model_part_85 rfl rfl ?_
            refine V_get F 0 CI_Model 14 i_Model rfl rfl (by decide) m_610 rfl rfl d_Model_part_86 ?_
            refine V_iload F 0 d_Model_part_89 rfl ?_
            refine V_iload_n F 3 d_Model_part_91 rfl rfl ?_
            refine V_iastn F 1 0 (k := (10 * tm) + (pa tm)) (w' := [(x0, .inr (CI_Model, [.int (nI 0), .int (nI nn), .ref x1, .ref x2, .ref x3, .ref x4, .ref x5, .ref x6, .ref x7, .ref x8, .ref x9, .ref x10, .ref x11, .int (nI n), .ref x12, .ref x13, .ref x14, .ref x15, .ref x16, .ref x17, .ref x18, .ref x19, .ref x20, .int (bP bt), .int (nI sg)])), (x12, .inl (cI, 20, .inl (cN (up tk ((10 * tm) + (pa tm)) kn)))), (x13, .inl (cI, 20, .inl (cN to))), (x14, .inl (cI, 20, .inl tA)), (x15, .inl (cI, 20, .inl tB)), (x16, .inl (cI, 20, .inl tC)), (x17, .inl (cI, 2, .inl (cN pa)))]) rfl rfl (by omega) (by decide) (by rw [upd_cN] <;> rfl) d_Model_part_92 ?_
            refine V_aload_n F 1 d_Model_part_93 rfl rfl ?_
            refine V_get F 0 CI_Model 15 i_Model rfl rfl (by decide) m_611 rfl rfl d_Model_part_94 ?_
            refine V_iload F 0 d_Model_part_97 rfl ?_
            refine V_iload_n F 4 d_Model_part_99 rfl rfl ?_
            refine V_iastn F 2 0 (k := (10 * tm) + (pa tm)) (w' := [(x0, .inr (CI_Model, [.int (nI 0), .int (nI nn), .ref x1, .ref x2, .ref x3, .ref x4, .ref x5, .ref x6, .ref x7, .ref x8, .ref x9, .ref x10, .ref x11, .int (nI n), .ref x12, .ref x13, .ref x14, .ref x15, .ref x16, .ref x17, .ref x18, .ref x19, .ref x20, .int (bP bt), .int (nI sg)])), (x12, .inl (cI, 20, .inl (cN (up tk ((10 * tm) + (pa tm)) kn)))), (x13, .inl (cI, 20, .inl (cN (up to ((10 * tm) + (pa tm)) ot)))), (x14, .inl (cI, 20, .inl tA)), (x15, .inl (cI, 20, .inl tB)), (x16, .inl (cI, 20, .inl tC)), (x17, .inl (cI, 2, .inl (cN pa)))]) rfl rfl (by omega) (by decide) (by rw [upd_cN] <;> rfl) d_Model_part_100 ?_
            refine V_aload_n F 1 d_Model_part_101 rfl rfl ?_
            refine V_get F 0 CI_Model 16 i_Model rfl rfl (by decide) m_612 rfl rfl d_Model_part_102 ?_
            refine V_iload F 0 d_Model_part_105 rfl ?_
            refine V_iload F 5 d_Model_part_107 rfl ?_
            refine V_iastn F 3 0 (k := (10 * tm) + (pa tm)) (w' := [(x0, .inr (CI_Model, [.int (nI 0), .int (nI nn), .ref x1, .ref x2, .ref x3, .ref x4, .ref x5, .ref x6, .ref x7, .ref x8, .ref x9, .ref x10, .ref x11, .int (nI n), .ref x12, .ref x13, .ref x14, .ref x15, .ref x16, .ref x17, .ref x18, .ref x19, .ref x20, .int (bP bt), .int (nI sg)])), (x12, .inl (cI, 20, .inl (cN (up tk ((10 * tm) + (pa tm)) kn)))), (x13, .inl (cI, 20, .inl (cN (up to ((10 * tm) + (pa tm)) ot)))), (x14, .inl (cI, 20, .inl (upd tA ((10 * tm) + (pa tm)) a))), (x15, .inl (cI, 20, .inl tB)), (x16, .inl (cI, 20, .inl tC)), (x17, .inl (cI, 2, .inl (cN pa)))]) rfl rfl (by omega) (by decide) rfl d_Model_part_109 ?_
            refine V_aload_n F 1 d_Model_part_110 rfl rfl ?_
            refine V_get F 0 CI_Model 17 i_Model rfl rfl (by decide) m_613 rfl rfl d_Model_part_111 ?_
            refine V_iload F 0 d_Model_part_114 rfl ?_
            refine V_iload F 6 d_Model_part_116 rfl ?_
            refine V_iastn F 4 0 (k := (10 * tm) + (pa tm)) (w' := [(x0, .inr (CI_Model, [.int (nI 0), .int (nI nn), .ref x1, .ref x2, .ref x3, .ref x4, .ref x5, .ref x6, .ref x7, .ref x8, .ref x9, .ref x10, .ref x11, .int (nI n), .ref x12, .ref x13, .ref x14, .ref x15, .ref x16, .ref x17, .ref x18, .ref x19, .ref x20, .int (bP bt), .int (nI sg)])), (x12, .inl (cI, 20, .inl (cN (up tk ((10 * tm) + (pa tm)) kn)))), (x13, .inl (cI, 20, .inl (cN (up to ((10 * tm) + (pa tm)) ot)))), (x14, .inl (cI, 20, .inl (upd tA ((10 * tm) + (pa tm)) a))), (x15, .inl (cI, 20, .inl (upd tB ((10 * tm) + (pa tm)) b))), (x16, .inl (cI, 20, .inl tC)), (x17, .inl (cI, 2, .inl (cN pa)))]) rfl rfl (by omega) (by decide) rfl d_Model_part_118 ?_
            refine V_aload_n F 1 d_Model_part_119 rfl rfl ?_
            refine V_get F 0 CI_Model 18 i_Model rfl rfl (by decide) m_614 rfl rfl d_Model_part_120 ?_
            refine V_iload F 0 d_Model_part_123 rfl ?_
            refine V_iload F 7 d_Model_part_125 rfl ?_
            refine V_iastn F 5 0 (k := (10 * tm) + (pa tm)) (w' := [(x0, .inr (CI_Model, [.int (nI 0), .int (nI nn), .ref x1, .ref x2, .ref x3, .ref x4, .ref x5, .ref x6, .ref x7, .ref x8, .ref x9, .ref x10, .ref x11, .int (nI n), .ref x12, .ref x13, .ref x14, .ref x15, .ref x16, .ref x17, .ref x18, .ref x19, .ref x20, .int (bP bt), .int (nI sg)])), (x12, .inl (cI, 20, .inl (cN (up tk ((10 * tm) + (pa tm)) kn)))), (x13, .inl (cI, 20, .inl (cN (up to ((10 * tm) + (pa tm)) ot)))), (x14, .inl (cI, 20, .inl (upd tA ((10 * tm) + (pa tm)) a))), (x15, .inl (cI, 20, .inl (upd tB ((10 * tm) + (pa tm)) b))), (x16, .inl (cI, 20, .inl (upd tC ((10 * tm) + (pa tm)) c))), (x17, .inl (cI, 2, .inl (cN pa)))]) rfl rfl (by omega) (by decide) rfl d_Model_part_127 ?_
            refine V_aload_n F 1 d_Model_part_128 rfl rfl ?_
            refine V_get F 0 CI_Model 19 i_Model rfl rfl (by decide) m_615 rfl rfl d_Model_part_129 ?_
            refine V_iload_n F 2 d_Model_part_132 rfl rfl ?_
            refine V_dup2 F d_Model_part_133 rfl rfl ?_
            refine V_ialdnN F 6 0 (k := tm) rfl rfl (by omega) (by decide) d_Model_part_134 ?_
            refine V_iconst F (v := 1) d_Model_part_135 rfl ?_
            refine V_iadd F d_Model_part_136 ?_
            refine V_top (y := nI ((pa tm) + 1)) (nI_add _ _) ?_
            refine V_iastn F 6 0 (k := tm) (w' := [(x0, .inr (CI_Model, [.int (nI 0), .int (nI nn), .ref x1, .ref x2, .ref x3, .ref x4, .ref x5, .ref x6, .ref x7, .ref x8, .ref x9, .ref x10, .ref x11, .int (nI n), .ref x12, .ref x13, .ref x14, .ref x15, .ref x16, .ref x17, .ref x18, .ref x19, .ref x20, .int (bP bt), .int (nI sg)])), (x12, .inl (cI, 20, .inl (cN (up tk ((10 * tm) + (pa tm)) kn)))), (x13, .inl (cI, 20, .inl (cN (up to ((10 * tm) + (pa tm)) ot)))), (x14, .inl (cI, 20, .inl (upd tA ((10 * tm) + (pa tm)) a))), (x15, .inl (cI, 20, .inl (upd tB ((10 * tm) + (pa tm)) b))), (x16, .inl (cI, 20, .inl (upd tC ((10 * tm) + (pa tm)) c))), (x17, .inl (cI, 2, .inl (cN (up pa tm ((pa tm) + 1)))))]) rfl rfl (by omega) (by decide) (by rw [upd_cN] <;> rfl) d_Model_part_137 ?_
            refine V_aload_n F 1 d_Model_part_138 rfl rfl ?_
            refine V_get F 0 CI_Model 19 i_Model rfl rfl (by decide) m_615 rfl rfl d_Model_part_139 ?_
            refine V_iload_n F 2 d_Model_part_142 rfl rfl ?_
            refine V_ialdnN F 6 0 (k := tm) rfl rfl (by omega) (by decide) d_Model_part_143 ?_
            refine V_top (y := nI ((pa tm) + 1)) (congrArg nI up_s) ?_
            exact V_iret F hr () rfl [0, 1, 2, 3, 4, 5, 6] rfl rfl (by decide) (by decide) d_Model_part_144
          · skip
            exact False.elim (by omega)
        · skip
          exact False.elim (h46 hf)

set_option maxHeartbeats 4000000 in
set_option maxRecDepth 100000 in
theorem c_Model_instance_1 (l : Launch) (D : va_G) (cI cL cB : ClassId) (x0 : Nat) (x1 : Nat) (x2 : Nat) (x3 : Nat) (x4 : Nat) (x5 : Nat) (x6 : Nat) (x7 : Nat) (x8 : Nat) (x9 : Nat) (x10 : Nat) (x11 : Nat) (x12 : Nat) (x13 : Nat) (x14 : Nat) (x15 : Nat) (x16 : Nat) (x17 : Nat) (x18 : Nat) (x19 : Nat) (x20 : Nat) (th : Nat) (nn : Nat) (n : Nat) (sg : Nat) (bt : Prop) (t : Int32) (x : Int32) (y : Int32) (h40 : 1 ≤ nn) (hnn : nn ≤ 80) (hx : ¬ (vp_in t 2 ∧ vp_in x nn ∧ vp_in y nn)) : Cti l y_Model_instance (wK w_Model_instance) ({ frames := 1, cells := 0, slots := 0, locals := 22 }) D classes (TY cI cL cB) [.ref x0, .int t, .int x, .int y] [(x0, .inr (CI_Model, [.int (nI th), .int (nI nn), .ref x1, .ref x2, .ref x3, .ref x4, .ref x5, .ref x6, .ref x7, .ref x8, .ref x9, .ref x10, .ref x11, .int (nI n), .ref x12, .ref x13, .ref x14, .ref x15, .ref x16, .ref x17, .ref x18, .ref x19, .ref x20, .int (bP bt), .int (nI sg)]))] (fun (r : Int32) (u_ : Unit) => r = nI 0) (fun (u_ : Unit) => [(x0, .inr (CI_Model, [.int (nI 1), .int (nI nn), .ref x1, .ref x2, .ref x3, .ref x4, .ref x5, .ref x6, .ref x7, .ref x8, .ref x9, .ref x10, .ref x11, .int (nI n), .ref x12, .ref x13, .ref x14, .ref x15, .ref x16, .ref x17, .ref x18, .ref x19, .ref x20, .int (bP bt), .int (nI sg)]))]) 0 0 := by
  refine Ctg_of (cc := prog_9_method_14_code) (maxL := 7) (ret := (some .int)) "CircuitSimulatorModel" [(0, .ref x0), (1, .int t), (2, .int x), (3, .int y)] (by decide) rfl rfl (Nat.le_of_ble_eq_true rfl) rfl ?_
  intro p_ e_ s_ m_ args_ below_ meth_ c_ A_ F hr hin
  refine V_aload_n F 0 d_Model_instance_0 rfl rfl ?_
  refine V_iconst F (v := 0) d_Model_instance_1 rfl ?_
  refine V_put F 0 CI_Model 0 (w' := [(x0, .inr (CI_Model, [.int (nI 0), .int (nI nn), .ref x1, .ref x2, .ref x3, .ref x4, .ref x5, .ref x6, .ref x7, .ref x8, .ref x9, .ref x10, .ref x11, .int (nI n), .ref x12, .ref x13, .ref x14, .ref x15, .ref x16, .ref x17, .ref x18, .ref x19, .ref x20, .int (bP bt), .int (nI sg)]))]) t_Model tk_Model n_Model i_Model rfl rfl (by decide) m_596 rfl rfl rfl rfl (Nat.le_of_ble_eq_true rfl) rfl d_Model_instance_2 ?_
  refine V_iload_n F 1 d_Model_instance_5 rfl rfl ?_
  refine V_iconst F (v := 0) d_Model_instance_6 rfl ?_
  refine V_iconst F (v := 1) d_Model_instance_7 rfl ?_
  refine V_callS_i (w1 := fun (u_ : Unit) => [(x0, .inr (CI_Model, [.int (nI 0), .int (nI nn), .ref x1, .ref x2, .ref x3, .ref x4, .ref x5, .ref x6, .ref x7, .ref x8, .ref x9, .ref x10, .ref x11, .int (nI n), .ref x12, .ref x13, .ref x14, .ref x15, .ref x16, .ref x17, .ref x18, .ref x19, .ref x20, .int (bP bt), .int (nI sg)]))]) (wr := [(x0, .inr (CI_Model, [.int (nI 0), .int (nI nn), .ref x1, .ref x2, .ref x3, .ref x4, .ref x5, .ref x6, .ref x7, .ref x8, .ref x9, .ref x10, .ref x11, .int (nI n), .ref x12, .ref x13, .ref x14, .ref x15, .ref x16, .ref x17, .ref x18, .ref x19, .ref x20, .int (bP bt), .int (nI sg)]))]) (isC := []) (isR := [0]) (pm := [0]) (As := [.int t, .int 0, .int 1]) (rest := []) F (c_Model_in l D cI cL cB t 0 1 ) (cS_S 3 F.ts m_680 m_681 m_42 m_682 (by decide +kernel) ⟨Nat.le_of_ble_eq_true rfl, Nat.le_of_ble_eq_true rfl⟩) rfl (Nat.le_of_ble_eq_true rfl) d_Model_instance_8 ⟨Nat.le_of_ble_eq_true rfl, Nat.le_of_ble_eq_true rfl⟩ ⟨rfl, rfl, rfl, rfl, rfl, fun _ => rfl, rfl⟩ (fun r8 uu8 q8_ => ?_) rfl
  subst q8_
  refine V_top (y := bP (vp_in t 2)) (bP_c (in_iff (m := 2) (by omega) (by omega))) ?_
  refine V_ifb_eq F 42 d_Model_instance_11 (by decide) (fun h11 => ?_) (fun h11 => ?_)
  · skip
    refine V_aload_n F 0 d_Model_instance_42 rfl rfl ?_
    refine V_iconst F (v := 1) d_Model_instance_43 rfl ?_
    refine V_callV_i (w1 := fun (u_ : Unit) => [(x0, .inr (CI_Model, [.int (nI 1), .int (nI nn), .ref x1, .ref x2, .ref x3, .ref x4, .ref x5, .ref x6, .ref x7, .ref x8, .ref x9, .ref x10, .ref x11, .int (nI n), .ref x12, .ref x13, .ref x14, .ref x15, .ref x16, .ref x17, .ref x18, .ref x19, .ref x20, .int (bP bt), .int (nI sg)]))]) (wr := []) (isC := [0]) (isR := []) (pm := [0]) (As := [.int 1]) (rest := []) F (c_Model_raise l D cI cL cB x0 x1 x2 x3 x4 x5 x6 x7 x8 x9 x10 x11 x12 x13 x14 x15 x16 x17 x18 x19 x20 0 nn n sg bt 1 ) (cS_V 1 F.ts m_689 m_690 m_18 m_42 m_691 (by decide +kernel) ⟨Nat.le_of_ble_eq_true rfl, Nat.le_of_ble_eq_true rfl⟩) (ci := CI_Model) (q0 := 0) rfl rfl rfl (Nat.le_of_ble_eq_true rfl) d_Model_instance_44 ⟨Nat.le_of_ble_eq_true rfl, Nat.le_of_ble_eq_true rfl⟩ ⟨rfl, rfl, rfl, rfl, rfl, fun _ => rfl, rfl⟩ (fun r44 uu44 q44_ => ?_) rfl
    subst q44_
    exact V_iret F hr () rfl [0] rfl rfl (by decide) (by decide) d_Model_instance_47
  · skip
    refine V_iload_n F 2 d_Model_instance_14 rfl rfl ?_
    refine V_iconst F (v := 0) d_Model_instance_15 rfl ?_
    refine V_aload_n F 0 d_Model_instance_16 rfl rfl ?_
    refine V_get F 0 CI_Model 1 i_Model rfl rfl (by decide) m_597 rfl rfl d_Model_instance_17 ?_
    refine V_iconst F (v := 1) d_Model_instance_20 rfl ?_
    refine V_isub F d_Model_instance_21 ?_
    refine V_top (y := nI (nn - 1)) (pk_sub (a := nn) (b := 1) (by omega)) ?_
    refine V_callS_i (w1 := fun (u_ : Unit) => [(x0, .inr (CI_Model, [.int (nI 0), .int (nI nn), .ref x1, .ref x2, .ref x3, .ref x4, .ref x5, .ref x6, .ref x7, .ref x8, .ref x9, .ref x10, .ref x11, .int (nI n), .ref x12, .ref x13, .ref x14, .ref x15, .ref x16, .ref x17, .ref x18, .ref x19, .ref x20, .int (bP bt), .int (nI sg)]))]) (wr := [(x0, .inr (CI_Model, [.int (nI 0), .int (nI nn), .ref x1, .ref x2, .ref x3, .ref x4, .ref x5, .ref x6, .ref x7, .ref x8, .ref x9, .ref x10, .ref x11, .int (nI n), .ref x12, .ref x13, .ref x14, .ref x15, .ref x16, .ref x17, .ref x18, .ref x19, .ref x20, .int (bP bt), .int (nI sg)]))]) (isC := []) (isR := [0]) (pm := [0]) (As := [.int x, .int 0, .int (nI (nn - 1))]) (rest := []) F (c_Model_in l D cI cL cB x 0 (nI (nn - 1)) ) (cS_S 3 F.ts m_680 m_681 m_42 m_682 (by decide +kernel) ⟨Nat.le_of_ble_eq_true rfl, Nat.le_of_ble_eq_true rfl⟩) rfl (Nat.le_of_ble_eq_true rfl) d_Model_instance_22 ⟨Nat.le_of_ble_eq_true rfl, Nat.le_of_ble_eq_true rfl⟩ ⟨rfl, rfl, rfl, rfl, rfl, fun _ => rfl, rfl⟩ (fun r22 uu22 q22_ => ?_) rfl
    subst q22_
    refine V_top (y := bP (vp_in x nn)) (bP_c (in_iff (m := nn) (by omega) (by omega))) ?_
    refine V_ifb_eq F 42 d_Model_instance_25 (by decide) (fun h25 => ?_) (fun h25 => ?_)
    · skip
      refine V_aload_n F 0 d_Model_instance_42 rfl rfl ?_
      refine V_iconst F (v := 1) d_Model_instance_43 rfl ?_
      refine V_callV_i (w1 := fun (u_ : Unit) => [(x0, .inr (CI_Model, [.int (nI 1), .int (nI nn), .ref x1, .ref x2, .ref x3, .ref x4, .ref x5, .ref x6, .ref x7, .ref x8, .ref x9, .ref x10, .ref x11, .int (nI n), .ref x12, .ref x13, .ref x14, .ref x15, .ref x16, .ref x17, .ref x18, .ref x19, .ref x20, .int (bP bt), .int (nI sg)]))]) (wr := []) (isC := [0]) (isR := []) (pm := [0]) (As := [.int 1]) (rest := []) F (c_Model_raise l D cI cL cB x0 x1 x2 x3 x4 x5 x6 x7 x8 x9 x10 x11 x12 x13 x14 x15 x16 x17 x18 x19 x20 0 nn n sg bt 1 ) (cS_V 1 F.ts m_689 m_690 m_18 m_42 m_691 (by decide +kernel) ⟨Nat.le_of_ble_eq_true rfl, Nat.le_of_ble_eq_true rfl⟩) (ci := CI_Model) (q0 := 0) rfl rfl rfl (Nat.le_of_ble_eq_true rfl) d_Model_instance_44 ⟨Nat.le_of_ble_eq_true rfl, Nat.le_of_ble_eq_true rfl⟩ ⟨rfl, rfl, rfl, rfl, rfl, fun _ => rfl, rfl⟩ (fun r44_4 uu44_4 q44_4_ => ?_) rfl
      subst q44_4_
      exact V_iret F hr () rfl [0] rfl rfl (by decide) (by decide) d_Model_instance_47
    · skip
      refine V_iload_n F 3 d_Model_instance_28 rfl rfl ?_
      refine V_iconst F (v := 0) d_Model_instance_29 rfl ?_
      refine V_aload_n F 0 d_Model_instance_30 rfl rfl ?_
      refine V_get F 0 CI_Model 1 i_Model rfl rfl (by decide) m_597 rfl rfl d_Model_instance_31 ?_
      refine V_iconst F (v := 1) d_Model_instance_34 rfl ?_
      refine V_isub F d_Model_instance_35 ?_
      refine V_top (y := nI (nn - 1)) (pk_sub (a := nn) (b := 1) (by omega)) ?_
      refine V_callS_i (w1 := fun (u_ : Unit) => [(x0, .inr (CI_Model, [.int (nI 0), .int (nI nn), .ref x1, .ref x2, .ref x3, .ref x4, .ref x5, .ref x6, .ref x7, .ref x8, .ref x9, .ref x10, .ref x11, .int (nI n), .ref x12, .ref x13, .ref x14, .ref x15, .ref x16, .ref x17, .ref x18, .ref x19, .ref x20, .int (bP bt), .int (nI sg)]))]) (wr := [(x0, .inr (CI_Model, [.int (nI 0), .int (nI nn), .ref x1, .ref x2, .ref x3, .ref x4, .ref x5, .ref x6, .ref x7, .ref x8, .ref x9, .ref x10, .ref x11, .int (nI n), .ref x12, .ref x13, .ref x14, .ref x15, .ref x16, .ref x17, .ref x18, .ref x19, .ref x20, .int (bP bt), .int (nI sg)]))]) (isC := []) (isR := [0]) (pm := [0]) (As := [.int y, .int 0, .int (nI (nn - 1))]) (rest := []) F (c_Model_in l D cI cL cB y 0 (nI (nn - 1)) ) (cS_S 3 F.ts m_680 m_681 m_42 m_682 (by decide +kernel) ⟨Nat.le_of_ble_eq_true rfl, Nat.le_of_ble_eq_true rfl⟩) rfl (Nat.le_of_ble_eq_true rfl) d_Model_instance_36 ⟨Nat.le_of_ble_eq_true rfl, Nat.le_of_ble_eq_true rfl⟩ ⟨rfl, rfl, rfl, rfl, rfl, fun _ => rfl, rfl⟩ (fun r36 uu36 q36_ => ?_) rfl
      subst q36_
      refine V_top (y := bP (vp_in y nn)) (bP_c (in_iff (m := nn) (by omega) (by omega))) ?_
      refine V_ifb_ne F 48 d_Model_instance_39 (by decide) (fun h39 => ?_) (fun h39 => ?_)
      · skip
        exact False.elim (hx ⟨h11, h25, h39⟩)
      · skip
        refine V_aload_n F 0 d_Model_instance_42 rfl rfl ?_
        refine V_iconst F (v := 1) d_Model_instance_43 rfl ?_
        refine V_callV_i (w1 := fun (u_ : Unit) => [(x0, .inr (CI_Model, [.int (nI 1), .int (nI nn), .ref x1, .ref x2, .ref x3, .ref x4, .ref x5, .ref x6, .ref x7, .ref x8, .ref x9, .ref x10, .ref x11, .int (nI n), .ref x12, .ref x13, .ref x14, .ref x15, .ref x16, .ref x17, .ref x18, .ref x19, .ref x20, .int (bP bt), .int (nI sg)]))]) (wr := []) (isC := [0]) (isR := []) (pm := [0]) (As := [.int 1]) (rest := []) F (c_Model_raise l D cI cL cB x0 x1 x2 x3 x4 x5 x6 x7 x8 x9 x10 x11 x12 x13 x14 x15 x16 x17 x18 x19 x20 0 nn n sg bt 1 ) (cS_V 1 F.ts m_689 m_690 m_18 m_42 m_691 (by decide +kernel) ⟨Nat.le_of_ble_eq_true rfl, Nat.le_of_ble_eq_true rfl⟩) (ci := CI_Model) (q0 := 0) rfl rfl rfl (Nat.le_of_ble_eq_true rfl) d_Model_instance_44 ⟨Nat.le_of_ble_eq_true rfl, Nat.le_of_ble_eq_true rfl⟩ ⟨rfl, rfl, rfl, rfl, rfl, fun _ => rfl, rfl⟩ (fun r44_6 uu44_6 q44_6_ => ?_) rfl
        subst q44_6_
        exact V_iret F hr () rfl [0] rfl rfl (by decide) (by decide) d_Model_instance_47

set_option maxHeartbeats 4000000 in
set_option maxRecDepth 100000 in
theorem c_Model_instance_2 (l : Launch) (D : va_G) (cI cL cB : ClassId) (x0 : Nat) (x1 : Nat) (x2 : Nat) (x3 : Nat) (x4 : Nat) (x5 : Nat) (x6 : Nat) (x7 : Nat) (x8 : Nat) (x9 : Nat) (x10 : Nat) (x11 : Nat) (x12 : Nat) (x13 : Nat) (x14 : Nat) (x15 : Nat) (x16 : Nat) (x17 : Nat) (x18 : Nat) (x19 : Nat) (x20 : Nat) (th : Nat) (nn : Nat) (n : Nat) (sg : Nat) (bt : Prop) (k : Nat → Nat) (o : Nat → Nat) (A : Nat → Int32) (B : Nat → Int32) (C : Nat → Int32) (tk : Nat → Nat) (to : Nat → Nat) (tA : Nat → Int32) (tB : Nat → Int32) (tC : Nat → Int32) (pa : Nat → Nat) (lo : Nat → Nat) (tm : Nat) (x : Nat) (y : Nat) (hn : n ≤ 60) (hnn : nn ≤ 80) (hw : WfC nn n k o A B C) (h40 : 1 ≤ nn) (htm : tm < 2) (hpa : pa tm ≤ 10) (hwt : WfT (pa tm) (sh tm tk) (sh tm to) (sh tm tA) (sh tm tB) (sh tm tC)) (hx : x < nn) (hy : y < nn) (hs : ¬ Stands n k o (pa tm) (sh tm tk) (sh tm to) (locN x y nn (Nmd (pa tm) (sh tm tk) (sh tm to) (sh tm tA) (sh tm tB) (sh tm tC)))) : Cti l y_Model_instance (wK w_Model_instance) ({ frames := 3, cells := 0, slots := 0, locals := 70 }) D classes (TY cI cL cB) [.ref x0, .int (nI tm), .int (nI x), .int (nI y)] [(x0, .inr (CI_Model, [.int (nI th), .int (nI nn), .ref x1, .ref x2, .ref x3, .ref x4, .ref x5, .ref x6, .ref x7, .ref x8, .ref x9, .ref x10, .ref x11, .int (nI n), .ref x12, .ref x13, .ref x14, .ref x15, .ref x16, .ref x17, .ref x18, .ref x19, .ref x20, .int (bP bt), .int (nI sg)])), (x5, .inl (cI, 60, .inl (cN k))), (x6, .inl (cI, 60, .inl (cN o))), (x7, .inl (cI, 60, .inl A)), (x8, .inl (cI, 60, .inl B)), (x9, .inl (cI, 60, .inl C)), (x12, .inl (cI, 20, .inl (cN tk))), (x13, .inl (cI, 20, .inl (cN to))), (x14, .inl (cI, 20, .inl tA)), (x15, .inl (cI, 20, .inl tB)), (x16, .inl (cI, 20, .inl tC)), (x17, .inl (cI, 2, .inl (cN pa))), (x18, .inl (cI, 10, .inl (cN lo)))] (fun (r : Int32) (u_ : (Nat → Nat)) => r = nI 0 ∧ (True)) (fun (u_ : (Nat → Nat)) => [(x0, .inr (CI_Model, [.int (nI 2), .int (nI nn), .ref x1, .ref x2, .ref x3, .ref x4, .ref x5, .ref x6, .ref x7, .ref x8, .ref x9, .ref x10, .ref x11, .int (nI n), .ref x12, .ref x13, .ref x14, .ref x15, .ref x16, .ref x17, .ref x18, .ref x19, .ref x20, .int (bP bt), .int (nI sg)])), (x5, .inl (cI, 60, .inl (cN k))), (x6, .inl (cI, 60, .inl (cN o))), (x7, .inl (cI, 60, .inl A)), (x8, .inl (cI, 60, .inl B)), (x9, .inl (cI, 60, .inl C)), (x12, .inl (cI, 20, .inl (cN tk))), (x13, .inl (cI, 20, .inl (cN to))), (x14, .inl (cI, 20, .inl tA)), (x15, .inl (cI, 20, .inl tB)), (x16, .inl (cI, 20, .inl tC)), (x17, .inl (cI, 2, .inl (cN pa))), (x18, .inl (cI, 10, .inl (cN u_)))]) 0 0 := by
  refine Ctg_of (cc := prog_9_method_14_code) (maxL := 7) (ret := (some .int)) "CircuitSimulatorModel" [(0, .ref x0), (1, .int (nI tm)), (2, .int (nI x)), (3, .int (nI y))] (by decide) rfl rfl (Nat.le_of_ble_eq_true rfl) rfl ?_
  intro p_ e_ s_ m_ args_ below_ meth_ c_ A_ F hr hin
  refine V_aload_n F 0 d_Model_instance_0 rfl rfl ?_
  refine V_iconst F (v := 0) d_Model_instance_1 rfl ?_
  refine V_put F 0 CI_Model 0 (w' := [(x0, .inr (CI_Model, [.int (nI 0), .int (nI nn), .ref x1, .ref x2, .ref x3, .ref x4, .ref x5, .ref x6, .ref x7, .ref x8, .ref x9, .ref x10, .ref x11, .int (nI n), .ref x12, .ref x13, .ref x14, .ref x15, .ref x16, .ref x17, .ref x18, .ref x19, .ref x20, .int (bP bt), .int (nI sg)])), (x5, .inl (cI, 60, .inl (cN k))), (x6, .inl (cI, 60, .inl (cN o))), (x7, .inl (cI, 60, .inl A)), (x8, .inl (cI, 60, .inl B)), (x9, .inl (cI, 60, .inl C)), (x12, .inl (cI, 20, .inl (cN tk))), (x13, .inl (cI, 20, .inl (cN to))), (x14, .inl (cI, 20, .inl tA)), (x15, .inl (cI, 20, .inl tB)), (x16, .inl (cI, 20, .inl tC)), (x17, .inl (cI, 2, .inl (cN pa))), (x18, .inl (cI, 10, .inl (cN lo)))]) t_Model tk_Model n_Model i_Model rfl rfl (by decide) m_596 rfl rfl rfl rfl (Nat.le_of_ble_eq_true rfl) rfl d_Model_instance_2 ?_
  refine V_iload_n F 1 d_Model_instance_5 rfl rfl ?_
  refine V_iconst F (v := 0) d_Model_instance_6 rfl ?_
  refine V_iconst F (v := 1) d_Model_instance_7 rfl ?_
  refine V_callS_i (w1 := fun (u_ : Unit) => [(x0, .inr (CI_Model, [.int (nI 0), .int (nI nn), .ref x1, .ref x2, .ref x3, .ref x4, .ref x5, .ref x6, .ref x7, .ref x8, .ref x9, .ref x10, .ref x11, .int (nI n), .ref x12, .ref x13, .ref x14, .ref x15, .ref x16, .ref x17, .ref x18, .ref x19, .ref x20, .int (bP bt), .int (nI sg)])), (x5, .inl (cI, 60, .inl (cN k))), (x6, .inl (cI, 60, .inl (cN o))), (x7, .inl (cI, 60, .inl A)), (x8, .inl (cI, 60, .inl B)), (x9, .inl (cI, 60, .inl C)), (x12, .inl (cI, 20, .inl (cN tk))), (x13, .inl (cI, 20, .inl (cN to))), (x14, .inl (cI, 20, .inl tA)), (x15, .inl (cI, 20, .inl tB)), (x16, .inl (cI, 20, .inl tC)), (x17, .inl (cI, 2, .inl (cN pa))), (x18, .inl (cI, 10, .inl (cN lo)))]) (wr := [(x0, .inr (CI_Model, [.int (nI 0), .int (nI nn), .ref x1, .ref x2, .ref x3, .ref x4, .ref x5, .ref x6, .ref x7, .ref x8, .ref x9, .ref x10, .ref x11, .int (nI n), .ref x12, .ref x13, .ref x14, .ref x15, .ref x16, .ref x17, .ref x18, .ref x19, .ref x20, .int (bP bt), .int (nI sg)])), (x5, .inl (cI, 60, .inl (cN k))), (x6, .inl (cI, 60, .inl (cN o))), (x7, .inl (cI, 60, .inl A)), (x8, .inl (cI, 60, .inl B)), (x9, .inl (cI, 60, .inl C)), (x12, .inl (cI, 20, .inl (cN tk))), (x13, .inl (cI, 20, .inl (cN to))), (x14, .inl (cI, 20, .inl tA)), (x15, .inl (cI, 20, .inl tB)), (x16, .inl (cI, 20, .inl tC)), (x17, .inl (cI, 2, .inl (cN pa))), (x18, .inl (cI, 10, .inl (cN lo)))]) (isC := []) (isR := [0, 1, 2, 3, 4, 5, 6, 7, 8, 9, 10, 11, 12]) (pm := [0, 1, 2, 3, 4, 5, 6, 7, 8, 9, 10, 11, 12]) (As := [.int (nI tm), .int 0, .int 1]) (rest := []) F (c_Model_in l D cI cL cB (nI tm) 0 1 ) (cS_S 3 F.ts m_680 m_681 m_42 m_682 (by decide +kernel) ⟨Nat.le_of_ble_eq_true rfl, Nat.le_of_ble_eq_true rfl⟩) rfl (Nat.le_of_ble_eq_true rfl) d_Model_instance_8 ⟨Nat.le_of_ble_eq_true rfl, Nat.le_of_ble_eq_true rfl⟩ ⟨rfl, rfl, rfl, rfl, rfl, fun _ => rfl, rfl⟩ (fun r8 uu8 q8_ => ?_) rfl
  subst q8_
  refine V_top (y := bP (vp_in (nI tm) 2)) (bP_c (in_iff (m := 2) (by omega) (by omega))) ?_
  refine V_ifb_eq F 42 d_Model_instance_11 (by decide) (fun h11 => ?_) (fun h11 => ?_)
  · skip
    exact False.elim (h11 (vp_in_nI (by omega) (by omega)))
  · skip
    refine V_iload_n F 2 d_Model_instance_14 rfl rfl ?_
    refine V_iconst F (v := 0) d_Model_instance_15 rfl ?_
    refine V_aload_n F 0 d_Model_instance_16 rfl rfl ?_
    refine V_get F 0 CI_Model 1 i_Model rfl rfl (by decide) m_597 rfl rfl d_Model_instance_17 ?_
    refine V_iconst F (v := 1) d_Model_instance_20 rfl ?_
    refine V_isub F d_Model_instance_21 ?_
    refine V_top (y := nI (nn - 1)) (pk_sub (a := nn) (b := 1) (by omega)) ?_
    refine V_callS_i (w1 := fun (u_ : Unit) => [(x0, .inr (CI_Model, [.int (nI 0), .int (nI nn), .ref x1, .ref x2, .ref x3, .ref x4, .ref x5, .ref x6, .ref x7, .ref x8, .ref x9, .ref x10, .ref x11, .int (nI n), .ref x12, .ref x13, .ref x14, .ref x15, .ref x16, .ref x17, .ref x18, .ref x19, .ref x20, .int (bP bt), .int (nI sg)])), (x5, .inl (cI, 60, .inl (cN k))), (x6, .inl (cI, 60, .inl (cN o))), (x7, .inl (cI, 60, .inl A)), (x8, .inl (cI, 60, .inl B)), (x9, .inl (cI, 60, .inl C)), (x12, .inl (cI, 20, .inl (cN tk))), (x13, .inl (cI, 20, .inl (cN to))), (x14, .inl (cI, 20, .inl tA)), (x15, .inl (cI, 20, .inl tB)), (x16, .inl (cI, 20, .inl tC)), (x17, .inl (cI, 2, .inl (cN pa))), (x18, .inl (cI, 10, .inl (cN lo)))]) (wr := [(x0, .inr (CI_Model, [.int (nI 0), .int (nI nn), .ref x1, .ref x2, .ref x3, .ref x4, .ref x5, .ref x6, .ref x7, .ref x8, .ref x9, .ref x10, .ref x11, .int (nI n), .ref x12, .ref x13, .ref x14, .ref x15, .ref x16, .ref x17, .ref x18, .ref x19, .ref x20, .int (bP bt), .int (nI sg)])), (x5, .inl (cI, 60, .inl (cN k))), (x6, .inl (cI, 60, .inl (cN o))), (x7, .inl (cI, 60, .inl A)), (x8, .inl (cI, 60, .inl B)), (x9, .inl (cI, 60, .inl C)), (x12, .inl (cI, 20, .inl (cN tk))), (x13, .inl (cI, 20, .inl (cN to))), (x14, .inl (cI, 20, .inl tA)), (x15, .inl (cI, 20, .inl tB)), (x16, .inl (cI, 20, .inl tC)), (x17, .inl (cI, 2, .inl (cN pa))), (x18, .inl (cI, 10, .inl (cN lo)))]) (isC := []) (isR := [0, 1, 2, 3, 4, 5, 6, 7, 8, 9, 10, 11, 12]) (pm := [0, 1, 2, 3, 4, 5, 6, 7, 8, 9, 10, 11, 12]) (As := [.int (nI x), .int 0, .int (nI (nn - 1))]) (rest := []) F (c_Model_in l D cI cL cB (nI x) 0 (nI (nn - 1)) ) (cS_S 3 F.ts m_680 m_681 m_42 m_682 (by decide +kernel) ⟨Nat.le_of_ble_eq_true rfl, Nat.le_of_ble_eq_true rfl⟩) rfl (Nat.le_of_ble_eq_true rfl) d_Model_instance_22 ⟨Nat.le_of_ble_eq_true rfl, Nat.le_of_ble_eq_true rfl⟩ ⟨rfl, rfl, rfl, rfl, rfl, fun _ => rfl, rfl⟩ (fun r22 uu22 q22_ => ?_) rfl
    subst q22_
    refine V_top (y := bP (vp_in (nI x) nn)) (bP_c (in_iff (m := nn) (by omega) (by omega))) ?_
    refine V_ifb_eq F 42 d_Model_instance_25 (by decide) (fun h25 => ?_) (fun h25 => ?_)
    · skip
      exact False.elim (h25 (vp_in_nI (by omega) (by omega)))
    · skip
      refine V_iload_n F 3 d_Model_instance_28 rfl rfl ?_
      refine V_iconst F (v := 0) d_Model_instance_29 rfl ?_
      refine V_aload_n F 0 d_Model_instance_30 rfl rfl ?_
      refine V_get F 0 CI_Model 1 i_Model rfl rfl (by decide) m_597 rfl rfl d_Model_instance_31 ?_
      refine V_iconst F (v := 1) d_Model_instance_34 rfl ?_
      refine V_isub F d_Model_instance_35 ?_
      refine V_top (y := nI (nn - 1)) (pk_sub (a := nn) (b := 1) (by omega)) ?_
      refine V_callS_i (w1 := fun (u_ : Unit) => [(x0, .inr (CI_Model, [.int (nI 0), .int (nI nn), .ref x1, .ref x2, .ref x3, .ref x4, .ref x5, .ref x6, .ref x7, .ref x8, .ref x9, .ref x10, .ref x11, .int (nI n), .ref x12, .ref x13, .ref x14, .ref x15, .ref x16, .ref x17, .ref x18, .ref x19, .ref x20, .int (bP bt), .int (nI sg)])), (x5, .inl (cI, 60, .inl (cN k))), (x6, .inl (cI, 60, .inl (cN o))), (x7, .inl (cI, 60, .inl A)), (x8, .inl (cI, 60, .inl B)), (x9, .inl (cI, 60, .inl C)), (x12, .inl (cI, 20, .inl (cN tk))), (x13, .inl (cI, 20, .inl (cN to))), (x14, .inl (cI, 20, .inl tA)), (x15, .inl (cI, 20, .inl tB)), (x16, .inl (cI, 20, .inl tC)), (x17, .inl (cI, 2, .inl (cN pa))), (x18, .inl (cI, 10, .inl (cN lo)))]) (wr := [(x0, .inr (CI_Model, [.int (nI 0), .int (nI nn), .ref x1, .ref x2, .ref x3, .ref x4, .ref x5, .ref x6, .ref x7, .ref x8, .ref x9, .ref x10, .ref x11, .int (nI n), .ref x12, .ref x13, .ref x14, .ref x15, .ref x16, .ref x17, .ref x18, .ref x19, .ref x20, .int (bP bt), .int (nI sg)])), (x5, .inl (cI, 60, .inl (cN k))), (x6, .inl (cI, 60, .inl (cN o))), (x7, .inl (cI, 60, .inl A)), (x8, .inl (cI, 60, .inl B)), (x9, .inl (cI, 60, .inl C)), (x12, .inl (cI, 20, .inl (cN tk))), (x13, .inl (cI, 20, .inl (cN to))), (x14, .inl (cI, 20, .inl tA)), (x15, .inl (cI, 20, .inl tB)), (x16, .inl (cI, 20, .inl tC)), (x17, .inl (cI, 2, .inl (cN pa))), (x18, .inl (cI, 10, .inl (cN lo)))]) (isC := []) (isR := [0, 1, 2, 3, 4, 5, 6, 7, 8, 9, 10, 11, 12]) (pm := [0, 1, 2, 3, 4, 5, 6, 7, 8, 9, 10, 11, 12]) (As := [.int (nI y), .int 0, .int (nI (nn - 1))]) (rest := []) F (c_Model_in l D cI cL cB (nI y) 0 (nI (nn - 1)) ) (cS_S 3 F.ts m_680 m_681 m_42 m_682 (by decide +kernel) ⟨Nat.le_of_ble_eq_true rfl, Nat.le_of_ble_eq_true rfl⟩) rfl (Nat.le_of_ble_eq_true rfl) d_Model_instance_36 ⟨Nat.le_of_ble_eq_true rfl, Nat.le_of_ble_eq_true rfl⟩ ⟨rfl, rfl, rfl, rfl, rfl, fun _ => rfl, rfl⟩ (fun r36 uu36 q36_ => ?_) rfl
      subst q36_
      refine V_top (y := bP (vp_in (nI y) nn)) (bP_c (in_iff (m := nn) (by omega) (by omega))) ?_
      refine V_ifb_ne F 48 d_Model_instance_39 (by decide) (fun h39 => ?_) (fun h39 => ?_)
      · skip
        refine V_aload_n F 0 d_Model_instance_48 rfl rfl ?_
        refine V_iload_n F 1 d_Model_instance_49 rfl rfl ?_
        refine V_iload_n F 2 d_Model_instance_50 rfl rfl ?_
        refine V_iload_n F 3 d_Model_instance_51 rfl rfl ?_
        refine V_callV_i (w1 := fun (u_ : (Nat → Nat)) => [(x0, .inr (CI_Model, [.int (nI 0), .int (nI nn), .ref x1, .ref x2, .ref x3, .ref x4, .ref x5, .ref x6, .ref x7, .ref x8, .ref x9, .ref x10, .ref x11, .int (nI n), .ref x12, .ref x13, .ref x14, .ref x15, .ref x16, .ref x17, .ref x18, .ref x19, .ref x20, .int (bP bt), .int (nI sg)])), (x5, .inl (cI, 60, .inl (cN k))), (x6, .inl (cI, 60, .inl (cN o))), (x7, .inl (cI, 60, .inl A)), (x8, .inl (cI, 60, .inl B)), (x9, .inl (cI, 60, .inl C)), (x12, .inl (cI, 20, .inl (cN tk))), (x13, .inl (cI, 20, .inl (cN to))), (x14, .inl (cI, 20, .inl tA)), (x15, .inl (cI, 20, .inl tB)), (x16, .inl (cI, 20, .inl tC)), (x17, .inl (cI, 2, .inl (cN pa))), (x18, .inl (cI, 10, .inl (cN u_)))]) (wr := [(x5, .inl (cI, 60, .inl (cN k))), (x6, .inl (cI, 60, .inl (cN o))), (x7, .inl (cI, 60, .inl A)), (x8, .inl (cI, 60, .inl B)), (x9, .inl (cI, 60, .inl C))]) (isC := [0, 6, 7, 8, 9, 10, 11, 12]) (isR := [1, 2, 3, 4, 5]) (pm := [5, 0, 1, 2, 3, 4, 6, 7, 8, 9, 10, 11, 12]) (As := [.int (nI tm), .int (nI x), .int (nI y)]) (rest := []) F (c_Model_number l D cI cL cB x0 x1 x2 x3 x4 x5 x6 x7 x8 x9 x10 x11 x12 x13 x14 x15 x16 x17 x18 x19 x20 0 nn n sg bt tk to tA tB tC pa lo tm x y (by first | assumption | omega | (simp only [] at *; omega)) (by first | assumption | omega | (simp only [] at *; omega)) hwt.1 (by first | assumption | omega | (simp only [] at *; omega)) (by first | assumption | omega | (simp only [] at *; omega)) (by first | assumption | omega | (simp only [] at *; omega))) (cS_V 3 F.ts m_706 m_707 m_21 m_42 m_708 (by decide +kernel) ⟨Nat.le_of_ble_eq_true rfl, Nat.le_of_ble_eq_true rfl⟩) (ci := CI_Model) (q0 := 0) rfl rfl rfl (Nat.le_of_ble_eq_true rfl) d_Model_instance_52 ⟨Nat.le_of_ble_eq_true rfl, Nat.le_of_ble_eq_true rfl⟩ ⟨rfl, rfl, rfl, rfl, rfl, fun _ => rfl, rfl⟩ (fun r52 uu52 q52_ => ?_) rfl
        obtain ⟨lo2_52, rfl⟩ : ∃ z, z = uu52 := ⟨_, rfl⟩
        have e52 : r52 = nI (nn + cnt (fun t => 2 ≤ t ∧ Nmd (pa tm) (sh tm tk) (sh tm to) (sh tm tA) (sh tm tB) (sh tm tC) t) 10) ∧ (∀ l, l < 10 → lo2_52 l = locN x y nn (Nmd (pa tm) (sh tm tk) (sh tm to) (sh tm tA) (sh tm tB) (sh tm tC)) l) := q52_
        clear q52_
        obtain ⟨er52, e52⟩ := e52
        subst er52
        have hstd : Stands n k o (pa tm) (sh tm tk) (sh tm to) lo2_52 ↔ Stands n k o (pa tm) (sh tm tk) (sh tm to) (locN x y nn (Nmd (pa tm) (sh tm tk) (sh tm to) (sh tm tA) (sh tm tB) (sh tm tC))) := Stands.congr (fun i hi => e52 _ (hwt.1 i hi).2.1)
        have hlo3 : ∀ i, i < pa tm → lo2_52 (to (10 * tm + i)) < 100 := fun i hi => by have h9 := (hwt.1 i hi).2.1; rw [show to (10 * tm + i) = sh tm to i from rfl, e52 _ h9]; have := locN_lt (Nm := Nmd (pa tm) (sh tm tk) (sh tm to) (sh tm tA) (sh tm tB) (sh tm tC)) hx hy h9; omega
        have hc10 := cnt_le (fun t => 2 ≤ t ∧ Nmd (pa tm) (sh tm tk) (sh tm to) (sh tm tA) (sh tm tB) (sh tm tC) t) 10
        refine V_istore F (lv' := [(4, .int (nI (nn + cnt (fun t => 2 ≤ t ∧ Nmd (pa tm) (sh tm tk) (sh tm to) (sh tm tA) (sh tm tB) (sh tm tC) t) 10))), (0, .ref x0), (1, .int (nI tm)), (2, .int (nI x)), (3, .int (nI y))]) d_Model_instance_55 (by decide) rfl ?_
        refine V_aload_n F 1 d_Model_instance_57 rfl rfl ?_
        refine V_iload_n F 2 d_Model_instance_58 rfl rfl ?_
        refine V_callV_i (w1 := fun (u_ : Unit) => [(x0, .inr (CI_Model, [.int (nI 0), .int (nI nn), .ref x1, .ref x2, .ref x3, .ref x4, .ref x5, .ref x6, .ref x7, .ref x8, .ref x9, .ref x10, .ref x11, .int (nI n), .ref x12, .ref x13, .ref x14, .ref x15, .ref x16, .ref x17, .ref x18, .ref x19, .ref x20, .int (bP bt), .int (nI sg)])), (x5, .inl (cI, 60, .inl (cN k))), (x6, .inl (cI, 60, .inl (cN o))), (x7, .inl (cI, 60, .inl A)), (x8, .inl (cI, 60, .inl B)), (x9, .inl (cI, 60, .inl C)), (x12, .inl (cI, 20, .inl (cN tk))), (x13, .inl (cI, 20, .inl (cN to))), (x14, .inl (cI, 20, .inl tA)), (x15, .inl (cI, 20, .inl tB)), (x16, .inl (cI, 20, .inl tC)), (x17, .inl (cI, 2, .inl (cN pa))), (x18, .inl (cI, 10, .inl (cN lo2_52)))]) (wr := [(x7, .inl (cI, 60, .inl A)), (x8, .inl (cI, 60, .inl B)), (x9, .inl (cI, 60, .inl C)), (x14, .inl (cI, 20, .inl tA)), (x15, .inl (cI, 20, .inl tB)), (x16, .inl (cI, 20, .inl tC))]) (isC := [0, 1, 2, 6, 7, 11, 12]) (isR := [3, 4, 5, 8, 9, 10]) (pm := [6, 7, 8, 0, 1, 2, 9, 10, 3, 4, 5, 11, 12]) (As := [.int (nI tm)]) (rest := []) F (c_Model_mayStand l D cI cL cB x0 x1 x2 x3 x4 x5 x6 x7 x8 x9 x10 x11 x12 x13 x14 x15 x16 x17 x18 x19 x20 0 nn n sg bt k o tk to pa lo2_52 tA tB tC tm (by first | assumption | omega | (simp only [] at *; omega)) (by first | assumption | omega | (simp only [] at *; omega)) hwt.1 (by first | assumption | omega | (simp only [] at *; omega)) (fun i hi => (hw i hi).1) (fun i hi => by have := (hw i hi).2.1; omega) hlo3) (cS_V 1 F.ts m_712 m_713 m_23 m_42 m_714 (by decide +kernel) ⟨Nat.le_of_ble_eq_true rfl, Nat.le_of_ble_eq_true rfl⟩) (ci := CI_Model) (q0 := 0) rfl rfl rfl (Nat.le_of_ble_eq_true rfl) d_Model_instance_59 ⟨Nat.le_of_ble_eq_true rfl, Nat.le_of_ble_eq_true rfl⟩ ⟨rfl, rfl, rfl, rfl, rfl, fun _ => rfl, rfl⟩ (fun r59 uu59 q59_ => ?_) rfl
        subst q59_
        refine V_ifb_ne F 71 d_Model_instance_62 (by decide) (fun h62 => ?_) (fun h62 => ?_)
        · skip
          exact False.elim (hs (hstd.mp h62))
        · skip
          refine V_aload_n F 1 d_Model_instance_65 rfl rfl ?_
          refine V_iconst F (v := 2) d_Model_instance_66 rfl ?_
          refine V_callV_i (w1 := fun (u_ : Unit) => [(x0, .inr (CI_Model, [.int (nI 2), .int (nI nn), .ref x1, .ref x2, .ref x3, .ref x4, .ref x5, .ref x6, .ref x7, .ref x8, .ref x9, .ref x10, .ref x11, .int (nI n), .ref x12, .ref x13, .ref x14, .ref x15, .ref x16, .ref x17, .ref x18, .ref x19, .ref x20, .int (bP bt), .int (nI sg)])), (x5, .inl (cI, 60, .inl (cN k))), (x6, .inl (cI, 60, .inl (cN o))), (x7, .inl (cI, 60, .inl A)), (x8, .inl (cI, 60, .inl B)), (x9, .inl (cI, 60, .inl C)), (x12, .inl (cI, 20, .inl (cN tk))), (x13, .inl (cI, 20, .inl (cN to))), (x14, .inl (cI, 20, .inl tA)), (x15, .inl (cI, 20, .inl tB)), (x16, .inl (cI, 20, .inl tC)), (x17, .inl (cI, 2, .inl (cN pa))), (x18, .inl (cI, 10, .inl (cN lo2_52)))]) (wr := [(x5, .inl (cI, 60, .inl (cN k))), (x6, .inl (cI, 60, .inl (cN o))), (x7, .inl (cI, 60, .inl A)), (x8, .inl (cI, 60, .inl B)), (x9, .inl (cI, 60, .inl C)), (x12, .inl (cI, 20, .inl (cN tk))), (x13, .inl (cI, 20, .inl (cN to))), (x14, .inl (cI, 20, .inl tA)), (x15, .inl (cI, 20, .inl tB)), (x16, .inl (cI, 20, .inl tC)), (x17, .inl (cI, 2, .inl (cN pa))), (x18, .inl (cI, 10, .inl (cN lo2_52)))]) (isC := [0]) (isR := [1, 2, 3, 4, 5, 6, 7, 8, 9, 10, 11, 12]) (pm := [12, 0, 1, 2, 3, 4, 5, 6, 7, 8, 9, 10, 11]) (As := [.int 2]) (rest := []) F (c_Model_raise l D cI cL cB x0 x1 x2 x3 x4 x5 x6 x7 x8 x9 x10 x11 x12 x13 x14 x15 x16 x17 x18 x19 x20 0 nn n sg bt 2 ) (cS_V 1 F.ts m_689 m_690 m_18 m_42 m_691 (by decide +kernel) ⟨Nat.le_of_ble_eq_true rfl, Nat.le_of_ble_eq_true rfl⟩) (ci := CI_Model) (q0 := 0) rfl rfl rfl (Nat.le_of_ble_eq_true rfl) d_Model_instance_67 ⟨Nat.le_of_ble_eq_true rfl, Nat.le_of_ble_eq_true rfl⟩ ⟨rfl, rfl, rfl, rfl, rfl, fun _ => rfl, rfl⟩ (fun r67 uu67 q67_ => ?_) rfl
          subst q67_
          exact V_iret F hr lo2_52 ⟨rfl, trivial⟩ [0, 1, 2, 3, 4, 5, 6, 7, 8, 9, 10, 11, 12] rfl rfl (by decide) (by decide) d_Model_instance_70
      · skip
        exact False.elim (h39 (vp_in_nI (by omega) (by omega)))

set_option maxHeartbeats 4000000 in
set_option maxRecDepth 100000 in
theorem c_Model_instance_3 (l : Launch) (D : va_G) (cI cL cB : ClassId) (x0 : Nat) (x1 : Nat) (x2 : Nat) (x3 : Nat) (x4 : Nat) (x5 : Nat) (x6 : Nat) (x7 : Nat) (x8 : Nat) (x9 : Nat) (x10 : Nat) (x11 : Nat) (x12 : Nat) (x13 : Nat) (x14 : Nat) (x15 : Nat) (x16 : Nat) (x17 : Nat) (x18 : Nat) (x19 : Nat) (x20 : Nat) (th : Nat) (nn : Nat) (n : Nat) (sg : Nat) (bt : Prop) (k : Nat → Nat) (o : Nat → Nat) (A : Nat → Int32) (B : Nat → Int32) (C : Nat → Int32) (tk : Nat → Nat) (to : Nat → Nat) (tA : Nat → Int32) (tB : Nat → Int32) (tC : Nat → Int32) (pa : Nat → Nat) (lo : Nat → Nat) (tm : Nat) (x : Nat) (y : Nat) (hn : n ≤ 60) (hnn : nn ≤ 80) (hw : WfC nn n k o A B C) (h40 : 1 ≤ nn) (htm : tm < 2) (hpa : pa tm ≤ 10) (hwt : WfT (pa tm) (sh tm tk) (sh tm to) (sh tm tA) (sh tm tB) (sh tm tC)) (hx : x < nn) (hy : y < nn) (hs : Stands n k o (pa tm) (sh tm tk) (sh tm to) (locN x y nn (Nmd (pa tm) (sh tm tk) (sh tm to) (sh tm tA) (sh tm tB) (sh tm tC)))) (hz : 80 < nn + cnt (fun t => 2 ≤ t ∧ Nmd (pa tm) (sh tm tk) (sh tm to) (sh tm tA) (sh tm tB) (sh tm tC) t) 10 ∨ 60 < n + pa tm) : Cti l y_Model_instance (wK w_Model_instance) ({ frames := 3, cells := 0, slots := 0, locals := 70 }) D classes (TY cI cL cB) [.ref x0, .int (nI tm), .int (nI x), .int (nI y)] [(x0, .inr (CI_Model, [.int (nI th), .int (nI nn), .ref x1, .ref x2, .ref x3, .ref x4, .ref x5, .ref x6, .ref x7, .ref x8, .ref x9, .ref x10, .ref x11, .int (nI n), .ref x12, .ref x13, .ref x14, .ref x15, .ref x16, .ref x17, .ref x18, .ref x19, .ref x20, .int (bP bt), .int (nI sg)])), (x5, .inl (cI, 60, .inl (cN k))), (x6, .inl (cI, 60, .inl (cN o))), (x7, .inl (cI, 60, .inl A)), (x8, .inl (cI, 60, .inl B)), (x9, .inl (cI, 60, .inl C)), (x12, .inl (cI, 20, .inl (cN tk))), (x13, .inl (cI, 20, .inl (cN to))), (x14, .inl (cI, 20, .inl tA)), (x15, .inl (cI, 20, .inl tB)), (x16, .inl (cI, 20, .inl tC)), (x17, .inl (cI, 2, .inl (cN pa))), (x18, .inl (cI, 10, .inl (cN lo)))] (fun (r : Int32) (u_ : (Nat → Nat)) => r = nI 0 ∧ (True)) (fun (u_ : (Nat → Nat)) => [(x0, .inr (CI_Model, [.int (nI 3), .int (nI nn), .ref x1, .ref x2, .ref x3, .ref x4, .ref x5, .ref x6, .ref x7, .ref x8, .ref x9, .ref x10, .ref x11, .int (nI n), .ref x12, .ref x13, .ref x14, .ref x15, .ref x16, .ref x17, .ref x18, .ref x19, .ref x20, .int (bP bt), .int (nI sg)])), (x5, .inl (cI, 60, .inl (cN k))), (x6, .inl (cI, 60, .inl (cN o))), (x7, .inl (cI, 60, .inl A)), (x8, .inl (cI, 60, .inl B)), (x9, .inl (cI, 60, .inl C)), (x12, .inl (cI, 20, .inl (cN tk))), (x13, .inl (cI, 20, .inl (cN to))), (x14, .inl (cI, 20, .inl tA)), (x15, .inl (cI, 20, .inl tB)), (x16, .inl (cI, 20, .inl tC)), (x17, .inl (cI, 2, .inl (cN pa))), (x18, .inl (cI, 10, .inl (cN u_)))]) 0 0 := by
  refine Ctg_of (cc := prog_9_method_14_code) (maxL := 7) (ret := (some .int)) "CircuitSimulatorModel" [(0, .ref x0), (1, .int (nI tm)), (2, .int (nI x)), (3, .int (nI y))] (by decide) rfl rfl (Nat.le_of_ble_eq_true rfl) rfl ?_
  intro p_ e_ s_ m_ args_ below_ meth_ c_ A_ F hr hin
  refine V_aload_n F 0 d_Model_instance_0 rfl rfl ?_
  refine V_iconst F (v := 0) d_Model_instance_1 rfl ?_
  refine V_put F 0 CI_Model 0 (w' := [(x0, .inr (CI_Model, [.int (nI 0), .int (nI nn), .ref x1, .ref x2, .ref x3, .ref x4, .ref x5, .ref x6, .ref x7, .ref x8, .ref x9, .ref x10, .ref x11, .int (nI n), .ref x12, .ref x13, .ref x14, .ref x15, .ref x16, .ref x17, .ref x18, .ref x19, .ref x20, .int (bP bt), .int (nI sg)])), (x5, .inl (cI, 60, .inl (cN k))), (x6, .inl (cI, 60, .inl (cN o))), (x7, .inl (cI, 60, .inl A)), (x8, .inl (cI, 60, .inl B)), (x9, .inl (cI, 60, .inl C)), (x12, .inl (cI, 20, .inl (cN tk))), (x13, .inl (cI, 20, .inl (cN to))), (x14, .inl (cI, 20, .inl tA)), (x15, .inl (cI, 20, .inl tB)), (x16, .inl (cI, 20, .inl tC)), (x17, .inl (cI, 2, .inl (cN pa))), (x18, .inl (cI, 10, .inl (cN lo)))]) t_Model tk_Model n_Model i_Model rfl rfl (by decide) m_596 rfl rfl rfl rfl (Nat.le_of_ble_eq_true rfl) rfl d_Model_instance_2 ?_
  refine V_iload_n F 1 d_Model_instance_5 rfl rfl ?_
  refine V_iconst F (v := 0) d_Model_instance_6 rfl ?_
  refine V_iconst F (v := 1) d_Model_instance_7 rfl ?_
  refine V_callS_i (w1 := fun (u_ : Unit) => [(x0, .inr (CI_Model, [.int (nI 0), .int (nI nn), .ref x1, .ref x2, .ref x3, .ref x4, .ref x5, .ref x6, .ref x7, .ref x8, .ref x9, .ref x10, .ref x11, .int (nI n), .ref x12, .ref x13, .ref x14, .ref x15, .ref x16, .ref x17, .ref x18, .ref x19, .ref x20, .int (bP bt), .int (nI sg)])), (x5, .inl (cI, 60, .inl (cN k))), (x6, .inl (cI, 60, .inl (cN o))), (x7, .inl (cI, 60, .inl A)), (x8, .inl (cI, 60, .inl B)), (x9, .inl (cI, 60, .inl C)), (x12, .inl (cI, 20, .inl (cN tk))), (x13, .inl (cI, 20, .inl (cN to))), (x14, .inl (cI, 20, .inl tA)), (x15, .inl (cI, 20, .inl tB)), (x16, .inl (cI, 20, .inl tC)), (x17, .inl (cI, 2, .inl (cN pa))), (x18, .inl (cI, 10, .inl (cN lo)))]) (wr := [(x0, .inr (CI_Model, [.int (nI 0), .int (nI nn), .ref x1, .ref x2, .ref x3, .ref x4, .ref x5, .ref x6, .ref x7, .ref x8, .ref x9, .ref x10, .ref x11, .int (nI n), .ref x12, .ref x13, .ref x14, .ref x15, .ref x16, .ref x17, .ref x18, .ref x19, .ref x20, .int (bP bt), .int (nI sg)])), (x5, .inl (cI, 60, .inl (cN k))), (x6, .inl (cI, 60, .inl (cN o))), (x7, .inl (cI, 60, .inl A)), (x8, .inl (cI, 60, .inl B)), (x9, .inl (cI, 60, .inl C)), (x12, .inl (cI, 20, .inl (cN tk))), (x13, .inl (cI, 20, .inl (cN to))), (x14, .inl (cI, 20, .inl tA)), (x15, .inl (cI, 20, .inl tB)), (x16, .inl (cI, 20, .inl tC)), (x17, .inl (cI, 2, .inl (cN pa))), (x18, .inl (cI, 10, .inl (cN lo)))]) (isC := []) (isR := [0, 1, 2, 3, 4, 5, 6, 7, 8, 9, 10, 11, 12]) (pm := [0, 1, 2, 3, 4, 5, 6, 7, 8, 9, 10, 11, 12]) (As := [.int (nI tm), .int 0, .int 1]) (rest := []) F (c_Model_in l D cI cL cB (nI tm) 0 1 ) (cS_S 3 F.ts m_680 m_681 m_42 m_682 (by decide +kernel) ⟨Nat.le_of_ble_eq_true rfl, Nat.le_of_ble_eq_true rfl⟩) rfl (Nat.le_of_ble_eq_true rfl) d_Model_instance_8 ⟨Nat.le_of_ble_eq_true rfl, Nat.le_of_ble_eq_true rfl⟩ ⟨rfl, rfl, rfl, rfl, rfl, fun _ => rfl, rfl⟩ (fun r8 uu8 q8_ => ?_) rfl
  subst q8_
  refine V_top (y := bP (vp_in (nI tm) 2)) (bP_c (in_iff (m := 2) (by omega) (by omega))) ?_
  refine V_ifb_eq F 42 d_Model_instance_11 (by decide) (fun h11 => ?_) (fun h11 => ?_)
  · skip
    exact False.elim (h11 (vp_in_nI (by omega) (by omega)))
  · skip
    refine V_iload_n F 2 d_Model_instance_14 rfl rfl ?_
    refine V_iconst F (v := 0) d_Model_instance_15 rfl ?_
    refine V_aload_n F 0 d_Model_instance_16 rfl rfl ?_
    refine V_get F 0 CI_Model 1 i_Model rfl rfl (by decide) m_597 rfl rfl d_Model_instance_17 ?_
    refine V_iconst F (v := 1) d_Model_instance_20 rfl ?_
    refine V_isub F d_Model_instance_21 ?_
    refine V_top (y := nI (nn - 1)) (pk_sub (a := nn) (b := 1) (by omega)) ?_
    refine V_callS_i (w1 := fun (u_ : Unit) => [(x0, .inr (CI_Model, [.int (nI 0), .int (nI nn), .ref x1, .ref x2, .ref x3, .ref x4, .ref x5, .ref x6, .ref x7, .ref x8, .ref x9, .ref x10, .ref x11, .int (nI n), .ref x12, .ref x13, .ref x14, .ref x15, .ref x16, .ref x17, .ref x18, .ref x19, .ref x20, .int (bP bt), .int (nI sg)])), (x5, .inl (cI, 60, .inl (cN k))), (x6, .inl (cI, 60, .inl (cN o))), (x7, .inl (cI, 60, .inl A)), (x8, .inl (cI, 60, .inl B)), (x9, .inl (cI, 60, .inl C)), (x12, .inl (cI, 20, .inl (cN tk))), (x13, .inl (cI, 20, .inl (cN to))), (x14, .inl (cI, 20, .inl tA)), (x15, .inl (cI, 20, .inl tB)), (x16, .inl (cI, 20, .inl tC)), (x17, .inl (cI, 2, .inl (cN pa))), (x18, .inl (cI, 10, .inl (cN lo)))]) (wr := [(x0, .inr (CI_Model, [.int (nI 0), .int (nI nn), .ref x1, .ref x2, .ref x3, .ref x4, .ref x5, .ref x6, .ref x7, .ref x8, .ref x9, .ref x10, .ref x11, .int (nI n), .ref x12, .ref x13, .ref x14, .ref x15, .ref x16, .ref x17, .ref x18, .ref x19, .ref x20, .int (bP bt), .int (nI sg)])), (x5, .inl (cI, 60, .inl (cN k))), (x6, .inl (cI, 60, .inl (cN o))), (x7, .inl (cI, 60, .inl A)), (x8, .inl (cI, 60, .inl B)), (x9, .inl (cI, 60, .inl C)), (x12, .inl (cI, 20, .inl (cN tk))), (x13, .inl (cI, 20, .inl (cN to))), (x14, .inl (cI, 20, .inl tA)), (x15, .inl (cI, 20, .inl tB)), (x16, .inl (cI, 20, .inl tC)), (x17, .inl (cI, 2, .inl (cN pa))), (x18, .inl (cI, 10, .inl (cN lo)))]) (isC := []) (isR := [0, 1, 2, 3, 4, 5, 6, 7, 8, 9, 10, 11, 12]) (pm := [0, 1, 2, 3, 4, 5, 6, 7, 8, 9, 10, 11, 12]) (As := [.int (nI x), .int 0, .int (nI (nn - 1))]) (rest := []) F (c_Model_in l D cI cL cB (nI x) 0 (nI (nn - 1)) ) (cS_S 3 F.ts m_680 m_681 m_42 m_682 (by decide +kernel) ⟨Nat.le_of_ble_eq_true rfl, Nat.le_of_ble_eq_true rfl⟩) rfl (Nat.le_of_ble_eq_true rfl) d_Model_instance_22 ⟨Nat.le_of_ble_eq_true rfl, Nat.le_of_ble_eq_true rfl⟩ ⟨rfl, rfl, rfl, rfl, rfl, fun _ => rfl, rfl⟩ (fun r22 uu22 q22_ => ?_) rfl
    subst q22_
    refine V_top (y := bP (vp_in (nI x) nn)) (bP_c (in_iff (m := nn) (by omega) (by omega))) ?_
    refine V_ifb_eq F 42 d_Model_instance_25 (by decide) (fun h25 => ?_) (fun h25 => ?_)
    · skip
      exact False.elim (h25 (vp_in_nI (by omega) (by omega)))
    · skip
      refine V_iload_n F 3 d_Model_instance_28 rfl rfl ?_
      refine V_iconst F (v := 0) d_Model_instance_29 rfl ?_
      refine V_aload_n F 0 d_Model_instance_30 rfl rfl ?_
      refine V_get F 0 CI_Model 1 i_Model rfl rfl (by decide) m_597 rfl rfl d_Model_instance_31 ?_
      refine V_iconst F (v := 1) d_Model_instance_34 rfl ?_
      refine V_isub F d_Model_instance_35 ?_
      refine V_top (y := nI (nn - 1)) (pk_sub (a := nn) (b := 1) (by omega)) ?_
      refine V_callS_i (w1 := fun (u_ : Unit) => [(x0, .inr (CI_Model, [.int (nI 0), .int (nI nn), .ref x1, .ref x2, .ref x3, .ref x4, .ref x5, .ref x6, .ref x7, .ref x8, .ref x9, .ref x10, .ref x11, .int (nI n), .ref x12, .ref x13, .ref x14, .ref x15, .ref x16, .ref x17, .ref x18, .ref x19, .ref x20, .int (bP bt), .int (nI sg)])), (x5, .inl (cI, 60, .inl (cN k))), (x6, .inl (cI, 60, .inl (cN o))), (x7, .inl (cI, 60, .inl A)), (x8, .inl (cI, 60, .inl B)), (x9, .inl (cI, 60, .inl C)), (x12, .inl (cI, 20, .inl (cN tk))), (x13, .inl (cI, 20, .inl (cN to))), (x14, .inl (cI, 20, .inl tA)), (x15, .inl (cI, 20, .inl tB)), (x16, .inl (cI, 20, .inl tC)), (x17, .inl (cI, 2, .inl (cN pa))), (x18, .inl (cI, 10, .inl (cN lo)))]) (wr := [(x0, .inr (CI_Model, [.int (nI 0), .int (nI nn), .ref x1, .ref x2, .ref x3, .ref x4, .ref x5, .ref x6, .ref x7, .ref x8, .ref x9, .ref x10, .ref x11, .int (nI n), .ref x12, .ref x13, .ref x14, .ref x15, .ref x16, .ref x17, .ref x18, .ref x19, .ref x20, .int (bP bt), .int (nI sg)])), (x5, .inl (cI, 60, .inl (cN k))), (x6, .inl (cI, 60, .inl (cN o))), (x7, .inl (cI, 60, .inl A)), (x8, .inl (cI, 60, .inl B)), (x9, .inl (cI, 60, .inl C)), (x12, .inl (cI, 20, .inl (cN tk))), (x13, .inl (cI, 20, .inl (cN to))), (x14, .inl (cI, 20, .inl tA)), (x15, .inl (cI, 20, .inl tB)), (x16, .inl (cI, 20, .inl tC)), (x17, .inl (cI, 2, .inl (cN pa))), (x18, .inl (cI, 10, .inl (cN lo)))]) (isC := []) (isR := [0, 1, 2, 3, 4, 5, 6, 7, 8, 9, 10, 11, 12]) (pm := [0, 1, 2, 3, 4, 5, 6, 7, 8, 9, 10, 11, 12]) (As := [.int (nI y), .int 0, .int (nI (nn - 1))]) (rest := []) F (c_Model_in l D cI cL cB (nI y) 0 (nI (nn - 1)) ) (cS_S 3 F.ts m_680 m_681 m_42 m_682 (by decide +kernel) ⟨Nat.le_of_ble_eq_true rfl, Nat.le_of_ble_eq_true rfl⟩) rfl (Nat.le_of_ble_eq_true rfl) d_Model_instance_36 ⟨Nat.le_of_ble_eq_true rfl, Nat.le_of_ble_eq_true rfl⟩ ⟨rfl, rfl, rfl, rfl, rfl, fun _ => rfl, rfl⟩ (fun r36 uu36 q36_ => ?_) rfl
      subst q36_
      refine V_top (y := bP (vp_in (nI y) nn)) (bP_c (in_iff (m := nn) (by omega) (by omega))) ?_
      refine V_ifb_ne F 48 d_Model_instance_39 (by decide) (fun h39 => ?_) (fun h39 => ?_)
      · skip
        refine V_aload_n F 0 d_Model_instance_48 rfl rfl ?_
        refine V_iload_n F 1 d_Model_instance_49 rfl rfl ?_
        refine V_iload_n F 2 d_Model_instance_50 rfl rfl ?_
        refine V_iload_n F 3 d_Model_instance_51 rfl rfl ?_
        refine V_callV_i (w1 := fun (u_ : (Nat → Nat)) => [(x0, .inr (CI_Model, [.int (nI 0), .int (nI nn), .ref x1, .ref x2, .ref x3, .ref x4, .ref x5, .ref x6, .ref x7, .ref x8, .ref x9, .ref x10, .ref x11, .int (nI n), .ref x12, .ref x13, .ref x14, .ref x15, .ref x16, .ref x17, .ref x18, .ref x19, .ref x20, .int (bP bt), .int (nI sg)])), (x5, .inl (cI, 60, .inl (cN k))), (x6, .inl (cI, 60, .inl (cN o))), (x7, .inl (cI, 60, .inl A)), (x8, .inl (cI, 60, .inl B)), (x9, .inl (cI, 60, .inl C)), (x12, .inl (cI, 20, .inl (cN tk))), (x13, .inl (cI, 20, .inl (cN to))), (x14, .inl (cI, 20, .inl tA)), (x15, .inl (cI, 20, .inl tB)), (x16, .inl (cI, 20, .inl tC)), (x17, .inl (cI, 2, .inl (cN pa))), (x18, .inl (cI, 10, .inl (cN u_)))]) (wr := [(x5, .inl (cI, 60, .inl (cN k))), (x6, .inl (cI, 60, .inl (cN o))), (x7, .inl (cI, 60, .inl A)), (x8, .inl (cI, 60, .inl B)), (x9, .inl (cI, 60, .inl C))]) (isC := [0, 6, 7, 8, 9, 10, 11, 12]) (isR := [1, 2, 3, 4, 5]) (pm := [5, 0, 1, 2, 3, 4, 6, 7, 8, 9, 10, 11, 12]) (As := [.int (nI tm), .int (nI x), .int (nI y)]) (rest := []) F (c_Model_number l D cI cL cB x0 x1 x2 x3 x4 x5 x6 x7 x8 x9 x10 x11 x12 x13 x14 x15 x16 x17 x18 x19 x20 0 nn n sg bt tk to tA tB tC pa lo tm x y (by first | assumption | omega | (simp only [] at *; omega)) (by first | assumption | omega | (simp only [] at *; omega)) hwt.1 (by first | assumption | omega | (simp only [] at *; omega)) (by first | assumption | omega | (simp only [] at *; omega)) (by first | assumption | omega | (simp only [] at *; omega))) (cS_V 3 F.ts m_706 m_707 m_21 m_42 m_708 (by decide +kernel) ⟨Nat.le_of_ble_eq_true rfl, Nat.le_of_ble_eq_true rfl⟩) (ci := CI_Model) (q0 := 0) rfl rfl rfl (Nat.le_of_ble_eq_true rfl) d_Model_instance_52 ⟨Nat.le_of_ble_eq_true rfl, Nat.le_of_ble_eq_true rfl⟩ ⟨rfl, rfl, rfl, rfl, rfl, fun _ => rfl, rfl⟩ (fun r52 uu52 q52_ => ?_) rfl
        obtain ⟨lo2_52, rfl⟩ : ∃ z, z = uu52 := ⟨_, rfl⟩
        have e52 : r52 = nI (nn + cnt (fun t => 2 ≤ t ∧ Nmd (pa tm) (sh tm tk) (sh tm to) (sh tm tA) (sh tm tB) (sh tm tC) t) 10) ∧ (∀ l, l < 10 → lo2_52 l = locN x y nn (Nmd (pa tm) (sh tm tk) (sh tm to) (sh tm tA) (sh tm tB) (sh tm tC)) l) := q52_
        clear q52_
        obtain ⟨er52, e52⟩ := e52
        subst er52
        have hstd : Stands n k o (pa tm) (sh tm tk) (sh tm to) lo2_52 ↔ Stands n k o (pa tm) (sh tm tk) (sh tm to) (locN x y nn (Nmd (pa tm) (sh tm tk) (sh tm to) (sh tm tA) (sh tm tB) (sh tm tC))) := Stands.congr (fun i hi => e52 _ (hwt.1 i hi).2.1)
        have hlo3 : ∀ i, i < pa tm → lo2_52 (to (10 * tm + i)) < 100 := fun i hi => by have h9 := (hwt.1 i hi).2.1; rw [show to (10 * tm + i) = sh tm to i from rfl, e52 _ h9]; have := locN_lt (Nm := Nmd (pa tm) (sh tm tk) (sh tm to) (sh tm tA) (sh tm tB) (sh tm tC)) hx hy h9; omega
        have hc10 := cnt_le (fun t => 2 ≤ t ∧ Nmd (pa tm) (sh tm tk) (sh tm to) (sh tm tA) (sh tm tB) (sh tm tC) t) 10
        refine V_istore F (lv' := [(4, .int (nI (nn + cnt (fun t => 2 ≤ t ∧ Nmd (pa tm) (sh tm tk) (sh tm to) (sh tm tA) (sh tm tB) (sh tm tC) t) 10))), (0, .ref x0), (1, .int (nI tm)), (2, .int (nI x)), (3, .int (nI y))]) d_Model_instance_55 (by decide) rfl ?_
        refine V_aload_n F 1 d_Model_instance_57 rfl rfl ?_
        refine V_iload_n F 2 d_Model_instance_58 rfl rfl ?_
        refine V_callV_i (w1 := fun (u_ : Unit) => [(x0, .inr (CI_Model, [.int (nI 0), .int (nI nn), .ref x1, .ref x2, .ref x3, .ref x4, .ref x5, .ref x6, .ref x7, .ref x8, .ref x9, .ref x10, .ref x11, .int (nI n), .ref x12, .ref x13, .ref x14, .ref x15, .ref x16, .ref x17, .ref x18, .ref x19, .ref x20, .int (bP bt), .int (nI sg)])), (x5, .inl (cI, 60, .inl (cN k))), (x6, .inl (cI, 60, .inl (cN o))), (x7, .inl (cI, 60, .inl A)), (x8, .inl (cI, 60, .inl B)), (x9, .inl (cI, 60, .inl C)), (x12, .inl (cI, 20, .inl (cN tk))), (x13, .inl (cI, 20, .inl (cN to))), (x14, .inl (cI, 20, .inl tA)), (x15, .inl (cI, 20, .inl tB)), (x16, .inl (cI, 20, .inl tC)), (x17, .inl (cI, 2, .inl (cN pa))), (x18, .inl (cI, 10, .inl (cN lo2_52)))]) (wr := [(x7, .inl (cI, 60, .inl A)), (x8, .inl (cI, 60, .inl B)), (x9, .inl (cI, 60, .inl C)), (x14, .inl (cI, 20, .inl tA)), (x15, .inl (cI, 20, .inl tB)), (x16, .inl (cI, 20, .inl tC))]) (isC := [0, 1, 2, 6, 7, 11, 12]) (isR := [3, 4, 5, 8, 9, 10]) (pm := [6, 7, 8, 0, 1, 2, 9, 10, 3, 4, 5, 11, 12]) (As := [.int (nI tm)]) (rest := []) F (c_Model_mayStand l D cI cL cB x0 x1 x2 x3 x4 x5 x6 x7 x8 x9 x10 x11 x12 x13 x14 x15 x16 x17 x18 x19 x20 0 nn n sg bt k o tk to pa lo2_52 tA tB tC tm (by first | assumption | omega | (simp only [] at *; omega)) (by first | assumption | omega | (simp only [] at *; omega)) hwt.1 (by first | assumption | omega | (simp only [] at *; omega)) (fun i hi => (hw i hi).1) (fun i hi => by have := (hw i hi).2.1; omega) hlo3) (cS_V 1 F.ts m_712 m_713 m_23 m_42 m_714 (by decide +kernel) ⟨Nat.le_of_ble_eq_true rfl, Nat.le_of_ble_eq_true rfl⟩) (ci := CI_Model) (q0 := 0) rfl rfl rfl (Nat.le_of_ble_eq_true rfl) d_Model_instance_59 ⟨Nat.le_of_ble_eq_true rfl, Nat.le_of_ble_eq_true rfl⟩ ⟨rfl, rfl, rfl, rfl, rfl, fun _ => rfl, rfl⟩ (fun r59 uu59 q59_ => ?_) rfl
        subst q59_
        refine V_ifb_ne F 71 d_Model_instance_62 (by decide) (fun h62 => ?_) (fun h62 => ?_)
        · skip
          refine V_iload F 0 d_Model_instance_71 rfl ?_
          refine V_bipush F (v := 80) d_Model_instance_73 rfl ?_
          refine V_icmpn_gt F 94 (a := nn + cnt (fun t => 2 ≤ t ∧ Nmd (pa tm) (sh tm tk) (sh tm to) (sh tm tA) (sh tm tB) (sh tm tC) t) 10) (b := 80) (by omega) (by omega) d_Model_instance_75 (by decide) (fun h75 => ?_) (fun h75 => ?_)
          · skip
            refine V_aload_n F 1 d_Model_instance_94 rfl rfl ?_
            refine V_iconst F (v := 3) d_Model_instance_95 rfl ?_
            refine V_callV_i (w1 := fun (u_ : Unit) => [(x0, .inr (CI_Model, [.int (nI 3), .int (nI nn), .ref x1, .ref x2, .ref x3, .ref x4, .ref x5, .ref x6, .ref x7, .ref x8, .ref x9, .ref x10, .ref x11, .int (nI n), .ref x12, .ref x13, .ref x14, .ref x15, .ref x16, .ref x17, .ref x18, .ref x19, .ref x20, .int (bP bt), .int (nI sg)])), (x5, .inl (cI, 60, .inl (cN k))), (x6, .inl (cI, 60, .inl (cN o))), (x7, .inl (cI, 60, .inl A)), (x8, .inl (cI, 60, .inl B)), (x9, .inl (cI, 60, .inl C)), (x12, .inl (cI, 20, .inl (cN tk))), (x13, .inl (cI, 20, .inl (cN to))), (x14, .inl (cI, 20, .inl tA)), (x15, .inl (cI, 20, .inl tB)), (x16, .inl (cI, 20, .inl tC)), (x17, .inl (cI, 2, .inl (cN pa))), (x18, .inl (cI, 10, .inl (cN lo2_52)))]) (wr := [(x5, .inl (cI, 60, .inl (cN k))), (x6, .inl (cI, 60, .inl (cN o))), (x7, .inl (cI, 60, .inl A)), (x8, .inl (cI, 60, .inl B)), (x9, .inl (cI, 60, .inl C)), (x12, .inl (cI, 20, .inl (cN tk))), (x13, .inl (cI, 20, .inl (cN to))), (x14, .inl (cI, 20, .inl tA)), (x15, .inl (cI, 20, .inl tB)), (x16, .inl (cI, 20, .inl tC)), (x17, .inl (cI, 2, .inl (cN pa))), (x18, .inl (cI, 10, .inl (cN lo2_52)))]) (isC := [0]) (isR := [1, 2, 3, 4, 5, 6, 7, 8, 9, 10, 11, 12]) (pm := [12, 0, 1, 2, 3, 4, 5, 6, 7, 8, 9, 10, 11]) (As := [.int 3]) (rest := []) F (c_Model_raise l D cI cL cB x0 x1 x2 x3 x4 x5 x6 x7 x8 x9 x10 x11 x12 x13 x14 x15 x16 x17 x18 x19 x20 0 nn n sg bt 3 ) (cS_V 1 F.ts m_689 m_690 m_18 m_42 m_691 (by decide +kernel) ⟨Nat.le_of_ble_eq_true rfl, Nat.le_of_ble_eq_true rfl⟩) (ci := CI_Model) (q0 := 0) rfl rfl rfl (Nat.le_of_ble_eq_true rfl) d_Model_instance_96 ⟨Nat.le_of_ble_eq_true rfl, Nat.le_of_ble_eq_true rfl⟩ ⟨rfl, rfl, rfl, rfl, rfl, fun _ => rfl, rfl⟩ (fun r96 uu96 q96_ => ?_) rfl
            subst q96_
            exact V_iret F hr lo2_52 ⟨rfl, trivial⟩ [0, 1, 2, 3, 4, 5, 6, 7, 8, 9, 10, 11, 12] rfl rfl (by decide) (by decide) d_Model_instance_99
          · skip
            refine V_aload_n F 1 d_Model_instance_78 rfl rfl ?_
            refine V_get F 0 CI_Model 13 i_Model rfl rfl (by decide) m_609 rfl rfl d_Model_instance_79 ?_
            refine V_aload_n F 1 d_Model_instance_82 rfl rfl ?_
            refine V_get F 0 CI_Model 19 i_Model rfl rfl (by decide) m_615 rfl rfl d_Model_instance_83 ?_
            refine V_iload_n F 2 d_Model_instance_86 rfl rfl ?_
            refine V_ialdnN F 11 0 (k := tm) rfl rfl (by omega) (by decide) d_Model_instance_87 ?_
            refine V_iadd F d_Model_instance_88 ?_
            refine V_top (y := nI (n + (pa tm))) (nI_add _ _) ?_
            refine V_bipush F (v := 60) d_Model_instance_89 rfl ?_
            refine V_icmpn_le F 100 (a := n + (pa tm)) (b := 60) (by omega) (by omega) d_Model_instance_91 (by decide) (fun h91 => ?_) (fun h91 => ?_)
            · skip
              exact False.elim (by omega)
            · skip
              refine V_aload_n F 1 d_Model_instance_94 rfl rfl ?_
              refine V_iconst F (v := 3) d_Model_instance_95 rfl ?_
              refine V_callV_i (w1 := fun (u_ : Unit) => [(x0, .inr (CI_Model, [.int (nI 3), .int (nI nn), .ref x1, .ref x2, .ref x3, .ref x4, .ref x5, .ref x6, .ref x7, .ref x8, .ref x9, .ref x10, .ref x11, .int (nI n), .ref x12, .ref x13, .ref x14, .ref x15, .ref x16, .ref x17, .ref x18, .ref x19, .ref x20, .int (bP bt), .int (nI sg)])), (x5, .inl (cI, 60, .inl (cN k))), (x6, .inl (cI, 60, .inl (cN o))), (x7, .inl (cI, 60, .inl A)), (x8, .inl (cI, 60, .inl B)), (x9, .inl (cI, 60, .inl C)), (x12, .inl (cI, 20, .inl (cN tk))), (x13, .inl (cI, 20, .inl (cN to))), (x14, .inl (cI, 20, .inl tA)), (x15, .inl (cI, 20, .inl tB)), (x16, .inl (cI, 20, .inl tC)), (x17, .inl (cI, 2, .inl (cN pa))), (x18, .inl (cI, 10, .inl (cN lo2_52)))]) (wr := [(x5, .inl (cI, 60, .inl (cN k))), (x6, .inl (cI, 60, .inl (cN o))), (x7, .inl (cI, 60, .inl A)), (x8, .inl (cI, 60, .inl B)), (x9, .inl (cI, 60, .inl C)), (x12, .inl (cI, 20, .inl (cN tk))), (x13, .inl (cI, 20, .inl (cN to))), (x14, .inl (cI, 20, .inl tA)), (x15, .inl (cI, 20, .inl tB)), (x16, .inl (cI, 20, .inl tC)), (x17, .inl (cI, 2, .inl (cN pa))), (x18, .inl (cI, 10, .inl (cN lo2_52)))]) (isC := [0]) (isR := [1, 2, 3, 4, 5, 6, 7, 8, 9, 10, 11, 12]) (pm := [12, 0, 1, 2, 3, 4, 5, 6, 7, 8, 9, 10, 11]) (As := [.int 3]) (rest := []) F (c_Model_raise l D cI cL cB x0 x1 x2 x3 x4 x5 x6 x7 x8 x9 x10 x11 x12 x13 x14 x15 x16 x17 x18 x19 x20 0 nn n sg bt 3 ) (cS_V 1 F.ts m_689 m_690 m_18 m_42 m_691 (by decide +kernel) ⟨Nat.le_of_ble_eq_true rfl, Nat.le_of_ble_eq_true rfl⟩) (ci := CI_Model) (q0 := 0) rfl rfl rfl (Nat.le_of_ble_eq_true rfl) d_Model_instance_96 ⟨Nat.le_of_ble_eq_true rfl, Nat.le_of_ble_eq_true rfl⟩ ⟨rfl, rfl, rfl, rfl, rfl, fun _ => rfl, rfl⟩ (fun r96_7 uu96_7 q96_7_ => ?_) rfl
              subst q96_7_
              exact V_iret F hr lo2_52 ⟨rfl, trivial⟩ [0, 1, 2, 3, 4, 5, 6, 7, 8, 9, 10, 11, 12] rfl rfl (by decide) (by decide) d_Model_instance_99
        · skip
          exact False.elim (h62 (hstd.mpr hs))
      · skip
        exact False.elim (h39 (vp_in_nI (by omega) (by omega)))
