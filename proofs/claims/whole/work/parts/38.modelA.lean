set_option maxHeartbeats 4000000 in
set_option maxRecDepth 100000 in
theorem c_Placement_copyInto (l : Launch) (D : va_G) (cI cL cB : ClassId) (p0 : Nat) (p1 : Nat) (p2 : Nat) (nt : Nat) (no : Nat → Nat) (nm : Nat → Prop) (t0 : Nat) (t1 : Nat) (t2 : Nat) (t3 : Nat) (t4 : Nat) (t5 : Nat) (t6 : Nat) (n2 : Nat) (k2 : Nat → Nat) (o2 : Nat → Nat) (q2 : Nat → Nat) (A2 : Nat → Int32) (B2 : Nat → Int32) (C2 : Nat → Int32) (c0 : Nat) (c1 : Nat) (c2 : Nat) (c3 : Nat) (c4 : Nat) (c5 : Nat) (c6 : Nat) (n : Nat) (k : Nat → Nat) (o : Nat → Nat) (q : Nat → Nat) (A : Nat → Int32) (B : Nat → Int32) (C : Nat → Int32) (hn2 : n2 ≤ 10) (hw2 : WfC 10 n2 k2 o2 A2 B2 C2) (hnn : n + n2 ≤ 60) : Ctv l y_Placement_copyInto (wK w_Placement_copyInto) ({ frames := 2, cells := 0, slots := 0, locals := 46 }) D classes (TY cI cL cB) [.ref p0, .ref t0, .ref c0] [(p0, .inr (CI_Placement, [.ref p1, .ref p2, .int (nI nt)])), (p1, .inl (cI, 10, .inl (cN no))), (p2, .inl (cB, 10, .inl (cT nm))), (t0, .inr (CI_Cells, [.ref t1, .ref t2, .ref t3, .ref t4, .ref t5, .ref t6, .int (nI n2)])), (t1, .inl (cI, 10, .inl (cN k2))), (t2, .inl (cI, 10, .inl (cN o2))), (t3, .inl (cI, 10, .inl A2)), (t4, .inl (cI, 10, .inl B2)), (t5, .inl (cI, 10, .inl C2)), (t6, .inl (cI, 10, .inl (cN q2))), (c0, .inr (CI_Cells, [.ref c1, .ref c2, .ref c3, .ref c4, .ref c5, .ref c6, .int (nI n)])), (c1, .inl (cI, 60, .inl (cN k))), (c2, .inl (cI, 60, .inl (cN o))), (c3, .inl (cI, 60, .inl A)), (c4, .inl (cI, 60, .inl B)), (c5, .inl (cI, 60, .inl C)), (c6, .inl (cI, 60, .inl (cN q)))] (fun (u_ : (Nat → Nat) × (Nat → Nat) × (Nat → Nat) × (Nat → Int32) × (Nat → Int32) × (Nat → Int32)) => Copied n k o A B C q k2 o2 A2 B2 C2 no n2 u_.1 u_.2.1 u_.2.2.2.1 u_.2.2.2.2.1 u_.2.2.2.2.2 u_.2.2.1) (fun (u_ : (Nat → Nat) × (Nat → Nat) × (Nat → Nat) × (Nat → Int32) × (Nat → Int32) × (Nat → Int32)) => [(p0, .inr (CI_Placement, [.ref p1, .ref p2, .int (nI nt)])), (p1, .inl (cI, 10, .inl (cN no))), (p2, .inl (cB, 10, .inl (cT nm))), (t0, .inr (CI_Cells, [.ref t1, .ref t2, .ref t3, .ref t4, .ref t5, .ref t6, .int (nI n2)])), (t1, .inl (cI, 10, .inl (cN k2))), (t2, .inl (cI, 10, .inl (cN o2))), (t3, .inl (cI, 10, .inl A2)), (t4, .inl (cI, 10, .inl B2)), (t5, .inl (cI, 10, .inl C2)), (t6, .inl (cI, 10, .inl (cN q2))), (c0, .inr (CI_Cells, [.ref c1, .ref c2, .ref c3, .ref c4, .ref c5, .ref c6, .int (nI (n + n2))])), (c1, .inl (cI, 60, .inl (cN u_.1))), (c2, .inl (cI, 60, .inl (cN u_.2.1))), (c3, .inl (cI, 60, .inl u_.2.2.2.1)), (c4, .inl (cI, 60, .inl u_.2.2.2.2.1)), (c5, .inl (cI, 60, .inl u_.2.2.2.2.2)), (c6, .inl (cI, 60, .inl (cN u_.2.2.1)))]) 0 0 := by
  refine Ctg_of (cc := prog_7_method_6_code) (maxL := 7) (ret := none) "CircuitSimulator$Placement" [(0, .ref p0), (1, .ref t0), (2, .ref c0)] (by decide) rfl rfl (Nat.le_of_ble_eq_true rfl) rfl ?_
  intro p_ e_ s_ m_ args_ below_ meth_ c_ A_ F hr hin
  refine V_iconst F (v := 0) d_Placement_copyInto_0 rfl ?_
  refine V_istore_n F (lv' := [(3, .int (nI 0)), (0, .ref p0), (1, .ref t0), (2, .ref c0)]) d_Placement_copyInto_1 rfl (by decide) rfl ?_
  have L2 : ∀ (f_ : Nat) (i : Nat) (s : Nat) (k3 : Nat → Nat) (o3 : Nat → Nat) (q3 : Nat → Nat) (A3 : Nat → Int32) (B3 : Nat → Int32) (C3 : Nat → Int32), n2 - i < f_ → (i ≤ n2) → (s = n + i) → (Copied n k o A B C q k2 o2 A2 B2 C2 no i k3 o3 A3 B3 C3 q3) → V p_ l e_ ({ frames := 2, cells := 0, slots := 0, locals := 46 }) s_ m_ args_ below_ meth_ c_ A_ (MQ below_ (cQv D classes (fun (u_ : (Nat → Nat) × (Nat → Nat) × (Nat → Nat) × (Nat → Int32) × (Nat → Int32) × (Nat → Int32)) => Copied n k o A B C q k2 o2 A2 B2 C2 no n2 u_.1 u_.2.1 u_.2.2.2.1 u_.2.2.2.2.1 u_.2.2.2.2.2 u_.2.2.1) (fun (u_ : (Nat → Nat) × (Nat → Nat) × (Nat → Nat) × (Nat → Int32) × (Nat → Int32) × (Nat → Int32)) => [(p0, .inr (CI_Placement, [.ref p1, .ref p2, .int (nI nt)])), (p1, .inl (cI, 10, .inl (cN no))), (p2, .inl (cB, 10, .inl (cT nm))), (t0, .inr (CI_Cells, [.ref t1, .ref t2, .ref t3, .ref t4, .ref t5, .ref t6, .int (nI n2)])), (t1, .inl (cI, 10, .inl (cN k2))), (t2, .inl (cI, 10, .inl (cN o2))), (t3, .inl (cI, 10, .inl A2)), (t4, .inl (cI, 10, .inl B2)), (t5, .inl (cI, 10, .inl C2)), (t6, .inl (cI, 10, .inl (cN q2))), (c0, .inr (CI_Cells, [.ref c1, .ref c2, .ref c3, .ref c4, .ref c5, .ref c6, .int (nI (n + n2))])), (c1, .inl (cI, 60, .inl (cN u_.1))), (c2, .inl (cI, 60, .inl (cN u_.2.1))), (c3, .inl (cI, 60, .inl u_.2.2.2.1)), (c4, .inl (cI, 60, .inl u_.2.2.2.2.1)), (c5, .inl (cI, 60, .inl u_.2.2.2.2.2)), (c6, .inl (cI, 60, .inl (cN u_.2.2.1)))]) A_) args_ s_ 0 0 A_) D classes 7 0 0 [(p0, .inr (CI_Placement, [.ref p1, .ref p2, .int (nI nt)])), (p1, .inl (cI, 10, .inl (cN no))), (p2, .inl (cB, 10, .inl (cT nm))), (t0, .inr (CI_Cells, [.ref t1, .ref t2, .ref t3, .ref t4, .ref t5, .ref t6, .int (nI n2)])), (t1, .inl (cI, 10, .inl (cN k2))), (t2, .inl (cI, 10, .inl (cN o2))), (t3, .inl (cI, 10, .inl A2)), (t4, .inl (cI, 10, .inl B2)), (t5, .inl (cI, 10, .inl C2)), (t6, .inl (cI, 10, .inl (cN q2))), (c0, .inr (CI_Cells, [.ref c1, .ref c2, .ref c3, .ref c4, .ref c5, .ref c6, .int (nI s)])), (c1, .inl (cI, 60, .inl (cN k3))), (c2, .inl (cI, 60, .inl (cN o3))), (c3, .inl (cI, 60, .inl A3)), (c4, .inl (cI, 60, .inl B3)), (c5, .inl (cI, 60, .inl C3)), (c6, .inl (cI, 60, .inl (cN q3)))] 2 [(0, .ref p0), (1, .ref t0), (2, .ref c0), (3, .int (nI i))] [] := by
    intro f_
    induction f_ with
    | zero => intro i s k3 o3 q3 A3 B3 C3 hm_; exact absurd hm_ (Nat.not_lt_zero _)
    | succ f_ ih2 =>
      intro i s k3 o3 q3 A3 B3 C3 hm2 hi hs hI
      refine V_iload_n F 3 d_Placement_copyInto_2 rfl rfl ?_
      refine V_aload_n F 1 d_Placement_copyInto_3 rfl rfl ?_
      refine V_get F 3 CI_Cells 6 i_Cells rfl rfl (by decide) m_84 rfl rfl d_Placement_copyInto_4 ?_
      refine V_icmpn_ge F 70 (a := i) (b := n2) (by omega) (by omega) d_Placement_copyInto_7 (by decide) (fun h7 => ?_) (fun h7 => ?_)
      · skip
        have e7 : s = n + n2 := by omega
        subst e7
        have e8 : i = n2 := by omega
        rw [e8] at hI
        exact V_vret F hr (k3, o3, q3, A3, B3, C3) (show Copied n k o A B C q k2 o2 A2 B2 C2 no n2 k3 o3 A3 B3 C3 q3 from hI) [0, 1, 2, 3, 4, 5, 6, 7, 8, 9, 10, 11, 12, 13, 14, 15, 16] rfl rfl (by decide) (by decide) d_Placement_copyInto_70
      · skip
        have hk8 := (hw2 i (by omega)).1
        have ho8 := (hw2 i (by omega)).2.1
        refine V_aload_n F 0 d_Placement_copyInto_10 rfl rfl ?_
        refine V_aload_n F 1 d_Placement_copyInto_11 rfl rfl ?_
        refine V_iload_n F 3 d_Placement_copyInto_12 rfl rfl ?_
        refine V_iconst F (v := 0) d_Placement_copyInto_13 rfl ?_
        refine V_callV_i (w1 := fun (u_ : Unit) => [(p0, .inr (CI_Placement, [.ref p1, .ref p2, .int (nI nt)])), (p1, .inl (cI, 10, .inl (cN no))), (p2, .inl (cB, 10, .inl (cT nm))), (t0, .inr (CI_Cells, [.ref t1, .ref t2, .ref t3, .ref t4, .ref t5, .ref t6, .int (nI n2)])), (t1, .inl (cI, 10, .inl (cN k2))), (t2, .inl (cI, 10, .inl (cN o2))), (t3, .inl (cI, 10, .inl A2)), (t4, .inl (cI, 10, .inl B2)), (t5, .inl (cI, 10, .inl C2)), (t6, .inl (cI, 10, .inl (cN q2))), (c0, .inr (CI_Cells, [.ref c1, .ref c2, .ref c3, .ref c4, .ref c5, .ref c6, .int (nI s)])), (c1, .inl (cI, 60, .inl (cN k3))), (c2, .inl (cI, 60, .inl (cN o3))), (c3, .inl (cI, 60, .inl A3)), (c4, .inl (cI, 60, .inl B3)), (c5, .inl (cI, 60, .inl C3)), (c6, .inl (cI, 60, .inl (cN q3)))]) (wr := [(c0, .inr (CI_Cells, [.ref c1, .ref c2, .ref c3, .ref c4, .ref c5, .ref c6, .int (nI s)])), (c1, .inl (cI, 60, .inl (cN k3))), (c2, .inl (cI, 60, .inl (cN o3))), (c3, .inl (cI, 60, .inl A3)), (c4, .inl (cI, 60, .inl B3)), (c5, .inl (cI, 60, .inl C3)), (c6, .inl (cI, 60, .inl (cN q3)))]) (isC := [0, 1, 2, 3, 4, 5, 6, 7, 8, 9]) (isR := [10, 11, 12, 13, 14, 15, 16]) (pm := [7, 8, 9, 10, 11, 12, 13, 14, 15, 16, 0, 1, 2, 3, 4, 5, 6]) (As := [.ref t0, .int (nI i), .int 0]) (rest := []) F (c_Placement_placed l D cI cL cB p0 p1 p2 nt no nm t0 t1 t2 t3 t4 t5 t6 n2 k2 o2 q2 A2 B2 C2 i 0 (by first | assumption | omega | (simp only [] at *; omega)) (by first | assumption | omega | (simp only [] at *; omega)) (by first | assumption | omega | (simp only [] at *; omega)) (by first | assumption | omega | (simp only [] at *; omega))) (cS_V 3 F.ts m_447 m_448 m_8 m_41 m_449 (by decide +kernel) ⟨Nat.le_of_ble_eq_true rfl, Nat.le_of_ble_eq_true rfl⟩) (ci := CI_Placement) (q0 := 0) rfl rfl rfl (Nat.le_of_ble_eq_true rfl) d_Placement_copyInto_14 ⟨Nat.le_of_ble_eq_true rfl, Nat.le_of_ble_eq_true rfl⟩ ⟨rfl, rfl, rfl, rfl, rfl, fun _ => rfl, rfl⟩ (fun r14 uu14 q14_ => ?_) rfl
        subst q14_
        refine V_istore F (lv' := [(4, .int (plc k2 A2 B2 C2 no i 0)), (0, .ref p0), (1, .ref t0), (2, .ref c0), (3, .int (nI i))]) d_Placement_copyInto_17 (by decide) rfl ?_
        refine V_aload_n F 1 d_Placement_copyInto_19 rfl rfl ?_
        refine V_aload_n F 2 d_Placement_copyInto_20 rfl rfl ?_
        refine V_iload_n F 4 d_Placement_copyInto_21 rfl rfl ?_
        refine V_iconst F (v := 1) d_Placement_copyInto_22 rfl ?_
        refine V_callV_i (w1 := fun (u_ : Unit) => [(p0, .inr (CI_Placement, [.ref p1, .ref p2, .int (nI nt)])), (p1, .inl (cI, 10, .inl (cN no))), (p2, .inl (cB, 10, .inl (cT nm))), (t0, .inr (CI_Cells, [.ref t1, .ref t2, .ref t3, .ref t4, .ref t5, .ref t6, .int (nI n2)])), (t1, .inl (cI, 10, .inl (cN k2))), (t2, .inl (cI, 10, .inl (cN o2))), (t3, .inl (cI, 10, .inl A2)), (t4, .inl (cI, 10, .inl B2)), (t5, .inl (cI, 10, .inl C2)), (t6, .inl (cI, 10, .inl (cN q2))), (c0, .inr (CI_Cells, [.ref c1, .ref c2, .ref c3, .ref c4, .ref c5, .ref c6, .int (nI s)])), (c1, .inl (cI, 60, .inl (cN k3))), (c2, .inl (cI, 60, .inl (cN o3))), (c3, .inl (cI, 60, .inl A3)), (c4, .inl (cI, 60, .inl B3)), (c5, .inl (cI, 60, .inl C3)), (c6, .inl (cI, 60, .inl (cN q3)))]) (wr := [(c0, .inr (CI_Cells, [.ref c1, .ref c2, .ref c3, .ref c4, .ref c5, .ref c6, .int (nI s)])), (c1, .inl (cI, 60, .inl (cN k3))), (c2, .inl (cI, 60, .inl (cN o3))), (c3, .inl (cI, 60, .inl A3)), (c4, .inl (cI, 60, .inl B3)), (c5, .inl (cI, 60, .inl C3)), (c6, .inl (cI, 60, .inl (cN q3)))]) (isC := [0, 1, 2, 3, 4, 5, 6, 7, 8, 9]) (isR := [10, 11, 12, 13, 14, 15, 16]) (pm := [7, 8, 9, 10, 11, 12, 13, 14, 15, 16, 0, 1, 2, 3, 4, 5, 6]) (As := [.ref t0, .int (nI i), .int 1]) (rest := []) F (c_Placement_placed l D cI cL cB p0 p1 p2 nt no nm t0 t1 t2 t3 t4 t5 t6 n2 k2 o2 q2 A2 B2 C2 i 1 (by first | assumption | omega | (simp only [] at *; omega)) (by first | assumption | omega | (simp only [] at *; omega)) (by first | assumption | omega | (simp only [] at *; omega)) (by first | assumption | omega | (simp only [] at *; omega))) (cS_V 3 F.ts m_447 m_448 m_8 m_41 m_449 (by decide +kernel) ⟨Nat.le_of_ble_eq_true rfl, Nat.le_of_ble_eq_true rfl⟩) (ci := CI_Placement) (q0 := 0) rfl rfl rfl (Nat.le_of_ble_eq_true rfl) d_Placement_copyInto_23 ⟨Nat.le_of_ble_eq_true rfl, Nat.le_of_ble_eq_true rfl⟩ ⟨rfl, rfl, rfl, rfl, rfl, fun _ => rfl, rfl⟩ (fun r23 uu23 q23_ => ?_) rfl
        subst q23_
        refine V_istore F (lv' := [(5, .int (plc k2 A2 B2 C2 no i 1)), (4, .int (plc k2 A2 B2 C2 no i 0)), (0, .ref p0), (1, .ref t0), (2, .ref c0), (3, .int (nI i))]) d_Placement_copyInto_26 (by decide) rfl ?_
        refine V_aload_n F 2 d_Placement_copyInto_28 rfl rfl ?_
        refine V_aload_n F 3 d_Placement_copyInto_29 rfl rfl ?_
        refine V_iload_n F 5 d_Placement_copyInto_30 rfl rfl ?_
        refine V_iconst F (v := 2) d_Placement_copyInto_31 rfl ?_
        refine V_callV_i (w1 := fun (u_ : Unit) => [(p0, .inr (CI_Placement, [.ref p1, .ref p2, .int (nI nt)])), (p1, .inl (cI, 10, .inl (cN no))), (p2, .inl (cB, 10, .inl (cT nm))), (t0, .inr (CI_Cells, [.ref t1, .ref t2, .ref t3, .ref t4, .ref t5, .ref t6, .int (nI n2)])), (t1, .inl (cI, 10, .inl (cN k2))), (t2, .inl (cI, 10, .inl (cN o2))), (t3, .inl (cI, 10, .inl A2)), (t4, .inl (cI, 10, .inl B2)), (t5, .inl (cI, 10, .inl C2)), (t6, .inl (cI, 10, .inl (cN q2))), (c0, .inr (CI_Cells, [.ref c1, .ref c2, .ref c3, .ref c4, .ref c5, .ref c6, .int (nI s)])), (c1, .inl (cI, 60, .inl (cN k3))), (c2, .inl (cI, 60, .inl (cN o3))), (c3, .inl (cI, 60, .inl A3)), (c4, .inl (cI, 60, .inl B3)), (c5, .inl (cI, 60, .inl C3)), (c6, .inl (cI, 60, .inl (cN q3)))]) (wr := [(c0, .inr (CI_Cells, [.ref c1, .ref c2, .ref c3, .ref c4, .ref c5, .ref c6, .int (nI s)])), (c1, .inl (cI, 60, .inl (cN k3))), (c2, .inl (cI, 60, .inl (cN o3))), (c3, .inl (cI, 60, .inl A3)), (c4, .inl (cI, 60, .inl B3)), (c5, .inl (cI, 60, .inl C3)), (c6, .inl (cI, 60, .inl (cN q3)))]) (isC := [0, 1, 2, 3, 4, 5, 6, 7, 8, 9]) (isR := [10, 11, 12, 13, 14, 15, 16]) (pm := [7, 8, 9, 10, 11, 12, 13, 14, 15, 16, 0, 1, 2, 3, 4, 5, 6]) (As := [.ref t0, .int (nI i), .int 2]) (rest := []) F (c_Placement_placed l D cI cL cB p0 p1 p2 nt no nm t0 t1 t2 t3 t4 t5 t6 n2 k2 o2 q2 A2 B2 C2 i 2 (by first | assumption | omega | (simp only [] at *; omega)) (by first | assumption | omega | (simp only [] at *; omega)) (by first | assumption | omega | (simp only [] at *; omega)) (by first | assumption | omega | (simp only [] at *; omega))) (cS_V 3 F.ts m_447 m_448 m_8 m_41 m_449 (by decide +kernel) ⟨Nat.le_of_ble_eq_true rfl, Nat.le_of_ble_eq_true rfl⟩) (ci := CI_Placement) (q0 := 0) rfl rfl rfl (Nat.le_of_ble_eq_true rfl) d_Placement_copyInto_32 ⟨Nat.le_of_ble_eq_true rfl, Nat.le_of_ble_eq_true rfl⟩ ⟨rfl, rfl, rfl, rfl, rfl, fun _ => rfl, rfl⟩ (fun r32 uu32 q32_ => ?_) rfl
        subst q32_
        refine V_istore F (lv' := [(6, .int (plc k2 A2 B2 C2 no i 2)), (5, .int (plc k2 A2 B2 C2 no i 1)), (4, .int (plc k2 A2 B2 C2 no i 0)), (0, .ref p0), (1, .ref t0), (2, .ref c0), (3, .int (nI i))]) d_Placement_copyInto_35 (by decide) rfl ?_
        refine V_aload_n F 5 d_Placement_copyInto_37 rfl rfl ?_
        refine V_aload_n F 4 d_Placement_copyInto_38 rfl rfl ?_
        refine V_get F 3 CI_Cells 0 i_Cells rfl rfl (by decide) m_66 rfl rfl d_Placement_copyInto_39 ?_
        refine V_iload_n F 6 d_Placement_copyInto_42 rfl rfl ?_
        refine V_ialdnN F 4 0 (k := i) rfl rfl (by omega) (by decide) d_Placement_copyInto_43 ?_
        refine V_aload_n F 3 d_Placement_copyInto_44 rfl rfl ?_
        refine V_get F 0 CI_Placement 0 i_Placement rfl rfl (by decide) m_177 rfl rfl d_Placement_copyInto_45 ?_
        refine V_aload_n F 4 d_Placement_copyInto_48 rfl rfl ?_
        refine V_get F 3 CI_Cells 1 i_Cells rfl rfl (by decide) m_69 rfl rfl d_Placement_copyInto_49 ?_
        refine V_iload_n F 6 d_Placement_copyInto_52 rfl rfl ?_
        refine V_ialdnN F 5 0 (k := i) rfl rfl (by omega) (by decide) d_Placement_copyInto_53 ?_
        refine V_ialdnN F 1 0 (k := o2 i) rfl rfl (by omega) (by decide) d_Placement_copyInto_54 ?_
        refine V_iload F 2 d_Placement_copyInto_55 rfl ?_
        refine V_iload F 1 d_Placement_copyInto_57 rfl ?_
        refine V_iload F 0 d_Placement_copyInto_59 rfl ?_
        refine V_callV_v (w1 := fun (u_ : (Nat → Nat)) => [(p0, .inr (CI_Placement, [.ref p1, .ref p2, .int (nI nt)])), (p1, .inl (cI, 10, .inl (cN no))), (p2, .inl (cB, 10, .inl (cT nm))), (t0, .inr (CI_Cells, [.ref t1, .ref t2, .ref t3, .ref t4, .ref t5, .ref t6, .int (nI n2)])), (t1, .inl (cI, 10, .inl (cN k2))), (t2, .inl (cI, 10, .inl (cN o2))), (t3, .inl (cI, 10, .inl A2)), (t4, .inl (cI, 10, .inl B2)), (t5, .inl (cI, 10, .inl C2)), (t6, .inl (cI, 10, .inl (cN q2))), (c0, .inr (CI_Cells, [.ref c1, .ref c2, .ref c3, .ref c4, .ref c5, .ref c6, .int (nI (s + 1))])), (c1, .inl (cI, 60, .inl (cN (up k3 s (k2 i))))), (c2, .inl (cI, 60, .inl (cN (up o3 s (no (o2 i)))))), (c3, .inl (cI, 60, .inl (upd A3 s (plc k2 A2 B2 C2 no i 0)))), (c4, .inl (cI, 60, .inl (upd B3 s (plc k2 A2 B2 C2 no i 1)))), (c5, .inl (cI, 60, .inl (upd C3 s (plc k2 A2 B2 C2 no i 2)))), (c6, .inl (cI, 60, .inl (cN u_)))]) (wr := [(p0, .inr (CI_Placement, [.ref p1, .ref p2, .int (nI nt)])), (p1, .inl (cI, 10, .inl (cN no))), (p2, .inl (cB, 10, .inl (cT nm))), (t0, .inr (CI_Cells, [.ref t1, .ref t2, .ref t3, .ref t4, .ref t5, .ref t6, .int (nI n2)])), (t1, .inl (cI, 10, .inl (cN k2))), (t2, .inl (cI, 10, .inl (cN o2))), (t3, .inl (cI, 10, .inl A2)), (t4, .inl (cI, 10, .inl B2)), (t5, .inl (cI, 10, .inl C2)), (t6, .inl (cI, 10, .inl (cN q2)))]) (isC := [10, 11, 12, 13, 14, 15, 16]) (isR := [0, 1, 2, 3, 4, 5, 6, 7, 8, 9]) (pm := [0, 1, 2, 3, 4, 5, 6, 7, 8, 9, 10, 11, 12, 13, 14, 15, 16]) (As := [.int (nI (k2 i)), .int (nI (no (o2 i))), .int (plc k2 A2 B2 C2 no i 0), .int (plc k2 A2 B2 C2 no i 1), .int (plc k2 A2 B2 C2 no i 2)]) (rest := []) F (c_Cells_add l D cI cL cB c0 c1 c2 c3 c4 c5 c6 60 s k3 o3 q3 A3 B3 C3 (k2 i) (no (o2 i)) ((C2 i).toNatClampNeg) (plc k2 A2 B2 C2 no i 0) (plc k2 A2 B2 C2 no i 1) (plc k2 A2 B2 C2 no i 2) (by first | assumption | omega | (simp only [] at *; omega)) (by first | assumption | omega | (simp only [] at *; omega)) (by first | assumption | omega | (simp only [] at *; omega)) (fun z => by unfold plc; rw [if_neg (by rw [z]; decide)]; exact vin_nI (((hw2 i (by omega)).2.2.2 z).2) (by decide))) (cS_V 5 F.ts m_450 m_406 m_407 m_36 m_408 (by decide +kernel) ⟨Nat.le_of_ble_eq_true rfl, Nat.le_of_ble_eq_true rfl⟩) (ci := CI_Cells) (q0 := 0) rfl rfl rfl (Nat.le_of_ble_eq_true rfl) d_Placement_copyInto_61 ⟨Nat.le_of_ble_eq_true rfl, Nat.le_of_ble_eq_true rfl⟩ ⟨rfl, rfl, rfl, rfl, rfl, fun _ => rfl, rfl⟩ (fun uu61 q61_ => ?_) rfl
        obtain ⟨q2_61, rfl⟩ : ∃ z, z = uu61 := ⟨_, rfl⟩
        have e61 : q2_61 = up q3 s (if (k2 i) = 8 then ((C2 i).toNatClampNeg) else 2) := q61_
        clear q61_
        refine V_iinc F 6 (v := nI (i + 1)) (lv' := [(3, .int (nI (i + 1))), (6, .int (plc k2 A2 B2 C2 no i 2)), (5, .int (plc k2 A2 B2 C2 no i 1)), (4, .int (plc k2 A2 B2 C2 no i 0)), (0, .ref p0), (1, .ref t0), (2, .ref c0)]) d_Placement_copyInto_64 rfl (nI_inc _) (by decide) rfl ?_
        refine V_goto F 2 d_Placement_copyInto_67 (by decide) ?_
        refine V_lv [4, 5, 6, 0] rfl ?_
        exact ih2 (i + 1) (s + 1) (up k3 s (k2 i)) (up o3 s (no (o2 i))) q2_61 (upd A3 s (plc k2 A2 B2 C2 no i 0)) (upd B3 s (plc k2 A2 B2 C2 no i 1)) (upd C3 s (plc k2 A2 B2 C2 no i 2)) (by omega) (by first | assumption | omega | (simp only [] at *; omega)) (by omega) (hI.step hs e61)
  refine V_lv [1, 2, 3, 0] rfl ?_
  exact L2 ((n2 - 0) + 1) 0 n k o q A B C (Nat.lt_succ_self _) (by first | assumption | omega | (simp only [] at *; omega)) rfl Copied.start

set_option maxHeartbeats 4000000 in
set_option maxRecDepth 100000 in
theorem c_Model_thrown (l : Launch) (D : va_G) (cI cL cB : ClassId) (x0 : Nat) (x1 : Nat) (x2 : Nat) (x3 : Nat) (x4 : Nat) (x5 : Nat) (x6 : Nat) (x7 : Nat) (x8 : Nat) (x9 : Nat) (x10 : Nat) (x11 : Nat) (x12 : Nat) (x13 : Nat) (x14 : Nat) (x15 : Nat) (x16 : Nat) (x17 : Nat) (x18 : Nat) (x19 : Nat) (x20 : Nat) (th : Nat) (nn : Nat) (n : Nat) (sg : Nat) (bt : Prop)  : Cti l y_Model_thrown (wK w_Model_thrown) ({ frames := 0, cells := 0, slots := 0, locals := 0 }) D classes (TY cI cL cB) [.ref x0] [(x0, .inr (CI_Model, [.int (nI th), .int (nI nn), .ref x1, .ref x2, .ref x3, .ref x4, .ref x5, .ref x6, .ref x7, .ref x8, .ref x9, .ref x10, .ref x11, .int (nI n), .ref x12, .ref x13, .ref x14, .ref x15, .ref x16, .ref x17, .ref x18, .ref x19, .ref x20, .int (bP bt), .int (nI sg)]))] (fun (r : Int32) (u_ : Unit) => r = nI th) (fun (u_ : Unit) => [(x0, .inr (CI_Model, [.int (nI th), .int (nI nn), .ref x1, .ref x2, .ref x3, .ref x4, .ref x5, .ref x6, .ref x7, .ref x8, .ref x9, .ref x10, .ref x11, .int (nI n), .ref x12, .ref x13, .ref x14, .ref x15, .ref x16, .ref x17, .ref x18, .ref x19, .ref x20, .int (bP bt), .int (nI sg)]))]) 0 0 := by
  refine Ctg_of (cc := prog_9_method_2_code) (maxL := 1) (ret := (some .int)) "CircuitSimulatorModel" [(0, .ref x0)] (by decide) rfl rfl (Nat.le_of_ble_eq_true rfl) rfl ?_
  intro p_ e_ s_ m_ args_ below_ meth_ c_ A_ F hr hin
  refine V_aload_n F 0 d_Model_thrown_0 rfl rfl ?_
  refine V_get F 0 CI_Model 0 i_Model rfl rfl (by decide) m_596 rfl rfl d_Model_thrown_1 ?_
  exact V_iret F hr () rfl [0] rfl rfl (by decide) (by decide) d_Model_thrown_4

set_option maxHeartbeats 4000000 in
set_option maxRecDepth 100000 in
theorem c_Model_raise (l : Launch) (D : va_G) (cI cL cB : ClassId) (x0 : Nat) (x1 : Nat) (x2 : Nat) (x3 : Nat) (x4 : Nat) (x5 : Nat) (x6 : Nat) (x7 : Nat) (x8 : Nat) (x9 : Nat) (x10 : Nat) (x11 : Nat) (x12 : Nat) (x13 : Nat) (x14 : Nat) (x15 : Nat) (x16 : Nat) (x17 : Nat) (x18 : Nat) (x19 : Nat) (x20 : Nat) (th : Nat) (nn : Nat) (n : Nat) (sg : Nat) (bt : Prop) (er : Nat)  : Cti l y_Model_raise (wK w_Model_raise) ({ frames := 0, cells := 0, slots := 0, locals := 0 }) D classes (TY cI cL cB) [.ref x0, .int (nI er)] [(x0, .inr (CI_Model, [.int (nI th), .int (nI nn), .ref x1, .ref x2, .ref x3, .ref x4, .ref x5, .ref x6, .ref x7, .ref x8, .ref x9, .ref x10, .ref x11, .int (nI n), .ref x12, .ref x13, .ref x14, .ref x15, .ref x16, .ref x17, .ref x18, .ref x19, .ref x20, .int (bP bt), .int (nI sg)]))] (fun (r : Int32) (u_ : Unit) => r = nI 0) (fun (u_ : Unit) => [(x0, .inr (CI_Model, [.int (nI er), .int (nI nn), .ref x1, .ref x2, .ref x3, .ref x4, .ref x5, .ref x6, .ref x7, .ref x8, .ref x9, .ref x10, .ref x11, .int (nI n), .ref x12, .ref x13, .ref x14, .ref x15, .ref x16, .ref x17, .ref x18, .ref x19, .ref x20, .int (bP bt), .int (nI sg)]))]) 0 0 := by
  refine Ctg_of (cc := prog_9_method_3_code) (maxL := 2) (ret := (some .int)) "CircuitSimulatorModel" [(0, .ref x0), (1, .int (nI er))] (by decide) rfl rfl (Nat.le_of_ble_eq_true rfl) rfl ?_
  intro p_ e_ s_ m_ args_ below_ meth_ c_ A_ F hr hin
  refine V_aload_n F 0 d_Model_raise_0 rfl rfl ?_
  refine V_iload_n F 1 d_Model_raise_1 rfl rfl ?_
  refine V_put F 0 CI_Model 0 (w' := [(x0, .inr (CI_Model, [.int (nI er), .int (nI nn), .ref x1, .ref x2, .ref x3, .ref x4, .ref x5, .ref x6, .ref x7, .ref x8, .ref x9, .ref x10, .ref x11, .int (nI n), .ref x12, .ref x13, .ref x14, .ref x15, .ref x16, .ref x17, .ref x18, .ref x19, .ref x20, .int (bP bt), .int (nI sg)]))]) t_Model tk_Model n_Model i_Model rfl rfl (by decide) m_596 rfl rfl rfl rfl (Nat.le_of_ble_eq_true rfl) rfl d_Model_raise_2 ?_
  refine V_iconst F (v := 0) d_Model_raise_5 rfl ?_
  exact V_iret F hr () rfl [0] rfl rfl (by decide) (by decide) d_Model_raise_6

set_option maxHeartbeats 4000000 in
set_option maxRecDepth 100000 in
theorem c_Model_in (l : Launch) (D : va_G) (cI cL cB : ClassId) (x : Int32) (lo : Int32) (hi : Int32)  : Cti l y_Model_in (wK w_Model_in) ({ frames := 0, cells := 0, slots := 0, locals := 0 }) D classes (TY cI cL cB) [.int x, .int lo, .int hi] [] (fun (r : Int32) (u_ : Unit) => r = bP (¬ x < lo ∧ ¬ hi < x)) (fun (u_ : Unit) => []) 0 0 := by
  refine Ctg_of (cc := prog_9_method_4_code) (maxL := 3) (ret := (some .boolean)) "CircuitSimulatorModel" [(0, .int x), (1, .int lo), (2, .int hi)] (by decide) rfl rfl (Nat.le_of_ble_eq_true rfl) rfl ?_
  intro p_ e_ s_ m_ args_ below_ meth_ c_ A_ F hr hin
  refine V_iload_n F 0 d_Model_in_0 rfl rfl ?_
  refine V_iload_n F 1 d_Model_in_1 rfl rfl ?_
  refine V_icmp_lt F 14 d_Model_in_2 (by decide) (fun h2 => ?_) (fun h2 => ?_)
  · skip
    refine V_iconst F (v := 0) d_Model_in_14 rfl ?_
    exact V_zret F hr rfl () (bP_f (fun z => z.1 h2)).symm [] rfl rfl (by decide) (by decide) d_Model_in_15
  · skip
    refine V_iload_n F 0 d_Model_in_5 rfl rfl ?_
    refine V_iload_n F 2 d_Model_in_6 rfl rfl ?_
    refine V_icmp_gt F 14 d_Model_in_7 (by decide) (fun h7 => ?_) (fun h7 => ?_)
    · skip
      refine V_iconst F (v := 0) d_Model_in_14 rfl ?_
      exact V_zret F hr rfl () (bP_f (fun z => z.2 h7)).symm [] rfl rfl (by decide) (by decide) d_Model_in_15
    · skip
      refine V_iconst F (v := 1) d_Model_in_10 rfl ?_
      refine V_goto F 15 d_Model_in_11 (by decide) ?_
      exact V_zret F hr rfl () (bP_t ⟨h2, h7⟩).symm [] rfl rfl (by decide) (by decide) d_Model_in_15

set_option maxHeartbeats 4000000 in
set_option maxRecDepth 100000 in
theorem c_Model_inputs (l : Launch) (D : va_G) (cI cL cB : ClassId) (a : Nat) (ha : a ≤ 8) : Cti l y_Model_inputs (wK w_Model_inputs) ({ frames := 0, cells := 0, slots := 0, locals := 0 }) D classes (TY cI cL cB) [.int (nI a)] [] (fun (r : Int32) (u_ : Unit) => r = nI (inpN a)) (fun (u_ : Unit) => []) 0 0 := by
  refine Ctg_of (cc := prog_9_method_5_code) (maxL := 1) (ret := (some .int)) "CircuitSimulatorModel" [(0, .int (nI a))] (by decide) rfl rfl (Nat.le_of_ble_eq_true rfl) rfl ?_
  intro p_ e_ s_ m_ args_ below_ meth_ c_ A_ F hr hin
  refine V_iload_n F 0 d_Model_inputs_0 rfl rfl ?_
  refine V_ifn_ne F 6 (a := a) (by omega) d_Model_inputs_1 (by decide) (fun h1 => ?_) (fun h1 => ?_)
  · skip
    refine V_iload_n F 0 d_Model_inputs_6 rfl rfl ?_
    refine V_iconst F (v := 1) d_Model_inputs_7 rfl ?_
    refine V_icmpn_eq F 17 (a := a) (b := 1) (by omega) (by omega) d_Model_inputs_8 (by decide) (fun h8 => ?_) (fun h8 => ?_)
    · skip
      refine V_iconst F (v := 1) d_Model_inputs_17 rfl ?_
      exact V_iret F hr () (congrArg nI (by unfold inpN; (repeat' split) <;> omega)) [] rfl rfl (by decide) (by decide) d_Model_inputs_18
    · skip
      refine V_iload_n F 0 d_Model_inputs_11 rfl rfl ?_
      refine V_bipush F (v := 8) d_Model_inputs_12 rfl ?_
      refine V_icmpn_ne F 19 (a := a) (b := 8) (by omega) (by omega) d_Model_inputs_14 (by decide) (fun h14 => ?_) (fun h14 => ?_)
      · skip
        refine V_iload_n F 0 d_Model_inputs_19 rfl rfl ?_
        refine V_iconst F (v := 5) d_Model_inputs_20 rfl ?_
        refine V_icmpn_ne F 28 (a := a) (b := 5) (by omega) (by omega) d_Model_inputs_21 (by decide) (fun h21 => ?_) (fun h21 => ?_)
        · skip
          refine V_iconst F (v := 2) d_Model_inputs_28 rfl ?_
          exact V_iret F hr () (congrArg nI (by unfold inpN; (repeat' split) <;> omega)) [] rfl rfl (by decide) (by decide) d_Model_inputs_29
        · skip
          refine V_iconst F (v := 3) d_Model_inputs_24 rfl ?_
          refine V_goto F 29 d_Model_inputs_25 (by decide) ?_
          exact V_iret F hr () (congrArg nI (by unfold inpN; (repeat' split) <;> omega)) [] rfl rfl (by decide) (by decide) d_Model_inputs_29
      · skip
        refine V_iconst F (v := 1) d_Model_inputs_17 rfl ?_
        exact V_iret F hr () (congrArg nI (by unfold inpN; (repeat' split) <;> omega)) [] rfl rfl (by decide) (by decide) d_Model_inputs_18
  · skip
    refine V_iconst F (v := 0) d_Model_inputs_4 rfl ?_
    exact V_iret F hr () (congrArg nI (by unfold inpN; (repeat' split) <;> omega)) [] rfl rfl (by decide) (by decide) d_Model_inputs_5

set_option maxHeartbeats 4000000 in
set_option maxRecDepth 100000 in
theorem c_Model_fits (l : Launch) (D : va_G) (cI cL cB : ClassId) (kn : Nat) (a : Int32) (b : Int32) (c : Int32) (m : Nat) (hk : kn ≤ 8) (hm1 : 1 ≤ m) (hm : m < 2 ^ 31) : Cti l y_Model_fits (wK w_Model_fits) ({ frames := 1, cells := 0, slots := 0, locals := 22 }) D classes (TY cI cL cB) [.int (nI kn), .int a, .int b, .int c, .int (nI m)] [] (fun (r : Int32) (u_ : Unit) => r = bP (FitsM kn a b c m)) (fun (u_ : Unit) => []) 0 0 := by
  refine Ctg_of (cc := prog_9_method_6_code) (maxL := 6) (ret := (some .boolean)) "CircuitSimulatorModel" [(0, .int (nI kn)), (1, .int a), (2, .int b), (3, .int c), (4, .int (nI m))] (by decide) rfl rfl (Nat.le_of_ble_eq_true rfl) rfl ?_
  intro p_ e_ s_ m_ args_ below_ meth_ c_ A_ F hr hin
  have hn3 := inpN_le kn
  refine V_iload_n F 0 d_Model_fits_0 rfl rfl ?_
  refine V_callS_i (w1 := fun (u_ : Unit) => []) (wr := []) (isC := []) (isR := []) (pm := []) (As := [.int (nI kn)]) (rest := []) F (c_Model_inputs l D cI cL cB kn (by first | assumption | omega | (simp only [] at *; omega))) (cS_S 1 F.ts m_686 m_687 m_42 m_688 (by decide +kernel) ⟨Nat.le_of_ble_eq_true rfl, Nat.le_of_ble_eq_true rfl⟩) rfl (Nat.le_of_ble_eq_true rfl) d_Model_fits_1 ⟨Nat.le_of_ble_eq_true rfl, Nat.le_of_ble_eq_true rfl⟩ ⟨rfl, rfl, rfl, rfl, rfl, fun _ => rfl, rfl⟩ (fun r1 uu1 q1_ => ?_) rfl
  subst q1_
  refine V_istore F (lv' := [(5, .int (nI (inpN kn))), (0, .int (nI kn)), (1, .int a), (2, .int b), (3, .int c), (4, .int (nI m))]) d_Model_fits_4 (by decide) rfl ?_
  refine V_iload F 0 d_Model_fits_6 rfl ?_
  refine V_ifn_le F 23 (a := inpN kn) (by omega) d_Model_fits_8 (by decide) (fun h8 => ?_) (fun h8 => ?_)
  · skip
    refine V_iload F 0 d_Model_fits_23 rfl ?_
    refine V_iconst F (v := 1) d_Model_fits_25 rfl ?_
    refine V_icmpn_le F 41 (a := inpN kn) (b := 1) (by omega) (by omega) d_Model_fits_26 (by decide) (fun h26 => ?_) (fun h26 => ?_)
    · skip
      refine V_iload F 0 d_Model_fits_41 rfl ?_
      refine V_iconst F (v := 2) d_Model_fits_43 rfl ?_
      refine V_icmpn_le F 61 (a := inpN kn) (b := 2) (by omega) (by omega) d_Model_fits_44 (by decide) (fun h44 => ?_) (fun h44 => ?_)
      · skip
        refine V_iload_n F 1 d_Model_fits_61 rfl rfl ?_
        refine V_bipush F (v := 8) d_Model_fits_62 rfl ?_
        refine V_icmpn_ne F 85 (a := kn) (b := 8) (by omega) (by omega) d_Model_fits_64 (by decide) (fun h64 => ?_) (fun h64 => ?_)
        · skip
          refine V_iconst F (v := 1) d_Model_fits_85 rfl ?_
          refine V_goto F 90 d_Model_fits_86 (by decide) ?_
          exact V_zret F hr rfl () (bP_t ⟨fun z => (by first | exact h20 | omega), fun z => (by first | exact h38 | omega), fun z => (by first | exact h56 | omega), fun z => (by first | exact ⟨h73, h82⟩ | omega)⟩).symm [] rfl rfl (by decide) (by decide) d_Model_fits_90
        · skip
          refine V_iload_n F 3 d_Model_fits_67 rfl rfl ?_
          refine V_iconst F (v := 0) d_Model_fits_68 rfl ?_
          refine V_iconst F (v := 1) d_Model_fits_69 rfl ?_
          refine V_callS_i (w1 := fun (u_ : Unit) => []) (wr := []) (isC := []) (isR := []) (pm := []) (As := [.int b, .int 0, .int 1]) (rest := []) F (c_Model_in l D cI cL cB b 0 1 ) (cS_S 3 F.ts m_680 m_681 m_42 m_682 (by decide +kernel) ⟨Nat.le_of_ble_eq_true rfl, Nat.le_of_ble_eq_true rfl⟩) rfl (Nat.le_of_ble_eq_true rfl) d_Model_fits_70 ⟨Nat.le_of_ble_eq_true rfl, Nat.le_of_ble_eq_true rfl⟩ ⟨rfl, rfl, rfl, rfl, rfl, fun _ => rfl, rfl⟩ (fun r70 uu70 q70_ => ?_) rfl
          subst q70_
          refine V_top (y := bP (vp_in b 2)) (bP_c (in_iff (m := 2) (by omega) (by omega))) ?_
          refine V_ifb_eq F 89 d_Model_fits_73 (by decide) (fun h73 => ?_) (fun h73 => ?_)
          · skip
            refine V_iconst F (v := 0) d_Model_fits_89 rfl ?_
            exact V_zret F hr rfl () (bP_f (fun z => h73 (z.2.2.2 (by omega)).1)).symm [] rfl rfl (by decide) (by decide) d_Model_fits_90
          · skip
            refine V_iload_n F 4 d_Model_fits_76 rfl rfl ?_
            refine V_iconst F (v := 0) d_Model_fits_77 rfl ?_
            refine V_iconst F (v := 2) d_Model_fits_78 rfl ?_
            refine V_callS_i (w1 := fun (u_ : Unit) => []) (wr := []) (isC := []) (isR := []) (pm := []) (As := [.int c, .int 0, .int 2]) (rest := []) F (c_Model_in l D cI cL cB c 0 2 ) (cS_S 3 F.ts m_680 m_681 m_42 m_682 (by decide +kernel) ⟨Nat.le_of_ble_eq_true rfl, Nat.le_of_ble_eq_true rfl⟩) rfl (Nat.le_of_ble_eq_true rfl) d_Model_fits_79 ⟨Nat.le_of_ble_eq_true rfl, Nat.le_of_ble_eq_true rfl⟩ ⟨rfl, rfl, rfl, rfl, rfl, fun _ => rfl, rfl⟩ (fun r79 uu79 q79_ => ?_) rfl
            subst q79_
            refine V_top (y := bP (vp_in c 3)) (bP_c (in_iff (m := 3) (by omega) (by omega))) ?_
            refine V_ifb_eq F 89 d_Model_fits_82 (by decide) (fun h82 => ?_) (fun h82 => ?_)
            · skip
              refine V_iconst F (v := 0) d_Model_fits_89 rfl ?_
              exact V_zret F hr rfl () (bP_f (fun z => h82 (z.2.2.2 (by omega)).2)).symm [] rfl rfl (by decide) (by decide) d_Model_fits_90
            · skip
              refine V_iconst F (v := 1) d_Model_fits_85 rfl ?_
              refine V_goto F 90 d_Model_fits_86 (by decide) ?_
              exact V_zret F hr rfl () (bP_t ⟨fun z => (by first | exact h20 | omega), fun z => (by first | exact h38 | omega), fun z => (by first | exact h56 | omega), fun z => (by first | exact ⟨h73, h82⟩ | omega)⟩).symm [] rfl rfl (by decide) (by decide) d_Model_fits_90
      · skip
        refine V_iload_n F 4 d_Model_fits_47 rfl rfl ?_
        refine V_iconst F (v := 0) d_Model_fits_48 rfl ?_
        refine V_iload F 5 d_Model_fits_49 rfl ?_
        refine V_iconst F (v := 1) d_Model_fits_51 rfl ?_
        refine V_isub F d_Model_fits_52 ?_
        refine V_top (y := nI (m - 1)) (pk_sub (a := m) (b := 1) (by omega)) ?_
        refine V_callS_i (w1 := fun (u_ : Unit) => []) (wr := []) (isC := []) (isR := []) (pm := []) (As := [.int c, .int 0, .int (nI (m - 1))]) (rest := []) F (c_Model_in l D cI cL cB c 0 (nI (m - 1)) ) (cS_S 3 F.ts m_680 m_681 m_42 m_682 (by decide +kernel) ⟨Nat.le_of_ble_eq_true rfl, Nat.le_of_ble_eq_true rfl⟩) rfl (Nat.le_of_ble_eq_true rfl) d_Model_fits_53 ⟨Nat.le_of_ble_eq_true rfl, Nat.le_of_ble_eq_true rfl⟩ ⟨rfl, rfl, rfl, rfl, rfl, fun _ => rfl, rfl⟩ (fun r53 uu53 q53_ => ?_) rfl
        subst q53_
        refine V_top (y := bP (vp_in c m)) (bP_c (in_iff (m := m) (by omega) (by omega))) ?_
        refine V_ifb_ne F 61 d_Model_fits_56 (by decide) (fun h56 => ?_) (fun h56 => ?_)
        · skip
          refine V_iload_n F 1 d_Model_fits_61 rfl rfl ?_
          refine V_bipush F (v := 8) d_Model_fits_62 rfl ?_
          refine V_icmpn_ne F 85 (a := kn) (b := 8) (by omega) (by omega) d_Model_fits_64 (by decide) (fun h64 => ?_) (fun h64 => ?_)
          · skip
            refine V_iconst F (v := 1) d_Model_fits_85 rfl ?_
            refine V_goto F 90 d_Model_fits_86 (by decide) ?_
            exact V_zret F hr rfl () (bP_t ⟨fun z => (by first | exact h20 | omega), fun z => (by first | exact h38 | omega), fun z => (by first | exact h56 | omega), fun z => (by first | exact ⟨h73, h82⟩ | omega)⟩).symm [] rfl rfl (by decide) (by decide) d_Model_fits_90
          · skip
            refine V_iload_n F 3 d_Model_fits_67 rfl rfl ?_
            refine V_iconst F (v := 0) d_Model_fits_68 rfl ?_
            refine V_iconst F (v := 1) d_Model_fits_69 rfl ?_
            refine V_callS_i (w1 := fun (u_ : Unit) => []) (wr := []) (isC := []) (isR := []) (pm := []) (As := [.int b, .int 0, .int 1]) (rest := []) F (c_Model_in l D cI cL cB b 0 1 ) (cS_S 3 F.ts m_680 m_681 m_42 m_682 (by decide +kernel) ⟨Nat.le_of_ble_eq_true rfl, Nat.le_of_ble_eq_true rfl⟩) rfl (Nat.le_of_ble_eq_true rfl) d_Model_fits_70 ⟨Nat.le_of_ble_eq_true rfl, Nat.le_of_ble_eq_true rfl⟩ ⟨rfl, rfl, rfl, rfl, rfl, fun _ => rfl, rfl⟩ (fun r70_5 uu70_5 q70_5_ => ?_) rfl
            subst q70_5_
            refine V_top (y := bP (vp_in b 2)) (bP_c (in_iff (m := 2) (by omega) (by omega))) ?_
            refine V_ifb_eq F 89 d_Model_fits_73 (by decide) (fun h73 => ?_) (fun h73 => ?_)
            · skip
              refine V_iconst F (v := 0) d_Model_fits_89 rfl ?_
              exact V_zret F hr rfl () (bP_f (fun z => h73 (z.2.2.2 (by omega)).1)).symm [] rfl rfl (by decide) (by decide) d_Model_fits_90
            · skip
              refine V_iload_n F 4 d_Model_fits_76 rfl rfl ?_
              refine V_iconst F (v := 0) d_Model_fits_77 rfl ?_
              refine V_iconst F (v := 2) d_Model_fits_78 rfl ?_
              refine V_callS_i (w1 := fun (u_ : Unit) => []) (wr := []) (isC := []) (isR := []) (pm := []) (As := [.int c, .int 0, .int 2]) (rest := []) F (c_Model_in l D cI cL cB c 0 2 ) (cS_S 3 F.ts m_680 m_681 m_42 m_682 (by decide +kernel) ⟨Nat.le_of_ble_eq_true rfl, Nat.le_of_ble_eq_true rfl⟩) rfl (Nat.le_of_ble_eq_true rfl) d_Model_fits_79 ⟨Nat.le_of_ble_eq_true rfl, Nat.le_of_ble_eq_true rfl⟩ ⟨rfl, rfl, rfl, rfl, rfl, fun _ => rfl, rfl⟩ (fun r79_6 uu79_6 q79_6_ => ?_) rfl
              subst q79_6_
              refine V_top (y := bP (vp_in c 3)) (bP_c (in_iff (m := 3) (by omega) (by omega))) ?_
              refine V_ifb_eq F 89 d_Model_fits_82 (by decide) (fun h82 => ?_) (fun h82 => ?_)
              · skip
                refine V_iconst F (v := 0) d_Model_fits_89 rfl ?_
                exact V_zret F hr rfl () (bP_f (fun z => h82 (z.2.2.2 (by omega)).2)).symm [] rfl rfl (by decide) (by decide) d_Model_fits_90
              · skip
                refine V_iconst F (v := 1) d_Model_fits_85 rfl ?_
                refine V_goto F 90 d_Model_fits_86 (by decide) ?_
                exact V_zret F hr rfl () (bP_t ⟨fun z => (by first | exact h20 | omega), fun z => (by first | exact h38 | omega), fun z => (by first | exact h56 | omega), fun z => (by first | exact ⟨h73, h82⟩ | omega)⟩).symm [] rfl rfl (by decide) (by decide) d_Model_fits_90
        · skip
          refine V_iconst F (v := 0) d_Model_fits_59 rfl ?_
          exact V_zret F hr rfl () (bP_f (fun z => h56 (z.2.2.1 (by omega)))).symm [] rfl rfl (by decide) (by decide) d_Model_fits_60
    · skip
      refine V_iload_n F 3 d_Model_fits_29 rfl rfl ?_
      refine V_iconst F (v := 0) d_Model_fits_30 rfl ?_
      refine V_iload F 5 d_Model_fits_31 rfl ?_
      refine V_iconst F (v := 1) d_Model_fits_33 rfl ?_
      refine V_isub F d_Model_fits_34 ?_
      refine V_top (y := nI (m - 1)) (pk_sub (a := m) (b := 1) (by omega)) ?_
      refine V_callS_i (w1 := fun (u_ : Unit) => []) (wr := []) (isC := []) (isR := []) (pm := []) (As := [.int b, .int 0, .int (nI (m - 1))]) (rest := []) F (c_Model_in l D cI cL cB b 0 (nI (m - 1)) ) (cS_S 3 F.ts m_680 m_681 m_42 m_682 (by decide +kernel) ⟨Nat.le_of_ble_eq_true rfl, Nat.le_of_ble_eq_true rfl⟩) rfl (Nat.le_of_ble_eq_true rfl) d_Model_fits_35 ⟨Nat.le_of_ble_eq_true rfl, Nat.le_of_ble_eq_true rfl⟩ ⟨rfl, rfl, rfl, rfl, rfl, fun _ => rfl, rfl⟩ (fun r35 uu35 q35_ => ?_) rfl
      subst q35_
      refine V_top (y := bP (vp_in b m)) (bP_c (in_iff (m := m) (by omega) (by omega))) ?_
      refine V_ifb_eq F 59 d_Model_fits_38 (by decide) (fun h38 => ?_) (fun h38 => ?_)
      · skip
        refine V_iconst F (v := 0) d_Model_fits_59 rfl ?_
        exact V_zret F hr rfl () (bP_f (fun z => h38 (z.2.1 (by omega)))).symm [] rfl rfl (by decide) (by decide) d_Model_fits_60
      · skip
        refine V_iload F 0 d_Model_fits_41 rfl ?_
        refine V_iconst F (v := 2) d_Model_fits_43 rfl ?_
        refine V_icmpn_le F 61 (a := inpN kn) (b := 2) (by omega) (by omega) d_Model_fits_44 (by decide) (fun h44 => ?_) (fun h44 => ?_)
        · skip
          refine V_iload_n F 1 d_Model_fits_61 rfl rfl ?_
          refine V_bipush F (v := 8) d_Model_fits_62 rfl ?_
          refine V_icmpn_ne F 85 (a := kn) (b := 8) (by omega) (by omega) d_Model_fits_64 (by decide) (fun h64 => ?_) (fun h64 => ?_)
          · skip
            refine V_iconst F (v := 1) d_Model_fits_85 rfl ?_
            refine V_goto F 90 d_Model_fits_86 (by decide) ?_
            exact V_zret F hr rfl () (bP_t ⟨fun z => (by first | exact h20 | omega), fun z => (by first | exact h38 | omega), fun z => (by first | exact h56 | omega), fun z => (by first | exact ⟨h73, h82⟩ | omega)⟩).symm [] rfl rfl (by decide) (by decide) d_Model_fits_90
          · skip
            refine V_iload_n F 3 d_Model_fits_67 rfl rfl ?_
            refine V_iconst F (v := 0) d_Model_fits_68 rfl ?_
            refine V_iconst F (v := 1) d_Model_fits_69 rfl ?_
            refine V_callS_i (w1 := fun (u_ : Unit) => []) (wr := []) (isC := []) (isR := []) (pm := []) (As := [.int b, .int 0, .int 1]) (rest := []) F (c_Model_in l D cI cL cB b 0 1 ) (cS_S 3 F.ts m_680 m_681 m_42 m_682 (by decide +kernel) ⟨Nat.le_of_ble_eq_true rfl, Nat.le_of_ble_eq_true rfl⟩) rfl (Nat.le_of_ble_eq_true rfl) d_Model_fits_70 ⟨Nat.le_of_ble_eq_true rfl, Nat.le_of_ble_eq_true rfl⟩ ⟨rfl, rfl, rfl, rfl, rfl, fun _ => rfl, rfl⟩ (fun r70_8 uu70_8 q70_8_ => ?_) rfl
            subst q70_8_
            refine V_top (y := bP (vp_in b 2)) (bP_c (in_iff (m := 2) (by omega) (by omega))) ?_
            refine V_ifb_eq F 89 d_Model_fits_73 (by decide) (fun h73 => ?_) (fun h73 => ?_)
            · skip
              refine V_iconst F (v := 0) d_Model_fits_89 rfl ?_
              exact V_zret F hr rfl () (bP_f (fun z => h73 (z.2.2.2 (by omega)).1)).symm [] rfl rfl (by decide) (by decide) d_Model_fits_90
            · skip
              refine V_iload_n F 4 d_Model_fits_76 rfl rfl ?_
              refine V_iconst F (v := 0) d_Model_fits_77 rfl ?_
              refine V_iconst F (v := 2) d_Model_fits_78 rfl ?_
              refine V_callS_i (w1 := fun (u_ : Unit) => []) (wr := []) (isC := []) (isR := []) (pm := []) (As := [.int c, .int 0, .int 2]) (rest := []) F (c_Model_in l D cI cL cB c 0 2 ) (cS_S 3 F.ts m_680 m_681 m_42 m_682 (by decide +kernel) ⟨Nat.le_of_ble_eq_true rfl, Nat.le_of_ble_eq_true rfl⟩) rfl (Nat.le_of_ble_eq_true rfl) d_Model_fits_79 ⟨Nat.le_of_ble_eq_true rfl, Nat.le_of_ble_eq_true rfl⟩ ⟨rfl, rfl, rfl, rfl, rfl, fun _ => rfl, rfl⟩ (fun r79_9 uu79_9 q79_9_ => ?_) rfl
              subst q79_9_
              refine V_top (y := bP (vp_in c 3)) (bP_c (in_iff (m := 3) (by omega) (by omega))) ?_
              refine V_ifb_eq F 89 d_Model_fits_82 (by decide) (fun h82 => ?_) (fun h82 => ?_)
              · skip
                refine V_iconst F (v := 0) d_Model_fits_89 rfl ?_
                exact V_zret F hr rfl () (bP_f (fun z => h82 (z.2.2.2 (by omega)).2)).symm [] rfl rfl (by decide) (by decide) d_Model_fits_90
              · skip
                refine V_iconst F (v := 1) d_Model_fits_85 rfl ?_
                refine V_goto F 90 d_Model_fits_86 (by decide) ?_
                exact V_zret F hr rfl () (bP_t ⟨fun z => (by first | exact h20 | omega), fun z => (by first | exact h38 | omega), fun z => (by first | exact h56 | omega), fun z => (by first | exact ⟨h73, h82⟩ | omega)⟩).symm [] rfl rfl (by decide) (by decide) d_Model_fits_90
        · skip
          refine V_iload_n F 4 d_Model_fits_47 rfl rfl ?_
          refine V_iconst F (v := 0) d_Model_fits_48 rfl ?_
          refine V_iload F 5 d_Model_fits_49 rfl ?_
          refine V_iconst F (v := 1) d_Model_fits_51 rfl ?_
          refine V_isub F d_Model_fits_52 ?_
          refine V_top (y := nI (m - 1)) (pk_sub (a := m) (b := 1) (by omega)) ?_
          refine V_callS_i (w1 := fun (u_ : Unit) => []) (wr := []) (isC := []) (isR := []) (pm := []) (As := [.int c, .int 0, .int (nI (m - 1))]) (rest := []) F (c_Model_in l D cI cL cB c 0 (nI (m - 1)) ) (cS_S 3 F.ts m_680 m_681 m_42 m_682 (by decide +kernel) ⟨Nat.le_of_ble_eq_true rfl, Nat.le_of_ble_eq_true rfl⟩) rfl (Nat.le_of_ble_eq_true rfl) d_Model_fits_53 ⟨Nat.le_of_ble_eq_true rfl, Nat.le_of_ble_eq_true rfl⟩ ⟨rfl, rfl, rfl, rfl, rfl, fun _ => rfl, rfl⟩ (fun r53_10 uu53_10 q53_10_ => ?_) rfl
          subst q53_10_
          refine V_top (y := bP (vp_in c m)) (bP_c (in_iff (m := m) (by omega) (by omega))) ?_
          refine V_ifb_ne F 61 d_Model_fits_56 (by decide) (fun h56 => ?_) (fun h56 => ?_)
          · skip
            refine V_iload_n F 1 d_Model_fits_61 rfl rfl ?_
            refine V_bipush F (v := 8) d_Model_fits_62 rfl ?_
            refine V_icmpn_ne F 85 (a := kn) (b := 8) (by omega) (by omega) d_Model_fits_64 (by decide) (fun h64 => ?_) (fun h64 => ?_)
            · skip
              refine V_iconst F (v := 1) d_Model_fits_85 rfl ?_
              refine V_goto F 90 d_Model_fits_86 (by decide) ?_
              exact V_zret F hr rfl () (bP_t ⟨fun z => (by first | exact h20 | omega), fun z => (by first | exact h38 | omega), fun z => (by first | exact h56 | omega), fun z => (by first | exact ⟨h73, h82⟩ | omega)⟩).symm [] rfl rfl (by decide) (by decide) d_Model_fits_90
            · skip
              refine V_iload_n F 3 d_Model_fits_67 rfl rfl ?_
              refine V_iconst F (v := 0) d_Model_fits_68 rfl ?_
              refine V_iconst F (v := 1) d_Model_fits_69 rfl ?_
              refine V_callS_i (w1 := fun (u_ : Unit) => []) (wr := []) (isC := []) (isR := []) (pm := []) (As := [.int b, .int 0, .int 1]) (rest := []) F (c_Model_in l D cI cL cB b 0 1 ) (cS_S 3 F.ts m_680 m_681 m_42 m_682 (by decide +kernel) ⟨Nat.le_of_ble_eq_true rfl, Nat.le_of_ble_eq_true rfl⟩) rfl (Nat.le_of_ble_eq_true rfl) d_Model_fits_70 ⟨Nat.le_of_ble_eq_true rfl, Nat.le_of_ble_eq_true rfl⟩ ⟨rfl, rfl, rfl, rfl, rfl, fun _ => rfl, rfl⟩ (fun r70_11 uu70_11 q70_11_ => ?_) rfl
              subst q70_11_
              refine V_top (y := bP (vp_in b 2)) (bP_c (in_iff (m := 2) (by omega) (by omega))) ?_
              refine V_ifb_eq F 89 d_Model_fits_73 (by decide) (fun h73 => ?_) (fun h73 => ?_)
              · skip
                refine V_iconst F (v := 0) d_Model_fits_89 rfl ?_
                exact V_zret F hr rfl () (bP_f (fun z => h73 (z.2.2.2 (by omega)).1)).symm [] rfl rfl (by decide) (by decide) d_Model_fits_90
              · skip
                refine V_iload_n F 4 d_Model_fits_76 rfl rfl ?_
                refine V_iconst F (v := 0) d_Model_fits_77 rfl ?_
                refine V_iconst F (v := 2) d_Model_fits_78 rfl ?_
                refine V_callS_i (w1 := fun (u_ : Unit) => []) (wr := []) (isC := []) (isR := []) (pm := []) (As := [.int c, .int 0, .int 2]) (rest := []) F (c_Model_in l D cI cL cB c 0 2 ) (cS_S 3 F.ts m_680 m_681 m_42 m_682 (by decide +kernel) ⟨Nat.le_of_ble_eq_true rfl, Nat.le_of_ble_eq_true rfl⟩) rfl (Nat.le_of_ble_eq_true rfl) d_Model_fits_79 ⟨Nat.le_of_ble_eq_true rfl, Nat.le_of_ble_eq_true rfl⟩ ⟨rfl, rfl, rfl, rfl, rfl, fun _ => rfl, rfl⟩ (fun r79_12 uu79_12 q79_12_ => ?_) rfl
                subst q79_12_
                refine V_top (y := bP (vp_in c 3)) (bP_c (in_iff (m := 3) (by omega) (by omega))) ?_
                refine V_ifb_eq F 89 d_Model_fits_82 (by decide) (fun h82 => ?_) (fun h82 => ?_)
                · skip
                  refine V_iconst F (v := 0) d_Model_fits_89 rfl ?_
                  exact V_zret F hr rfl () (bP_f (fun z => h82 (z.2.2.2 (by omega)).2)).symm [] rfl rfl (by decide) (by decide) d_Model_fits_90
                · skip
                  refine V_iconst F (v := 1) d_Model_fits_85 rfl ?_
                  refine V_goto F 90 d_Model_fits_86 (by decide) ?_
                  exact V_zret F hr rfl () (bP_t ⟨fun z => (by first | exact h20 | omega), fun z => (by first | exact h38 | omega), fun z => (by first | exact h56 | omega), fun z => (by first | exact ⟨h73, h82⟩ | omega)⟩).symm [] rfl rfl (by decide) (by decide) d_Model_fits_90
          · skip
            refine V_iconst F (v := 0) d_Model_fits_59 rfl ?_
            exact V_zret F hr rfl () (bP_f (fun z => h56 (z.2.2.1 (by omega)))).symm [] rfl rfl (by decide) (by decide) d_Model_fits_60
  · skip
    refine V_iload_n F 2 d_Model_fits_11 rfl rfl ?_
    refine V_iconst F (v := 0) d_Model_fits_12 rfl ?_
    refine V_iload F 5 d_Model_fits_13 rfl ?_
    refine V_iconst F (v := 1) d_Model_fits_15 rfl ?_
    refine V_isub F d_Model_fits_16 ?_
    refine V_top (y := nI (m - 1)) (pk_sub (a := m) (b := 1) (by omega)) ?_
    refine V_callS_i (w1 := fun (u_ : Unit) => []) (wr := []) (isC := []) (isR := []) (pm := []) (As := [.int a, .int 0, .int (nI (m - 1))]) (rest := []) F (c_Model_in l D cI cL cB a 0 (nI (m - 1)) ) (cS_S 3 F.ts m_680 m_681 m_42 m_682 (by decide +kernel) ⟨Nat.le_of_ble_eq_true rfl, Nat.le_of_ble_eq_true rfl⟩) rfl (Nat.le_of_ble_eq_true rfl) d_Model_fits_17 ⟨Nat.le_of_ble_eq_true rfl, Nat.le_of_ble_eq_true rfl⟩ ⟨rfl, rfl, rfl, rfl, rfl, fun _ => rfl, rfl⟩ (fun r17 uu17 q17_ => ?_) rfl
    subst q17_
    refine V_top (y := bP (vp_in a m)) (bP_c (in_iff (m := m) (by omega) (by omega))) ?_
    refine V_ifb_eq F 59 d_Model_fits_20 (by decide) (fun h20 => ?_) (fun h20 => ?_)
    · skip
      refine V_iconst F (v := 0) d_Model_fits_59 rfl ?_
      exact V_zret F hr rfl () (bP_f (fun z => h20 (z.1 (by omega)))).symm [] rfl rfl (by decide) (by decide) d_Model_fits_60
    · skip
      refine V_iload F 0 d_Model_fits_23 rfl ?_
      refine V_iconst F (v := 1) d_Model_fits_25 rfl ?_
      refine V_icmpn_le F 41 (a := inpN kn) (b := 1) (by omega) (by omega) d_Model_fits_26 (by decide) (fun h26 => ?_) (fun h26 => ?_)
      · skip
        refine V_iload F 0 d_Model_fits_41 rfl ?_
        refine V_iconst F (v := 2) d_Model_fits_43 rfl ?_
        refine V_icmpn_le F 61 (a := inpN kn) (b := 2) (by omega) (by omega) d_Model_fits_44 (by decide) (fun h44 => ?_) (fun h44 => ?_)
        · skip
          refine V_iload_n F 1 d_Model_fits_61 rfl rfl ?_
          refine V_bipush F (v := 8) d_Model_fits_62 rfl ?_
          refine V_icmpn_ne F 85 (a := kn) (b := 8) (by omega) (by omega) d_Model_fits_64 (by decide) (fun h64 => ?_) (fun h64 => ?_)
          · skip
            refine V_iconst F (v := 1) d_Model_fits_85 rfl ?_
            refine V_goto F 90 d_Model_fits_86 (by decide) ?_
            exact V_zret F hr rfl () (bP_t ⟨fun z => (by first | exact h20 | omega), fun z => (by first | exact h38 | omega), fun z => (by first | exact h56 | omega), fun z => (by first | exact ⟨h73, h82⟩ | omega)⟩).symm [] rfl rfl (by decide) (by decide) d_Model_fits_90
          · skip
            refine V_iload_n F 3 d_Model_fits_67 rfl rfl ?_
            refine V_iconst F (v := 0) d_Model_fits_68 rfl ?_
            refine V_iconst F (v := 1) d_Model_fits_69 rfl ?_
            refine V_callS_i (w1 := fun (u_ : Unit) => []) (wr := []) (isC := []) (isR := []) (pm := []) (As := [.int b, .int 0, .int 1]) (rest := []) F (c_Model_in l D cI cL cB b 0 1 ) (cS_S 3 F.ts m_680 m_681 m_42 m_682 (by decide +kernel) ⟨Nat.le_of_ble_eq_true rfl, Nat.le_of_ble_eq_true rfl⟩) rfl (Nat.le_of_ble_eq_true rfl) d_Model_fits_70 ⟨Nat.le_of_ble_eq_true rfl, Nat.le_of_ble_eq_true rfl⟩ ⟨rfl, rfl, rfl, rfl, rfl, fun _ => rfl, rfl⟩ (fun r70_14 uu70_14 q70_14_ => ?_) rfl
            subst q70_14_
            refine V_top (y := bP (vp_in b 2)) (bP_c (in_iff (m := 2) (by omega) (by omega))) ?_
            refine V_ifb_eq F 89 d_Model_fits_73 (by decide) (fun h73 => ?_) (fun h73 => ?_)
            · skip
              refine V_iconst F (v := 0) d_Model_fits_89 rfl ?_
              exact V_zret F hr rfl () (bP_f (fun z => h73 (z.2.2.2 (by omega)).1)).symm [] rfl rfl (by decide) (by decide) d_Model_fits_90
            · skip
              refine V_iload_n F 4 d_Model_fits_76 rfl rfl ?_
              refine V_iconst F (v := 0) d_Model_fits_77 rfl ?_
              refine V_iconst F (v := 2) d_Model_fits_78 rfl ?_
              refine V_callS_i (w1 := fun (u_ : Unit) => []) (wr := []) (isC := []) (isR := []) (pm := []) (As := [.int c, .int 0, .int 2]) (rest := []) F (c_Model_in l D cI cL cB c 0 2 ) (cS_S 3 F.ts m_680 m_681 m_42 m_682 (by decide +kernel) ⟨Nat.le_of_ble_eq_true rfl, Nat.le_of_ble_eq_true rfl⟩) rfl (Nat.le_of_ble_eq_true rfl) d_Model_fits_79 ⟨Nat.le_of_ble_eq_true rfl, Nat.le_of_ble_eq_true rfl⟩ ⟨rfl, rfl, rfl, rfl, rfl, fun _ => rfl, rfl⟩ (fun r79_15 uu79_15 q79_15_ => ?_) rfl
              subst q79_15_
              refine V_top (y := bP (vp_in c 3)) (bP_c (in_iff (m := 3) (by omega) (by omega))) ?_
              refine V_ifb_eq F 89 d_Model_fits_82 (by decide) (fun h82 => ?_) (fun h82 => ?_)
              · skip
                refine V_iconst F (v := 0) d_Model_fits_89 rfl ?_
                exact V_zret F hr rfl () (bP_f (fun z => h82 (z.2.2.2 (by omega)).2)).symm [] rfl rfl (by decide) (by decide) d_Model_fits_90
              · skip
                refine V_iconst F (v := 1) d_Model_fits_85 rfl ?_
                refine V_goto F 90 d_Model_fits_86 (by decide) ?_
                exact V_zret F hr rfl () (bP_t ⟨fun z => (by first | exact h20 | omega), fun z => (by first | exact h38 | omega), fun z => (by first | exact h56 | omega), fun z => (by first | exact ⟨h73, h82⟩ | omega)⟩).symm [] rfl rfl (by decide) (by decide) d_Model_fits_90
        · skip
          refine V_iload_n F 4 d_Model_fits_47 rfl rfl ?_
          refine V_iconst F (v := 0) d_Model_fits_48 rfl ?_
          refine V_iload F 5 d_Model_fits_49 rfl ?_
          refine V_iconst F (v := 1) d_Model_fits_51 rfl ?_
          refine V_isub F d_Model_fits_52 ?_
          refine V_top (y := nI (m - 1)) (pk_sub (a := m) (b := 1) (by omega)) ?_
          refine V_callS_i (w1 := fun (u_ : Unit) => []) (wr := []) (isC := []) (isR := []) (pm := []) (As := [.int c, .int 0, .int (nI (m - 1))]) (rest := []) F (c_Model_in l D cI cL cB c 0 (nI (m - 1)) ) (cS_S 3 F.ts m_680 m_681 m_42 m_682 (by decide +kernel) ⟨Nat.le_of_ble_eq_true rfl, Nat.le_of_ble_eq_true rfl⟩) rfl (Nat.le_of_ble_eq_true rfl) d_Model_fits_53 ⟨Nat.le_of_ble_eq_true rfl, Nat.le_of_ble_eq_true rfl⟩ ⟨rfl, rfl, rfl, rfl, rfl, fun _ => rfl, rfl⟩ (fun r53_16 uu53_16 q53_16_ => ?_) rfl
          subst q53_16_
          refine V_top (y := bP (vp_in c m)) (bP_c (in_iff (m := m) (by omega) (by omega))) ?_
          refine V_ifb_ne F 61 d_Model_fits_56 (by decide) (fun h56 => ?_) (fun h56 => ?_)
          · skip
            refine V_iload_n F 1 d_Model_fits_61 rfl rfl ?_
            refine V_bipush F (v := 8) d_Model_fits_62 rfl ?_
            refine V_icmpn_ne F 85 (a := kn) (b := 8) (by omega) (by omega) d_Model_fits_64 (by decide) (fun h64 => ?_) (fun h64 => ?_)
            · skip
              refine V_iconst F (v := 1) d_Model_fits_85 rfl ?_
              refine V_goto F 90 d_Model_fits_86 (by decide) ?_
              exact V_zret F hr rfl () (bP_t ⟨fun z => (by first | exact h20 | omega), fun z => (by first | exact h38 | omega), fun z => (by first | exact h56 | omega), fun z => (by first | exact ⟨h73, h82⟩ | omega)⟩).symm [] rfl rfl (by decide) (by decide) d_Model_fits_90
            · skip
              refine V_iload_n F 3 d_Model_fits_67 rfl rfl ?_
              refine V_iconst F (v := 0) d_Model_fits_68 rfl ?_
              refine V_iconst F (v := 1) d_Model_fits_69 rfl ?_
              refine V_callS_i (w1 := fun (u_ : Unit) => []) (wr := []) (isC := []) (isR := []) (pm := []) (As := [.int b, .int 0, .int 1]) (rest := []) F (c_Model_in l D cI cL cB b 0 1 ) (cS_S 3 F.ts m_680 m_681 m_42 m_682 (by decide +kernel) ⟨Nat.le_of_ble_eq_true rfl, Nat.le_of_ble_eq_true rfl⟩) rfl (Nat.le_of_ble_eq_true rfl) d_Model_fits_70 ⟨Nat.le_of_ble_eq_true rfl, Nat.le_of_ble_eq_true rfl⟩ ⟨rfl, rfl, rfl, rfl, rfl, fun _ => rfl, rfl⟩ (fun r70_17 uu70_17 q70_17_ => ?_) rfl
              subst q70_17_
              refine V_top (y := bP (vp_in b 2)) (bP_c (in_iff (m := 2) (by omega) (by omega))) ?_
              refine V_ifb_eq F 89 d_Model_fits_73 (by decide) (fun h73 => ?_) (fun h73 => ?_)
              · skip
                refine V_iconst F (v := 0) d_Model_fits_89 rfl ?_
                exact V_zret F hr rfl () (bP_f (fun z => h73 (z.2.2.2 (by omega)).1)).symm [] rfl rfl (by decide) (by decide) d_Model_fits_90
              · skip
                refine V_iload_n F 4 d_Model_fits_76 rfl rfl ?_
                refine V_iconst F (v := 0) d_Model_fits_77 rfl ?_
                refine V_iconst F (v := 2) d_Model_fits_78 rfl ?_
                refine V_callS_i (w1 := fun (u_ : Unit) => []) (wr := []) (isC := []) (isR := []) (pm := []) (As := [.int c, .int 0, .int 2]) (rest := []) F (c_Model_in l D cI cL cB c 0 2 ) (cS_S 3 F.ts m_680 m_681 m_42 m_682 (by decide +kernel) ⟨Nat.le_of_ble_eq_true rfl, Nat.le_of_ble_eq_true rfl⟩) rfl (Nat.le_of_ble_eq_true rfl) d_Model_fits_79 ⟨Nat.le_of_ble_eq_true rfl, Nat.le_of_ble_eq_true rfl⟩ ⟨rfl, rfl, rfl, rfl, rfl, fun _ => rfl, rfl⟩ (fun r79_18 uu79_18 q79_18_ => ?_) rfl
                subst q79_18_
                refine V_top (y := bP (vp_in c 3)) (bP_c (in_iff (m := 3) (by omega) (by omega))) ?_
                refine V_ifb_eq F 89 d_Model_fits_82 (by decide) (fun h82 => ?_) (fun h82 => ?_)
                · skip
                  refine V_iconst F (v := 0) d_Model_fits_89 rfl ?_
                  exact V_zret F hr rfl () (bP_f (fun z => h82 (z.2.2.2 (by omega)).2)).symm [] rfl rfl (by decide) (by decide) d_Model_fits_90
                · skip
                  refine V_iconst F (v := 1) d_Model_fits_85 rfl ?_
                  refine V_goto F 90 d_Model_fits_86 (by decide) ?_
                  exact V_zret F hr rfl () (bP_t ⟨fun z => (by first | exact h20 | omega), fun z => (by first | exact h38 | omega), fun z => (by first | exact h56 | omega), fun z => (by first | exact ⟨h73, h82⟩ | omega)⟩).symm [] rfl rfl (by decide) (by decide) d_Model_fits_90
          · skip
            refine V_iconst F (v := 0) d_Model_fits_59 rfl ?_
            exact V_zret F hr rfl () (bP_f (fun z => h56 (z.2.2.1 (by omega)))).symm [] rfl rfl (by decide) (by decide) d_Model_fits_60
      · skip
        refine V_iload_n F 3 d_Model_fits_29 rfl rfl ?_
        refine V_iconst F (v := 0) d_Model_fits_30 rfl ?_
        refine V_iload F 5 d_Model_fits_31 rfl ?_
        refine V_iconst F (v := 1) d_Model_fits_33 rfl ?_
        refine V_isub F d_Model_fits_34 ?_
        refine V_top (y := nI (m - 1)) (pk_sub (a := m) (b := 1) (by omega)) ?_
        refine V_callS_i (w1 := fun (u_ : Unit) => []) (wr := []) (isC := []) (isR := []) (pm := []) (As := [.int b, .int 0, .int (nI (m - 1))]) (rest := []) F (c_Model_in l D cI cL cB b 0 (nI (m - 1)) ) (cS_S 3 F.ts m_680 m_681 m_42 m_682 (by decide +kernel) ⟨Nat.le_of_ble_eq_true rfl, Nat.le_of_ble_eq_true rfl⟩) rfl (Nat.le_of_ble_eq_true rfl) d_Model_fits_35 ⟨Nat.le_of_ble_eq_true rfl, Nat.le_of_ble_eq_true rfl⟩ ⟨rfl, rfl, rfl, rfl, rfl, fun _ => rfl, rfl⟩ (fun r35_19 uu35_19 q35_19_ => ?_) rfl
        subst q35_19_
        refine V_top (y := bP (vp_in b m)) (bP_c (in_iff (m := m) (by omega) (by omega))) ?_
        refine V_ifb_eq F 59 d_Model_fits_38 (by decide) (fun h38 => ?_) (fun h38 => ?_)
        · skip
          refine V_iconst F (v := 0) d_Model_fits_59 rfl ?_
          exact V_zret F hr rfl () (bP_f (fun z => h38 (z.2.1 (by omega)))).symm [] rfl rfl (by decide) (by decide) d_Model_fits_60
        · skip
          refine V_iload F 0 d_Model_fits_41 rfl ?_
          refine V_iconst F (v := 2) d_Model_fits_43 rfl ?_
          refine V_icmpn_le F 61 (a := inpN kn) (b := 2) (by omega) (by omega) d_Model_fits_44 (by decide) (fun h44 => ?_) (fun h44 => ?_)
          · skip
            refine V_iload_n F 1 d_Model_fits_61 rfl rfl ?_
            refine V_bipush F (v := 8) d_Model_fits_62 rfl ?_
            refine V_icmpn_ne F 85 (a := kn) (b := 8) (by omega) (by omega) d_Model_fits_64 (by decide) (fun h64 => ?_) (fun h64 => ?_)
            · skip
              refine V_iconst F (v := 1) d_Model_fits_85 rfl ?_
              refine V_goto F 90 d_Model_fits_86 (by decide) ?_
              exact V_zret F hr rfl () (bP_t ⟨fun z => (by first | exact h20 | omega), fun z => (by first | exact h38 | omega), fun z => (by first | exact h56 | omega), fun z => (by first | exact ⟨h73, h82⟩ | omega)⟩).symm [] rfl rfl (by decide) (by decide) d_Model_fits_90
            · skip
              refine V_iload_n F 3 d_Model_fits_67 rfl rfl ?_
              refine V_iconst F (v := 0) d_Model_fits_68 rfl ?_
              refine V_iconst F (v := 1) d_Model_fits_69 rfl ?_
              refine V_callS_i (w1 := fun (u_ : Unit) => []) (wr := []) (isC := []) (isR := []) (pm := []) (As := [.int b, .int 0, .int 1]) (rest := []) F (c_Model_in l D cI cL cB b 0 1 ) (cS_S 3 F.ts m_680 m_681 m_42 m_682 (by decide +kernel) ⟨Nat.le_of_ble_eq_true rfl, Nat.le_of_ble_eq_true rfl⟩) rfl (Nat.le_of_ble_eq_true rfl) d_Model_fits_70 ⟨Nat.le_of_ble_eq_true rfl, Nat.le_of_ble_eq_true rfl⟩ ⟨rfl, rfl, rfl, rfl, rfl, fun _ => rfl, rfl⟩ (fun r70_20 uu70_20 q70_20_ => ?_) rfl
              subst q70_20_
              refine V_top (y := bP (vp_in b 2)) (bP_c (in_iff (m := 2) (by omega) (by omega))) ?_
              refine V_ifb_eq F 89 d_Model_fits_73 (by decide) (fun h73 => ?_) (fun h73 => ?_)
              · skip
                refine V_iconst F (v := 0) d_Model_fits_89 rfl ?_
                exact V_zret F hr rfl () (bP_f (fun z => h73 (z.2.2.2 (by omega)).1)).symm [] rfl rfl (by decide) (by decide) d_Model_fits_90
              · skip
                refine V_iload_n F 4 d_Model_fits_76 rfl rfl ?_
                refine V_iconst F (v := 0) d_Model_fits_77 rfl ?_
                refine V_iconst F (v := 2) d_Model_fits_78 rfl ?_
                refine V_callS_i (w1 := fun (u_ : Unit) => []) (wr := []) (isC := []) (isR := []) (pm := []) (As := [.int c, .int 0, .int 2]) (rest := []) F (c_Model_in l D cI cL cB c 0 2 ) (cS_S 3 F.ts m_680 m_681 m_42 m_682 (by decide +kernel) ⟨Nat.le_of_ble_eq_true rfl, Nat.le_of_ble_eq_true rfl⟩) rfl (Nat.le_of_ble_eq_true rfl) d_Model_fits_79 ⟨Nat.le_of_ble_eq_true rfl, Nat.le_of_ble_eq_true rfl⟩ ⟨rfl, rfl, rfl, rfl, rfl, fun _ => rfl, rfl⟩ (fun r79_21 uu79_21 q79_21_ => ?_) rfl
                subst q79_21_
                refine V_top (y := bP (vp_in c 3)) (bP_c (in_iff (m := 3) (by omega) (by omega))) ?_
                refine V_ifb_eq F 89 d_Model_fits_82 (by decide) (fun h82 => ?_) (fun h82 => ?_)
                · skip
                  refine V_iconst F (v := 0) d_Model_fits_89 rfl ?_
                  exact V_zret F hr rfl () (bP_f (fun z => h82 (z.2.2.2 (by omega)).2)).symm [] rfl rfl (by decide) (by decide) d_Model_fits_90
                · skip
                  refine V_iconst F (v := 1) d_Model_fits_85 rfl ?_
                  refine V_goto F 90 d_Model_fits_86 (by decide) ?_
                  exact V_zret F hr rfl () (bP_t ⟨fun z => (by first | exact h20 | omega), fun z => (by first | exact h38 | omega), fun z => (by first | exact h56 | omega), fun z => (by first | exact ⟨h73, h82⟩ | omega)⟩).symm [] rfl rfl (by decide) (by decide) d_Model_fits_90
          · skip
            refine V_iload_n F 4 d_Model_fits_47 rfl rfl ?_
            refine V_iconst F (v := 0) d_Model_fits_48 rfl ?_
            refine V_iload F 5 d_Model_fits_49 rfl ?_
            refine V_iconst F (v := 1) d_Model_fits_51 rfl ?_
            refine V_isub F d_Model_fits_52 ?_
            refine V_top (y := nI (m - 1)) (pk_sub (a := m) (b := 1) (by omega)) ?_
            refine V_callS_i (w1 := fun (u_ : Unit) => []) (wr := []) (isC := []) (isR := []) (pm := []) (As := [.int c, .int 0, .int (nI (m - 1))]) (rest := []) F (c_Model_in l D cI cL cB c 0 (nI (m - 1)) ) (cS_S 3 F.ts m_680 m_681 m_42 m_682 (by decide +kernel) ⟨Nat.le_of_ble_eq_true rfl, Nat.le_of_ble_eq_true rfl⟩) rfl (Nat.le_of_ble_eq_true rfl) d_Model_fits_53 ⟨Nat.le_of_ble_eq_true rfl, Nat.le_of_ble_eq_true rfl⟩ ⟨rfl, rfl, rfl, rfl, rfl, fun _ => rfl, rfl⟩ (fun r53_22 uu53_22 q53_22_ => ?_) rfl
            subst q53_22_
            refine V_top (y := bP (vp_in c m)) (bP_c (in_iff (m := m) (by omega) (by omega))) ?_
            refine V_ifb_ne F 61 d_Model_fits_56 (by decide) (fun h56 => ?_) (fun h56 => ?_)
            · skip
              refine V_iload_n F 1 d_Model_fits_61 rfl rfl ?_
              refine V_bipush F (v := 8) d_Model_fits_62 rfl ?_
              refine V_icmpn_ne F 85 (a := kn) (b := 8) (by omega) (by omega) d_Model_fits_64 (by decide) (fun h64 => ?_) (fun h64 => ?_)
              · skip
                refine V_iconst F (v := 1) d_Model_fits_85 rfl ?_
                refine V_goto F 90 d_Model_fits_86 (by decide) ?_
                exact V_zret F hr rfl () (bP_t ⟨fun z => (by first | exact h20 | omega), fun z => (by first | exact h38 | omega), fun z => (by first | exact h56 | omega), fun z => (by first | exact ⟨h73, h82⟩ | omega)⟩).symm [] rfl rfl (by decide) (by decide) d_Model_fits_90
              · skip
                refine V_iload_n F 3 d_Model_fits_67 rfl rfl ?_
                refine V_iconst F (v := 0) d_Model_fits_68 rfl ?_
                refine V_iconst F (v := 1) d_Model_fits_69 rfl ?_
                refine V_callS_i (w1 := fun (u_ : Unit) => []) (wr := []) (isC := []) (isR := []) (pm := []) (As := [.int b, .int 0, .int 1]) (rest := []) F (c_Model_in l D cI cL cB b 0 1 ) (cS_S 3 F.ts m_680 m_681 m_42 m_682 (by decide +kernel) ⟨Nat.le_of_ble_eq_true rfl, Nat.le_of_ble_eq_true rfl⟩) rfl (Nat.le_of_ble_eq_true rfl) d_Model_fits_70 ⟨Nat.le_of_ble_eq_true rfl, Nat.le_of_ble_eq_true rfl⟩ ⟨rfl, rfl, rfl, rfl, rfl, fun _ => rfl, rfl⟩ (fun r70_23 uu70_23 q70_23_ => ?_) rfl
                subst q70_23_
                refine V_top (y := bP (vp_in b 2)) (bP_c (in_iff (m := 2) (by omega) (by omega))) ?_
                refine V_ifb_eq F 89 d_Model_fits_73 (by decide) (fun h73 => ?_) (fun h73 => ?_)
                · skip
                  refine V_iconst F (v := 0) d_Model_fits_89 rfl ?_
                  exact V_zret F hr rfl () (bP_f (fun z => h73 (z.2.2.2 (by omega)).1)).symm [] rfl rfl (by decide) (by decide) d_Model_fits_90
                · skip
                  refine V_iload_n F 4 d_Model_fits_76 rfl rfl ?_
                  refine V_iconst F (v := 0) d_Model_fits_77 rfl ?_
                  refine V_iconst F (v := 2) d_Model_fits_78 rfl ?_
                  refine V_callS_i (w1 := fun (u_ : Unit) => []) (wr := []) (isC := []) (isR := []) (pm := []) (As := [.int c, .int 0, .int 2]) (rest := []) F (c_Model_in l D cI cL cB c 0 2 ) (cS_S 3 F.ts m_680 m_681 m_42 m_682 (by decide +kernel) ⟨Nat.le_of_ble_eq_true rfl, Nat.le_of_ble_eq_true rfl⟩) rfl (Nat.le_of_ble_eq_true rfl) d_Model_fits_79 ⟨Nat.le_of_ble_eq_true rfl, Nat.le_of_ble_eq_true rfl⟩ ⟨rfl, rfl, rfl, rfl, rfl, fun _ => rfl, rfl⟩ (fun r79_24 uu79_24 q79_24_ => ?_) rfl
                  subst q79_24_
                  refine V_top (y := bP (vp_in c 3)) (bP_c (in_iff (m := 3) (by omega) (by omega))) ?_
                  refine V_ifb_eq F 89 d_Model_fits_82 (by decide) (fun h82 => ?_) (fun h82 => ?_)
                  · skip
                    refine V_iconst F (v := 0) d_Model_fits_89 rfl ?_
                    exact V_zret F hr rfl () (bP_f (fun z => h82 (z.2.2.2 (by omega)).2)).symm [] rfl rfl (by decide) (by decide) d_Model_fits_90
                  · skip
                    refine V_iconst F (v := 1) d_Model_fits_85 rfl ?_
                    refine V_goto F 90 d_Model_fits_86 (by decide) ?_
                    exact V_zret F hr rfl () (bP_t ⟨fun z => (by first | exact h20 | omega), fun z => (by first | exact h38 | omega), fun z => (by first | exact h56 | omega), fun z => (by first | exact ⟨h73, h82⟩ | omega)⟩).symm [] rfl rfl (by decide) (by decide) d_Model_fits_90
            · skip
              refine V_iconst F (v := 0) d_Model_fits_59 rfl ?_
              exact V_zret F hr rfl () (bP_f (fun z => h56 (z.2.2.1 (by omega)))).symm [] rfl rfl (by decide) (by decide) d_Model_fits_60

set_option maxHeartbeats 4000000 in
set_option maxRecDepth 100000 in
theorem c_Model_mayDrive (l : Launch) (D : va_G) (cI cL cB : ClassId) (x0 : Nat) (x1 : Nat) (x2 : Nat) (x3 : Nat) (x4 : Nat) (x5 : Nat) (x6 : Nat) (x7 : Nat) (x8 : Nat) (x9 : Nat) (x10 : Nat) (x11 : Nat) (x12 : Nat) (x13 : Nat) (x14 : Nat) (x15 : Nat) (x16 : Nat) (x17 : Nat) (x18 : Nat) (x19 : Nat) (x20 : Nat) (th : Nat) (nn : Nat) (n : Nat) (sg : Nat) (bt : Prop) (k : Nat → Nat) (o : Nat → Nat) (d : Nat) (j : Nat) (hn : n ≤ 60) (hk : ∀ i, i < n → k i ≤ 8) (ho : ∀ i, i < n → o i < 100) (hj : j < 100) (hd : d ≤ 8) : Cti l y_Model_mayDrive (wK w_Model_mayDrive) ({ frames := 0, cells := 0, slots := 0, locals := 0 }) D classes (TY cI cL cB) [.ref x0, .int (nI d), .int (nI j)] [(x0, .inr (CI_Model, [.int (nI th), .int (nI nn), .ref x1, .ref x2, .ref x3, .ref x4, .ref x5, .ref x6, .ref x7, .ref x8, .ref x9, .ref x10, .ref x11, .int (nI n), .ref x12, .ref x13, .ref x14, .ref x15, .ref x16, .ref x17, .ref x18, .ref x19, .ref x20, .int (bP bt), .int (nI sg)])), (x5, .inl (cI, 60, .inl (cN k))), (x6, .inl (cI, 60, .inl (cN o)))] (fun (r : Int32) (u_ : Unit) => r = bP (MayD n k o j d)) (fun (u_ : Unit) => [(x0, .inr (CI_Model, [.int (nI th), .int (nI nn), .ref x1, .ref x2, .ref x3, .ref x4, .ref x5, .ref x6, .ref x7, .ref x8, .ref x9, .ref x10, .ref x11, .int (nI n), .ref x12, .ref x13, .ref x14, .ref x15, .ref x16, .ref x17, .ref x18, .ref x19, .ref x20, .int (bP bt), .int (nI sg)])), (x5, .inl (cI, 60, .inl (cN k))), (x6, .inl (cI, 60, .inl (cN o)))]) 0 0 := by
  refine Ctg_of (cc := prog_9_method_7_code) (maxL := 4) (ret := (some .boolean)) "CircuitSimulatorModel" [(0, .ref x0), (1, .int (nI d)), (2, .int (nI j))] (by decide) rfl rfl (Nat.le_of_ble_eq_true rfl) rfl ?_
  intro p_ e_ s_ m_ args_ below_ meth_ c_ A_ F hr hin
  refine V_iconst F (v := 0) d_Model_mayDrive_0 rfl ?_
  refine V_istore_n F (lv' := [(3, .int (nI 0)), (0, .ref x0), (1, .int (nI d)), (2, .int (nI j))]) d_Model_mayDrive_1 rfl (by decide) rfl ?_
  have L2 : ∀ (f_ : Nat) (i : Nat), n - i < f_ → (i ≤ n) → (∀ t, t < i → o t = j → k t = 6 ∧ d = 6) → V p_ l e_ ({ frames := 0, cells := 0, slots := 0, locals := 0 }) s_ m_ args_ below_ meth_ c_ A_ (MQ below_ (cQi D classes (fun (r : Int32) (u_ : Unit) => r = bP (MayD n k o j d)) (fun (u_ : Unit) => [(x0, .inr (CI_Model, [.int (nI th), .int (nI nn), .ref x1, .ref x2, .ref x3, .ref x4, .ref x5, .ref x6, .ref x7, .ref x8, .ref x9, .ref x10, .ref x11, .int (nI n), .ref x12, .ref x13, .ref x14, .ref x15, .ref x16, .ref x17, .ref x18, .ref x19, .ref x20, .int (bP bt), .int (nI sg)])), (x5, .inl (cI, 60, .inl (cN k))), (x6, .inl (cI, 60, .inl (cN o)))]) A_) args_ s_ 0 0 A_) D classes 4 0 0 [(x0, .inr (CI_Model, [.int (nI th), .int (nI nn), .ref x1, .ref x2, .ref x3, .ref x4, .ref x5, .ref x6, .ref x7, .ref x8, .ref x9, .ref x10, .ref x11, .int (nI n), .ref x12, .ref x13, .ref x14, .ref x15, .ref x16, .ref x17, .ref x18, .ref x19, .ref x20, .int (bP bt), .int (nI sg)])), (x5, .inl (cI, 60, .inl (cN k))), (x6, .inl (cI, 60, .inl (cN o)))] 2 [(0, .ref x0), (1, .int (nI d)), (2, .int (nI j)), (3, .int (nI i))] [] := by
    intro f_
    induction f_ with
    | zero => intro i hm_; exact absurd hm_ (Nat.not_lt_zero _)
    | succ f_ ih2 =>
      intro i hm2 hi hI
      refine V_iload_n F 3 d_Model_mayDrive_2 rfl rfl ?_
      refine V_aload_n F 0 d_Model_mayDrive_3 rfl rfl ?_
      refine V_get F 0 CI_Model 13 i_Model rfl rfl (by decide) m_609 rfl rfl d_Model_mayDrive_4 ?_
      refine V_icmpn_ge F 45 (a := i) (b := n) (by omega) (by omega) d_Model_mayDrive_7 (by decide) (fun h7 => ?_) (fun h7 => ?_)
      · skip
        refine V_iconst F (v := 1) d_Model_mayDrive_45 rfl ?_
        exact V_zret F hr rfl () (bP_t (fun t h => hI t (by omega))).symm [0, 1, 2] rfl rfl (by decide) (by decide) d_Model_mayDrive_46
      · skip
        have hk8 := hk i (by omega)
        have ho8 := ho i (by omega)
        refine V_aload_n F 0 d_Model_mayDrive_10 rfl rfl ?_
        refine V_get F 0 CI_Model 7 i_Model rfl rfl (by decide) m_603 rfl rfl d_Model_mayDrive_11 ?_
        refine V_iload_n F 3 d_Model_mayDrive_14 rfl rfl ?_
        refine V_ialdnN F 2 0 (k := i) rfl rfl (by omega) (by decide) d_Model_mayDrive_15 ?_
        refine V_iload_n F 2 d_Model_mayDrive_16 rfl rfl ?_
        refine V_icmpn_ne F 39 (a := o i) (b := j) (by omega) (by omega) d_Model_mayDrive_17 (by decide) (fun h17 => ?_) (fun h17 => ?_)
        · skip
          refine V_iinc F 3 (v := nI (i + 1)) (lv' := [(3, .int (nI (i + 1))), (0, .ref x0), (1, .int (nI d)), (2, .int (nI j))]) d_Model_mayDrive_39 rfl (nI_inc _) (by decide) rfl ?_
          refine V_goto F 2 d_Model_mayDrive_42 (by decide) ?_
          refine V_lv [1, 2, 3, 0] rfl ?_
          exact ih2 (i + 1) (by omega) (by first | assumption | omega | (simp only [] at *; omega)) (lt_s hI (by omega))
        · skip
          refine V_iload_n F 1 d_Model_mayDrive_20 rfl rfl ?_
          refine V_bipush F (v := 6) d_Model_mayDrive_21 rfl ?_
          refine V_icmpn_ne F 37 (a := d) (b := 6) (by omega) (by omega) d_Model_mayDrive_23 (by decide) (fun h23 => ?_) (fun h23 => ?_)
          · skip
            refine V_iconst F (v := 0) d_Model_mayDrive_37 rfl ?_
            exact V_zret F hr rfl () (bP_f (fun z => by have := z i (by omega) (by omega); omega)).symm [0, 1, 2] rfl rfl (by decide) (by decide) d_Model_mayDrive_38
          · skip
            refine V_aload_n F 0 d_Model_mayDrive_26 rfl rfl ?_
            refine V_get F 0 CI_Model 6 i_Model rfl rfl (by decide) m_602 rfl rfl d_Model_mayDrive_27 ?_
            refine V_iload_n F 3 d_Model_mayDrive_30 rfl rfl ?_
            refine V_ialdnN F 1 0 (k := i) rfl rfl (by omega) (by decide) d_Model_mayDrive_31 ?_
            refine V_bipush F (v := 6) d_Model_mayDrive_32 rfl ?_
            refine V_icmpn_eq F 39 (a := k i) (b := 6) (by omega) (by omega) d_Model_mayDrive_34 (by decide) (fun h34 => ?_) (fun h34 => ?_)
            · skip
              refine V_iinc F 3 (v := nI (i + 1)) (lv' := [(3, .int (nI (i + 1))), (0, .ref x0), (1, .int (nI d)), (2, .int (nI j))]) d_Model_mayDrive_39 rfl (nI_inc _) (by decide) rfl ?_
              refine V_goto F 2 d_Model_mayDrive_42 (by decide) ?_
              refine V_lv [1, 2, 3, 0] rfl ?_
              exact ih2 (i + 1) (by omega) (by first | assumption | omega | (simp only [] at *; omega)) (lt_s hI (by omega))
            · skip
              refine V_iconst F (v := 0) d_Model_mayDrive_37 rfl ?_
              exact V_zret F hr rfl () (bP_f (fun z => by have := z i (by omega) (by omega); omega)).symm [0, 1, 2] rfl rfl (by decide) (by decide) d_Model_mayDrive_38
  refine V_lv [1, 2, 3, 0] rfl ?_
  exact L2 ((n - 0) + 1) 0 (Nat.lt_succ_self _) (by first | assumption | omega | (simp only [] at *; omega)) (fun t h => absurd h (Nat.not_lt_zero t))

set_option maxHeartbeats 4000000 in
set_option maxRecDepth 100000 in
theorem c_Model_add (l : Launch) (D : va_G) (cI cL cB : ClassId) (x0 : Nat) (x1 : Nat) (x2 : Nat) (x3 : Nat) (x4 : Nat) (x5 : Nat) (x6 : Nat) (x7 : Nat) (x8 : Nat) (x9 : Nat) (x10 : Nat) (x11 : Nat) (x12 : Nat) (x13 : Nat) (x14 : Nat) (x15 : Nat) (x16 : Nat) (x17 : Nat) (x18 : Nat) (x19 : Nat) (x20 : Nat) (th : Nat) (nn : Nat) (n : Nat) (sg : Nat) (bt : Prop) (k : Nat → Nat) (o : Nat → Nat) (A : Nat → Int32) (B : Nat → Int32) (C : Nat → Int32) (q : Nat → Nat) (kd : Nat) (ot : Nat) (hv : Nat) (a : Int32) (b : Int32) (c : Int32) (hnN : n < 60) (hkd : kd ≤ 8) (hc : kd = 8 → c = nI hv) : Ctv l y_Model_add (wK w_Model_add) ({ frames := 0, cells := 0, slots := 0, locals := 0 }) D classes (TY cI cL cB) [.ref x0, .int (nI kd), .int (nI ot), .int a, .int b, .int c] [(x0, .inr (CI_Model, [.int (nI th), .int (nI nn), .ref x1, .ref x2, .ref x3, .ref x4, .ref x5, .ref x6, .ref x7, .ref x8, .ref x9, .ref x10, .ref x11, .int (nI n), .ref x12, .ref x13, .ref x14, .ref x15, .ref x16, .ref x17, .ref x18, .ref x19, .ref x20, .int (bP bt), .int (nI sg)])), (x5, .inl (cI, 60, .inl (cN k))), (x6, .inl (cI, 60, .inl (cN o))), (x7, .inl (cI, 60, .inl A)), (x8, .inl (cI, 60, .inl B)), (x9, .inl (cI, 60, .inl C)), (x10, .inl (cI, 60, .inl (cN q)))] (fun (u_ : (Nat → Nat)) => u_ = up q n (if kd = 8 then hv else 2)) (fun (u_ : (Nat → Nat)) => [(x0, .inr (CI_Model, [.int (nI th), .int (nI nn), .ref x1, .ref x2, .ref x3, .ref x4, .ref x5, .ref x6, .ref x7, .ref x8, .ref x9, .ref x10, .ref x11, .int (nI (n + 1)), .ref x12, .ref x13, .ref x14, .ref x15, .ref x16, .ref x17, .ref x18, .ref x19, .ref x20, .int (bP False), .int (nI sg)])), (x5, .inl (cI, 60, .inl (cN (up k n kd)))), (x6, .inl (cI, 60, .inl (cN (up o n ot)))), (x7, .inl (cI, 60, .inl (upd A n a))), (x8, .inl (cI, 60, .inl (upd B n b))), (x9, .inl (cI, 60, .inl (upd C n c))), (x10, .inl (cI, 60, .inl (cN u_)))]) 0 0 := by
  refine Ctg_of (cc := prog_9_method_8_code) (maxL := 6) (ret := none) "CircuitSimulatorModel" [(0, .ref x0), (1, .int (nI kd)), (2, .int (nI ot)), (3, .int a), (4, .int b), (5, .int c)] (by decide) rfl rfl (Nat.le_of_ble_eq_true rfl) rfl ?_
  intro p_ e_ s_ m_ args_ below_ meth_ c_ A_ F hr hin
  refine V_aload_n F 0 d_Model_add_0 rfl rfl ?_
  refine V_get F 0 CI_Model 6 i_Model rfl rfl (by decide) m_602 rfl rfl d_Model_add_1 ?_
  refine V_aload_n F 0 d_Model_add_4 rfl rfl ?_
  refine V_get F 0 CI_Model 13 i_Model rfl rfl (by decide) m_609 rfl rfl d_Model_add_5 ?_
  refine V_iload_n F 1 d_Model_add_8 rfl rfl ?_
  refine V_iastn F 1 0 (k := n) (w' := [(x0, .inr (CI_Model, [.int (nI th), .int (nI nn), .ref x1, .ref x2, .ref x3, .ref x4, .ref x5, .ref x6, .ref x7, .ref x8, .ref x9, .ref x10, .ref x11, .int (nI n), .ref x12, .ref x13, .ref x14, .ref x15, .ref x16, .ref x17, .ref x18, .ref x19, .ref x20, .int (bP bt), .int (nI sg)])), (x5, .inl (cI, 60, .inl (cN (up k n kd)))), (x6, .inl (cI, 60, .inl (cN o))), (x7, .inl (cI, 60, .inl A)), (x8, .inl (cI, 60, .inl B)), (x9, .inl (cI, 60, .inl C)), (x10, .inl (cI, 60, .inl (cN q)))]) rfl rfl (by omega) (by decide) (by rw [upd_cN] <;> rfl) d_Model_add_9 ?_
  refine V_aload_n F 0 d_Model_add_10 rfl rfl ?_
  refine V_get F 0 CI_Model 7 i_Model rfl rfl (by decide) m_603 rfl rfl d_Model_add_11 ?_
  refine V_aload_n F 0 d_Model_add_14 rfl rfl ?_
  refine V_get F 0 CI_Model 13 i_Model rfl rfl (by decide) m_609 rfl rfl d_Model_add_15 ?_
  refine V_iload_n F 2 d_Model_add_18 rfl rfl ?_
  refine V_iastn F 2 0 (k := n) (w' := [(x0, .inr (CI_Model, [.int (nI th), .int (nI nn), .ref x1, .ref x2, .ref x3, .ref x4, .ref x5, .ref x6, .ref x7, .ref x8, .ref x9, .ref x10, .ref x11, .int (nI n), .ref x12, .ref x13, .ref x14, .ref x15, .ref x16, .ref x17, .ref x18, .ref x19, .ref x20, .int (bP bt), .int (nI sg)])), (x5, .inl (cI, 60, .inl (cN (up k n kd)))), (x6, .inl (cI, 60, .inl (cN (up o n ot)))), (x7, .inl (cI, 60, .inl A)), (x8, .inl (cI, 60, .inl B)), (x9, .inl (cI, 60, .inl C)), (x10, .inl (cI, 60, .inl (cN q)))]) rfl rfl (by omega) (by decide) (by rw [upd_cN] <;> rfl) d_Model_add_19 ?_
  refine V_aload_n F 0 d_Model_add_20 rfl rfl ?_
  refine V_get F 0 CI_Model 8 i_Model rfl rfl (by decide) m_604 rfl rfl d_Model_add_21 ?_
  refine V_aload_n F 0 d_Model_add_24 rfl rfl ?_
  refine V_get F 0 CI_Model 13 i_Model rfl rfl (by decide) m_609 rfl rfl d_Model_add_25 ?_
  refine V_iload_n F 3 d_Model_add_28 rfl rfl ?_
  refine V_iastn F 3 0 (k := n) (w' := [(x0, .inr (CI_Model, [.int (nI th), .int (nI nn), .ref x1, .ref x2, .ref x3, .ref x4, .ref x5, .ref x6, .ref x7, .ref x8, .ref x9, .ref x10, .ref x11, .int (nI n), .ref x12, .ref x13, .ref x14, .ref x15, .ref x16, .ref x17, .ref x18, .ref x19, .ref x20, .int (bP bt), .int (nI sg)])), (x5, .inl (cI, 60, .inl (cN (up k n kd)))), (x6, .inl (cI, 60, .inl (cN (up o n ot)))), (x7, .inl (cI, 60, .inl (upd A n a))), (x8, .inl (cI, 60, .inl B)), (x9, .inl (cI, 60, .inl C)), (x10, .inl (cI, 60, .inl (cN q)))]) rfl rfl (by omega) (by decide) rfl d_Model_add_29 ?_
  refine V_aload_n F 0 d_Model_add_30 rfl rfl ?_
  refine V_get F 0 CI_Model 9 i_Model rfl rfl (by decide) m_605 rfl rfl d_Model_add_31 ?_
  refine V_aload_n F 0 d_Model_add_34 rfl rfl ?_
  refine V_get F 0 CI_Model 13 i_Model rfl rfl (by decide) m_609 rfl rfl d_Model_add_35 ?_
  refine V_iload F 4 d_Model_add_38 rfl ?_
  refine V_iastn F 4 0 (k := n) (w' := [(x0, .inr (CI_Model, [.int (nI th), .int (nI nn), .ref x1, .ref x2, .ref x3, .ref x4, .ref x5, .ref x6, .ref x7, .ref x8, .ref x9, .ref x10, .ref x11, .int (nI n), .ref x12, .ref x13, .ref x14, .ref x15, .ref x16, .ref x17, .ref x18, .ref x19, .ref x20, .int (bP bt), .int (nI sg)])), (x5, .inl (cI, 60, .inl (cN (up k n kd)))), (x6, .inl (cI, 60, .inl (cN (up o n ot)))), (x7, .inl (cI, 60, .inl (upd A n a))), (x8, .inl (cI, 60, .inl (upd B n b))), (x9, .inl (cI, 60, .inl C)), (x10, .inl (cI, 60, .inl (cN q)))]) rfl rfl (by omega) (by decide) rfl d_Model_add_40 ?_
  refine V_aload_n F 0 d_Model_add_41 rfl rfl ?_
  refine V_get F 0 CI_Model 10 i_Model rfl rfl (by decide) m_606 rfl rfl d_Model_add_42 ?_
  refine V_aload_n F 0 d_Model_add_45 rfl rfl ?_
  refine V_get F 0 CI_Model 13 i_Model rfl rfl (by decide) m_609 rfl rfl d_Model_add_46 ?_
  refine V_iload F 5 d_Model_add_49 rfl ?_
  refine V_iastn F 5 0 (k := n) (w' := [(x0, .inr (CI_Model, [.int (nI th), .int (nI nn), .ref x1, .ref x2, .ref x3, .ref x4, .ref x5, .ref x6, .ref x7, .ref x8, .ref x9, .ref x10, .ref x11, .int (nI n), .ref x12, .ref x13, .ref x14, .ref x15, .ref x16, .ref x17, .ref x18, .ref x19, .ref x20, .int (bP bt), .int (nI sg)])), (x5, .inl (cI, 60, .inl (cN (up k n kd)))), (x6, .inl (cI, 60, .inl (cN (up o n ot)))), (x7, .inl (cI, 60, .inl (upd A n a))), (x8, .inl (cI, 60, .inl (upd B n b))), (x9, .inl (cI, 60, .inl (upd C n c))), (x10, .inl (cI, 60, .inl (cN q)))]) rfl rfl (by omega) (by decide) rfl d_Model_add_51 ?_
  refine V_aload_n F 0 d_Model_add_52 rfl rfl ?_
  refine V_get F 0 CI_Model 11 i_Model rfl rfl (by decide) m_607 rfl rfl d_Model_add_53 ?_
  refine V_aload_n F 0 d_Model_add_56 rfl rfl ?_
  refine V_get F 0 CI_Model 13 i_Model rfl rfl (by decide) m_609 rfl rfl d_Model_add_57 ?_
  refine V_iload_n F 1 d_Model_add_60 rfl rfl ?_
  refine V_bipush F (v := 8) d_Model_add_61 rfl ?_
  refine V_icmpn_ne F 71 (a := kd) (b := 8) (by omega) (by omega) d_Model_add_63 (by decide) (fun h63 => ?_) (fun h63 => ?_)
  · skip
    refine V_iconst F (v := 2) d_Model_add_71 rfl ?_
    refine V_top (y := nI 2) rfl ?_
    refine V_iastn F 6 0 (k := n) (w' := [(x0, .inr (CI_Model, [.int (nI th), .int (nI nn), .ref x1, .ref x2, .ref x3, .ref x4, .ref x5, .ref x6, .ref x7, .ref x8, .ref x9, .ref x10, .ref x11, .int (nI n), .ref x12, .ref x13, .ref x14, .ref x15, .ref x16, .ref x17, .ref x18, .ref x19, .ref x20, .int (bP bt), .int (nI sg)])), (x5, .inl (cI, 60, .inl (cN (up k n kd)))), (x6, .inl (cI, 60, .inl (cN (up o n ot)))), (x7, .inl (cI, 60, .inl (upd A n a))), (x8, .inl (cI, 60, .inl (upd B n b))), (x9, .inl (cI, 60, .inl (upd C n c))), (x10, .inl (cI, 60, .inl (cN (up q n 2))))]) rfl rfl (by omega) (by decide) (by rw [upd_cN] <;> rfl) d_Model_add_72 ?_
    refine V_aload_n F 0 d_Model_add_73 rfl rfl ?_
    refine V_dup F d_Model_add_74 rfl ?_
    refine V_get F 0 CI_Model 13 i_Model rfl rfl (by decide) m_609 rfl rfl d_Model_add_75 ?_
    refine V_iconst F (v := 1) d_Model_add_78 rfl ?_
    refine V_iadd F d_Model_add_79 ?_
    refine V_top (y := nI (n + 1)) (nI_add _ _) ?_
    refine V_put F 0 CI_Model 13 (w' := [(x0, .inr (CI_Model, [.int (nI th), .int (nI nn), .ref x1, .ref x2, .ref x3, .ref x4, .ref x5, .ref x6, .ref x7, .ref x8, .ref x9, .ref x10, .ref x11, .int (nI (n + 1)), .ref x12, .ref x13, .ref x14, .ref x15, .ref x16, .ref x17, .ref x18, .ref x19, .ref x20, .int (bP bt), .int (nI sg)])), (x5, .inl (cI, 60, .inl (cN (up k n kd)))), (x6, .inl (cI, 60, .inl (cN (up o n ot)))), (x7, .inl (cI, 60, .inl (upd A n a))), (x8, .inl (cI, 60, .inl (upd B n b))), (x9, .inl (cI, 60, .inl (upd C n c))), (x10, .inl (cI, 60, .inl (cN (up q n 2))))]) t_Model tk_Model n_Model i_Model rfl rfl (by decide) m_609 rfl rfl rfl rfl (Nat.le_of_ble_eq_true rfl) rfl d_Model_add_80 ?_
    refine V_aload_n F 0 d_Model_add_83 rfl rfl ?_
    refine V_iconst F (v := 0) d_Model_add_84 rfl ?_
    refine V_top (y := bP False) (bP_f id).symm ?_
    refine V_put F 0 CI_Model 23 (w' := [(x0, .inr (CI_Model, [.int (nI th), .int (nI nn), .ref x1, .ref x2, .ref x3, .ref x4, .ref x5, .ref x6, .ref x7, .ref x8, .ref x9, .ref x10, .ref x11, .int (nI (n + 1)), .ref x12, .ref x13, .ref x14, .ref x15, .ref x16, .ref x17, .ref x18, .ref x19, .ref x20, .int (bP False), .int (nI sg)])), (x5, .inl (cI, 60, .inl (cN (up k n kd)))), (x6, .inl (cI, 60, .inl (cN (up o n ot)))), (x7, .inl (cI, 60, .inl (upd A n a))), (x8, .inl (cI, 60, .inl (upd B n b))), (x9, .inl (cI, 60, .inl (upd C n c))), (x10, .inl (cI, 60, .inl (cN (up q n 2))))]) t_Model tk_Model n_Model i_Model rfl rfl (by decide) m_619 rfl rfl (bP_nar _) (bP_fit _) (Nat.le_of_ble_eq_true rfl) rfl d_Model_add_85 ?_
    exact V_vret F hr (up q n 2) (by first | rw [if_pos (by assumption)] | rw [if_neg (by assumption)]) [0, 1, 2, 3, 4, 5, 6] rfl rfl (by decide) (by decide) d_Model_add_88
  · skip
    refine V_iload F 5 d_Model_add_66 rfl ?_
    refine V_goto F 72 d_Model_add_68 (by decide) ?_
    refine V_top (y := nI hv) (hc h63) ?_
    refine V_iastn F 6 0 (k := n) (w' := [(x0, .inr (CI_Model, [.int (nI th), .int (nI nn), .ref x1, .ref x2, .ref x3, .ref x4, .ref x5, .ref x6, .ref x7, .ref x8, .ref x9, .ref x10, .ref x11, .int (nI n), .ref x12, .ref x13, .ref x14, .ref x15, .ref x16, .ref x17, .ref x18, .ref x19, .ref x20, .int (bP bt), .int (nI sg)])), (x5, .inl (cI, 60, .inl (cN (up k n kd)))), (x6, .inl (cI, 60, .inl (cN (up o n ot)))), (x7, .inl (cI, 60, .inl (upd A n a))), (x8, .inl (cI, 60, .inl (upd B n b))), (x9, .inl (cI, 60, .inl (upd C n c))), (x10, .inl (cI, 60, .inl (cN (up q n hv))))]) rfl rfl (by omega) (by decide) (by rw [upd_cN] <;> rfl) d_Model_add_72 ?_
    refine V_aload_n F 0 d_Model_add_73 rfl rfl ?_
    refine V_dup F d_Model_add_74 rfl ?_
    refine V_get F 0 CI_Model 13 i_Model rfl rfl (by decide) m_609 rfl rfl d_Model_add_75 ?_
    refine V_iconst F (v := 1) d_Model_add_78 rfl ?_
    refine V_iadd F d_Model_add_79 ?_
    refine V_top (y := nI (n + 1)) (nI_add _ _) ?_
    refine V_put F 0 CI_Model 13 (w' := [(x0, .inr (CI_Model, [.int (nI th), .int (nI nn), .ref x1, .ref x2, .ref x3, .ref x4, .ref x5, .ref x6, .ref x7, .ref x8, .ref x9, .ref x10, .ref x11, .int (nI (n + 1)), .ref x12, .ref x13, .ref x14, .ref x15, .ref x16, .ref x17, .ref x18, .ref x19, .ref x20, .int (bP bt), .int (nI sg)])), (x5, .inl (cI, 60, .inl (cN (up k n kd)))), (x6, .inl (cI, 60, .inl (cN (up o n ot)))), (x7, .inl (cI, 60, .inl (upd A n a))), (x8, .inl (cI, 60, .inl (upd B n b))), (x9, .inl (cI, 60, .inl (upd C n c))), (x10, .inl (cI, 60, .inl (cN (up q n hv))))]) t_Model tk_Model n_Model i_Model rfl rfl (by decide) m_609 rfl rfl rfl rfl (Nat.le_of_ble_eq_true rfl) rfl d_Model_add_80 ?_
    refine V_aload_n F 0 d_Model_add_83 rfl rfl ?_
    refine V_iconst F (v := 0) d_Model_add_84 rfl ?_
    refine V_top (y := bP False) (bP_f id).symm ?_
    refine V_put F 0 CI_Model 23 (w' := [(x0, .inr (CI_Model, [.int (nI th), .int (nI nn), .ref x1, .ref x2, .ref x3, .ref x4, .ref x5, .ref x6, .ref x7, .ref x8, .ref x9, .ref x10, .ref x11, .int (nI (n + 1)), .ref x12, .ref x13, .ref x14, .ref x15, .ref x16, .ref x17, .ref x18, .ref x19, .ref x20, .int (bP False), .int (nI sg)])), (x5, .inl (cI, 60, .inl (cN (up k n kd)))), (x6, .inl (cI, 60, .inl (cN (up o n ot)))), (x7, .inl (cI, 60, .inl (upd A n a))), (x8, .inl (cI, 60, .inl (upd B n b))), (x9, .inl (cI, 60, .inl (upd C n c))), (x10, .inl (cI, 60, .inl (cN (up q n hv))))]) t_Model tk_Model n_Model i_Model rfl rfl (by decide) m_619 rfl rfl (bP_nar _) (bP_fit _) (Nat.le_of_ble_eq_true rfl) rfl d_Model_add_85 ?_
    exact V_vret F hr (up q n hv) (by first | rw [if_pos (by assumption)] | rw [if_neg (by assumption)]) [0, 1, 2, 3, 4, 5, 6] rfl rfl (by decide) (by decide) d_Model_add_88

set_option maxHeartbeats 4000000 in
set_option maxRecDepth 100000 in
theorem c_Model_passes (l : Launch) (D : va_G) (cI cL cB : ClassId) (x0 : Nat) (x1 : Nat) (x2 : Nat) (x3 : Nat) (x4 : Nat) (x5 : Nat) (x6 : Nat) (x7 : Nat) (x8 : Nat) (x9 : Nat) (x10 : Nat) (x11 : Nat) (x12 : Nat) (x13 : Nat) (x14 : Nat) (x15 : Nat) (x16 : Nat) (x17 : Nat) (x18 : Nat) (x19 : Nat) (x20 : Nat) (th : Nat) (nn : Nat) (n : Nat) (sg : Nat) (bt : Prop) (k : Nat → Nat) (i : Nat) (hn : n ≤ 60) (hi : i < n) (hk : k i ≤ 8) : Cti l y_Model_passes (wK w_Model_passes) ({ frames := 0, cells := 0, slots := 0, locals := 0 }) D classes (TY cI cL cB) [.ref x0, .int (nI i)] [(x0, .inr (CI_Model, [.int (nI th), .int (nI nn), .ref x1, .ref x2, .ref x3, .ref x4, .ref x5, .ref x6, .ref x7, .ref x8, .ref x9, .ref x10, .ref x11, .int (nI n), .ref x12, .ref x13, .ref x14, .ref x15, .ref x16, .ref x17, .ref x18, .ref x19, .ref x20, .int (bP bt), .int (nI sg)])), (x5, .inl (cI, 60, .inl (cN k)))] (fun (r : Int32) (u_ : Unit) => r = bP (k i ≠ 0 ∧ k i ≠ 8)) (fun (u_ : Unit) => [(x0, .inr (CI_Model, [.int (nI th), .int (nI nn), .ref x1, .ref x2, .ref x3, .ref x4, .ref x5, .ref x6, .ref x7, .ref x8, .ref x9, .ref x10, .ref x11, .int (nI n), .ref x12, .ref x13, .ref x14, .ref x15, .ref x16, .ref x17, .ref x18, .ref x19, .ref x20, .int (bP bt), .int (nI sg)])), (x5, .inl (cI, 60, .inl (cN k)))]) 0 0 := by
  refine Ctg_of (cc := prog_9_method_17_code) (maxL := 2) (ret := (some .boolean)) "CircuitSimulatorModel" [(0, .ref x0), (1, .int (nI i))] (by decide) rfl rfl (Nat.le_of_ble_eq_true rfl) rfl ?_
  intro p_ e_ s_ m_ args_ below_ meth_ c_ A_ F hr hin
  refine V_aload_n F 0 d_Model_passes_0 rfl rfl ?_
  refine V_get F 0 CI_Model 6 i_Model rfl rfl (by decide) m_602 rfl rfl d_Model_passes_1 ?_
  refine V_iload_n F 1 d_Model_passes_4 rfl rfl ?_
  refine V_ialdnN F 1 0 (k := i) rfl rfl (by omega) (by decide) d_Model_passes_5 ?_
  refine V_ifn_eq F 24 (a := k i) (by omega) d_Model_passes_6 (by decide) (fun h6 => ?_) (fun h6 => ?_)
  · skip
    refine V_iconst F (v := 0) d_Model_passes_24 rfl ?_
    exact V_zret F hr rfl () (bP_f (fun z => z.1 h6)).symm [0, 1] rfl rfl (by decide) (by decide) d_Model_passes_25
  · skip
    refine V_aload_n F 0 d_Model_passes_9 rfl rfl ?_
    refine V_get F 0 CI_Model 6 i_Model rfl rfl (by decide) m_602 rfl rfl d_Model_passes_10 ?_
    refine V_iload_n F 1 d_Model_passes_13 rfl rfl ?_
    refine V_ialdnN F 1 0 (k := i) rfl rfl (by omega) (by decide) d_Model_passes_14 ?_
    refine V_bipush F (v := 8) d_Model_passes_15 rfl ?_
    refine V_icmpn_eq F 24 (a := k i) (b := 8) (by omega) (by omega) d_Model_passes_17 (by decide) (fun h17 => ?_) (fun h17 => ?_)
    · skip
      refine V_iconst F (v := 0) d_Model_passes_24 rfl ?_
      exact V_zret F hr rfl () (bP_f (fun z => z.2 h17)).symm [0, 1] rfl rfl (by decide) (by decide) d_Model_passes_25
    · skip
      refine V_iconst F (v := 1) d_Model_passes_20 rfl ?_
      refine V_goto F 25 d_Model_passes_21 (by decide) ?_
      exact V_zret F hr rfl () (bP_t ⟨h6, h17⟩).symm [0, 1] rfl rfl (by decide) (by decide) d_Model_passes_25

set_option maxHeartbeats 4000000 in
set_option maxRecDepth 100000 in
theorem c_Model_read (l : Launch) (D : va_G) (cI cL cB : ClassId) (x0 : Nat) (x1 : Nat) (x2 : Nat) (x3 : Nat) (x4 : Nat) (x5 : Nat) (x6 : Nat) (x7 : Nat) (x8 : Nat) (x9 : Nat) (x10 : Nat) (x11 : Nat) (x12 : Nat) (x13 : Nat) (x14 : Nat) (x15 : Nat) (x16 : Nat) (x17 : Nat) (x18 : Nat) (x19 : Nat) (x20 : Nat) (th : Nat) (nn : Nat) (n : Nat) (sg : Nat) (bt : Prop) (v : Nat → Nat) (j : Nat) (hj : j < 80) (hv : v j ≤ 3) : Cti l y_Model_read (wK w_Model_read) ({ frames := 0, cells := 0, slots := 0, locals := 0 }) D classes (TY cI cL cB) [.ref x0, .int (nI j)] [(x0, .inr (CI_Model, [.int (nI th), .int (nI nn), .ref x1, .ref x2, .ref x3, .ref x4, .ref x5, .ref x6, .ref x7, .ref x8, .ref x9, .ref x10, .ref x11, .int (nI n), .ref x12, .ref x13, .ref x14, .ref x15, .ref x16, .ref x17, .ref x18, .ref x19, .ref x20, .int (bP bt), .int (nI sg)])), (x1, .inl (cI, 80, .inl (cN v)))] (fun (r : Int32) (u_ : Unit) => r = nI (asI (v j))) (fun (u_ : Unit) => [(x0, .inr (CI_Model, [.int (nI th), .int (nI nn), .ref x1, .ref x2, .ref x3, .ref x4, .ref x5, .ref x6, .ref x7, .ref x8, .ref x9, .ref x10, .ref x11, .int (nI n), .ref x12, .ref x13, .ref x14, .ref x15, .ref x16, .ref x17, .ref x18, .ref x19, .ref x20, .int (bP bt), .int (nI sg)])), (x1, .inl (cI, 80, .inl (cN v)))]) 0 0 := by
  refine Ctg_of (cc := prog_9_method_21_code) (maxL := 2) (ret := (some .int)) "CircuitSimulatorModel" [(0, .ref x0), (1, .int (nI j))] (by decide) rfl rfl (Nat.le_of_ble_eq_true rfl) rfl ?_
  intro p_ e_ s_ m_ args_ below_ meth_ c_ A_ F hr hin
  refine V_aload_n F 0 d_Model_read_0 rfl rfl ?_
  refine V_get F 0 CI_Model 2 i_Model rfl rfl (by decide) m_598 rfl rfl d_Model_read_1 ?_
  refine V_iload_n F 1 d_Model_read_4 rfl rfl ?_
  refine V_ialdnN F 1 0 (k := j) rfl rfl (by omega) (by decide) d_Model_read_5 ?_
  refine V_iconst F (v := 3) d_Model_read_6 rfl ?_
  refine V_icmpn_ne F 14 (a := v j) (b := 3) (by omega) (by omega) d_Model_read_7 (by decide) (fun h7 => ?_) (fun h7 => ?_)
  · skip
    refine V_aload_n F 0 d_Model_read_14 rfl rfl ?_
    refine V_get F 0 CI_Model 2 i_Model rfl rfl (by decide) m_598 rfl rfl d_Model_read_15 ?_
    refine V_iload_n F 1 d_Model_read_18 rfl rfl ?_
    refine V_ialdnN F 1 0 (k := j) rfl rfl (by omega) (by decide) d_Model_read_19 ?_
    exact V_iret F hr () (congrArg nI (by unfold asI; (repeat' split) <;> omega)) [0, 1] rfl rfl (by decide) (by decide) d_Model_read_20
  · skip
    refine V_iconst F (v := 2) d_Model_read_10 rfl ?_
    refine V_goto F 20 d_Model_read_11 (by decide) ?_
    exact V_iret F hr () (congrArg nI (by unfold asI; (repeat' split) <;> omega)) [0, 1] rfl rfl (by decide) (by decide) d_Model_read_20

set_option maxHeartbeats 4000000 in
set_option maxRecDepth 100000 in
theorem c_Model_both (l : Launch) (D : va_G) (cI cL cB : ClassId) (a : Nat) (b : Nat) (ha : a ≤ 3) (hb : b ≤ 3) : Cti l y_Model_both (wK w_Model_both) ({ frames := 0, cells := 0, slots := 0, locals := 0 }) D classes (TY cI cL cB) [.int (nI a), .int (nI b)] [] (fun (r : Int32) (u_ : Unit) => r = nI (ev2 a b)) (fun (u_ : Unit) => []) 0 0 := by
  refine Ctg_of (cc := prog_9_method_22_code) (maxL := 2) (ret := (some .int)) "CircuitSimulatorModel" [(0, .int (nI a)), (1, .int (nI b))] (by decide) rfl rfl (Nat.le_of_ble_eq_true rfl) rfl ?_
  intro p_ e_ s_ m_ args_ below_ meth_ c_ A_ F hr hin
  refine V_iload_n F 0 d_Model_both_0 rfl rfl ?_
  refine V_ifn_eq F 8 (a := a) (by omega) d_Model_both_1 (by decide) (fun h1 => ?_) (fun h1 => ?_)
  · skip
    refine V_iconst F (v := 0) d_Model_both_8 rfl ?_
    refine V_goto F 27 d_Model_both_9 (by decide) ?_
    exact V_iret F hr () (congrArg nI (by unfold ev2; (repeat' split) <;> omega)) [] rfl rfl (by decide) (by decide) d_Model_both_27
  · skip
    refine V_iload_n F 1 d_Model_both_4 rfl rfl ?_
    refine V_ifn_ne F 12 (a := b) (by omega) d_Model_both_5 (by decide) (fun h5 => ?_) (fun h5 => ?_)
    · skip
      refine V_iload_n F 0 d_Model_both_12 rfl rfl ?_
      refine V_iconst F (v := 1) d_Model_both_13 rfl ?_
      refine V_icmpn_ne F 26 (a := a) (b := 1) (by omega) (by omega) d_Model_both_14 (by decide) (fun h14 => ?_) (fun h14 => ?_)
      · skip
        refine V_iconst F (v := 2) d_Model_both_26 rfl ?_
        exact V_iret F hr () (congrArg nI (by unfold ev2; (repeat' split) <;> omega)) [] rfl rfl (by decide) (by decide) d_Model_both_27
      · skip
        refine V_iload_n F 1 d_Model_both_17 rfl rfl ?_
        refine V_iconst F (v := 1) d_Model_both_18 rfl ?_
        refine V_icmpn_ne F 26 (a := b) (b := 1) (by omega) (by omega) d_Model_both_19 (by decide) (fun h19 => ?_) (fun h19 => ?_)
        · skip
          refine V_iconst F (v := 2) d_Model_both_26 rfl ?_
          exact V_iret F hr () (congrArg nI (by unfold ev2; (repeat' split) <;> omega)) [] rfl rfl (by decide) (by decide) d_Model_both_27
        · skip
          refine V_iconst F (v := 1) d_Model_both_22 rfl ?_
          refine V_goto F 27 d_Model_both_23 (by decide) ?_
          exact V_iret F hr () (congrArg nI (by unfold ev2; (repeat' split) <;> omega)) [] rfl rfl (by decide) (by decide) d_Model_both_27
    · skip
      refine V_iconst F (v := 0) d_Model_both_8 rfl ?_
      refine V_goto F 27 d_Model_both_9 (by decide) ?_
      exact V_iret F hr () (congrArg nI (by unfold ev2; (repeat' split) <;> omega)) [] rfl rfl (by decide) (by decide) d_Model_both_27

set_option maxHeartbeats 4000000 in
set_option maxRecDepth 100000 in
theorem c_Model_depend (l : Launch) (D : va_G) (cI cL cB : ClassId) (x0 : Nat) (x1 : Nat) (x2 : Nat) (x3 : Nat) (x4 : Nat) (x5 : Nat) (x6 : Nat) (x7 : Nat) (x8 : Nat) (x9 : Nat) (x10 : Nat) (x11 : Nat) (x12 : Nat) (x13 : Nat) (x14 : Nat) (x15 : Nat) (x16 : Nat) (x17 : Nat) (x18 : Nat) (x19 : Nat) (x20 : Nat) (th : Nat) (nn : Nat) (n : Nat) (sg : Nat) (bt : Prop) (X : Nat → Int64) (Y : Nat → Int64) (R : Nat → Nat → Prop) (a : Nat) (b : Nat) (ha : a < 80) (hb : b < 80) (hB : Bits 60 X Y R) : Ctv l y_Model_depend (wK w_Model_depend) ({ frames := 0, cells := 0, slots := 0, locals := 0 }) D classes (TY cI cL cB) [.ref x0, .int (nI a), .int (nI b)] [(x0, .inr (CI_Model, [.int (nI th), .int (nI nn), .ref x1, .ref x2, .ref x3, .ref x4, .ref x5, .ref x6, .ref x7, .ref x8, .ref x9, .ref x10, .ref x11, .int (nI n), .ref x12, .ref x13, .ref x14, .ref x15, .ref x16, .ref x17, .ref x18, .ref x19, .ref x20, .int (bP bt), .int (nI sg)])), (x19, .inl (cL, 80, .inr (.inl X))), (x20, .inl (cL, 80, .inr (.inl Y)))] (fun (u_ : (Nat → Int64) × (Nat → Int64)) => Bits 60 u_.1 u_.2 (fun x y => R x y ∨ (x = a ∧ y = b))) (fun (u_ : (Nat → Int64) × (Nat → Int64)) => [(x0, .inr (CI_Model, [.int (nI th), .int (nI nn), .ref x1, .ref x2, .ref x3, .ref x4, .ref x5, .ref x6, .ref x7, .ref x8, .ref x9, .ref x10, .ref x11, .int (nI n), .ref x12, .ref x13, .ref x14, .ref x15, .ref x16, .ref x17, .ref x18, .ref x19, .ref x20, .int (bP bt), .int (nI sg)])), (x19, .inl (cL, 80, .inr (.inl u_.1))), (x20, .inl (cL, 80, .inr (.inl u_.2)))]) 0 0 := by
  refine Ctg_of (cc := prog_9_method_16_code) (maxL := 3) (ret := none) "CircuitSimulatorModel" [(0, .ref x0), (1, .int (nI a)), (2, .int (nI b))] (by decide) rfl rfl (Nat.le_of_ble_eq_true rfl) rfl ?_
  intro p_ e_ s_ m_ args_ below_ meth_ c_ A_ F hr hin
  refine V_iload_n F 2 d_Model_depend_0 rfl rfl ?_
  refine V_bipush F (v := 60) d_Model_depend_1 rfl ?_
  refine V_icmpn_ge F 21 (a := b) (b := 60) (by omega) (by omega) d_Model_depend_3 (by decide) (fun h3 => ?_) (fun h3 => ?_)
  · skip
    refine V_aload_n F 0 d_Model_depend_21 rfl rfl ?_
    refine V_get F 0 CI_Model 22 i_Model rfl rfl (by decide) m_618 rfl rfl d_Model_depend_22 ?_
    refine V_iload_n F 1 d_Model_depend_25 rfl rfl ?_
    refine V_dup2 F d_Model_depend_26 rfl rfl ?_
    refine V_laldn F 2 1 (k := a) rfl rfl (by omega) (by decide) d_Model_depend_27 ?_
    refine V_lconst F (v := 1) d_Model_depend_28 rfl ?_
    refine V_iload_n F 2 d_Model_depend_29 rfl rfl ?_
    refine V_bipush F (v := 60) d_Model_depend_30 rfl ?_
    refine V_isub F d_Model_depend_32 ?_
    refine V_top (y := nI (b - 60)) (pk_sub (a := b) (b := 60) (by omega)) ?_
    refine V_lshl F d_Model_depend_33 rfl ?_
    refine V_lor F d_Model_depend_34 ?_
    refine V_lastn F 2 1 (k := a) (w' := [(x0, .inr (CI_Model, [.int (nI th), .int (nI nn), .ref x1, .ref x2, .ref x3, .ref x4, .ref x5, .ref x6, .ref x7, .ref x8, .ref x9, .ref x10, .ref x11, .int (nI n), .ref x12, .ref x13, .ref x14, .ref x15, .ref x16, .ref x17, .ref x18, .ref x19, .ref x20, .int (bP bt), .int (nI sg)])), (x19, .inl (cL, 80, .inr (.inl X))), (x20, .inl (cL, 80, .inr (.inl (vp_updL Y a ((Y a) ||| (1 <<< ((nI (b - 60)).toInt64 &&& 63)))))))]) rfl rfl (by omega) (by decide) rfl d_Model_depend_35 ?_
    exact V_vret F hr (X, vp_updL Y a ((Y a) ||| (1 <<< ((nI (b - 60)).toInt64 &&& 63)))) (show Bits 60 X (vp_updL Y a ((Y a) ||| (1 <<< ((nI (b - 60)).toInt64 &&& 63)))) (fun x y => R x y ∨ (x = a ∧ y = b)) from (by first | exact hB.note1 (by decide) (by omega) | exact hB.note2 (by decide) (by omega) hb)) [0, 1, 2] rfl rfl (by decide) (by decide) d_Model_depend_36
  · skip
    refine V_aload_n F 0 d_Model_depend_6 rfl rfl ?_
    refine V_get F 0 CI_Model 21 i_Model rfl rfl (by decide) m_617 rfl rfl d_Model_depend_7 ?_
    refine V_iload_n F 1 d_Model_depend_10 rfl rfl ?_
    refine V_dup2 F d_Model_depend_11 rfl rfl ?_
    refine V_laldn F 1 1 (k := a) rfl rfl (by omega) (by decide) d_Model_depend_12 ?_
    refine V_lconst F (v := 1) d_Model_depend_13 rfl ?_
    refine V_iload_n F 2 d_Model_depend_14 rfl rfl ?_
    refine V_lshl F d_Model_depend_15 rfl ?_
    refine V_lor F d_Model_depend_16 ?_
    refine V_lastn F 1 1 (k := a) (w' := [(x0, .inr (CI_Model, [.int (nI th), .int (nI nn), .ref x1, .ref x2, .ref x3, .ref x4, .ref x5, .ref x6, .ref x7, .ref x8, .ref x9, .ref x10, .ref x11, .int (nI n), .ref x12, .ref x13, .ref x14, .ref x15, .ref x16, .ref x17, .ref x18, .ref x19, .ref x20, .int (bP bt), .int (nI sg)])), (x19, .inl (cL, 80, .inr (.inl (vp_updL X a ((X a) ||| (1 <<< ((nI b).toInt64 &&& 63))))))), (x20, .inl (cL, 80, .inr (.inl Y)))]) rfl rfl (by omega) (by decide) rfl d_Model_depend_17 ?_
    refine V_goto F 36 d_Model_depend_18 (by decide) ?_
    exact V_vret F hr (vp_updL X a ((X a) ||| (1 <<< ((nI b).toInt64 &&& 63))), Y) (show Bits 60 (vp_updL X a ((X a) ||| (1 <<< ((nI b).toInt64 &&& 63)))) Y (fun x y => R x y ∨ (x = a ∧ y = b)) from (by first | exact hB.note1 (by decide) (by omega) | exact hB.note2 (by decide) (by omega) hb)) [0, 1, 2] rfl rfl (by decide) (by decide) d_Model_depend_36

set_option maxHeartbeats 4000000 in
set_option maxRecDepth 100000 in
theorem c_Model_has (l : Launch) (D : va_G) (cI cL cB : ClassId) (x0 : Nat) (x1 : Nat) (x2 : Nat) (x3 : Nat) (x4 : Nat) (x5 : Nat) (x6 : Nat) (x7 : Nat) (x8 : Nat) (x9 : Nat) (x10 : Nat) (x11 : Nat) (x12 : Nat) (x13 : Nat) (x14 : Nat) (x15 : Nat) (x16 : Nat) (x17 : Nat) (x18 : Nat) (x19 : Nat) (x20 : Nat) (th : Nat) (nn : Nat) (n : Nat) (sg : Nat) (bt : Prop) (X : Nat → Int64) (Y : Nat → Int64) (R : Nat → Nat → Prop) (a : Nat) (b : Nat) (ha : a < 80) (hb : b < 80) (hB : Bits 60 X Y R) : Cti l y_Model_has (wK w_Model_has) ({ frames := 0, cells := 0, slots := 0, locals := 0 }) D classes (TY cI cL cB) [.ref x0, .int (nI a), .int (nI b)] [(x0, .inr (CI_Model, [.int (nI th), .int (nI nn), .ref x1, .ref x2, .ref x3, .ref x4, .ref x5, .ref x6, .ref x7, .ref x8, .ref x9, .ref x10, .ref x11, .int (nI n), .ref x12, .ref x13, .ref x14, .ref x15, .ref x16, .ref x17, .ref x18, .ref x19, .ref x20, .int (bP bt), .int (nI sg)])), (x19, .inl (cL, 80, .inr (.inl X))), (x20, .inl (cL, 80, .inr (.inl Y)))] (fun (r : Int32) (u_ : Unit) => r = bP (R a b)) (fun (u_ : Unit) => [(x0, .inr (CI_Model, [.int (nI th), .int (nI nn), .ref x1, .ref x2, .ref x3, .ref x4, .ref x5, .ref x6, .ref x7, .ref x8, .ref x9, .ref x10, .ref x11, .int (nI n), .ref x12, .ref x13, .ref x14, .ref x15, .ref x16, .ref x17, .ref x18, .ref x19, .ref x20, .int (bP bt), .int (nI sg)])), (x19, .inl (cL, 80, .inr (.inl X))), (x20, .inl (cL, 80, .inr (.inl Y)))]) 0 0 := by
  refine Ctg_of (cc := prog_9_method_15_code) (maxL := 3) (ret := (some .boolean)) "CircuitSimulatorModel" [(0, .ref x0), (1, .int (nI a)), (2, .int (nI b))] (by decide) rfl rfl (Nat.le_of_ble_eq_true rfl) rfl ?_
  intro p_ e_ s_ m_ args_ below_ meth_ c_ A_ F hr hin
  refine V_iload_n F 2 d_Model_has_0 rfl rfl ?_
  refine V_bipush F (v := 60) d_Model_has_1 rfl ?_
  refine V_icmpn_ge F 17 (a := b) (b := 60) (by omega) (by omega) d_Model_has_3 (by decide) (fun h3 => ?_) (fun h3 => ?_)
  · skip
    refine V_aload_n F 0 d_Model_has_17 rfl rfl ?_
    refine V_get F 0 CI_Model 22 i_Model rfl rfl (by decide) m_618 rfl rfl d_Model_has_18 ?_
    refine V_iload_n F 1 d_Model_has_21 rfl rfl ?_
    refine V_laldn F 2 1 (k := a) rfl rfl (by omega) (by decide) d_Model_has_22 ?_
    refine V_iload_n F 2 d_Model_has_23 rfl rfl ?_
    refine V_bipush F (v := 60) d_Model_has_24 rfl ?_
    refine V_isub F d_Model_has_26 ?_
    refine V_top (y := nI (b - 60)) (pk_sub (a := b) (b := 60) (by omega)) ?_
    refine V_lshr F d_Model_has_27 rfl ?_
    refine V_lconst F (v := 1) d_Model_has_28 rfl ?_
    refine V_land F d_Model_has_29 ?_
    refine V_lconst F (v := 0) d_Model_has_30 rfl ?_
    refine V_lcmp F d_Model_has_31 ?_
    refine V_if_eq F 39 d_Model_has_32 (by decide) (fun h32 => ?_) (fun h32 => ?_)
    · skip
      refine V_iconst F (v := 0) d_Model_has_39 rfl ?_
      exact V_zret F hr rfl () (by first | exact (bP_f (fun z => (shr_bit (by omega)).mp (lg_cmp0.mp h32) (((hB a ha).1 b (by omega)).mp z))).symm | exact (bP_f (fun z => (shr_bit (by omega)).mp (lg_cmp0.mp h32) (((hB a ha).2 b (by omega) hb).mp z))).symm) [0, 1, 2] rfl rfl (by decide) (by decide) d_Model_has_40
    · skip
      refine V_iconst F (v := 1) d_Model_has_35 rfl ?_
      refine V_goto F 40 d_Model_has_36 (by decide) ?_
      exact V_zret F hr rfl () (by first | exact (bP_t (Classical.byContradiction fun z => h32 (lg_cmp0.mpr ((shr_bit (by omega)).mpr (fun y => z (((hB a ha).1 b (by omega)).mpr y)))))).symm | exact (bP_t (Classical.byContradiction fun z => h32 (lg_cmp0.mpr ((shr_bit (by omega)).mpr (fun y => z (((hB a ha).2 b (by omega) hb).mpr y)))))).symm) [0, 1, 2] rfl rfl (by decide) (by decide) d_Model_has_40
  · skip
    refine V_aload_n F 0 d_Model_has_6 rfl rfl ?_
    refine V_get F 0 CI_Model 21 i_Model rfl rfl (by decide) m_617 rfl rfl d_Model_has_7 ?_
    refine V_iload_n F 1 d_Model_has_10 rfl rfl ?_
    refine V_laldn F 1 1 (k := a) rfl rfl (by omega) (by decide) d_Model_has_11 ?_
    refine V_iload_n F 2 d_Model_has_12 rfl rfl ?_
    refine V_lshr F d_Model_has_13 rfl ?_
    refine V_goto F 28 d_Model_has_14 (by decide) ?_
    refine V_lconst F (v := 1) d_Model_has_28 rfl ?_
    refine V_land F d_Model_has_29 ?_
    refine V_lconst F (v := 0) d_Model_has_30 rfl ?_
    refine V_lcmp F d_Model_has_31 ?_
    refine V_if_eq F 39 d_Model_has_32 (by decide) (fun h32 => ?_) (fun h32 => ?_)
    · skip
      refine V_iconst F (v := 0) d_Model_has_39 rfl ?_
      exact V_zret F hr rfl () (by first | exact (bP_f (fun z => (shr_bit (by omega)).mp (lg_cmp0.mp h32) (((hB a ha).1 b (by omega)).mp z))).symm | exact (bP_f (fun z => (shr_bit (by omega)).mp (lg_cmp0.mp h32) (((hB a ha).2 b (by omega) hb).mp z))).symm) [0, 1, 2] rfl rfl (by decide) (by decide) d_Model_has_40
    · skip
      refine V_iconst F (v := 1) d_Model_has_35 rfl ?_
      refine V_goto F 40 d_Model_has_36 (by decide) ?_
      exact V_zret F hr rfl () (by first | exact (bP_t (Classical.byContradiction fun z => h32 (lg_cmp0.mpr ((shr_bit (by omega)).mpr (fun y => z (((hB a ha).1 b (by omega)).mpr y)))))).symm | exact (bP_t (Classical.byContradiction fun z => h32 (lg_cmp0.mpr ((shr_bit (by omega)).mpr (fun y => z (((hB a ha).2 b (by omega) hb).mpr y)))))).symm) [0, 1, 2] rfl rfl (by decide) (by decide) d_Model_has_40
