set_option maxHeartbeats 4000000 in
set_option maxRecDepth 100000 in
theorem c_Nets_forget (l : Launch) (D : va_G) (cI cL cB : ClassId) (m0 : Nat) (m1 : Nat) (m2 : Nat) (m3 : Nat) (m4 : Nat) (nn : Nat) (v : Nat → Nat) (cm : Nat → Nat) (sk : Nat → Nat) (tn : Nat → Nat)  : Ctv l y_Nets_forget (wK w_Nets_forget) ({ frames := 1, cells := 0, slots := 0, locals := 23 }) D classes (TY cI cL cB) [.ref m0] [(m0, .inr (CI_Nets, [.ref m1, .ref m2, .ref m3, .ref m4, .int (nI nn)])), (m1, .inl (cI, 80, .inl (cN v))), (m2, .inl (cI, 80, .inl (cN cm))), (m3, .inl (cI, 80, .inl (cS sk))), (m4, .inl (cI, 80, .inl (cN tn)))] (fun (u_ : Unit) => True) (fun (u_ : Unit) => [(m0, .inr (CI_Nets, [.ref m1, .ref m2, .ref m3, .ref m4, .int (nI nn)])), (m1, .inl (cI, 80, .inl (cN (fun _ => 2)))), (m2, .inl (cI, 80, .inl (cN cm))), (m3, .inl (cI, 80, .inl (cS (fun _ => 0)))), (m4, .inl (cI, 80, .inl (cN (fun _ => 0))))]) 0 0 := by
  refine Ctg_of (cc := prog_6_method_7_code) (maxL := 1) (ret := none) "CircuitSimulator$Nets" [(0, .ref m0)] (by decide) rfl rfl (Nat.le_of_ble_eq_true rfl) rfl ?_
  intro p_ e_ s_ m_ args_ below_ meth_ c_ A_ F hr hin
  refine V_aload_n F 0 d_Nets_forget_0 rfl rfl ?_
  refine V_get F 0 CI_Nets 0 i_Nets rfl rfl (by decide) m_110 rfl rfl d_Nets_forget_1 ?_
  refine V_iconst F (v := 2) d_Nets_forget_4 rfl ?_
  refine V_callS_v (w1 := fun (u_ : Unit) => [(m0, .inr (CI_Nets, [.ref m1, .ref m2, .ref m3, .ref m4, .int (nI nn)])), (m1, .inl (cI, 80, .inl (fun _ => 2))), (m2, .inl (cI, 80, .inl (cN cm))), (m3, .inl (cI, 80, .inl (cS sk))), (m4, .inl (cI, 80, .inl (cN tn)))]) (wr := [(m0, .inr (CI_Nets, [.ref m1, .ref m2, .ref m3, .ref m4, .int (nI nn)])), (m2, .inl (cI, 80, .inl (cN cm))), (m3, .inl (cI, 80, .inl (cS sk))), (m4, .inl (cI, 80, .inl (cN tn)))]) (isC := [1]) (isR := [0, 2, 3, 4]) (pm := [0, 4, 1, 2, 3]) (As := [.ref m1, .int 2]) (rest := []) F (c_Arrays_fill_i l D cI cL cB m1 80 (cN v) 2 (by first | assumption | omega | (simp only [] at *; omega))) (cS_S 2 F.ts m_107 m_108 m_38 m_109 (by decide +kernel) ⟨Nat.le_of_ble_eq_true rfl, Nat.le_of_ble_eq_true rfl⟩) rfl (Nat.le_of_ble_eq_true rfl) d_Nets_forget_5 ⟨Nat.le_of_ble_eq_true rfl, Nat.le_of_ble_eq_true rfl⟩ ⟨rfl, rfl, rfl, rfl, rfl, fun _ => rfl, rfl⟩ (fun uu5 q5_ => ?_) rfl
  refine V_cast (w' := [(m0, .inr (CI_Nets, [.ref m1, .ref m2, .ref m3, .ref m4, .int (nI nn)])), (m1, .inl (cI, 80, .inl (cN (fun _ => 2)))), (m2, .inl (cI, 80, .inl (cN cm))), (m3, .inl (cI, 80, .inl (cS sk))), (m4, .inl (cI, 80, .inl (cN tn)))]) rfl rfl rfl ?_
  refine V_aload_n F 0 d_Nets_forget_8 rfl rfl ?_
  refine V_get F 0 CI_Nets 2 i_Nets rfl rfl (by decide) m_114 rfl rfl d_Nets_forget_9 ?_
  refine V_iconst F (v := (-1)) d_Nets_forget_12 rfl ?_
  refine V_callS_v (w1 := fun (u_ : Unit) => [(m0, .inr (CI_Nets, [.ref m1, .ref m2, .ref m3, .ref m4, .int (nI nn)])), (m1, .inl (cI, 80, .inl (cN (fun _ => 2)))), (m2, .inl (cI, 80, .inl (cN cm))), (m3, .inl (cI, 80, .inl (fun _ => (-1)))), (m4, .inl (cI, 80, .inl (cN tn)))]) (wr := [(m0, .inr (CI_Nets, [.ref m1, .ref m2, .ref m3, .ref m4, .int (nI nn)])), (m1, .inl (cI, 80, .inl (cN (fun _ => 2)))), (m2, .inl (cI, 80, .inl (cN cm))), (m4, .inl (cI, 80, .inl (cN tn)))]) (isC := [3]) (isR := [0, 1, 2, 4]) (pm := [0, 1, 2, 4, 3]) (As := [.ref m3, .int (-1)]) (rest := []) F (c_Arrays_fill_i l D cI cL cB m3 80 (cS sk) (-1) (by first | assumption | omega | (simp only [] at *; omega))) (cS_S 2 F.ts m_107 m_108 m_38 m_109 (by decide +kernel) ⟨Nat.le_of_ble_eq_true rfl, Nat.le_of_ble_eq_true rfl⟩) rfl (Nat.le_of_ble_eq_true rfl) d_Nets_forget_13 ⟨Nat.le_of_ble_eq_true rfl, Nat.le_of_ble_eq_true rfl⟩ ⟨rfl, rfl, rfl, rfl, rfl, fun _ => rfl, rfl⟩ (fun uu13 q13_ => ?_) rfl
  refine V_cast (w' := [(m0, .inr (CI_Nets, [.ref m1, .ref m2, .ref m3, .ref m4, .int (nI nn)])), (m1, .inl (cI, 80, .inl (cN (fun _ => 2)))), (m2, .inl (cI, 80, .inl (cN cm))), (m3, .inl (cI, 80, .inl (cS (fun _ => 0)))), (m4, .inl (cI, 80, .inl (cN tn)))]) rfl rfl rfl ?_
  refine V_aload_n F 0 d_Nets_forget_16 rfl rfl ?_
  refine V_get F 0 CI_Nets 3 i_Nets rfl rfl (by decide) m_116 rfl rfl d_Nets_forget_17 ?_
  refine V_iconst F (v := 0) d_Nets_forget_20 rfl ?_
  refine V_callS_v (w1 := fun (u_ : Unit) => [(m0, .inr (CI_Nets, [.ref m1, .ref m2, .ref m3, .ref m4, .int (nI nn)])), (m1, .inl (cI, 80, .inl (cN (fun _ => 2)))), (m2, .inl (cI, 80, .inl (cN cm))), (m3, .inl (cI, 80, .inl (cS (fun _ => 0)))), (m4, .inl (cI, 80, .inl (fun _ => 0)))]) (wr := [(m0, .inr (CI_Nets, [.ref m1, .ref m2, .ref m3, .ref m4, .int (nI nn)])), (m1, .inl (cI, 80, .inl (cN (fun _ => 2)))), (m2, .inl (cI, 80, .inl (cN cm))), (m3, .inl (cI, 80, .inl (cS (fun _ => 0))))]) (isC := [4]) (isR := [0, 1, 2, 3]) (pm := [0, 1, 2, 3, 4]) (As := [.ref m4, .int 0]) (rest := []) F (c_Arrays_fill_i l D cI cL cB m4 80 (cN tn) 0 (by first | assumption | omega | (simp only [] at *; omega))) (cS_S 2 F.ts m_107 m_108 m_38 m_109 (by decide +kernel) ⟨Nat.le_of_ble_eq_true rfl, Nat.le_of_ble_eq_true rfl⟩) rfl (Nat.le_of_ble_eq_true rfl) d_Nets_forget_21 ⟨Nat.le_of_ble_eq_true rfl, Nat.le_of_ble_eq_true rfl⟩ ⟨rfl, rfl, rfl, rfl, rfl, fun _ => rfl, rfl⟩ (fun uu21 q21_ => ?_) rfl
  refine V_cast (w' := [(m0, .inr (CI_Nets, [.ref m1, .ref m2, .ref m3, .ref m4, .int (nI nn)])), (m1, .inl (cI, 80, .inl (cN (fun _ => 2)))), (m2, .inl (cI, 80, .inl (cN cm))), (m3, .inl (cI, 80, .inl (cS (fun _ => 0)))), (m4, .inl (cI, 80, .inl (cN (fun _ => 0))))]) rfl rfl rfl ?_
  exact V_vret F hr () trivial [0, 1, 2, 3, 4] rfl rfl (by decide) (by decide) d_Nets_forget_24

set_option maxHeartbeats 4000000 in
set_option maxRecDepth 100000 in
theorem c_CS_inputAt (l : Launch) (D : va_G) (cI cL cB : ClassId) (z0 : Nat) (t0 : Nat) (u0 : Nat) (l0 : Nat) (d0 : Nat) (p0 : Nat) (bt : Prop) (sg : Nat) (c0 : Nat) (c1 : Nat) (c2 : Nat) (c3 : Nat) (c4 : Nat) (c5 : Nat) (c6 : Nat) (n : Nat) (k : Nat → Nat) (o : Nat → Nat) (q : Nat → Nat) (A : Nat → Int32) (B : Nat → Int32) (C : Nat → Int32) (m0 : Nat) (m1 : Nat) (m2 : Nat) (m3 : Nat) (m4 : Nat) (nn : Nat) (cm : Nat → Nat) (i : Nat) (p : Nat) (hn : n ≤ 60) (hnn : nn ≤ 80) (hw : WfC nn n k o A B C) (hi : i < n) (hcm : ∀ j, j < nn → cm j ≤ 3) (hp : p ≤ 2) : Cti l y_CS_inputAt (wK w_CS_inputAt) ({ frames := 2, cells := 0, slots := 0, locals := 42 }) D classes (TY cI cL cB) [.ref z0, .int (nI i), .int (nI p)] [(z0, .inr (CI_CS, [.ref c0, .ref t0, .ref u0, .ref m0, .ref l0, .ref d0, .ref p0, .int (bP bt), .int (nI sg)])), (c0, .inr (CI_Cells, [.ref c1, .ref c2, .ref c3, .ref c4, .ref c5, .ref c6, .int (nI n)])), (c1, .inl (cI, 60, .inl (cN k))), (c2, .inl (cI, 60, .inl (cN o))), (c3, .inl (cI, 60, .inl A)), (c4, .inl (cI, 60, .inl B)), (c5, .inl (cI, 60, .inl C)), (c6, .inl (cI, 60, .inl (cN q))), (m0, .inr (CI_Nets, [.ref m1, .ref m2, .ref m3, .ref m4, .int (nI nn)])), (m2, .inl (cI, 80, .inl (cN cm)))] (fun (r : Int32) (u_ : Unit) => r = nI (inV k A B C cm i p)) (fun (u_ : Unit) => [(z0, .inr (CI_CS, [.ref c0, .ref t0, .ref u0, .ref m0, .ref l0, .ref d0, .ref p0, .int (bP bt), .int (nI sg)])), (c0, .inr (CI_Cells, [.ref c1, .ref c2, .ref c3, .ref c4, .ref c5, .ref c6, .int (nI n)])), (c1, .inl (cI, 60, .inl (cN k))), (c2, .inl (cI, 60, .inl (cN o))), (c3, .inl (cI, 60, .inl A)), (c4, .inl (cI, 60, .inl B)), (c5, .inl (cI, 60, .inl C)), (c6, .inl (cI, 60, .inl (cN q))), (m0, .inr (CI_Nets, [.ref m1, .ref m2, .ref m3, .ref m4, .int (nI nn)])), (m2, .inl (cI, 80, .inl (cN cm)))]) 0 0 := by
  refine Ctg_of (cc := prog_1_method_22_code) (maxL := 3) (ret := (some .int)) "CircuitSimulator" [(0, .ref z0), (1, .int (nI i)), (2, .int (nI p))] (by decide) rfl rfl (Nat.le_of_ble_eq_true rfl) rfl ?_
  intro p_ e_ s_ m_ args_ below_ meth_ c_ A_ F hr hin
  have hk8 := (hw i hi).1
  have hd8 := dep3 (k i)
  refine V_iload_n F 2 d_CS_inputAt_0 rfl rfl ?_
  refine V_aload_n F 0 d_CS_inputAt_1 rfl rfl ?_
  refine V_get F 0 CI_CS 0 i_CS rfl rfl (by decide) m_188 rfl rfl d_CS_inputAt_2 ?_
  refine V_iload_n F 1 d_CS_inputAt_5 rfl rfl ?_
  refine V_callV_i (w1 := fun (u_ : Unit) => [(z0, .inr (CI_CS, [.ref c0, .ref t0, .ref u0, .ref m0, .ref l0, .ref d0, .ref p0, .int (bP bt), .int (nI sg)])), (c0, .inr (CI_Cells, [.ref c1, .ref c2, .ref c3, .ref c4, .ref c5, .ref c6, .int (nI n)])), (c1, .inl (cI, 60, .inl (cN k))), (c2, .inl (cI, 60, .inl (cN o))), (c3, .inl (cI, 60, .inl A)), (c4, .inl (cI, 60, .inl B)), (c5, .inl (cI, 60, .inl C)), (c6, .inl (cI, 60, .inl (cN q))), (m0, .inr (CI_Nets, [.ref m1, .ref m2, .ref m3, .ref m4, .int (nI nn)])), (m2, .inl (cI, 80, .inl (cN cm)))]) (wr := [(z0, .inr (CI_CS, [.ref c0, .ref t0, .ref u0, .ref m0, .ref l0, .ref d0, .ref p0, .int (bP bt), .int (nI sg)])), (m0, .inr (CI_Nets, [.ref m1, .ref m2, .ref m3, .ref m4, .int (nI nn)])), (m2, .inl (cI, 80, .inl (cN cm)))]) (isC := [1, 2, 3, 4, 5, 6, 7]) (isR := [0, 8, 9]) (pm := [0, 3, 4, 5, 6, 7, 8, 9, 1, 2]) (As := [.int (nI i)]) (rest := [.int (nI p)]) F (c_Cells_dependencies l D cI cL cB c0 c1 c2 c3 c4 c5 c6 60 n k o q A B C i (by omega) (by omega) (by omega) (by omega)) (cS_V 1 F.ts m_248 m_249 m_250 m_36 m_251 (by decide +kernel) ⟨Nat.le_of_ble_eq_true rfl, Nat.le_of_ble_eq_true rfl⟩) (ci := CI_Cells) (q0 := 0) rfl rfl rfl (Nat.le_of_ble_eq_true rfl) d_CS_inputAt_6 ⟨Nat.le_of_ble_eq_true rfl, Nat.le_of_ble_eq_true rfl⟩ ⟨rfl, rfl, rfl, rfl, rfl, fun _ => rfl, rfl⟩ (fun r6 uu6 q6_ => ?_) rfl
  subst q6_
  refine V_icmpn_lt F 14 (a := p) (b := depN (k i)) (by omega) (by omega) d_CS_inputAt_9 (by decide) (fun h9 => ?_) (fun h9 => ?_)
  · skip
    have hv8 : vp_in (inP A B C i p) nn := (hw i hi).2.2.1 p (Nat.lt_of_lt_of_le h9 (depN_le _))
    have hg8 : cm (inP A B C i p).toNatClampNeg ≤ 3 := hcm _ (vp_lt hv8)
    refine V_aload_n F 0 d_CS_inputAt_14 rfl rfl ?_
    refine V_get F 0 CI_CS 3 i_CS rfl rfl (by decide) m_191 rfl rfl d_CS_inputAt_15 ?_
    refine V_get F 8 CI_Nets 1 i_Nets rfl rfl (by decide) m_113 rfl rfl d_CS_inputAt_18 ?_
    refine V_aload_n F 0 d_CS_inputAt_21 rfl rfl ?_
    refine V_get F 0 CI_CS 0 i_CS rfl rfl (by decide) m_188 rfl rfl d_CS_inputAt_22 ?_
    refine V_iload_n F 1 d_CS_inputAt_25 rfl rfl ?_
    refine V_iload_n F 2 d_CS_inputAt_26 rfl rfl ?_
    refine V_callV_i (w1 := fun (u_ : Unit) => [(z0, .inr (CI_CS, [.ref c0, .ref t0, .ref u0, .ref m0, .ref l0, .ref d0, .ref p0, .int (bP bt), .int (nI sg)])), (c0, .inr (CI_Cells, [.ref c1, .ref c2, .ref c3, .ref c4, .ref c5, .ref c6, .int (nI n)])), (c1, .inl (cI, 60, .inl (cN k))), (c2, .inl (cI, 60, .inl (cN o))), (c3, .inl (cI, 60, .inl A)), (c4, .inl (cI, 60, .inl B)), (c5, .inl (cI, 60, .inl C)), (c6, .inl (cI, 60, .inl (cN q))), (m0, .inr (CI_Nets, [.ref m1, .ref m2, .ref m3, .ref m4, .int (nI nn)])), (m2, .inl (cI, 80, .inl (cN cm)))]) (wr := [(z0, .inr (CI_CS, [.ref c0, .ref t0, .ref u0, .ref m0, .ref l0, .ref d0, .ref p0, .int (bP bt), .int (nI sg)])), (m0, .inr (CI_Nets, [.ref m1, .ref m2, .ref m3, .ref m4, .int (nI nn)])), (m2, .inl (cI, 80, .inl (cN cm)))]) (isC := [1, 2, 3, 4, 5, 6, 7]) (isR := [0, 8, 9]) (pm := [0, 3, 4, 5, 6, 7, 8, 9, 1, 2]) (As := [.int (nI i), .int (nI p)]) (rest := [.ref m2]) F (c_Cells_input l D cI cL cB c0 c1 c2 c3 c4 c5 c6 60 n k o q A B C i p (by omega) (by omega) (by omega) (by omega)) (cS_V 2 F.ts m_256 m_257 m_258 m_36 m_259 (by decide +kernel) ⟨Nat.le_of_ble_eq_true rfl, Nat.le_of_ble_eq_true rfl⟩) (ci := CI_Cells) (q0 := 0) rfl rfl rfl (Nat.le_of_ble_eq_true rfl) d_CS_inputAt_27 ⟨Nat.le_of_ble_eq_true rfl, Nat.le_of_ble_eq_true rfl⟩ ⟨rfl, rfl, rfl, rfl, rfl, fun _ => rfl, rfl⟩ (fun r27 uu27 q27_ => ?_) rfl
    subst q27_
    refine V_ialdN F 9 0 rfl rfl (vin_mono hv8 hnn) d_CS_inputAt_30 ?_
    refine V_callS_i (w1 := fun (u_ : Unit) => [(z0, .inr (CI_CS, [.ref c0, .ref t0, .ref u0, .ref m0, .ref l0, .ref d0, .ref p0, .int (bP bt), .int (nI sg)])), (c0, .inr (CI_Cells, [.ref c1, .ref c2, .ref c3, .ref c4, .ref c5, .ref c6, .int (nI n)])), (c1, .inl (cI, 60, .inl (cN k))), (c2, .inl (cI, 60, .inl (cN o))), (c3, .inl (cI, 60, .inl A)), (c4, .inl (cI, 60, .inl B)), (c5, .inl (cI, 60, .inl C)), (c6, .inl (cI, 60, .inl (cN q))), (m0, .inr (CI_Nets, [.ref m1, .ref m2, .ref m3, .ref m4, .int (nI nn)])), (m2, .inl (cI, 80, .inl (cN cm)))]) (wr := [(z0, .inr (CI_CS, [.ref c0, .ref t0, .ref u0, .ref m0, .ref l0, .ref d0, .ref p0, .int (bP bt), .int (nI sg)])), (c0, .inr (CI_Cells, [.ref c1, .ref c2, .ref c3, .ref c4, .ref c5, .ref c6, .int (nI n)])), (c1, .inl (cI, 60, .inl (cN k))), (c2, .inl (cI, 60, .inl (cN o))), (c3, .inl (cI, 60, .inl A)), (c4, .inl (cI, 60, .inl B)), (c5, .inl (cI, 60, .inl C)), (c6, .inl (cI, 60, .inl (cN q))), (m0, .inr (CI_Nets, [.ref m1, .ref m2, .ref m3, .ref m4, .int (nI nn)])), (m2, .inl (cI, 80, .inl (cN cm)))]) (isC := []) (isR := [0, 1, 2, 3, 4, 5, 6, 7, 8, 9]) (pm := [0, 1, 2, 3, 4, 5, 6, 7, 8, 9]) (As := [.int (nI (cm (inP A B C i p).toNatClampNeg))]) (rest := []) F (c_Logic_asInput l D cI cL cB (cm (inP A B C i p).toNatClampNeg) hg8) (cS_S 1 F.ts m_260 m_261 m_49 m_262 (by decide +kernel) ⟨Nat.le_of_ble_eq_true rfl, Nat.le_of_ble_eq_true rfl⟩) rfl (Nat.le_of_ble_eq_true rfl) d_CS_inputAt_31 ⟨Nat.le_of_ble_eq_true rfl, Nat.le_of_ble_eq_true rfl⟩ ⟨rfl, rfl, rfl, rfl, rfl, fun _ => rfl, rfl⟩ (fun r31 uu31 q31_ => ?_) rfl
    subst q31_
    exact V_iret F hr () (congrArg nI (by unfold inV; rw [if_pos h9]; rfl)) [0, 1, 2, 3, 4, 5, 6, 7, 8, 9] rfl rfl (by decide) (by decide) d_CS_inputAt_34
  · skip
    refine V_iconst F (v := 2) d_CS_inputAt_12 rfl ?_
    exact V_iret F hr () (congrArg nI (by unfold inV; rw [if_neg (by omega)])) [0, 1, 2, 3, 4, 5, 6, 7, 8, 9] rfl rfl (by decide) (by decide) d_CS_inputAt_13

set_option maxHeartbeats 4000000 in
set_option maxRecDepth 100000 in
theorem c_CS_driven (l : Launch) (D : va_G) (cI cL cB : ClassId) (z0 : Nat) (t0 : Nat) (u0 : Nat) (l0 : Nat) (d0 : Nat) (p0 : Nat) (bt : Prop) (sg : Nat) (c0 : Nat) (c1 : Nat) (c2 : Nat) (c3 : Nat) (c4 : Nat) (c5 : Nat) (c6 : Nat) (n : Nat) (k : Nat → Nat) (o : Nat → Nat) (q : Nat → Nat) (A : Nat → Int32) (B : Nat → Int32) (C : Nat → Int32) (m0 : Nat) (m1 : Nat) (m2 : Nat) (m3 : Nat) (m4 : Nat) (nn : Nat) (cm : Nat → Nat) (i : Nat) (hn : n ≤ 60) (hnn : nn ≤ 80) (hw : WfC nn n k o A B C) (hi : i < n) (hcm : ∀ j, j < nn → cm j ≤ 3) (hq : q i ≤ 3) : Cti l y_CS_driven (wK w_CS_driven) ({ frames := 3, cells := 0, slots := 0, locals := 64 }) D classes (TY cI cL cB) [.ref z0, .int (nI i)] [(z0, .inr (CI_CS, [.ref c0, .ref t0, .ref u0, .ref m0, .ref l0, .ref d0, .ref p0, .int (bP bt), .int (nI sg)])), (c0, .inr (CI_Cells, [.ref c1, .ref c2, .ref c3, .ref c4, .ref c5, .ref c6, .int (nI n)])), (c1, .inl (cI, 60, .inl (cN k))), (c2, .inl (cI, 60, .inl (cN o))), (c3, .inl (cI, 60, .inl A)), (c4, .inl (cI, 60, .inl B)), (c5, .inl (cI, 60, .inl C)), (c6, .inl (cI, 60, .inl (cN q))), (m0, .inr (CI_Nets, [.ref m1, .ref m2, .ref m3, .ref m4, .int (nI nn)])), (m2, .inl (cI, 80, .inl (cN cm)))] (fun (r : Int32) (u_ : (Nat → Nat)) => r = nI (evc k A B C q cm i) ∧ (u_ = if k i = 7 then up q i (evc k A B C q cm i) else q)) (fun (u_ : (Nat → Nat)) => [(z0, .inr (CI_CS, [.ref c0, .ref t0, .ref u0, .ref m0, .ref l0, .ref d0, .ref p0, .int (bP bt), .int (nI sg)])), (c0, .inr (CI_Cells, [.ref c1, .ref c2, .ref c3, .ref c4, .ref c5, .ref c6, .int (nI n)])), (c1, .inl (cI, 60, .inl (cN k))), (c2, .inl (cI, 60, .inl (cN o))), (c3, .inl (cI, 60, .inl A)), (c4, .inl (cI, 60, .inl B)), (c5, .inl (cI, 60, .inl C)), (c6, .inl (cI, 60, .inl (cN u_))), (m0, .inr (CI_Nets, [.ref m1, .ref m2, .ref m3, .ref m4, .int (nI nn)])), (m2, .inl (cI, 80, .inl (cN cm)))]) 0 0 := by
  refine Ctg_of (cc := prog_1_method_21_code) (maxL := 4) (ret := (some .int)) "CircuitSimulator" [(0, .ref z0), (1, .int (nI i))] (by decide) rfl rfl (Nat.le_of_ble_eq_true rfl) rfl ?_
  intro p_ e_ s_ m_ args_ below_ meth_ c_ A_ F hr hin
  have hk8 := (hw i hi).1
  refine V_aload_n F 0 d_CS_driven_0 rfl rfl ?_
  refine V_iload_n F 1 d_CS_driven_1 rfl rfl ?_
  refine V_iconst F (v := 0) d_CS_driven_2 rfl ?_
  refine V_callV_i (w1 := fun (u_ : Unit) => [(z0, .inr (CI_CS, [.ref c0, .ref t0, .ref u0, .ref m0, .ref l0, .ref d0, .ref p0, .int (bP bt), .int (nI sg)])), (c0, .inr (CI_Cells, [.ref c1, .ref c2, .ref c3, .ref c4, .ref c5, .ref c6, .int (nI n)])), (c1, .inl (cI, 60, .inl (cN k))), (c2, .inl (cI, 60, .inl (cN o))), (c3, .inl (cI, 60, .inl A)), (c4, .inl (cI, 60, .inl B)), (c5, .inl (cI, 60, .inl C)), (c6, .inl (cI, 60, .inl (cN q))), (m0, .inr (CI_Nets, [.ref m1, .ref m2, .ref m3, .ref m4, .int (nI nn)])), (m2, .inl (cI, 80, .inl (cN cm)))]) (wr := []) (isC := [0, 1, 2, 3, 4, 5, 6, 7, 8, 9]) (isR := []) (pm := [0, 1, 2, 3, 4, 5, 6, 7, 8, 9]) (As := [.int (nI i), .int 0]) (rest := []) F (c_CS_inputAt l D cI cL cB z0 t0 u0 l0 d0 p0 bt sg c0 c1 c2 c3 c4 c5 c6 n k o q A B C m0 m1 m2 m3 m4 nn cm i 0 (by first | assumption | omega | (simp only [] at *; omega)) (by first | assumption | omega | (simp only [] at *; omega)) (by first | assumption | omega | (simp only [] at *; omega)) (by first | assumption | omega | (simp only [] at *; omega)) (by first | assumption | omega | (simp only [] at *; omega)) (by first | assumption | omega | (simp only [] at *; omega))) (cS_V 2 F.ts m_245 m_246 m_3 m_35 m_247 (by decide +kernel) ⟨Nat.le_of_ble_eq_true rfl, Nat.le_of_ble_eq_true rfl⟩) (ci := CI_CS) (q0 := 0) rfl rfl rfl (Nat.le_of_ble_eq_true rfl) d_CS_driven_3 ⟨Nat.le_of_ble_eq_true rfl, Nat.le_of_ble_eq_true rfl⟩ ⟨rfl, rfl, rfl, rfl, rfl, fun _ => rfl, rfl⟩ (fun r3 uu3 q3_ => ?_) rfl
  subst q3_
  refine V_istore_n F (lv' := [(2, .int (nI (inV k A B C cm i 0))), (0, .ref z0), (1, .int (nI i))]) d_CS_driven_6 rfl (by decide) rfl ?_
  refine V_aload_n F 1 d_CS_driven_7 rfl rfl ?_
  refine V_iload_n F 2 d_CS_driven_8 rfl rfl ?_
  refine V_iconst F (v := 1) d_CS_driven_9 rfl ?_
  refine V_callV_i (w1 := fun (u_ : Unit) => [(z0, .inr (CI_CS, [.ref c0, .ref t0, .ref u0, .ref m0, .ref l0, .ref d0, .ref p0, .int (bP bt), .int (nI sg)])), (c0, .inr (CI_Cells, [.ref c1, .ref c2, .ref c3, .ref c4, .ref c5, .ref c6, .int (nI n)])), (c1, .inl (cI, 60, .inl (cN k))), (c2, .inl (cI, 60, .inl (cN o))), (c3, .inl (cI, 60, .inl A)), (c4, .inl (cI, 60, .inl B)), (c5, .inl (cI, 60, .inl C)), (c6, .inl (cI, 60, .inl (cN q))), (m0, .inr (CI_Nets, [.ref m1, .ref m2, .ref m3, .ref m4, .int (nI nn)])), (m2, .inl (cI, 80, .inl (cN cm)))]) (wr := []) (isC := [0, 1, 2, 3, 4, 5, 6, 7, 8, 9]) (isR := []) (pm := [0, 1, 2, 3, 4, 5, 6, 7, 8, 9]) (As := [.int (nI i), .int 1]) (rest := []) F (c_CS_inputAt l D cI cL cB z0 t0 u0 l0 d0 p0 bt sg c0 c1 c2 c3 c4 c5 c6 n k o q A B C m0 m1 m2 m3 m4 nn cm i 1 (by first | assumption | omega | (simp only [] at *; omega)) (by first | assumption | omega | (simp only [] at *; omega)) (by first | assumption | omega | (simp only [] at *; omega)) (by first | assumption | omega | (simp only [] at *; omega)) (by first | assumption | omega | (simp only [] at *; omega)) (by first | assumption | omega | (simp only [] at *; omega))) (cS_V 2 F.ts m_245 m_246 m_3 m_35 m_247 (by decide +kernel) ⟨Nat.le_of_ble_eq_true rfl, Nat.le_of_ble_eq_true rfl⟩) (ci := CI_CS) (q0 := 0) rfl rfl rfl (Nat.le_of_ble_eq_true rfl) d_CS_driven_10 ⟨Nat.le_of_ble_eq_true rfl, Nat.le_of_ble_eq_true rfl⟩ ⟨rfl, rfl, rfl, rfl, rfl, fun _ => rfl, rfl⟩ (fun r10 uu10 q10_ => ?_) rfl
  subst q10_
  refine V_istore_n F (lv' := [(3, .int (nI (inV k A B C cm i 1))), (2, .int (nI (inV k A B C cm i 0))), (0, .ref z0), (1, .int (nI i))]) d_CS_driven_13 rfl (by decide) rfl ?_
  have ha8 := inV_le (p := 0) hw hi hcm
  have hb8 := inV_le (p := 1) hw hi hcm
  refine V_aload_n F 2 d_CS_driven_14 rfl rfl ?_
  refine V_get F 0 CI_CS 0 i_CS rfl rfl (by decide) m_188 rfl rfl d_CS_driven_15 ?_
  refine V_get F 1 CI_Cells 0 i_Cells rfl rfl (by decide) m_67 rfl rfl d_CS_driven_18 ?_
  refine V_iload_n F 3 d_CS_driven_21 rfl rfl ?_
  refine V_ialdnN F 2 0 (k := i) rfl rfl (by omega) (by decide) d_CS_driven_22 ?_
  by_cases sw23 : k i < 1 ∨ 7 < k i
  · skip
    refine V_tableOut F 138 d_CS_driven_23 (by rw [nI_toInt (by omega)]; omega) (by decide) ?_
    refine V_aload_n F 2 d_CS_driven_138 rfl rfl ?_
    refine V_get F 0 CI_CS 0 i_CS rfl rfl (by decide) m_188 rfl rfl d_CS_driven_139 ?_
    refine V_get F 1 CI_Cells 5 i_Cells rfl rfl (by decide) m_79 rfl rfl d_CS_driven_142 ?_
    refine V_iload_n F 3 d_CS_driven_145 rfl rfl ?_
    refine V_ialdnN F 7 0 (k := i) rfl rfl (by omega) (by decide) d_CS_driven_146 ?_
    exact V_iret F hr q ⟨congrArg nI (evc_j.2.2.2.2.2.2.2 sw23), (if_neg (by omega)).symm⟩ [0, 1, 2, 3, 4, 5, 6, 7, 8, 9] rfl rfl (by decide) (by decide) d_CS_driven_147
  · skip
    have sw23c : k i = 1 ∨ k i = 2 ∨ k i = 3 ∨ k i = 4 ∨ k i = 5 ∨ k i = 6 ∨ k i = 7 := by omega
    rcases sw23c with sw23_1 | sw23_2 | sw23_3 | sw23_4 | sw23_5 | sw23_6 | sw23_7
    · skip
      refine V_top (y := 1) (congrArg nI sw23_1) ?_
      refine V_tableIn F 64 d_CS_driven_23 (by decide) (by decide) rfl (by decide) ?_
      refine V_iload_n F 1 d_CS_driven_64 rfl rfl ?_
      refine V_callS_i (w1 := fun (u_ : Unit) => [(z0, .inr (CI_CS, [.ref c0, .ref t0, .ref u0, .ref m0, .ref l0, .ref d0, .ref p0, .int (bP bt), .int (nI sg)])), (c0, .inr (CI_Cells, [.ref c1, .ref c2, .ref c3, .ref c4, .ref c5, .ref c6, .int (nI n)])), (c1, .inl (cI, 60, .inl (cN k))), (c2, .inl (cI, 60, .inl (cN o))), (c3, .inl (cI, 60, .inl A)), (c4, .inl (cI, 60, .inl B)), (c5, .inl (cI, 60, .inl C)), (c6, .inl (cI, 60, .inl (cN q))), (m0, .inr (CI_Nets, [.ref m1, .ref m2, .ref m3, .ref m4, .int (nI nn)])), (m2, .inl (cI, 80, .inl (cN cm)))]) (wr := [(z0, .inr (CI_CS, [.ref c0, .ref t0, .ref u0, .ref m0, .ref l0, .ref d0, .ref p0, .int (bP bt), .int (nI sg)])), (c0, .inr (CI_Cells, [.ref c1, .ref c2, .ref c3, .ref c4, .ref c5, .ref c6, .int (nI n)])), (c1, .inl (cI, 60, .inl (cN k))), (c2, .inl (cI, 60, .inl (cN o))), (c3, .inl (cI, 60, .inl A)), (c4, .inl (cI, 60, .inl B)), (c5, .inl (cI, 60, .inl C)), (c6, .inl (cI, 60, .inl (cN q))), (m0, .inr (CI_Nets, [.ref m1, .ref m2, .ref m3, .ref m4, .int (nI nn)])), (m2, .inl (cI, 80, .inl (cN cm)))]) (isC := []) (isR := [0, 1, 2, 3, 4, 5, 6, 7, 8, 9]) (pm := [0, 1, 2, 3, 4, 5, 6, 7, 8, 9]) (As := [.int (nI (inV k A B C cm i 0))]) (rest := []) F (c_Logic_not l D cI cL cB (inV k A B C cm i 0) (by first | assumption | omega | (simp only [] at *; omega))) (cS_S 1 F.ts m_263 m_264 m_49 m_265 (by decide +kernel) ⟨Nat.le_of_ble_eq_true rfl, Nat.le_of_ble_eq_true rfl⟩) rfl (Nat.le_of_ble_eq_true rfl) d_CS_driven_65 ⟨Nat.le_of_ble_eq_true rfl, Nat.le_of_ble_eq_true rfl⟩ ⟨rfl, rfl, rfl, rfl, rfl, fun _ => rfl, rfl⟩ (fun r65 uu65 q65_ => ?_) rfl
      subst q65_
      exact V_iret F hr q ⟨congrArg nI (evc_j.1 sw23_1), (if_neg (by omega)).symm⟩ [0, 1, 2, 3, 4, 5, 6, 7, 8, 9] rfl rfl (by decide) (by decide) d_CS_driven_68
    · skip
      refine V_top (y := 2) (congrArg nI sw23_2) ?_
      refine V_tableIn F 69 d_CS_driven_23 (by decide) (by decide) rfl (by decide) ?_
      refine V_iload_n F 1 d_CS_driven_69 rfl rfl ?_
      refine V_iload_n F 0 d_CS_driven_70 rfl rfl ?_
      refine V_callS_i (w1 := fun (u_ : Unit) => [(z0, .inr (CI_CS, [.ref c0, .ref t0, .ref u0, .ref m0, .ref l0, .ref d0, .ref p0, .int (bP bt), .int (nI sg)])), (c0, .inr (CI_Cells, [.ref c1, .ref c2, .ref c3, .ref c4, .ref c5, .ref c6, .int (nI n)])), (c1, .inl (cI, 60, .inl (cN k))), (c2, .inl (cI, 60, .inl (cN o))), (c3, .inl (cI, 60, .inl A)), (c4, .inl (cI, 60, .inl B)), (c5, .inl (cI, 60, .inl C)), (c6, .inl (cI, 60, .inl (cN q))), (m0, .inr (CI_Nets, [.ref m1, .ref m2, .ref m3, .ref m4, .int (nI nn)])), (m2, .inl (cI, 80, .inl (cN cm)))]) (wr := [(z0, .inr (CI_CS, [.ref c0, .ref t0, .ref u0, .ref m0, .ref l0, .ref d0, .ref p0, .int (bP bt), .int (nI sg)])), (c0, .inr (CI_Cells, [.ref c1, .ref c2, .ref c3, .ref c4, .ref c5, .ref c6, .int (nI n)])), (c1, .inl (cI, 60, .inl (cN k))), (c2, .inl (cI, 60, .inl (cN o))), (c3, .inl (cI, 60, .inl A)), (c4, .inl (cI, 60, .inl B)), (c5, .inl (cI, 60, .inl C)), (c6, .inl (cI, 60, .inl (cN q))), (m0, .inr (CI_Nets, [.ref m1, .ref m2, .ref m3, .ref m4, .int (nI nn)])), (m2, .inl (cI, 80, .inl (cN cm)))]) (isC := []) (isR := [0, 1, 2, 3, 4, 5, 6, 7, 8, 9]) (pm := [0, 1, 2, 3, 4, 5, 6, 7, 8, 9]) (As := [.int (nI (inV k A B C cm i 0)), .int (nI (inV k A B C cm i 1))]) (rest := []) F (c_Logic_and l D cI cL cB (inV k A B C cm i 0) (inV k A B C cm i 1) (by first | assumption | omega | (simp only [] at *; omega)) (by first | assumption | omega | (simp only [] at *; omega))) (cS_S 2 F.ts m_266 m_267 m_49 m_268 (by decide +kernel) ⟨Nat.le_of_ble_eq_true rfl, Nat.le_of_ble_eq_true rfl⟩) rfl (Nat.le_of_ble_eq_true rfl) d_CS_driven_71 ⟨Nat.le_of_ble_eq_true rfl, Nat.le_of_ble_eq_true rfl⟩ ⟨rfl, rfl, rfl, rfl, rfl, fun _ => rfl, rfl⟩ (fun r71 uu71 q71_ => ?_) rfl
      subst q71_
      exact V_iret F hr q ⟨congrArg nI (evc_j.2.1 sw23_2), (if_neg (by omega)).symm⟩ [0, 1, 2, 3, 4, 5, 6, 7, 8, 9] rfl rfl (by decide) (by decide) d_CS_driven_74
    · skip
      refine V_top (y := 3) (congrArg nI sw23_3) ?_
      refine V_tableIn F 75 d_CS_driven_23 (by decide) (by decide) rfl (by decide) ?_
      refine V_iload_n F 1 d_CS_driven_75 rfl rfl ?_
      refine V_iload_n F 0 d_CS_driven_76 rfl rfl ?_
      refine V_callS_i (w1 := fun (u_ : Unit) => [(z0, .inr (CI_CS, [.ref c0, .ref t0, .ref u0, .ref m0, .ref l0, .ref d0, .ref p0, .int (bP bt), .int (nI sg)])), (c0, .inr (CI_Cells, [.ref c1, .ref c2, .ref c3, .ref c4, .ref c5, .ref c6, .int (nI n)])), (c1, .inl (cI, 60, .inl (cN k))), (c2, .inl (cI, 60, .inl (cN o))), (c3, .inl (cI, 60, .inl A)), (c4, .inl (cI, 60, .inl B)), (c5, .inl (cI, 60, .inl C)), (c6, .inl (cI, 60, .inl (cN q))), (m0, .inr (CI_Nets, [.ref m1, .ref m2, .ref m3, .ref m4, .int (nI nn)])), (m2, .inl (cI, 80, .inl (cN cm)))]) (wr := [(z0, .inr (CI_CS, [.ref c0, .ref t0, .ref u0, .ref m0, .ref l0, .ref d0, .ref p0, .int (bP bt), .int (nI sg)])), (c0, .inr (CI_Cells, [.ref c1, .ref c2, .ref c3, .ref c4, .ref c5, .ref c6, .int (nI n)])), (c1, .inl (cI, 60, .inl (cN k))), (c2, .inl (cI, 60, .inl (cN o))), (c3, .inl (cI, 60, .inl A)), (c4, .inl (cI, 60, .inl B)), (c5, .inl (cI, 60, .inl C)), (c6, .inl (cI, 60, .inl (cN q))), (m0, .inr (CI_Nets, [.ref m1, .ref m2, .ref m3, .ref m4, .int (nI nn)])), (m2, .inl (cI, 80, .inl (cN cm)))]) (isC := []) (isR := [0, 1, 2, 3, 4, 5, 6, 7, 8, 9]) (pm := [0, 1, 2, 3, 4, 5, 6, 7, 8, 9]) (As := [.int (nI (inV k A B C cm i 0)), .int (nI (inV k A B C cm i 1))]) (rest := []) F (c_Logic_or l D cI cL cB (inV k A B C cm i 0) (inV k A B C cm i 1) (by first | assumption | omega | (simp only [] at *; omega)) (by first | assumption | omega | (simp only [] at *; omega))) (cS_S 2 F.ts m_269 m_270 m_49 m_271 (by decide +kernel) ⟨Nat.le_of_ble_eq_true rfl, Nat.le_of_ble_eq_true rfl⟩) rfl (Nat.le_of_ble_eq_true rfl) d_CS_driven_77 ⟨Nat.le_of_ble_eq_true rfl, Nat.le_of_ble_eq_true rfl⟩ ⟨rfl, rfl, rfl, rfl, rfl, fun _ => rfl, rfl⟩ (fun r77 uu77 q77_ => ?_) rfl
      subst q77_
      exact V_iret F hr q ⟨congrArg nI (evc_j.2.2.1 sw23_3), (if_neg (by omega)).symm⟩ [0, 1, 2, 3, 4, 5, 6, 7, 8, 9] rfl rfl (by decide) (by decide) d_CS_driven_80
    · skip
      refine V_top (y := 4) (congrArg nI sw23_4) ?_
      refine V_tableIn F 81 d_CS_driven_23 (by decide) (by decide) rfl (by decide) ?_
      refine V_iload_n F 1 d_CS_driven_81 rfl rfl ?_
      refine V_iload_n F 0 d_CS_driven_82 rfl rfl ?_
      refine V_callS_i (w1 := fun (u_ : Unit) => [(z0, .inr (CI_CS, [.ref c0, .ref t0, .ref u0, .ref m0, .ref l0, .ref d0, .ref p0, .int (bP bt), .int (nI sg)])), (c0, .inr (CI_Cells, [.ref c1, .ref c2, .ref c3, .ref c4, .ref c5, .ref c6, .int (nI n)])), (c1, .inl (cI, 60, .inl (cN k))), (c2, .inl (cI, 60, .inl (cN o))), (c3, .inl (cI, 60, .inl A)), (c4, .inl (cI, 60, .inl B)), (c5, .inl (cI, 60, .inl C)), (c6, .inl (cI, 60, .inl (cN q))), (m0, .inr (CI_Nets, [.ref m1, .ref m2, .ref m3, .ref m4, .int (nI nn)])), (m2, .inl (cI, 80, .inl (cN cm)))]) (wr := [(z0, .inr (CI_CS, [.ref c0, .ref t0, .ref u0, .ref m0, .ref l0, .ref d0, .ref p0, .int (bP bt), .int (nI sg)])), (c0, .inr (CI_Cells, [.ref c1, .ref c2, .ref c3, .ref c4, .ref c5, .ref c6, .int (nI n)])), (c1, .inl (cI, 60, .inl (cN k))), (c2, .inl (cI, 60, .inl (cN o))), (c3, .inl (cI, 60, .inl A)), (c4, .inl (cI, 60, .inl B)), (c5, .inl (cI, 60, .inl C)), (c6, .inl (cI, 60, .inl (cN q))), (m0, .inr (CI_Nets, [.ref m1, .ref m2, .ref m3, .ref m4, .int (nI nn)])), (m2, .inl (cI, 80, .inl (cN cm)))]) (isC := []) (isR := [0, 1, 2, 3, 4, 5, 6, 7, 8, 9]) (pm := [0, 1, 2, 3, 4, 5, 6, 7, 8, 9]) (As := [.int (nI (inV k A B C cm i 0)), .int (nI (inV k A B C cm i 1))]) (rest := []) F (c_Logic_xor l D cI cL cB (inV k A B C cm i 0) (inV k A B C cm i 1) (by first | assumption | omega | (simp only [] at *; omega)) (by first | assumption | omega | (simp only [] at *; omega))) (cS_S 2 F.ts m_272 m_273 m_49 m_274 (by decide +kernel) ⟨Nat.le_of_ble_eq_true rfl, Nat.le_of_ble_eq_true rfl⟩) rfl (Nat.le_of_ble_eq_true rfl) d_CS_driven_83 ⟨Nat.le_of_ble_eq_true rfl, Nat.le_of_ble_eq_true rfl⟩ ⟨rfl, rfl, rfl, rfl, rfl, fun _ => rfl, rfl⟩ (fun r83 uu83 q83_ => ?_) rfl
      subst q83_
      exact V_iret F hr q ⟨congrArg nI (evc_j.2.2.2.1 sw23_4), (if_neg (by omega)).symm⟩ [0, 1, 2, 3, 4, 5, 6, 7, 8, 9] rfl rfl (by decide) (by decide) d_CS_driven_86
    · skip
      refine V_top (y := 5) (congrArg nI sw23_5) ?_
      refine V_tableIn F 87 d_CS_driven_23 (by decide) (by decide) rfl (by decide) ?_
      refine V_iload_n F 1 d_CS_driven_87 rfl rfl ?_
      refine V_iload_n F 0 d_CS_driven_88 rfl rfl ?_
      refine V_aload_n F 2 d_CS_driven_89 rfl rfl ?_
      refine V_iload_n F 3 d_CS_driven_90 rfl rfl ?_
      refine V_iconst F (v := 2) d_CS_driven_91 rfl ?_
      refine V_callV_i (w1 := fun (u_ : Unit) => [(z0, .inr (CI_CS, [.ref c0, .ref t0, .ref u0, .ref m0, .ref l0, .ref d0, .ref p0, .int (bP bt), .int (nI sg)])), (c0, .inr (CI_Cells, [.ref c1, .ref c2, .ref c3, .ref c4, .ref c5, .ref c6, .int (nI n)])), (c1, .inl (cI, 60, .inl (cN k))), (c2, .inl (cI, 60, .inl (cN o))), (c3, .inl (cI, 60, .inl A)), (c4, .inl (cI, 60, .inl B)), (c5, .inl (cI, 60, .inl C)), (c6, .inl (cI, 60, .inl (cN q))), (m0, .inr (CI_Nets, [.ref m1, .ref m2, .ref m3, .ref m4, .int (nI nn)])), (m2, .inl (cI, 80, .inl (cN cm)))]) (wr := []) (isC := [0, 1, 2, 3, 4, 5, 6, 7, 8, 9]) (isR := []) (pm := [0, 1, 2, 3, 4, 5, 6, 7, 8, 9]) (As := [.int (nI i), .int 2]) (rest := [.int (nI (inV k A B C cm i 1)), .int (nI (inV k A B C cm i 0))]) F (c_CS_inputAt l D cI cL cB z0 t0 u0 l0 d0 p0 bt sg c0 c1 c2 c3 c4 c5 c6 n k o q A B C m0 m1 m2 m3 m4 nn cm i 2 (by first | assumption | omega | (simp only [] at *; omega)) (by first | assumption | omega | (simp only [] at *; omega)) (by first | assumption | omega | (simp only [] at *; omega)) (by first | assumption | omega | (simp only [] at *; omega)) (by first | assumption | omega | (simp only [] at *; omega)) (by first | assumption | omega | (simp only [] at *; omega))) (cS_V 2 F.ts m_245 m_246 m_3 m_35 m_247 (by decide +kernel) ⟨Nat.le_of_ble_eq_true rfl, Nat.le_of_ble_eq_true rfl⟩) (ci := CI_CS) (q0 := 0) rfl rfl rfl (Nat.le_of_ble_eq_true rfl) d_CS_driven_92 ⟨Nat.le_of_ble_eq_true rfl, Nat.le_of_ble_eq_true rfl⟩ ⟨rfl, rfl, rfl, rfl, rfl, fun _ => rfl, rfl⟩ (fun r92 uu92 q92_ => ?_) rfl
      subst q92_
      have hc8 := inV_le (p := 2) hw hi hcm
      refine V_callS_i (w1 := fun (u_ : Unit) => [(z0, .inr (CI_CS, [.ref c0, .ref t0, .ref u0, .ref m0, .ref l0, .ref d0, .ref p0, .int (bP bt), .int (nI sg)])), (c0, .inr (CI_Cells, [.ref c1, .ref c2, .ref c3, .ref c4, .ref c5, .ref c6, .int (nI n)])), (c1, .inl (cI, 60, .inl (cN k))), (c2, .inl (cI, 60, .inl (cN o))), (c3, .inl (cI, 60, .inl A)), (c4, .inl (cI, 60, .inl B)), (c5, .inl (cI, 60, .inl C)), (c6, .inl (cI, 60, .inl (cN q))), (m0, .inr (CI_Nets, [.ref m1, .ref m2, .ref m3, .ref m4, .int (nI nn)])), (m2, .inl (cI, 80, .inl (cN cm)))]) (wr := [(z0, .inr (CI_CS, [.ref c0, .ref t0, .ref u0, .ref m0, .ref l0, .ref d0, .ref p0, .int (bP bt), .int (nI sg)])), (c0, .inr (CI_Cells, [.ref c1, .ref c2, .ref c3, .ref c4, .ref c5, .ref c6, .int (nI n)])), (c1, .inl (cI, 60, .inl (cN k))), (c2, .inl (cI, 60, .inl (cN o))), (c3, .inl (cI, 60, .inl A)), (c4, .inl (cI, 60, .inl B)), (c5, .inl (cI, 60, .inl C)), (c6, .inl (cI, 60, .inl (cN q))), (m0, .inr (CI_Nets, [.ref m1, .ref m2, .ref m3, .ref m4, .int (nI nn)])), (m2, .inl (cI, 80, .inl (cN cm)))]) (isC := []) (isR := [0, 1, 2, 3, 4, 5, 6, 7, 8, 9]) (pm := [0, 1, 2, 3, 4, 5, 6, 7, 8, 9]) (As := [.int (nI (inV k A B C cm i 0)), .int (nI (inV k A B C cm i 1)), .int (nI (inV k A B C cm i 2))]) (rest := []) F (c_Logic_mux l D cI cL cB (inV k A B C cm i 0) (inV k A B C cm i 1) (inV k A B C cm i 2) (by first | assumption | omega | (simp only [] at *; omega)) (by first | assumption | omega | (simp only [] at *; omega)) (by first | assumption | omega | (simp only [] at *; omega))) (cS_S 3 F.ts m_275 m_276 m_49 m_277 (by decide +kernel) ⟨Nat.le_of_ble_eq_true rfl, Nat.le_of_ble_eq_true rfl⟩) rfl (Nat.le_of_ble_eq_true rfl) d_CS_driven_95 ⟨Nat.le_of_ble_eq_true rfl, Nat.le_of_ble_eq_true rfl⟩ ⟨rfl, rfl, rfl, rfl, rfl, fun _ => rfl, rfl⟩ (fun r95 uu95 q95_ => ?_) rfl
      subst q95_
      exact V_iret F hr q ⟨congrArg nI (evc_j.2.2.2.2.1 sw23_5), (if_neg (by omega)).symm⟩ [0, 1, 2, 3, 4, 5, 6, 7, 8, 9] rfl rfl (by decide) (by decide) d_CS_driven_98
    · skip
      refine V_top (y := 6) (congrArg nI sw23_6) ?_
      refine V_tableIn F 99 d_CS_driven_23 (by decide) (by decide) rfl (by decide) ?_
      refine V_iload_n F 1 d_CS_driven_99 rfl rfl ?_
      refine V_iload_n F 0 d_CS_driven_100 rfl rfl ?_
      refine V_callS_i (w1 := fun (u_ : Unit) => [(z0, .inr (CI_CS, [.ref c0, .ref t0, .ref u0, .ref m0, .ref l0, .ref d0, .ref p0, .int (bP bt), .int (nI sg)])), (c0, .inr (CI_Cells, [.ref c1, .ref c2, .ref c3, .ref c4, .ref c5, .ref c6, .int (nI n)])), (c1, .inl (cI, 60, .inl (cN k))), (c2, .inl (cI, 60, .inl (cN o))), (c3, .inl (cI, 60, .inl A)), (c4, .inl (cI, 60, .inl B)), (c5, .inl (cI, 60, .inl C)), (c6, .inl (cI, 60, .inl (cN q))), (m0, .inr (CI_Nets, [.ref m1, .ref m2, .ref m3, .ref m4, .int (nI nn)])), (m2, .inl (cI, 80, .inl (cN cm)))]) (wr := [(z0, .inr (CI_CS, [.ref c0, .ref t0, .ref u0, .ref m0, .ref l0, .ref d0, .ref p0, .int (bP bt), .int (nI sg)])), (c0, .inr (CI_Cells, [.ref c1, .ref c2, .ref c3, .ref c4, .ref c5, .ref c6, .int (nI n)])), (c1, .inl (cI, 60, .inl (cN k))), (c2, .inl (cI, 60, .inl (cN o))), (c3, .inl (cI, 60, .inl A)), (c4, .inl (cI, 60, .inl B)), (c5, .inl (cI, 60, .inl C)), (c6, .inl (cI, 60, .inl (cN q))), (m0, .inr (CI_Nets, [.ref m1, .ref m2, .ref m3, .ref m4, .int (nI nn)])), (m2, .inl (cI, 80, .inl (cN cm)))]) (isC := []) (isR := [0, 1, 2, 3, 4, 5, 6, 7, 8, 9]) (pm := [0, 1, 2, 3, 4, 5, 6, 7, 8, 9]) (As := [.int (nI (inV k A B C cm i 0)), .int (nI (inV k A B C cm i 1))]) (rest := []) F (c_Logic_tri l D cI cL cB (inV k A B C cm i 0) (inV k A B C cm i 1) (by first | assumption | omega | (simp only [] at *; omega)) (by first | assumption | omega | (simp only [] at *; omega))) (cS_S 2 F.ts m_278 m_279 m_49 m_280 (by decide +kernel) ⟨Nat.le_of_ble_eq_true rfl, Nat.le_of_ble_eq_true rfl⟩) rfl (Nat.le_of_ble_eq_true rfl) d_CS_driven_101 ⟨Nat.le_of_ble_eq_true rfl, Nat.le_of_ble_eq_true rfl⟩ ⟨rfl, rfl, rfl, rfl, rfl, fun _ => rfl, rfl⟩ (fun r101 uu101 q101_ => ?_) rfl
      subst q101_
      exact V_iret F hr q ⟨congrArg nI (evc_j.2.2.2.2.2.1 sw23_6), (if_neg (by omega)).symm⟩ [0, 1, 2, 3, 4, 5, 6, 7, 8, 9] rfl rfl (by decide) (by decide) d_CS_driven_104
    · skip
      refine V_top (y := 7) (congrArg nI sw23_7) ?_
      refine V_tableIn F 105 d_CS_driven_23 (by decide) (by decide) rfl (by decide) ?_
      refine V_aload_n F 2 d_CS_driven_105 rfl rfl ?_
      refine V_get F 0 CI_CS 0 i_CS rfl rfl (by decide) m_188 rfl rfl d_CS_driven_106 ?_
      refine V_get F 1 CI_Cells 5 i_Cells rfl rfl (by decide) m_79 rfl rfl d_CS_driven_109 ?_
      refine V_iload_n F 3 d_CS_driven_112 rfl rfl ?_
      refine V_iload_n F 1 d_CS_driven_113 rfl rfl ?_
      refine V_iload_n F 0 d_CS_driven_114 rfl rfl ?_
      refine V_aload_n F 2 d_CS_driven_115 rfl rfl ?_
      refine V_get F 0 CI_CS 0 i_CS rfl rfl (by decide) m_188 rfl rfl d_CS_driven_116 ?_
      refine V_get F 1 CI_Cells 5 i_Cells rfl rfl (by decide) m_79 rfl rfl d_CS_driven_119 ?_
      refine V_iload_n F 3 d_CS_driven_122 rfl rfl ?_
      refine V_ialdnN F 7 0 (k := i) rfl rfl (by omega) (by decide) d_CS_driven_123 ?_
      refine V_callS_i (w1 := fun (u_ : Unit) => [(z0, .inr (CI_CS, [.ref c0, .ref t0, .ref u0, .ref m0, .ref l0, .ref d0, .ref p0, .int (bP bt), .int (nI sg)])), (c0, .inr (CI_Cells, [.ref c1, .ref c2, .ref c3, .ref c4, .ref c5, .ref c6, .int (nI n)])), (c1, .inl (cI, 60, .inl (cN k))), (c2, .inl (cI, 60, .inl (cN o))), (c3, .inl (cI, 60, .inl A)), (c4, .inl (cI, 60, .inl B)), (c5, .inl (cI, 60, .inl C)), (c6, .inl (cI, 60, .inl (cN q))), (m0, .inr (CI_Nets, [.ref m1, .ref m2, .ref m3, .ref m4, .int (nI nn)])), (m2, .inl (cI, 80, .inl (cN cm)))]) (wr := [(z0, .inr (CI_CS, [.ref c0, .ref t0, .ref u0, .ref m0, .ref l0, .ref d0, .ref p0, .int (bP bt), .int (nI sg)])), (c0, .inr (CI_Cells, [.ref c1, .ref c2, .ref c3, .ref c4, .ref c5, .ref c6, .int (nI n)])), (c1, .inl (cI, 60, .inl (cN k))), (c2, .inl (cI, 60, .inl (cN o))), (c3, .inl (cI, 60, .inl A)), (c4, .inl (cI, 60, .inl B)), (c5, .inl (cI, 60, .inl C)), (c6, .inl (cI, 60, .inl (cN q))), (m0, .inr (CI_Nets, [.ref m1, .ref m2, .ref m3, .ref m4, .int (nI nn)])), (m2, .inl (cI, 80, .inl (cN cm)))]) (isC := []) (isR := [0, 1, 2, 3, 4, 5, 6, 7, 8, 9]) (pm := [0, 1, 2, 3, 4, 5, 6, 7, 8, 9]) (As := [.int (nI (inV k A B C cm i 0)), .int (nI (inV k A B C cm i 1)), .int (nI (q i))]) (rest := [.int (nI i), .ref c6]) F (c_Logic_latch l D cI cL cB (inV k A B C cm i 0) (inV k A B C cm i 1) (q i) (by first | assumption | omega | (simp only [] at *; omega)) (by first | assumption | omega | (simp only [] at *; omega)) (by first | assumption | omega | (simp only [] at *; omega))) (cS_S 3 F.ts m_281 m_282 m_49 m_283 (by decide +kernel) ⟨Nat.le_of_ble_eq_true rfl, Nat.le_of_ble_eq_true rfl⟩) rfl (Nat.le_of_ble_eq_true rfl) d_CS_driven_124 ⟨Nat.le_of_ble_eq_true rfl, Nat.le_of_ble_eq_true rfl⟩ ⟨rfl, rfl, rfl, rfl, rfl, fun _ => rfl, rfl⟩ (fun r124 uu124 q124_ => ?_) rfl
      subst q124_
      refine V_iastn F 7 0 (k := i) (w' := [(z0, .inr (CI_CS, [.ref c0, .ref t0, .ref u0, .ref m0, .ref l0, .ref d0, .ref p0, .int (bP bt), .int (nI sg)])), (c0, .inr (CI_Cells, [.ref c1, .ref c2, .ref c3, .ref c4, .ref c5, .ref c6, .int (nI n)])), (c1, .inl (cI, 60, .inl (cN k))), (c2, .inl (cI, 60, .inl (cN o))), (c3, .inl (cI, 60, .inl A)), (c4, .inl (cI, 60, .inl B)), (c5, .inl (cI, 60, .inl C)), (c6, .inl (cI, 60, .inl (cN (up q i (ev7 (inV k A B C cm i 0) (inV k A B C cm i 1) (q i)))))), (m0, .inr (CI_Nets, [.ref m1, .ref m2, .ref m3, .ref m4, .int (nI nn)])), (m2, .inl (cI, 80, .inl (cN cm)))]) rfl rfl (by omega) (by decide) (by rw [upd_cN] <;> rfl) d_CS_driven_127 ?_
      refine V_aload_n F 2 d_CS_driven_128 rfl rfl ?_
      refine V_get F 0 CI_CS 0 i_CS rfl rfl (by decide) m_188 rfl rfl d_CS_driven_129 ?_
      refine V_get F 1 CI_Cells 5 i_Cells rfl rfl (by decide) m_79 rfl rfl d_CS_driven_132 ?_
      refine V_iload_n F 3 d_CS_driven_135 rfl rfl ?_
      refine V_ialdnN F 7 0 (k := i) rfl rfl (by omega) (by decide) d_CS_driven_136 ?_
      refine V_top (y := nI (ev7 (inV k A B C cm i 0) (inV k A B C cm i 1) (q i))) (congrArg nI up_s) ?_
      exact V_iret F hr (up q i (ev7 (inV k A B C cm i 0) (inV k A B C cm i 1) (q i))) ⟨congrArg nI (evc_j.2.2.2.2.2.2.1 sw23_7), by rw [if_pos sw23_7, ← evc_j.2.2.2.2.2.2.1 sw23_7]⟩ [0, 1, 2, 3, 4, 5, 6, 7, 8, 9] rfl rfl (by decide) (by decide) d_CS_driven_137

set_option maxHeartbeats 4000000 in
set_option maxRecDepth 100000 in
theorem c_CS_settle (l : Launch) (D : va_G) (cI cL cB : ClassId) (z0 : Nat) (t0 : Nat) (u0 : Nat) (d0 : Nat) (p0 : Nat) (bt : Prop) (sg : Nat) (c0 : Nat) (c1 : Nat) (c2 : Nat) (c3 : Nat) (c4 : Nat) (c5 : Nat) (c6 : Nat) (n : Nat) (k : Nat → Nat) (o : Nat → Nat) (q : Nat → Nat) (A : Nat → Int32) (B : Nat → Int32) (C : Nat → Int32) (m0 : Nat) (m1 : Nat) (m2 : Nat) (m3 : Nat) (m4 : Nat) (nn : Nat) (v : Nat → Nat) (cm : Nat → Nat) (sk : Nat → Nat) (tn : Nat → Nat) (l0 : Nat) (l1 : Nat) (l2 : Nat) (l3 : Nat) (l4 : Nat) (gr : Nat) (oc : Nat) (od : Nat → Nat) (hn : n ≤ 60) (hnn : nn ≤ 80) (hw : WfC nn n k o A B C) (hT : Topo n k o A B C od) (hsk : ∀ j, j < nn → sk j ≤ 3) (hv : ∀ j, j < nn → v j ≤ 3) (hq : ∀ i, i < n → q i ≤ 3) : Ctv l y_CS_settle (wK w_CS_settle) ({ frames := 4, cells := 0, slots := 0, locals := 87 }) D classes (TY cI cL cB) [.ref z0] [(z0, .inr (CI_CS, [.ref c0, .ref t0, .ref u0, .ref m0, .ref l0, .ref d0, .ref p0, .int (bP bt), .int (nI sg)])), (c0, .inr (CI_Cells, [.ref c1, .ref c2, .ref c3, .ref c4, .ref c5, .ref c6, .int (nI n)])), (c1, .inl (cI, 60, .inl (cN k))), (c2, .inl (cI, 60, .inl (cN o))), (c3, .inl (cI, 60, .inl A)), (c4, .inl (cI, 60, .inl B)), (c5, .inl (cI, 60, .inl C)), (c6, .inl (cI, 60, .inl (cN q))), (m0, .inr (CI_Nets, [.ref m1, .ref m2, .ref m3, .ref m4, .int (nI nn)])), (m1, .inl (cI, 80, .inl (cN v))), (m2, .inl (cI, 80, .inl (cN cm))), (m3, .inl (cI, 80, .inl (cS sk))), (m4, .inl (cI, 80, .inl (cN tn))), (l0, .inr (CI_Levels, [.ref l1, .ref l2, .int (nI gr), .ref l3, .ref l4, .int (nI oc)])), (l2, .inl (cI, 60, .inl (cN od)))] (fun (u_ : (Nat → Nat) × (Nat → Nat) × (Nat → Nat) × (Nat → Nat)) => SetP nn n k o A B C q sk v tn u_.1 u_.2.2.1 u_.2.2.2) (fun (u_ : (Nat → Nat) × (Nat → Nat) × (Nat → Nat) × (Nat → Nat)) => [(z0, .inr (CI_CS, [.ref c0, .ref t0, .ref u0, .ref m0, .ref l0, .ref d0, .ref p0, .int (bP bt), .int (nI (sg + 1))])), (c0, .inr (CI_Cells, [.ref c1, .ref c2, .ref c3, .ref c4, .ref c5, .ref c6, .int (nI n)])), (c1, .inl (cI, 60, .inl (cN k))), (c2, .inl (cI, 60, .inl (cN o))), (c3, .inl (cI, 60, .inl A)), (c4, .inl (cI, 60, .inl B)), (c5, .inl (cI, 60, .inl C)), (c6, .inl (cI, 60, .inl (cN u_.2.2.2))), (m0, .inr (CI_Nets, [.ref m1, .ref m2, .ref m3, .ref m4, .int (nI nn)])), (m1, .inl (cI, 80, .inl (cN u_.1))), (m2, .inl (cI, 80, .inl (cN u_.2.1))), (m3, .inl (cI, 80, .inl (cS sk))), (m4, .inl (cI, 80, .inl (cN u_.2.2.1))), (l0, .inr (CI_Levels, [.ref l1, .ref l2, .int (nI gr), .ref l3, .ref l4, .int (nI oc)])), (l2, .inl (cI, 60, .inl (cN od)))]) 0 0 := by
  refine Ctg_of (cc := prog_1_method_20_code) (maxL := 3) (ret := none) "CircuitSimulator" [(0, .ref z0)] (by decide) rfl rfl (Nat.le_of_ble_eq_true rfl) rfl ?_
  intro p_ e_ s_ m_ args_ below_ meth_ c_ A_ F hr hin
  refine V_aload_n F 0 d_CS_settle_0 rfl rfl ?_
  refine V_get F 0 CI_CS 3 i_CS rfl rfl (by decide) m_191 rfl rfl d_CS_settle_1 ?_
  refine V_callV_v (w1 := fun (u_ : (Nat → Nat)) => [(z0, .inr (CI_CS, [.ref c0, .ref t0, .ref u0, .ref m0, .ref l0, .ref d0, .ref p0, .int (bP bt), .int (nI sg)])), (c0, .inr (CI_Cells, [.ref c1, .ref c2, .ref c3, .ref c4, .ref c5, .ref c6, .int (nI n)])), (c1, .inl (cI, 60, .inl (cN k))), (c2, .inl (cI, 60, .inl (cN o))), (c3, .inl (cI, 60, .inl A)), (c4, .inl (cI, 60, .inl B)), (c5, .inl (cI, 60, .inl C)), (c6, .inl (cI, 60, .inl (cN q))), (m0, .inr (CI_Nets, [.ref m1, .ref m2, .ref m3, .ref m4, .int (nI nn)])), (m1, .inl (cI, 80, .inl (cN v))), (m2, .inl (cI, 80, .inl (cN u_))), (m3, .inl (cI, 80, .inl (cS sk))), (m4, .inl (cI, 80, .inl (cN tn))), (l0, .inr (CI_Levels, [.ref l1, .ref l2, .int (nI gr), .ref l3, .ref l4, .int (nI oc)])), (l2, .inl (cI, 60, .inl (cN od)))]) (wr := [(z0, .inr (CI_CS, [.ref c0, .ref t0, .ref u0, .ref m0, .ref l0, .ref d0, .ref p0, .int (bP bt), .int (nI sg)])), (c0, .inr (CI_Cells, [.ref c1, .ref c2, .ref c3, .ref c4, .ref c5, .ref c6, .int (nI n)])), (c1, .inl (cI, 60, .inl (cN k))), (c2, .inl (cI, 60, .inl (cN o))), (c3, .inl (cI, 60, .inl A)), (c4, .inl (cI, 60, .inl B)), (c5, .inl (cI, 60, .inl C)), (c6, .inl (cI, 60, .inl (cN q))), (l0, .inr (CI_Levels, [.ref l1, .ref l2, .int (nI gr), .ref l3, .ref l4, .int (nI oc)])), (l2, .inl (cI, 60, .inl (cN od)))]) (isC := [8, 9, 10, 11, 12]) (isR := [0, 1, 2, 3, 4, 5, 6, 7, 13, 14]) (pm := [0, 1, 2, 3, 4, 5, 6, 7, 10, 11, 12, 13, 14, 8, 9]) (As := []) (rest := []) F (c_Nets_beginSettling l D cI cL cB m0 m1 m2 m3 m4 nn v cm sk tn (by first | assumption | omega | (simp only [] at *; omega)) (by first | assumption | omega | (simp only [] at *; omega))) (cS_V 0 F.ts m_238 m_239 m_240 m_37 m_241 (by decide +kernel) ⟨Nat.le_of_ble_eq_true rfl, Nat.le_of_ble_eq_true rfl⟩) (ci := CI_Nets) (q0 := 0) rfl rfl rfl (Nat.le_of_ble_eq_true rfl) d_CS_settle_4 ⟨Nat.le_of_ble_eq_true rfl, Nat.le_of_ble_eq_true rfl⟩ ⟨rfl, rfl, rfl, rfl, rfl, fun _ => rfl, rfl⟩ (fun uu4 q4_ => ?_) rfl
  obtain ⟨cm2_4, rfl⟩ : ∃ z, z = uu4 := ⟨_, rfl⟩
  have e4 : ∀ j, j < nn → cm2_4 j = if sk j = 0 then 3 else sk j - 1 := q4_
  clear q4_
  refine V_iconst F (v := 0) d_CS_settle_7 rfl ?_
  refine V_istore_n F (lv' := [(1, .int (nI 0)), (0, .ref z0)]) d_CS_settle_8 rfl (by decide) rfl ?_
  have L9 : ∀ (f_ : Nat) (i : Nat) (cm3 : Nat → Nat) (q3 : Nat → Nat), n - i < f_ → (i ≤ n) → (SIv nn n k o A B C q sk od i cm3 q3) → V p_ l e_ ({ frames := 4, cells := 0, slots := 0, locals := 87 }) s_ m_ args_ below_ meth_ c_ A_ (MQ below_ (cQv D classes (fun (u_ : (Nat → Nat) × (Nat → Nat) × (Nat → Nat) × (Nat → Nat)) => SetP nn n k o A B C q sk v tn u_.1 u_.2.2.1 u_.2.2.2) (fun (u_ : (Nat → Nat) × (Nat → Nat) × (Nat → Nat) × (Nat → Nat)) => [(z0, .inr (CI_CS, [.ref c0, .ref t0, .ref u0, .ref m0, .ref l0, .ref d0, .ref p0, .int (bP bt), .int (nI (sg + 1))])), (c0, .inr (CI_Cells, [.ref c1, .ref c2, .ref c3, .ref c4, .ref c5, .ref c6, .int (nI n)])), (c1, .inl (cI, 60, .inl (cN k))), (c2, .inl (cI, 60, .inl (cN o))), (c3, .inl (cI, 60, .inl A)), (c4, .inl (cI, 60, .inl B)), (c5, .inl (cI, 60, .inl C)), (c6, .inl (cI, 60, .inl (cN u_.2.2.2))), (m0, .inr (CI_Nets, [.ref m1, .ref m2, .ref m3, .ref m4, .int (nI nn)])), (m1, .inl (cI, 80, .inl (cN u_.1))), (m2, .inl (cI, 80, .inl (cN u_.2.1))), (m3, .inl (cI, 80, .inl (cS sk))), (m4, .inl (cI, 80, .inl (cN u_.2.2.1))), (l0, .inr (CI_Levels, [.ref l1, .ref l2, .int (nI gr), .ref l3, .ref l4, .int (nI oc)])), (l2, .inl (cI, 60, .inl (cN od)))]) A_) args_ s_ 0 0 A_) D classes 3 0 0 [(z0, .inr (CI_CS, [.ref c0, .ref t0, .ref u0, .ref m0, .ref l0, .ref d0, .ref p0, .int (bP bt), .int (nI sg)])), (c0, .inr (CI_Cells, [.ref c1, .ref c2, .ref c3, .ref c4, .ref c5, .ref c6, .int (nI n)])), (c1, .inl (cI, 60, .inl (cN k))), (c2, .inl (cI, 60, .inl (cN o))), (c3, .inl (cI, 60, .inl A)), (c4, .inl (cI, 60, .inl B)), (c5, .inl (cI, 60, .inl C)), (c6, .inl (cI, 60, .inl (cN q3))), (m0, .inr (CI_Nets, [.ref m1, .ref m2, .ref m3, .ref m4, .int (nI nn)])), (m1, .inl (cI, 80, .inl (cN v))), (m2, .inl (cI, 80, .inl (cN cm3))), (m3, .inl (cI, 80, .inl (cS sk))), (m4, .inl (cI, 80, .inl (cN tn))), (l0, .inr (CI_Levels, [.ref l1, .ref l2, .int (nI gr), .ref l3, .ref l4, .int (nI oc)])), (l2, .inl (cI, 60, .inl (cN od)))] 9 [(0, .ref z0), (1, .int (nI i))] [] := by
    intro f_
    induction f_ with
    | zero => intro i cm3 q3 hm_; exact absurd hm_ (Nat.not_lt_zero _)
    | succ f_ ih9 =>
      intro i cm3 q3 hm9 hi hI
      refine V_iload_n F 1 d_CS_settle_9 rfl rfl ?_
      refine V_aload_n F 0 d_CS_settle_10 rfl rfl ?_
      refine V_get F 0 CI_CS 0 i_CS rfl rfl (by decide) m_188 rfl rfl d_CS_settle_11 ?_
      refine V_get F 1 CI_Cells 6 i_Cells rfl rfl (by decide) m_82 rfl rfl d_CS_settle_14 ?_
      refine V_icmpn_ge F 57 (a := i) (b := n) (by omega) (by omega) d_CS_settle_17 (by decide) (fun h17 => ?_) (fun h17 => ?_)
      · skip
        have e17 : i = n := by omega
        rw [e17] at hI
        refine V_aload_n F 0 d_CS_settle_57 rfl rfl ?_
        refine V_get F 0 CI_CS 3 i_CS rfl rfl (by decide) m_191 rfl rfl d_CS_settle_58 ?_
        refine V_callV_v (w1 := fun (u_ : (Nat → Nat) × (Nat → Nat)) => [(z0, .inr (CI_CS, [.ref c0, .ref t0, .ref u0, .ref m0, .ref l0, .ref d0, .ref p0, .int (bP bt), .int (nI sg)])), (c0, .inr (CI_Cells, [.ref c1, .ref c2, .ref c3, .ref c4, .ref c5, .ref c6, .int (nI n)])), (c1, .inl (cI, 60, .inl (cN k))), (c2, .inl (cI, 60, .inl (cN o))), (c3, .inl (cI, 60, .inl A)), (c4, .inl (cI, 60, .inl B)), (c5, .inl (cI, 60, .inl C)), (c6, .inl (cI, 60, .inl (cN q3))), (m0, .inr (CI_Nets, [.ref m1, .ref m2, .ref m3, .ref m4, .int (nI nn)])), (m1, .inl (cI, 80, .inl (cN u_.1))), (m2, .inl (cI, 80, .inl (cN cm3))), (m3, .inl (cI, 80, .inl (cS sk))), (m4, .inl (cI, 80, .inl (cN u_.2))), (l0, .inr (CI_Levels, [.ref l1, .ref l2, .int (nI gr), .ref l3, .ref l4, .int (nI oc)])), (l2, .inl (cI, 60, .inl (cN od)))]) (wr := [(z0, .inr (CI_CS, [.ref c0, .ref t0, .ref u0, .ref m0, .ref l0, .ref d0, .ref p0, .int (bP bt), .int (nI sg)])), (c0, .inr (CI_Cells, [.ref c1, .ref c2, .ref c3, .ref c4, .ref c5, .ref c6, .int (nI n)])), (c1, .inl (cI, 60, .inl (cN k))), (c2, .inl (cI, 60, .inl (cN o))), (c3, .inl (cI, 60, .inl A)), (c4, .inl (cI, 60, .inl B)), (c5, .inl (cI, 60, .inl C)), (c6, .inl (cI, 60, .inl (cN q3))), (l0, .inr (CI_Levels, [.ref l1, .ref l2, .int (nI gr), .ref l3, .ref l4, .int (nI oc)])), (l2, .inl (cI, 60, .inl (cN od)))]) (isC := [8, 9, 10, 11, 12]) (isR := [0, 1, 2, 3, 4, 5, 6, 7, 13, 14]) (pm := [0, 1, 2, 3, 4, 5, 6, 7, 10, 11, 12, 13, 14, 8, 9]) (As := []) (rest := []) F (c_Nets_endSettling l D cI cL cB m0 m1 m2 m3 m4 nn v cm3 sk tn (by first | assumption | omega | (simp only [] at *; omega)) (by first | assumption | omega | (simp only [] at *; omega)) hI.le3) (cS_V 0 F.ts m_291 m_292 m_293 m_37 m_294 (by decide +kernel) ⟨Nat.le_of_ble_eq_true rfl, Nat.le_of_ble_eq_true rfl⟩) (ci := CI_Nets) (q0 := 0) rfl rfl rfl (Nat.le_of_ble_eq_true rfl) d_CS_settle_61 ⟨Nat.le_of_ble_eq_true rfl, Nat.le_of_ble_eq_true rfl⟩ ⟨rfl, rfl, rfl, rfl, rfl, fun _ => rfl, rfl⟩ (fun uu61 q61_ => ?_) rfl
        obtain ⟨v2_61, tn2_61⟩ := uu61
        have e61 : (∀ j, v2_61 j = if j < nn then cm3 j else v j) ∧ (∀ j, tn2_61 j = if j < nn then tn j + tnF (v j) (cm3 j) else tn j) := q61_
        clear q61_
        refine V_cast (w' := [(z0, .inr (CI_CS, [.ref c0, .ref t0, .ref u0, .ref m0, .ref l0, .ref d0, .ref p0, .int (bP bt), .int (nI sg)])), (c0, .inr (CI_Cells, [.ref c1, .ref c2, .ref c3, .ref c4, .ref c5, .ref c6, .int (nI n)])), (c1, .inl (cI, 60, .inl (cN k))), (c2, .inl (cI, 60, .inl (cN o))), (c3, .inl (cI, 60, .inl A)), (c4, .inl (cI, 60, .inl B)), (c5, .inl (cI, 60, .inl C)), (c6, .inl (cI, 60, .inl (cN q3))), (m0, .inr (CI_Nets, [.ref m1, .ref m2, .ref m3, .ref m4, .int (nI nn)])), (m1, .inl (cI, 80, .inl (cN v2_61))), (m2, .inl (cI, 80, .inl (cN cm3))), (m3, .inl (cI, 80, .inl (cS sk))), (m4, .inl (cI, 80, .inl (cN tn2_61))), (l0, .inr (CI_Levels, [.ref l1, .ref l2, .int (nI gr), .ref l3, .ref l4, .int (nI oc)])), (l2, .inl (cI, 60, .inl (cN od)))]) rfl rfl rfl ?_
        refine V_aload_n F 0 d_CS_settle_64 rfl rfl ?_
        refine V_dup F d_CS_settle_65 rfl ?_
        refine V_get F 0 CI_CS 8 i_CS rfl rfl (by decide) m_196 rfl rfl d_CS_settle_66 ?_
        refine V_iconst F (v := 1) d_CS_settle_69 rfl ?_
        refine V_iadd F d_CS_settle_70 ?_
        refine V_top (y := nI (sg + 1)) (nI_add _ _) ?_
        refine V_put F 0 CI_CS 8 (w' := [(z0, .inr (CI_CS, [.ref c0, .ref t0, .ref u0, .ref m0, .ref l0, .ref d0, .ref p0, .int (bP bt), .int (nI (sg + 1))])), (c0, .inr (CI_Cells, [.ref c1, .ref c2, .ref c3, .ref c4, .ref c5, .ref c6, .int (nI n)])), (c1, .inl (cI, 60, .inl (cN k))), (c2, .inl (cI, 60, .inl (cN o))), (c3, .inl (cI, 60, .inl A)), (c4, .inl (cI, 60, .inl B)), (c5, .inl (cI, 60, .inl C)), (c6, .inl (cI, 60, .inl (cN q3))), (m0, .inr (CI_Nets, [.ref m1, .ref m2, .ref m3, .ref m4, .int (nI nn)])), (m1, .inl (cI, 80, .inl (cN v2_61))), (m2, .inl (cI, 80, .inl (cN cm3))), (m3, .inl (cI, 80, .inl (cS sk))), (m4, .inl (cI, 80, .inl (cN tn2_61))), (l0, .inr (CI_Levels, [.ref l1, .ref l2, .int (nI gr), .ref l3, .ref l4, .int (nI oc)])), (l2, .inl (cI, 60, .inl (cN od)))]) t_CS tk_CS n_CS i_CS rfl rfl (by decide) m_196 rfl rfl rfl rfl (Nat.le_of_ble_eq_true rfl) rfl d_CS_settle_71 ?_
        exact V_vret F hr (v2_61, cm3, tn2_61, q3) (show SetP nn n k o A B C q sk v tn v2_61 tn2_61 q3 from (settle_done hw hI hT e61.1 e61.2)) [0, 1, 2, 3, 4, 5, 6, 7, 8, 9, 10, 11, 12, 13, 14] rfl rfl (by decide) (by decide) d_CS_settle_74
      · skip
        have ho8 := hT.1 i h17
        have hq8 : q3 (od i) ≤ 3 := by rw [hI.hd_same hT h17]; exact hq _ ho8
        have hw8 := hw _ ho8
        have hc8 := hI.le3 _ hw8.2.1
        have hs8 := hsk _ hw8.2.1
        refine V_aload_n F 0 d_CS_settle_20 rfl rfl ?_
        refine V_get F 0 CI_CS 4 i_CS rfl rfl (by decide) m_192 rfl rfl d_CS_settle_21 ?_
        refine V_get F 13 CI_Levels 1 i_Levels rfl rfl (by decide) m_139 rfl rfl d_CS_settle_24 ?_
        refine V_iload_n F 1 d_CS_settle_27 rfl rfl ?_
        refine V_ialdnN F 14 0 (k := i) rfl rfl (by omega) (by decide) d_CS_settle_28 ?_
        refine V_istore_n F (lv' := [(2, .int (nI (od i))), (0, .ref z0), (1, .int (nI i))]) d_CS_settle_29 rfl (by decide) rfl ?_
        refine V_aload_n F 1 d_CS_settle_30 rfl rfl ?_
        refine V_get F 0 CI_CS 3 i_CS rfl rfl (by decide) m_191 rfl rfl d_CS_settle_31 ?_
        refine V_aload_n F 1 d_CS_settle_34 rfl rfl ?_
        refine V_get F 0 CI_CS 0 i_CS rfl rfl (by decide) m_188 rfl rfl d_CS_settle_35 ?_
        refine V_get F 1 CI_Cells 1 i_Cells rfl rfl (by decide) m_72 rfl rfl d_CS_settle_38 ?_
        refine V_iload_n F 0 d_CS_settle_41 rfl rfl ?_
        refine V_ialdnN F 3 0 (k := od i) rfl rfl (by omega) (by decide) d_CS_settle_42 ?_
        refine V_aload_n F 1 d_CS_settle_43 rfl rfl ?_
        refine V_iload_n F 0 d_CS_settle_44 rfl rfl ?_
        refine V_callV_i (w1 := fun (u_ : (Nat → Nat)) => [(z0, .inr (CI_CS, [.ref c0, .ref t0, .ref u0, .ref m0, .ref l0, .ref d0, .ref p0, .int (bP bt), .int (nI sg)])), (c0, .inr (CI_Cells, [.ref c1, .ref c2, .ref c3, .ref c4, .ref c5, .ref c6, .int (nI n)])), (c1, .inl (cI, 60, .inl (cN k))), (c2, .inl (cI, 60, .inl (cN o))), (c3, .inl (cI, 60, .inl A)), (c4, .inl (cI, 60, .inl B)), (c5, .inl (cI, 60, .inl C)), (c6, .inl (cI, 60, .inl (cN u_))), (m0, .inr (CI_Nets, [.ref m1, .ref m2, .ref m3, .ref m4, .int (nI nn)])), (m1, .inl (cI, 80, .inl (cN v))), (m2, .inl (cI, 80, .inl (cN cm3))), (m3, .inl (cI, 80, .inl (cS sk))), (m4, .inl (cI, 80, .inl (cN tn))), (l0, .inr (CI_Levels, [.ref l1, .ref l2, .int (nI gr), .ref l3, .ref l4, .int (nI oc)])), (l2, .inl (cI, 60, .inl (cN od)))]) (wr := [(m1, .inl (cI, 80, .inl (cN v))), (m3, .inl (cI, 80, .inl (cS sk))), (m4, .inl (cI, 80, .inl (cN tn))), (l0, .inr (CI_Levels, [.ref l1, .ref l2, .int (nI gr), .ref l3, .ref l4, .int (nI oc)])), (l2, .inl (cI, 60, .inl (cN od)))]) (isC := [0, 1, 2, 3, 4, 5, 6, 7, 8, 10]) (isR := [9, 11, 12, 13, 14]) (pm := [5, 6, 7, 8, 9, 10, 11, 12, 13, 0, 14, 1, 2, 3, 4]) (As := [.int (nI (od i))]) (rest := [.int (nI (o (od i))), .ref m0]) F (c_CS_driven l D cI cL cB z0 t0 u0 l0 d0 p0 bt sg c0 c1 c2 c3 c4 c5 c6 n k o q3 A B C m0 m1 m2 m3 m4 nn cm3 (od i) (by first | assumption | omega | (simp only [] at *; omega)) (by first | assumption | omega | (simp only [] at *; omega)) (by first | assumption | omega | (simp only [] at *; omega)) ho8 hI.le3 hq8) (cS_V 1 F.ts m_242 m_243 m_2 m_35 m_244 (by decide +kernel) ⟨Nat.le_of_ble_eq_true rfl, Nat.le_of_ble_eq_true rfl⟩) (ci := CI_CS) (q0 := 0) rfl rfl rfl (Nat.le_of_ble_eq_true rfl) d_CS_settle_45 ⟨Nat.le_of_ble_eq_true rfl, Nat.le_of_ble_eq_true rfl⟩ ⟨rfl, rfl, rfl, rfl, rfl, fun _ => rfl, rfl⟩ (fun r45 uu45 q45_ => ?_) rfl
        obtain ⟨q2_45, rfl⟩ : ∃ z, z = uu45 := ⟨_, rfl⟩
        have e45 : r45 = nI (evc k A B C q3 cm3 (od i)) ∧ (q2_45 = if k (od i) = 7 then up q3 (od i) (evc k A B C q3 cm3 (od i)) else q3) := q45_
        clear q45_
        obtain ⟨er45, e45⟩ := e45
        subst er45
        refine V_callV_v (w1 := fun (u_ : (Nat → Nat)) => [(z0, .inr (CI_CS, [.ref c0, .ref t0, .ref u0, .ref m0, .ref l0, .ref d0, .ref p0, .int (bP bt), .int (nI sg)])), (c0, .inr (CI_Cells, [.ref c1, .ref c2, .ref c3, .ref c4, .ref c5, .ref c6, .int (nI n)])), (c1, .inl (cI, 60, .inl (cN k))), (c2, .inl (cI, 60, .inl (cN o))), (c3, .inl (cI, 60, .inl A)), (c4, .inl (cI, 60, .inl B)), (c5, .inl (cI, 60, .inl C)), (c6, .inl (cI, 60, .inl (cN q2_45))), (m0, .inr (CI_Nets, [.ref m1, .ref m2, .ref m3, .ref m4, .int (nI nn)])), (m1, .inl (cI, 80, .inl (cN v))), (m2, .inl (cI, 80, .inl (cN u_))), (m3, .inl (cI, 80, .inl (cS sk))), (m4, .inl (cI, 80, .inl (cN tn))), (l0, .inr (CI_Levels, [.ref l1, .ref l2, .int (nI gr), .ref l3, .ref l4, .int (nI oc)])), (l2, .inl (cI, 60, .inl (cN od)))]) (wr := [(z0, .inr (CI_CS, [.ref c0, .ref t0, .ref u0, .ref m0, .ref l0, .ref d0, .ref p0, .int (bP bt), .int (nI sg)])), (c0, .inr (CI_Cells, [.ref c1, .ref c2, .ref c3, .ref c4, .ref c5, .ref c6, .int (nI n)])), (c1, .inl (cI, 60, .inl (cN k))), (c2, .inl (cI, 60, .inl (cN o))), (c3, .inl (cI, 60, .inl A)), (c4, .inl (cI, 60, .inl B)), (c5, .inl (cI, 60, .inl C)), (c6, .inl (cI, 60, .inl (cN q2_45))), (l0, .inr (CI_Levels, [.ref l1, .ref l2, .int (nI gr), .ref l3, .ref l4, .int (nI oc)])), (l2, .inl (cI, 60, .inl (cN od)))]) (isC := [8, 9, 10, 11, 12]) (isR := [0, 1, 2, 3, 4, 5, 6, 7, 13, 14]) (pm := [0, 1, 2, 3, 4, 5, 6, 7, 10, 11, 12, 13, 14, 8, 9]) (As := [.int (nI (o (od i))), .int (nI (evc k A B C q3 cm3 (od i)))]) (rest := []) F (c_Nets_drive l D cI cL cB m0 m1 m2 m3 m4 nn v cm3 sk tn (o (od i)) (evc k A B C q3 cm3 (od i)) (by first | assumption | omega | (simp only [] at *; omega)) (by omega) hs8 hc8 (evc_le hw ho8 hI.le3 hq8)) (cS_V 2 F.ts m_284 m_285 m_286 m_37 m_287 (by decide +kernel) ⟨Nat.le_of_ble_eq_true rfl, Nat.le_of_ble_eq_true rfl⟩) (ci := CI_Nets) (q0 := 0) rfl rfl rfl (Nat.le_of_ble_eq_true rfl) d_CS_settle_48 ⟨Nat.le_of_ble_eq_true rfl, Nat.le_of_ble_eq_true rfl⟩ ⟨rfl, rfl, rfl, rfl, rfl, fun _ => rfl, rfl⟩ (fun uu48 q48_ => ?_) rfl
        obtain ⟨cm2_48, rfl⟩ : ∃ z, z = uu48 := ⟨_, rfl⟩
        have e48 : cm2_48 = if sk (o (od i)) = 0 then up cm3 (o (od i)) (jn (cm3 (o (od i))) (evc k A B C q3 cm3 (od i))) else cm3 := q48_
        clear q48_
        refine V_iinc F 2 (v := nI (i + 1)) (lv' := [(1, .int (nI (i + 1))), (2, .int (nI (od i))), (0, .ref z0)]) d_CS_settle_51 rfl (nI_inc _) (by decide) rfl ?_
        refine V_goto F 9 d_CS_settle_54 (by decide) ?_
        refine V_lv [2, 0] rfl ?_
        exact ih9 (i + 1) cm2_48 q2_45 (by omega) (by first | assumption | omega | (simp only [] at *; omega)) (by rw [e48, e45]; exact hI.step hT h17 (evc_le hw ho8 hI.le3 hq8))
  refine V_lv [1, 0] rfl ?_
  exact L9 ((n - 0) + 1) 0 cm2_4 q (Nat.lt_succ_self _) (by first | assumption | omega | (simp only [] at *; omega)) (SIv.start hsk e4)

set_option maxHeartbeats 4000000 in
set_option maxRecDepth 100000 in
theorem c_CS_settleIfBuilt (l : Launch) (D : va_G) (cI cL cB : ClassId) (z0 : Nat) (t0 : Nat) (u0 : Nat) (d0 : Nat) (p0 : Nat) (bt : Prop) (sg : Nat) (c0 : Nat) (c1 : Nat) (c2 : Nat) (c3 : Nat) (c4 : Nat) (c5 : Nat) (c6 : Nat) (n : Nat) (k : Nat → Nat) (o : Nat → Nat) (q : Nat → Nat) (A : Nat → Int32) (B : Nat → Int32) (C : Nat → Int32) (m0 : Nat) (m1 : Nat) (m2 : Nat) (m3 : Nat) (m4 : Nat) (nn : Nat) (v : Nat → Nat) (cm : Nat → Nat) (sk : Nat → Nat) (tn : Nat → Nat) (l0 : Nat) (l1 : Nat) (l2 : Nat) (l3 : Nat) (l4 : Nat) (gr : Nat) (oc : Nat) (od : Nat → Nat) (hn : n ≤ 60) (hnn : nn ≤ 80) (hw : WfC nn n k o A B C) (hT : bt → Topo n k o A B C od) (hsk : ∀ j, j < nn → sk j ≤ 3) (hv : ∀ j, j < nn → v j ≤ 3) (hq : ∀ i, i < n → q i ≤ 3) : Ctv l y_CS_settleIfBuilt (wK w_CS_settleIfBuilt) ({ frames := 5, cells := 0, slots := 0, locals := 109 }) D classes (TY cI cL cB) [.ref z0] [(z0, .inr (CI_CS, [.ref c0, .ref t0, .ref u0, .ref m0, .ref l0, .ref d0, .ref p0, .int (bP bt), .int (nI sg)])), (c0, .inr (CI_Cells, [.ref c1, .ref c2, .ref c3, .ref c4, .ref c5, .ref c6, .int (nI n)])), (c1, .inl (cI, 60, .inl (cN k))), (c2, .inl (cI, 60, .inl (cN o))), (c3, .inl (cI, 60, .inl A)), (c4, .inl (cI, 60, .inl B)), (c5, .inl (cI, 60, .inl C)), (c6, .inl (cI, 60, .inl (cN q))), (m0, .inr (CI_Nets, [.ref m1, .ref m2, .ref m3, .ref m4, .int (nI nn)])), (m1, .inl (cI, 80, .inl (cN v))), (m2, .inl (cI, 80, .inl (cN cm))), (m3, .inl (cI, 80, .inl (cS sk))), (m4, .inl (cI, 80, .inl (cN tn))), (l0, .inr (CI_Levels, [.ref l1, .ref l2, .int (nI gr), .ref l3, .ref l4, .int (nI oc)])), (l2, .inl (cI, 60, .inl (cN od)))] (fun (u_ : (Nat → Nat) × (Nat → Nat) × (Nat → Nat) × (Nat → Nat) × Nat) => (bt → SetP nn n k o A B C q sk v tn u_.1 u_.2.2.1 u_.2.2.2.1 ∧ u_.2.2.2.2 = sg + 1) ∧ (¬ bt → u_.1 = v ∧ u_.2.2.1 = tn ∧ u_.2.2.2.1 = q ∧ u_.2.2.2.2 = sg)) (fun (u_ : (Nat → Nat) × (Nat → Nat) × (Nat → Nat) × (Nat → Nat) × Nat) => [(z0, .inr (CI_CS, [.ref c0, .ref t0, .ref u0, .ref m0, .ref l0, .ref d0, .ref p0, .int (bP bt), .int (nI u_.2.2.2.2)])), (c0, .inr (CI_Cells, [.ref c1, .ref c2, .ref c3, .ref c4, .ref c5, .ref c6, .int (nI n)])), (c1, .inl (cI, 60, .inl (cN k))), (c2, .inl (cI, 60, .inl (cN o))), (c3, .inl (cI, 60, .inl A)), (c4, .inl (cI, 60, .inl B)), (c5, .inl (cI, 60, .inl C)), (c6, .inl (cI, 60, .inl (cN u_.2.2.2.1))), (m0, .inr (CI_Nets, [.ref m1, .ref m2, .ref m3, .ref m4, .int (nI nn)])), (m1, .inl (cI, 80, .inl (cN u_.1))), (m2, .inl (cI, 80, .inl (cN u_.2.1))), (m3, .inl (cI, 80, .inl (cS sk))), (m4, .inl (cI, 80, .inl (cN u_.2.2.1))), (l0, .inr (CI_Levels, [.ref l1, .ref l2, .int (nI gr), .ref l3, .ref l4, .int (nI oc)])), (l2, .inl (cI, 60, .inl (cN od)))]) 0 0 := by
  refine Ctg_of (cc := prog_1_method_19_code) (maxL := 1) (ret := none) "CircuitSimulator" [(0, .ref z0)] (by decide) rfl rfl (Nat.le_of_ble_eq_true rfl) rfl ?_
  intro p_ e_ s_ m_ args_ below_ meth_ c_ A_ F hr hin
  refine V_aload_n F 0 d_CS_settleIfBuilt_0 rfl rfl ?_
  refine V_get F 0 CI_CS 7 i_CS rfl rfl (by decide) m_195 rfl rfl d_CS_settleIfBuilt_1 ?_
  refine V_ifb_eq F 11 d_CS_settleIfBuilt_4 (by decide) (fun h4 => ?_) (fun h4 => ?_)
  · skip
    exact V_vret F hr (v, cm, tn, q, sg) (show (bt → SetP nn n k o A B C q sk v tn v tn q ∧ sg = sg + 1) ∧ (¬ bt → v = v ∧ tn = tn ∧ q = q ∧ sg = sg) from ⟨fun z => absurd z h4, fun _ => ⟨rfl, rfl, rfl, rfl⟩⟩) [0, 1, 2, 3, 4, 5, 6, 7, 8, 9, 10, 11, 12, 13, 14] rfl rfl (by decide) (by decide) d_CS_settleIfBuilt_11
  · skip
    refine V_aload_n F 0 d_CS_settleIfBuilt_7 rfl rfl ?_
    refine V_callV_v (w1 := fun (u_ : (Nat → Nat) × (Nat → Nat) × (Nat → Nat) × (Nat → Nat)) => [(z0, .inr (CI_CS, [.ref c0, .ref t0, .ref u0, .ref m0, .ref l0, .ref d0, .ref p0, .int (bP bt), .int (nI (sg + 1))])), (c0, .inr (CI_Cells, [.ref c1, .ref c2, .ref c3, .ref c4, .ref c5, .ref c6, .int (nI n)])), (c1, .inl (cI, 60, .inl (cN k))), (c2, .inl (cI, 60, .inl (cN o))), (c3, .inl (cI, 60, .inl A)), (c4, .inl (cI, 60, .inl B)), (c5, .inl (cI, 60, .inl C)), (c6, .inl (cI, 60, .inl (cN u_.2.2.2))), (m0, .inr (CI_Nets, [.ref m1, .ref m2, .ref m3, .ref m4, .int (nI nn)])), (m1, .inl (cI, 80, .inl (cN u_.1))), (m2, .inl (cI, 80, .inl (cN u_.2.1))), (m3, .inl (cI, 80, .inl (cS sk))), (m4, .inl (cI, 80, .inl (cN u_.2.2.1))), (l0, .inr (CI_Levels, [.ref l1, .ref l2, .int (nI gr), .ref l3, .ref l4, .int (nI oc)])), (l2, .inl (cI, 60, .inl (cN od)))]) (wr := []) (isC := [0, 1, 2, 3, 4, 5, 6, 7, 8, 9, 10, 11, 12, 13, 14]) (isR := []) (pm := [0, 1, 2, 3, 4, 5, 6, 7, 8, 9, 10, 11, 12, 13, 14]) (As := []) (rest := []) F (c_CS_settle l D cI cL cB z0 t0 u0 d0 p0 bt sg c0 c1 c2 c3 c4 c5 c6 n k o q A B C m0 m1 m2 m3 m4 nn v cm sk tn l0 l1 l2 l3 l4 gr oc od (by first | assumption | omega | (simp only [] at *; omega)) (by first | assumption | omega | (simp only [] at *; omega)) (by first | assumption | omega | (simp only [] at *; omega)) (hT h4) (by first | assumption | omega | (simp only [] at *; omega)) (by first | assumption | omega | (simp only [] at *; omega)) (by first | assumption | omega | (simp only [] at *; omega))) (cS_V 0 F.ts m_235 m_236 m_1 m_35 m_237 (by decide +kernel) ⟨Nat.le_of_ble_eq_true rfl, Nat.le_of_ble_eq_true rfl⟩) (ci := CI_CS) (q0 := 0) rfl rfl rfl (Nat.le_of_ble_eq_true rfl) d_CS_settleIfBuilt_8 ⟨Nat.le_of_ble_eq_true rfl, Nat.le_of_ble_eq_true rfl⟩ ⟨rfl, rfl, rfl, rfl, rfl, fun _ => rfl, rfl⟩ (fun uu8 q8_ => ?_) rfl
    obtain ⟨v2_8, cm2_8, tn2_8, q2_8⟩ := uu8
    have e8 : SetP nn n k o A B C q sk v tn v2_8 tn2_8 q2_8 := q8_
    clear q8_
    refine V_cast (w' := [(z0, .inr (CI_CS, [.ref c0, .ref t0, .ref u0, .ref m0, .ref l0, .ref d0, .ref p0, .int (bP bt), .int (nI (sg + 1))])), (c0, .inr (CI_Cells, [.ref c1, .ref c2, .ref c3, .ref c4, .ref c5, .ref c6, .int (nI n)])), (c1, .inl (cI, 60, .inl (cN k))), (c2, .inl (cI, 60, .inl (cN o))), (c3, .inl (cI, 60, .inl A)), (c4, .inl (cI, 60, .inl B)), (c5, .inl (cI, 60, .inl C)), (c6, .inl (cI, 60, .inl (cN q2_8))), (m0, .inr (CI_Nets, [.ref m1, .ref m2, .ref m3, .ref m4, .int (nI nn)])), (m1, .inl (cI, 80, .inl (cN v2_8))), (m2, .inl (cI, 80, .inl (cN cm2_8))), (m3, .inl (cI, 80, .inl (cS sk))), (m4, .inl (cI, 80, .inl (cN tn2_8))), (l0, .inr (CI_Levels, [.ref l1, .ref l2, .int (nI gr), .ref l3, .ref l4, .int (nI oc)])), (l2, .inl (cI, 60, .inl (cN od)))]) rfl rfl rfl ?_
    exact V_vret F hr (v2_8, cm2_8, tn2_8, q2_8, sg + 1) (show (bt → SetP nn n k o A B C q sk v tn v2_8 tn2_8 q2_8 ∧ (sg + 1) = sg + 1) ∧ (¬ bt → v2_8 = v ∧ tn2_8 = tn ∧ q2_8 = q ∧ (sg + 1) = sg) from ⟨fun _ => ⟨e8, rfl⟩, fun z => absurd h4 z⟩) [0, 1, 2, 3, 4, 5, 6, 7, 8, 9, 10, 11, 12, 13, 14] rfl rfl (by decide) (by decide) d_CS_settleIfBuilt_11

set_option maxHeartbeats 4000000 in
set_option maxRecDepth 100000 in
theorem c_CS_takeInput (l : Launch) (D : va_G) (cI cL cB : ClassId) (z0 : Nat) (t0 : Nat) (u0 : Nat) (l0 : Nat) (d0 : Nat) (p0 : Nat) (bt : Prop) (sg : Nat) (c0 : Nat) (c1 : Nat) (c2 : Nat) (c3 : Nat) (c4 : Nat) (c5 : Nat) (c6 : Nat) (n : Nat) (k : Nat → Nat) (o : Nat → Nat) (q : Nat → Nat) (A : Nat → Int32) (B : Nat → Int32) (C : Nat → Int32) (m0 : Nat) (m1 : Nat) (m2 : Nat) (m3 : Nat) (m4 : Nat) (nn : Nat) (v : Nat → Nat) (i : Nat) (hn : n ≤ 60) (hnn : nn ≤ 80) (hi : i < n) (ha : vp_in (A i) nn) (hv : ∀ j, j < nn → v j ≤ 3) (hq : q i ≤ 3) : Cti l y_CS_takeInput (wK w_CS_takeInput) ({ frames := 1, cells := 0, slots := 0, locals := 20 }) D classes (TY cI cL cB) [.ref z0, .int (nI i)] [(z0, .inr (CI_CS, [.ref c0, .ref t0, .ref u0, .ref m0, .ref l0, .ref d0, .ref p0, .int (bP bt), .int (nI sg)])), (c0, .inr (CI_Cells, [.ref c1, .ref c2, .ref c3, .ref c4, .ref c5, .ref c6, .int (nI n)])), (c1, .inl (cI, 60, .inl (cN k))), (c2, .inl (cI, 60, .inl (cN o))), (c3, .inl (cI, 60, .inl A)), (c4, .inl (cI, 60, .inl B)), (c5, .inl (cI, 60, .inl C)), (c6, .inl (cI, 60, .inl (cN q))), (m0, .inr (CI_Nets, [.ref m1, .ref m2, .ref m3, .ref m4, .int (nI nn)])), (m1, .inl (cI, 80, .inl (cN v)))] (fun (r : Int32) (u_ : Unit) => r = bP (q i ≠ asI (v (A i).toNatClampNeg))) (fun (u_ : Unit) => [(z0, .inr (CI_CS, [.ref c0, .ref t0, .ref u0, .ref m0, .ref l0, .ref d0, .ref p0, .int (bP bt), .int (nI sg)])), (c0, .inr (CI_Cells, [.ref c1, .ref c2, .ref c3, .ref c4, .ref c5, .ref c6, .int (nI n)])), (c1, .inl (cI, 60, .inl (cN k))), (c2, .inl (cI, 60, .inl (cN o))), (c3, .inl (cI, 60, .inl A)), (c4, .inl (cI, 60, .inl B)), (c5, .inl (cI, 60, .inl C)), (c6, .inl (cI, 60, .inl (cN (up q i (asI (v (A i).toNatClampNeg)))))), (m0, .inr (CI_Nets, [.ref m1, .ref m2, .ref m3, .ref m4, .int (nI nn)])), (m1, .inl (cI, 80, .inl (cN v)))]) 0 0 := by
  refine Ctg_of (cc := prog_1_method_23_code) (maxL := 4) (ret := (some .boolean)) "CircuitSimulator" [(0, .ref z0), (1, .int (nI i))] (by decide) rfl rfl (Nat.le_of_ble_eq_true rfl) rfl ?_
  intro p_ e_ s_ m_ args_ below_ meth_ c_ A_ F hr hin
  have hv8 : v (A i).toNatClampNeg ≤ 3 := hv _ (vp_lt ha)
  have hs8 := asI_le hv8
  refine V_aload_n F 0 d_CS_takeInput_0 rfl rfl ?_
  refine V_get F 0 CI_CS 3 i_CS rfl rfl (by decide) m_191 rfl rfl d_CS_takeInput_1 ?_
  refine V_get F 8 CI_Nets 0 i_Nets rfl rfl (by decide) m_111 rfl rfl d_CS_takeInput_4 ?_
  refine V_aload_n F 0 d_CS_takeInput_7 rfl rfl ?_
  refine V_get F 0 CI_CS 0 i_CS rfl rfl (by decide) m_188 rfl rfl d_CS_takeInput_8 ?_
  refine V_get F 1 CI_Cells 2 i_Cells rfl rfl (by decide) m_74 rfl rfl d_CS_takeInput_11 ?_
  refine V_iload_n F 1 d_CS_takeInput_14 rfl rfl ?_
  refine V_ialdn F 4 0 (k := i) rfl rfl (by omega) (by decide) d_CS_takeInput_15 ?_
  refine V_ialdN F 9 0 rfl rfl (vin_mono ha hnn) d_CS_takeInput_16 ?_
  refine V_callS_i (w1 := fun (u_ : Unit) => [(z0, .inr (CI_CS, [.ref c0, .ref t0, .ref u0, .ref m0, .ref l0, .ref d0, .ref p0, .int (bP bt), .int (nI sg)])), (c0, .inr (CI_Cells, [.ref c1, .ref c2, .ref c3, .ref c4, .ref c5, .ref c6, .int (nI n)])), (c1, .inl (cI, 60, .inl (cN k))), (c2, .inl (cI, 60, .inl (cN o))), (c3, .inl (cI, 60, .inl A)), (c4, .inl (cI, 60, .inl B)), (c5, .inl (cI, 60, .inl C)), (c6, .inl (cI, 60, .inl (cN q))), (m0, .inr (CI_Nets, [.ref m1, .ref m2, .ref m3, .ref m4, .int (nI nn)])), (m1, .inl (cI, 80, .inl (cN v)))]) (wr := [(z0, .inr (CI_CS, [.ref c0, .ref t0, .ref u0, .ref m0, .ref l0, .ref d0, .ref p0, .int (bP bt), .int (nI sg)])), (c0, .inr (CI_Cells, [.ref c1, .ref c2, .ref c3, .ref c4, .ref c5, .ref c6, .int (nI n)])), (c1, .inl (cI, 60, .inl (cN k))), (c2, .inl (cI, 60, .inl (cN o))), (c3, .inl (cI, 60, .inl A)), (c4, .inl (cI, 60, .inl B)), (c5, .inl (cI, 60, .inl C)), (c6, .inl (cI, 60, .inl (cN q))), (m0, .inr (CI_Nets, [.ref m1, .ref m2, .ref m3, .ref m4, .int (nI nn)])), (m1, .inl (cI, 80, .inl (cN v)))]) (isC := []) (isR := [0, 1, 2, 3, 4, 5, 6, 7, 8, 9]) (pm := [0, 1, 2, 3, 4, 5, 6, 7, 8, 9]) (As := [.int (nI (v (A i).toNatClampNeg))]) (rest := []) F (c_Logic_asInput l D cI cL cB (v (A i).toNatClampNeg) hv8) (cS_S 1 F.ts m_260 m_261 m_49 m_262 (by decide +kernel) ⟨Nat.le_of_ble_eq_true rfl, Nat.le_of_ble_eq_true rfl⟩) rfl (Nat.le_of_ble_eq_true rfl) d_CS_takeInput_17 ⟨Nat.le_of_ble_eq_true rfl, Nat.le_of_ble_eq_true rfl⟩ ⟨rfl, rfl, rfl, rfl, rfl, fun _ => rfl, rfl⟩ (fun r17 uu17 q17_ => ?_) rfl
  subst q17_
  refine V_istore_n F (lv' := [(2, .int (nI (asI (v (A i).toNatClampNeg)))), (0, .ref z0), (1, .int (nI i))]) d_CS_takeInput_20 rfl (by decide) rfl ?_
  refine V_aload_n F 1 d_CS_takeInput_21 rfl rfl ?_
  refine V_get F 0 CI_CS 0 i_CS rfl rfl (by decide) m_188 rfl rfl d_CS_takeInput_22 ?_
  refine V_get F 1 CI_Cells 5 i_Cells rfl rfl (by decide) m_79 rfl rfl d_CS_takeInput_25 ?_
  refine V_iload_n F 2 d_CS_takeInput_28 rfl rfl ?_
  refine V_ialdnN F 7 0 (k := i) rfl rfl (by omega) (by decide) d_CS_takeInput_29 ?_
  refine V_iload_n F 0 d_CS_takeInput_30 rfl rfl ?_
  refine V_icmpn_eq F 38 (a := q i) (b := asI (v (A i).toNatClampNeg)) (by omega) (by omega) d_CS_takeInput_31 (by decide) (fun h31 => ?_) (fun h31 => ?_)
  · skip
    refine V_iconst F (v := 0) d_CS_takeInput_38 rfl ?_
    refine V_istore_n F (lv' := [(3, .int (nI 0)), (2, .int (nI (asI (v (A i).toNatClampNeg)))), (0, .ref z0), (1, .int (nI i))]) d_CS_takeInput_39 rfl (by decide) rfl ?_
    refine V_aload_n F 2 d_CS_takeInput_40 rfl rfl ?_
    refine V_get F 0 CI_CS 0 i_CS rfl rfl (by decide) m_188 rfl rfl d_CS_takeInput_41 ?_
    refine V_get F 1 CI_Cells 5 i_Cells rfl rfl (by decide) m_79 rfl rfl d_CS_takeInput_44 ?_
    refine V_iload_n F 3 d_CS_takeInput_47 rfl rfl ?_
    refine V_iload_n F 1 d_CS_takeInput_48 rfl rfl ?_
    refine V_iastn F 7 0 (k := i) (w' := [(z0, .inr (CI_CS, [.ref c0, .ref t0, .ref u0, .ref m0, .ref l0, .ref d0, .ref p0, .int (bP bt), .int (nI sg)])), (c0, .inr (CI_Cells, [.ref c1, .ref c2, .ref c3, .ref c4, .ref c5, .ref c6, .int (nI n)])), (c1, .inl (cI, 60, .inl (cN k))), (c2, .inl (cI, 60, .inl (cN o))), (c3, .inl (cI, 60, .inl A)), (c4, .inl (cI, 60, .inl B)), (c5, .inl (cI, 60, .inl C)), (c6, .inl (cI, 60, .inl (cN (up q i (asI (v (A i).toNatClampNeg)))))), (m0, .inr (CI_Nets, [.ref m1, .ref m2, .ref m3, .ref m4, .int (nI nn)])), (m1, .inl (cI, 80, .inl (cN v)))]) rfl rfl (by omega) (by decide) (by rw [upd_cN] <;> rfl) d_CS_takeInput_49 ?_
    refine V_iload_n F 0 d_CS_takeInput_50 rfl rfl ?_
    exact V_zret F hr rfl () (bP_f (fun z => z h31)).symm [0, 1, 2, 3, 4, 5, 6, 7, 8, 9] rfl rfl (by decide) (by decide) d_CS_takeInput_51
  · skip
    refine V_iconst F (v := 1) d_CS_takeInput_34 rfl ?_
    refine V_goto F 39 d_CS_takeInput_35 (by decide) ?_
    refine V_istore_n F (lv' := [(3, .int (nI 1)), (2, .int (nI (asI (v (A i).toNatClampNeg)))), (0, .ref z0), (1, .int (nI i))]) d_CS_takeInput_39 rfl (by decide) rfl ?_
    refine V_aload_n F 2 d_CS_takeInput_40 rfl rfl ?_
    refine V_get F 0 CI_CS 0 i_CS rfl rfl (by decide) m_188 rfl rfl d_CS_takeInput_41 ?_
    refine V_get F 1 CI_Cells 5 i_Cells rfl rfl (by decide) m_79 rfl rfl d_CS_takeInput_44 ?_
    refine V_iload_n F 3 d_CS_takeInput_47 rfl rfl ?_
    refine V_iload_n F 1 d_CS_takeInput_48 rfl rfl ?_
    refine V_iastn F 7 0 (k := i) (w' := [(z0, .inr (CI_CS, [.ref c0, .ref t0, .ref u0, .ref m0, .ref l0, .ref d0, .ref p0, .int (bP bt), .int (nI sg)])), (c0, .inr (CI_Cells, [.ref c1, .ref c2, .ref c3, .ref c4, .ref c5, .ref c6, .int (nI n)])), (c1, .inl (cI, 60, .inl (cN k))), (c2, .inl (cI, 60, .inl (cN o))), (c3, .inl (cI, 60, .inl A)), (c4, .inl (cI, 60, .inl B)), (c5, .inl (cI, 60, .inl C)), (c6, .inl (cI, 60, .inl (cN (up q i (asI (v (A i).toNatClampNeg)))))), (m0, .inr (CI_Nets, [.ref m1, .ref m2, .ref m3, .ref m4, .int (nI nn)])), (m1, .inl (cI, 80, .inl (cN v)))]) rfl rfl (by omega) (by decide) (by rw [upd_cN] <;> rfl) d_CS_takeInput_49 ?_
    refine V_iload_n F 0 d_CS_takeInput_50 rfl rfl ?_
    exact V_zret F hr rfl () (bP_t h31).symm [0, 1, 2, 3, 4, 5, 6, 7, 8, 9] rfl rfl (by decide) (by decide) d_CS_takeInput_51

set_option maxHeartbeats 4000000 in
set_option maxRecDepth 100000 in
theorem c_CS_fits (l : Launch) (D : va_G) (cI cL cB : ClassId) (kd : Int32) (ot : Int32) (a : Int32) (b : Int32) (c : Int32) (m : Nat) (hm : m < 2 ^ 31) : Cti l y_CS_fits (wK w_CS_fits) ({ frames := 1, cells := 0, slots := 0, locals := 21 }) D classes (TY cI cL cB) [.int kd, .int ot, .int a, .int b, .int c, .int (nI m)] [] (fun (r : Int32) (u_ : Unit) => r = bP (Fits kd ot a b c m)) (fun (u_ : Unit) => []) 0 0 := by
  refine Ctg_of (cc := prog_1_method_17_code) (maxL := 7) (ret := (some .boolean)) "CircuitSimulator" [(0, .int kd), (1, .int ot), (2, .int a), (3, .int b), (4, .int c), (5, .int (nI m))] (by decide) rfl rfl (Nat.le_of_ble_eq_true rfl) rfl ?_
  intro p_ e_ s_ m_ args_ below_ meth_ c_ A_ F hr hin
  obtain ⟨tI_, hZ_, hT_⟩ := F.E.tab
  refine V_iload_n F 0 d_CS_fits_0 rfl rfl ?_
  refine V_bipush F (v := 9) d_CS_fits_1 rfl ?_
  refine V_callS_i (w1 := fun (u_ : Unit) => []) (wr := []) (isC := []) (isR := []) (pm := []) (As := [.int kd, .int 9]) (rest := []) F (c_CS_within l D cI cL cB kd 9 (by first | assumption | omega | (simp only [] at *; omega))) (cS_S 2 F.ts m_311 m_312 m_35 m_313 (by decide +kernel) ⟨Nat.le_of_ble_eq_true rfl, Nat.le_of_ble_eq_true rfl⟩) rfl (Nat.le_of_ble_eq_true rfl) d_CS_fits_3 ⟨Nat.le_of_ble_eq_true rfl, Nat.le_of_ble_eq_true rfl⟩ ⟨rfl, rfl, rfl, rfl, rfl, fun _ => rfl, rfl⟩ (fun r3 uu3 q3_ => ?_) rfl
  subst q3_
  refine V_ifb_eq F 18 d_CS_fits_6 (by decide) (fun h6 => ?_) (fun h6 => ?_)
  · skip
    refine V_iconst F (v := 0) d_CS_fits_18 rfl ?_
    exact V_zret F hr rfl () (bP_f (fun z => h6 z.1)).symm [] rfl rfl (by decide) (by decide) d_CS_fits_19
  · skip
    refine V_iload_n F 1 d_CS_fits_9 rfl rfl ?_
    refine V_iload F 5 d_CS_fits_10 rfl ?_
    refine V_callS_i (w1 := fun (u_ : Unit) => []) (wr := []) (isC := []) (isR := []) (pm := []) (As := [.int ot, .int (nI m)]) (rest := []) F (c_CS_within l D cI cL cB ot m (by first | assumption | omega | (simp only [] at *; omega))) (cS_S 2 F.ts m_311 m_312 m_35 m_313 (by decide +kernel) ⟨Nat.le_of_ble_eq_true rfl, Nat.le_of_ble_eq_true rfl⟩) rfl (Nat.le_of_ble_eq_true rfl) d_CS_fits_12 ⟨Nat.le_of_ble_eq_true rfl, Nat.le_of_ble_eq_true rfl⟩ ⟨rfl, rfl, rfl, rfl, rfl, fun _ => rfl, rfl⟩ (fun r12 uu12 q12_ => ?_) rfl
    subst q12_
    refine V_ifb_ne F 20 d_CS_fits_15 (by decide) (fun h15 => ?_) (fun h15 => ?_)
    · skip
      have hkN := vin_nI h6 (by decide)
      have hk9 := vp_lt h6
      have hn3 := inpN_le kd.toNatClampNeg
      refine V_gets F hZ_ m_314 d_CS_fits_20 ?_
      refine V_iload_n F 0 d_CS_fits_23 rfl rfl ?_
      refine V_top (y := nI kd.toNatClampNeg) hkN ?_
      refine V_tald F (k := kd.toNatClampNeg) hT_ (by omega) d_CS_fits_24 ?_
      refine V_istore F (lv' := [(6, .int (nI (inpN kd.toNatClampNeg))), (0, .int kd), (1, .int ot), (2, .int a), (3, .int b), (4, .int c), (5, .int (nI m))]) d_CS_fits_25 (by decide) rfl ?_
      refine V_iload F 0 d_CS_fits_27 rfl ?_
      refine V_ifn_le F 43 (a := inpN kd.toNatClampNeg) (by omega) d_CS_fits_29 (by decide) (fun h29 => ?_) (fun h29 => ?_)
      · skip
        refine V_iload F 0 d_CS_fits_43 rfl ?_
        refine V_iconst F (v := 1) d_CS_fits_45 rfl ?_
        refine V_icmpn_le F 60 (a := inpN kd.toNatClampNeg) (b := 1) (by omega) (by omega) d_CS_fits_46 (by decide) (fun h46 => ?_) (fun h46 => ?_)
        · skip
          refine V_iload F 0 d_CS_fits_60 rfl ?_
          refine V_iconst F (v := 2) d_CS_fits_62 rfl ?_
          refine V_icmpn_le F 78 (a := inpN kd.toNatClampNeg) (b := 2) (by omega) (by omega) d_CS_fits_63 (by decide) (fun h63 => ?_) (fun h63 => ?_)
          · skip
            refine V_iload_n F 1 d_CS_fits_78 rfl rfl ?_
            refine V_bipush F (v := 8) d_CS_fits_79 rfl ?_
            refine V_icmp_ne F 101 d_CS_fits_81 (by decide) (fun h81 => ?_) (fun h81 => ?_)
            · skip
              refine V_iconst F (v := 1) d_CS_fits_101 rfl ?_
              refine V_goto F 106 d_CS_fits_102 (by decide) ?_
              exact V_zret F hr rfl () (bP_t ⟨h6, h15, fun z => (by first | exact h38 | omega), fun z => (by first | exact h55 | omega), fun z => (by first | exact h73 | omega), fun z => (by first | exact ⟨h89, h98⟩ | exact absurd z h81)⟩).symm [] rfl rfl (by decide) (by decide) d_CS_fits_106
            · skip
              have h8 : kd = 8 := h81
              refine V_iload_n F 4 d_CS_fits_84 rfl rfl ?_
              refine V_iconst F (v := 2) d_CS_fits_85 rfl ?_
              refine V_callS_i (w1 := fun (u_ : Unit) => []) (wr := []) (isC := []) (isR := []) (pm := []) (As := [.int b, .int 2]) (rest := []) F (c_CS_within l D cI cL cB b 2 (by first | assumption | omega | (simp only [] at *; omega))) (cS_S 2 F.ts m_311 m_312 m_35 m_313 (by decide +kernel) ⟨Nat.le_of_ble_eq_true rfl, Nat.le_of_ble_eq_true rfl⟩) rfl (Nat.le_of_ble_eq_true rfl) d_CS_fits_86 ⟨Nat.le_of_ble_eq_true rfl, Nat.le_of_ble_eq_true rfl⟩ ⟨rfl, rfl, rfl, rfl, rfl, fun _ => rfl, rfl⟩ (fun r86 uu86 q86_ => ?_) rfl
              subst q86_
              refine V_ifb_eq F 105 d_CS_fits_89 (by decide) (fun h89 => ?_) (fun h89 => ?_)
              · skip
                refine V_iconst F (v := 0) d_CS_fits_105 rfl ?_
                exact V_zret F hr rfl () (bP_f (fun z => h89 (z.2.2.2.2.2 h81).1)).symm [] rfl rfl (by decide) (by decide) d_CS_fits_106
              · skip
                refine V_iload F 5 d_CS_fits_92 rfl ?_
                refine V_iconst F (v := 3) d_CS_fits_94 rfl ?_
                refine V_callS_i (w1 := fun (u_ : Unit) => []) (wr := []) (isC := []) (isR := []) (pm := []) (As := [.int c, .int 3]) (rest := []) F (c_CS_within l D cI cL cB c 3 (by first | assumption | omega | (simp only [] at *; omega))) (cS_S 2 F.ts m_311 m_312 m_35 m_313 (by decide +kernel) ⟨Nat.le_of_ble_eq_true rfl, Nat.le_of_ble_eq_true rfl⟩) rfl (Nat.le_of_ble_eq_true rfl) d_CS_fits_95 ⟨Nat.le_of_ble_eq_true rfl, Nat.le_of_ble_eq_true rfl⟩ ⟨rfl, rfl, rfl, rfl, rfl, fun _ => rfl, rfl⟩ (fun r95 uu95 q95_ => ?_) rfl
                subst q95_
                refine V_ifb_eq F 105 d_CS_fits_98 (by decide) (fun h98 => ?_) (fun h98 => ?_)
                · skip
                  refine V_iconst F (v := 0) d_CS_fits_105 rfl ?_
                  exact V_zret F hr rfl () (bP_f (fun z => h98 (z.2.2.2.2.2 h81).2)).symm [] rfl rfl (by decide) (by decide) d_CS_fits_106
                · skip
                  refine V_iconst F (v := 1) d_CS_fits_101 rfl ?_
                  refine V_goto F 106 d_CS_fits_102 (by decide) ?_
                  exact V_zret F hr rfl () (bP_t ⟨h6, h15, fun z => (by first | exact h38 | omega), fun z => (by first | exact h55 | omega), fun z => (by first | exact h73 | omega), fun z => (by first | exact ⟨h89, h98⟩ | exact absurd z h81)⟩).symm [] rfl rfl (by decide) (by decide) d_CS_fits_106
          · skip
            refine V_iload F 5 d_CS_fits_66 rfl ?_
            refine V_iload F 6 d_CS_fits_68 rfl ?_
            refine V_callS_i (w1 := fun (u_ : Unit) => []) (wr := []) (isC := []) (isR := []) (pm := []) (As := [.int c, .int (nI m)]) (rest := []) F (c_CS_within l D cI cL cB c m (by first | assumption | omega | (simp only [] at *; omega))) (cS_S 2 F.ts m_311 m_312 m_35 m_313 (by decide +kernel) ⟨Nat.le_of_ble_eq_true rfl, Nat.le_of_ble_eq_true rfl⟩) rfl (Nat.le_of_ble_eq_true rfl) d_CS_fits_70 ⟨Nat.le_of_ble_eq_true rfl, Nat.le_of_ble_eq_true rfl⟩ ⟨rfl, rfl, rfl, rfl, rfl, fun _ => rfl, rfl⟩ (fun r70 uu70 q70_ => ?_) rfl
            subst q70_
            refine V_ifb_ne F 78 d_CS_fits_73 (by decide) (fun h73 => ?_) (fun h73 => ?_)
            · skip
              refine V_iload_n F 1 d_CS_fits_78 rfl rfl ?_
              refine V_bipush F (v := 8) d_CS_fits_79 rfl ?_
              refine V_icmp_ne F 101 d_CS_fits_81 (by decide) (fun h81 => ?_) (fun h81 => ?_)
              · skip
                refine V_iconst F (v := 1) d_CS_fits_101 rfl ?_
                refine V_goto F 106 d_CS_fits_102 (by decide) ?_
                exact V_zret F hr rfl () (bP_t ⟨h6, h15, fun z => (by first | exact h38 | omega), fun z => (by first | exact h55 | omega), fun z => (by first | exact h73 | omega), fun z => (by first | exact ⟨h89, h98⟩ | exact absurd z h81)⟩).symm [] rfl rfl (by decide) (by decide) d_CS_fits_106
              · skip
                have h8 : kd = 8 := h81
                refine V_iload_n F 4 d_CS_fits_84 rfl rfl ?_
                refine V_iconst F (v := 2) d_CS_fits_85 rfl ?_
                refine V_callS_i (w1 := fun (u_ : Unit) => []) (wr := []) (isC := []) (isR := []) (pm := []) (As := [.int b, .int 2]) (rest := []) F (c_CS_within l D cI cL cB b 2 (by first | assumption | omega | (simp only [] at *; omega))) (cS_S 2 F.ts m_311 m_312 m_35 m_313 (by decide +kernel) ⟨Nat.le_of_ble_eq_true rfl, Nat.le_of_ble_eq_true rfl⟩) rfl (Nat.le_of_ble_eq_true rfl) d_CS_fits_86 ⟨Nat.le_of_ble_eq_true rfl, Nat.le_of_ble_eq_true rfl⟩ ⟨rfl, rfl, rfl, rfl, rfl, fun _ => rfl, rfl⟩ (fun r86_6 uu86_6 q86_6_ => ?_) rfl
                subst q86_6_
                refine V_ifb_eq F 105 d_CS_fits_89 (by decide) (fun h89 => ?_) (fun h89 => ?_)
                · skip
                  refine V_iconst F (v := 0) d_CS_fits_105 rfl ?_
                  exact V_zret F hr rfl () (bP_f (fun z => h89 (z.2.2.2.2.2 h81).1)).symm [] rfl rfl (by decide) (by decide) d_CS_fits_106
                · skip
                  refine V_iload F 5 d_CS_fits_92 rfl ?_
                  refine V_iconst F (v := 3) d_CS_fits_94 rfl ?_
                  refine V_callS_i (w1 := fun (u_ : Unit) => []) (wr := []) (isC := []) (isR := []) (pm := []) (As := [.int c, .int 3]) (rest := []) F (c_CS_within l D cI cL cB c 3 (by first | assumption | omega | (simp only [] at *; omega))) (cS_S 2 F.ts m_311 m_312 m_35 m_313 (by decide +kernel) ⟨Nat.le_of_ble_eq_true rfl, Nat.le_of_ble_eq_true rfl⟩) rfl (Nat.le_of_ble_eq_true rfl) d_CS_fits_95 ⟨Nat.le_of_ble_eq_true rfl, Nat.le_of_ble_eq_true rfl⟩ ⟨rfl, rfl, rfl, rfl, rfl, fun _ => rfl, rfl⟩ (fun r95_7 uu95_7 q95_7_ => ?_) rfl
                  subst q95_7_
                  refine V_ifb_eq F 105 d_CS_fits_98 (by decide) (fun h98 => ?_) (fun h98 => ?_)
                  · skip
                    refine V_iconst F (v := 0) d_CS_fits_105 rfl ?_
                    exact V_zret F hr rfl () (bP_f (fun z => h98 (z.2.2.2.2.2 h81).2)).symm [] rfl rfl (by decide) (by decide) d_CS_fits_106
                  · skip
                    refine V_iconst F (v := 1) d_CS_fits_101 rfl ?_
                    refine V_goto F 106 d_CS_fits_102 (by decide) ?_
                    exact V_zret F hr rfl () (bP_t ⟨h6, h15, fun z => (by first | exact h38 | omega), fun z => (by first | exact h55 | omega), fun z => (by first | exact h73 | omega), fun z => (by first | exact ⟨h89, h98⟩ | exact absurd z h81)⟩).symm [] rfl rfl (by decide) (by decide) d_CS_fits_106
            · skip
              refine V_iconst F (v := 0) d_CS_fits_76 rfl ?_
              exact V_zret F hr rfl () (bP_f (fun z => h73 (z.2.2.2.2.1 (by omega)))).symm [] rfl rfl (by decide) (by decide) d_CS_fits_77
        · skip
          refine V_iload_n F 4 d_CS_fits_49 rfl rfl ?_
          refine V_iload F 6 d_CS_fits_50 rfl ?_
          refine V_callS_i (w1 := fun (u_ : Unit) => []) (wr := []) (isC := []) (isR := []) (pm := []) (As := [.int b, .int (nI m)]) (rest := []) F (c_CS_within l D cI cL cB b m (by first | assumption | omega | (simp only [] at *; omega))) (cS_S 2 F.ts m_311 m_312 m_35 m_313 (by decide +kernel) ⟨Nat.le_of_ble_eq_true rfl, Nat.le_of_ble_eq_true rfl⟩) rfl (Nat.le_of_ble_eq_true rfl) d_CS_fits_52 ⟨Nat.le_of_ble_eq_true rfl, Nat.le_of_ble_eq_true rfl⟩ ⟨rfl, rfl, rfl, rfl, rfl, fun _ => rfl, rfl⟩ (fun r52 uu52 q52_ => ?_) rfl
          subst q52_
          refine V_ifb_ne F 60 d_CS_fits_55 (by decide) (fun h55 => ?_) (fun h55 => ?_)
          · skip
            refine V_iload F 0 d_CS_fits_60 rfl ?_
            refine V_iconst F (v := 2) d_CS_fits_62 rfl ?_
            refine V_icmpn_le F 78 (a := inpN kd.toNatClampNeg) (b := 2) (by omega) (by omega) d_CS_fits_63 (by decide) (fun h63 => ?_) (fun h63 => ?_)
            · skip
              refine V_iload_n F 1 d_CS_fits_78 rfl rfl ?_
              refine V_bipush F (v := 8) d_CS_fits_79 rfl ?_
              refine V_icmp_ne F 101 d_CS_fits_81 (by decide) (fun h81 => ?_) (fun h81 => ?_)
              · skip
                refine V_iconst F (v := 1) d_CS_fits_101 rfl ?_
                refine V_goto F 106 d_CS_fits_102 (by decide) ?_
                exact V_zret F hr rfl () (bP_t ⟨h6, h15, fun z => (by first | exact h38 | omega), fun z => (by first | exact h55 | omega), fun z => (by first | exact h73 | omega), fun z => (by first | exact ⟨h89, h98⟩ | exact absurd z h81)⟩).symm [] rfl rfl (by decide) (by decide) d_CS_fits_106
              · skip
                have h8 : kd = 8 := h81
                refine V_iload_n F 4 d_CS_fits_84 rfl rfl ?_
                refine V_iconst F (v := 2) d_CS_fits_85 rfl ?_
                refine V_callS_i (w1 := fun (u_ : Unit) => []) (wr := []) (isC := []) (isR := []) (pm := []) (As := [.int b, .int 2]) (rest := []) F (c_CS_within l D cI cL cB b 2 (by first | assumption | omega | (simp only [] at *; omega))) (cS_S 2 F.ts m_311 m_312 m_35 m_313 (by decide +kernel) ⟨Nat.le_of_ble_eq_true rfl, Nat.le_of_ble_eq_true rfl⟩) rfl (Nat.le_of_ble_eq_true rfl) d_CS_fits_86 ⟨Nat.le_of_ble_eq_true rfl, Nat.le_of_ble_eq_true rfl⟩ ⟨rfl, rfl, rfl, rfl, rfl, fun _ => rfl, rfl⟩ (fun r86_9 uu86_9 q86_9_ => ?_) rfl
                subst q86_9_
                refine V_ifb_eq F 105 d_CS_fits_89 (by decide) (fun h89 => ?_) (fun h89 => ?_)
                · skip
                  refine V_iconst F (v := 0) d_CS_fits_105 rfl ?_
                  exact V_zret F hr rfl () (bP_f (fun z => h89 (z.2.2.2.2.2 h81).1)).symm [] rfl rfl (by decide) (by decide) d_CS_fits_106
                · skip
                  refine V_iload F 5 d_CS_fits_92 rfl ?_
                  refine V_iconst F (v := 3) d_CS_fits_94 rfl ?_
                  refine V_callS_i (w1 := fun (u_ : Unit) => []) (wr := []) (isC := []) (isR := []) (pm := []) (As := [.int c, .int 3]) (rest := []) F (c_CS_within l D cI cL cB c 3 (by first | assumption | omega | (simp only [] at *; omega))) (cS_S 2 F.ts m_311 m_312 m_35 m_313 (by decide +kernel) ⟨Nat.le_of_ble_eq_true rfl, Nat.le_of_ble_eq_true rfl⟩) rfl (Nat.le_of_ble_eq_true rfl) d_CS_fits_95 ⟨Nat.le_of_ble_eq_true rfl, Nat.le_of_ble_eq_true rfl⟩ ⟨rfl, rfl, rfl, rfl, rfl, fun _ => rfl, rfl⟩ (fun r95_10 uu95_10 q95_10_ => ?_) rfl
                  subst q95_10_
                  refine V_ifb_eq F 105 d_CS_fits_98 (by decide) (fun h98 => ?_) (fun h98 => ?_)
                  · skip
                    refine V_iconst F (v := 0) d_CS_fits_105 rfl ?_
                    exact V_zret F hr rfl () (bP_f (fun z => h98 (z.2.2.2.2.2 h81).2)).symm [] rfl rfl (by decide) (by decide) d_CS_fits_106
                  · skip
                    refine V_iconst F (v := 1) d_CS_fits_101 rfl ?_
                    refine V_goto F 106 d_CS_fits_102 (by decide) ?_
                    exact V_zret F hr rfl () (bP_t ⟨h6, h15, fun z => (by first | exact h38 | omega), fun z => (by first | exact h55 | omega), fun z => (by first | exact h73 | omega), fun z => (by first | exact ⟨h89, h98⟩ | exact absurd z h81)⟩).symm [] rfl rfl (by decide) (by decide) d_CS_fits_106
            · skip
              refine V_iload F 5 d_CS_fits_66 rfl ?_
              refine V_iload F 6 d_CS_fits_68 rfl ?_
              refine V_callS_i (w1 := fun (u_ : Unit) => []) (wr := []) (isC := []) (isR := []) (pm := []) (As := [.int c, .int (nI m)]) (rest := []) F (c_CS_within l D cI cL cB c m (by first | assumption | omega | (simp only [] at *; omega))) (cS_S 2 F.ts m_311 m_312 m_35 m_313 (by decide +kernel) ⟨Nat.le_of_ble_eq_true rfl, Nat.le_of_ble_eq_true rfl⟩) rfl (Nat.le_of_ble_eq_true rfl) d_CS_fits_70 ⟨Nat.le_of_ble_eq_true rfl, Nat.le_of_ble_eq_true rfl⟩ ⟨rfl, rfl, rfl, rfl, rfl, fun _ => rfl, rfl⟩ (fun r70_11 uu70_11 q70_11_ => ?_) rfl
              subst q70_11_
              refine V_ifb_ne F 78 d_CS_fits_73 (by decide) (fun h73 => ?_) (fun h73 => ?_)
              · skip
                refine V_iload_n F 1 d_CS_fits_78 rfl rfl ?_
                refine V_bipush F (v := 8) d_CS_fits_79 rfl ?_
                refine V_icmp_ne F 101 d_CS_fits_81 (by decide) (fun h81 => ?_) (fun h81 => ?_)
                · skip
                  refine V_iconst F (v := 1) d_CS_fits_101 rfl ?_
                  refine V_goto F 106 d_CS_fits_102 (by decide) ?_
                  exact V_zret F hr rfl () (bP_t ⟨h6, h15, fun z => (by first | exact h38 | omega), fun z => (by first | exact h55 | omega), fun z => (by first | exact h73 | omega), fun z => (by first | exact ⟨h89, h98⟩ | exact absurd z h81)⟩).symm [] rfl rfl (by decide) (by decide) d_CS_fits_106
                · skip
                  have h8 : kd = 8 := h81
                  refine V_iload_n F 4 d_CS_fits_84 rfl rfl ?_
                  refine V_iconst F (v := 2) d_CS_fits_85 rfl ?_
                  refine V_callS_i (w1 := fun (u_ : Unit) => []) (wr := []) (isC := []) (isR := []) (pm := []) (As := [.int b, .int 2]) (rest := []) F (c_CS_within l D cI cL cB b 2 (by first | assumption | omega | (simp only [] at *; omega))) (cS_S 2 F.ts m_311 m_312 m_35 m_313 (by decide +kernel) ⟨Nat.le_of_ble_eq_true rfl, Nat.le_of_ble_eq_true rfl⟩) rfl (Nat.le_of_ble_eq_true rfl) d_CS_fits_86 ⟨Nat.le_of_ble_eq_true rfl, Nat.le_of_ble_eq_true rfl⟩ ⟨rfl, rfl, rfl, rfl, rfl, fun _ => rfl, rfl⟩ (fun r86_12 uu86_12 q86_12_ => ?_) rfl
                  subst q86_12_
                  refine V_ifb_eq F 105 d_CS_fits_89 (by decide) (fun h89 => ?_) (fun h89 => ?_)
                  · skip
                    refine V_iconst F (v := 0) d_CS_fits_105 rfl ?_
                    exact V_zret F hr rfl () (bP_f (fun z => h89 (z.2.2.2.2.2 h81).1)).symm [] rfl rfl (by decide) (by decide) d_CS_fits_106
                  · skip
                    refine V_iload F 5 d_CS_fits_92 rfl ?_
                    refine V_iconst F (v := 3) d_CS_fits_94 rfl ?_
                    refine V_callS_i (w1 := fun (u_ : Unit) => []) (wr := []) (isC := []) (isR := []) (pm := []) (As := [.int c, .int 3]) (rest := []) F (c_CS_within l D cI cL cB c 3 (by first | assumption | omega | (simp only [] at *; omega))) (cS_S 2 F.ts m_311 m_312 m_35 m_313 (by decide +kernel) ⟨Nat.le_of_ble_eq_true rfl, Nat.le_of_ble_eq_true rfl⟩) rfl (Nat.le_of_ble_eq_true rfl) d_CS_fits_95 ⟨Nat.le_of_ble_eq_true rfl, Nat.le_of_ble_eq_true rfl⟩ ⟨rfl, rfl, rfl, rfl, rfl, fun _ => rfl, rfl⟩ (fun r95_13 uu95_13 q95_13_ => ?_) rfl
                    subst q95_13_
                    refine V_ifb_eq F 105 d_CS_fits_98 (by decide) (fun h98 => ?_) (fun h98 => ?_)
                    · skip
                      refine V_iconst F (v := 0) d_CS_fits_105 rfl ?_
                      exact V_zret F hr rfl () (bP_f (fun z => h98 (z.2.2.2.2.2 h81).2)).symm [] rfl rfl (by decide) (by decide) d_CS_fits_106
                    · skip
                      refine V_iconst F (v := 1) d_CS_fits_101 rfl ?_
                      refine V_goto F 106 d_CS_fits_102 (by decide) ?_
                      exact V_zret F hr rfl () (bP_t ⟨h6, h15, fun z => (by first | exact h38 | omega), fun z => (by first | exact h55 | omega), fun z => (by first | exact h73 | omega), fun z => (by first | exact ⟨h89, h98⟩ | exact absurd z h81)⟩).symm [] rfl rfl (by decide) (by decide) d_CS_fits_106
              · skip
                refine V_iconst F (v := 0) d_CS_fits_76 rfl ?_
                exact V_zret F hr rfl () (bP_f (fun z => h73 (z.2.2.2.2.1 (by omega)))).symm [] rfl rfl (by decide) (by decide) d_CS_fits_77
          · skip
            refine V_iconst F (v := 0) d_CS_fits_58 rfl ?_
            exact V_zret F hr rfl () (bP_f (fun z => h55 (z.2.2.2.1 (by omega)))).symm [] rfl rfl (by decide) (by decide) d_CS_fits_59
      · skip
        refine V_iload_n F 3 d_CS_fits_32 rfl rfl ?_
        refine V_iload F 6 d_CS_fits_33 rfl ?_
        refine V_callS_i (w1 := fun (u_ : Unit) => []) (wr := []) (isC := []) (isR := []) (pm := []) (As := [.int a, .int (nI m)]) (rest := []) F (c_CS_within l D cI cL cB a m (by first | assumption | omega | (simp only [] at *; omega))) (cS_S 2 F.ts m_311 m_312 m_35 m_313 (by decide +kernel) ⟨Nat.le_of_ble_eq_true rfl, Nat.le_of_ble_eq_true rfl⟩) rfl (Nat.le_of_ble_eq_true rfl) d_CS_fits_35 ⟨Nat.le_of_ble_eq_true rfl, Nat.le_of_ble_eq_true rfl⟩ ⟨rfl, rfl, rfl, rfl, rfl, fun _ => rfl, rfl⟩ (fun r35 uu35 q35_ => ?_) rfl
        subst q35_
        refine V_ifb_ne F 43 d_CS_fits_38 (by decide) (fun h38 => ?_) (fun h38 => ?_)
        · skip
          refine V_iload F 0 d_CS_fits_43 rfl ?_
          refine V_iconst F (v := 1) d_CS_fits_45 rfl ?_
          refine V_icmpn_le F 60 (a := inpN kd.toNatClampNeg) (b := 1) (by omega) (by omega) d_CS_fits_46 (by decide) (fun h46 => ?_) (fun h46 => ?_)
          · skip
            refine V_iload F 0 d_CS_fits_60 rfl ?_
            refine V_iconst F (v := 2) d_CS_fits_62 rfl ?_
            refine V_icmpn_le F 78 (a := inpN kd.toNatClampNeg) (b := 2) (by omega) (by omega) d_CS_fits_63 (by decide) (fun h63 => ?_) (fun h63 => ?_)
            · skip
              refine V_iload_n F 1 d_CS_fits_78 rfl rfl ?_
              refine V_bipush F (v := 8) d_CS_fits_79 rfl ?_
              refine V_icmp_ne F 101 d_CS_fits_81 (by decide) (fun h81 => ?_) (fun h81 => ?_)
              · skip
                refine V_iconst F (v := 1) d_CS_fits_101 rfl ?_
                refine V_goto F 106 d_CS_fits_102 (by decide) ?_
                exact V_zret F hr rfl () (bP_t ⟨h6, h15, fun z => (by first | exact h38 | omega), fun z => (by first | exact h55 | omega), fun z => (by first | exact h73 | omega), fun z => (by first | exact ⟨h89, h98⟩ | exact absurd z h81)⟩).symm [] rfl rfl (by decide) (by decide) d_CS_fits_106
              · skip
                have h8 : kd = 8 := h81
                refine V_iload_n F 4 d_CS_fits_84 rfl rfl ?_
                refine V_iconst F (v := 2) d_CS_fits_85 rfl ?_
                refine V_callS_i (w1 := fun (u_ : Unit) => []) (wr := []) (isC := []) (isR := []) (pm := []) (As := [.int b, .int 2]) (rest := []) F (c_CS_within l D cI cL cB b 2 (by first | assumption | omega | (simp only [] at *; omega))) (cS_S 2 F.ts m_311 m_312 m_35 m_313 (by decide +kernel) ⟨Nat.le_of_ble_eq_true rfl, Nat.le_of_ble_eq_true rfl⟩) rfl (Nat.le_of_ble_eq_true rfl) d_CS_fits_86 ⟨Nat.le_of_ble_eq_true rfl, Nat.le_of_ble_eq_true rfl⟩ ⟨rfl, rfl, rfl, rfl, rfl, fun _ => rfl, rfl⟩ (fun r86_15 uu86_15 q86_15_ => ?_) rfl
                subst q86_15_
                refine V_ifb_eq F 105 d_CS_fits_89 (by decide) (fun h89 => ?_) (fun h89 => ?_)
                · skip
                  refine V_iconst F (v := 0) d_CS_fits_105 rfl ?_
                  exact V_zret F hr rfl () (bP_f (fun z => h89 (z.2.2.2.2.2 h81).1)).symm [] rfl rfl (by decide) (by decide) d_CS_fits_106
                · skip
                  refine V_iload F 5 d_CS_fits_92 rfl ?_
                  refine V_iconst F (v := 3) d_CS_fits_94 rfl ?_
                  refine V_callS_i (w1 := fun (u_ : Unit) => []) (wr := []) (isC := []) (isR := []) (pm := []) (As := [.int c, .int 3]) (rest := []) F (c_CS_within l D cI cL cB c 3 (by first | assumption | omega | (simp only [] at *; omega))) (cS_S 2 F.ts m_311 m_312 m_35 m_313 (by decide +kernel) ⟨Nat.le_of_ble_eq_true rfl, Nat.le_of_ble_eq_true rfl⟩) rfl (Nat.le_of_ble_eq_true rfl) d_CS_fits_95 ⟨Nat.le_of_ble_eq_true rfl, Nat.le_of_ble_eq_true rfl⟩ ⟨rfl, rfl, rfl, rfl, rfl, fun _ => rfl, rfl⟩ (fun r95_16 uu95_16 q95_16_ => ?_) rfl
                  subst q95_16_
                  refine V_ifb_eq F 105 d_CS_fits_98 (by decide) (fun h98 => ?_) (fun h98 => ?_)
                  · skip
                    refine V_iconst F (v := 0) d_CS_fits_105 rfl ?_
                    exact V_zret F hr rfl () (bP_f (fun z => h98 (z.2.2.2.2.2 h81).2)).symm [] rfl rfl (by decide) (by decide) d_CS_fits_106
                  · skip
                    refine V_iconst F (v := 1) d_CS_fits_101 rfl ?_
                    refine V_goto F 106 d_CS_fits_102 (by decide) ?_
                    exact V_zret F hr rfl () (bP_t ⟨h6, h15, fun z => (by first | exact h38 | omega), fun z => (by first | exact h55 | omega), fun z => (by first | exact h73 | omega), fun z => (by first | exact ⟨h89, h98⟩ | exact absurd z h81)⟩).symm [] rfl rfl (by decide) (by decide) d_CS_fits_106
            · skip
              refine V_iload F 5 d_CS_fits_66 rfl ?_
              refine V_iload F 6 d_CS_fits_68 rfl ?_
              refine V_callS_i (w1 := fun (u_ : Unit) => []) (wr := []) (isC := []) (isR := []) (pm := []) (As := [.int c, .int (nI m)]) (rest := []) F (c_CS_within l D cI cL cB c m (by first | assumption | omega | (simp only [] at *; omega))) (cS_S 2 F.ts m_311 m_312 m_35 m_313 (by decide +kernel) ⟨Nat.le_of_ble_eq_true rfl, Nat.le_of_ble_eq_true rfl⟩) rfl (Nat.le_of_ble_eq_true rfl) d_CS_fits_70 ⟨Nat.le_of_ble_eq_true rfl, Nat.le_of_ble_eq_true rfl⟩ ⟨rfl, rfl, rfl, rfl, rfl, fun _ => rfl, rfl⟩ (fun r70_17 uu70_17 q70_17_ => ?_) rfl
              subst q70_17_
              refine V_ifb_ne F 78 d_CS_fits_73 (by decide) (fun h73 => ?_) (fun h73 => ?_)
              · skip
                refine V_iload_n F 1 d_CS_fits_78 rfl rfl ?_
                refine V_bipush F (v := 8) d_CS_fits_79 rfl ?_
                refine V_icmp_ne F 101 d_CS_fits_81 (by decide) (fun h81 => ?_) (fun h81 => ?_)
                · skip
                  refine V_iconst F (v := 1) d_CS_fits_101 rfl ?_
                  refine V_goto F 106 d_CS_fits_102 (by decide) ?_
                  exact V_zret F hr rfl () (bP_t ⟨h6, h15, fun z => (by first | exact h38 | omega), fun z => (by first | exact h55 | omega), fun z => (by first | exact h73 | omega), fun z => (by first | exact ⟨h89, h98⟩ | exact absurd z h81)⟩).symm [] rfl rfl (by decide) (by decide) d_CS_fits_106
                · skip
                  have h8 : kd = 8 := h81
                  refine V_iload_n F 4 d_CS_fits_84 rfl rfl ?_
                  refine V_iconst F (v := 2) d_CS_fits_85 rfl ?_
                  refine V_callS_i (w1 := fun (u_ : Unit) => []) (wr := []) (isC := []) (isR := []) (pm := []) (As := [.int b, .int 2]) (rest := []) F (c_CS_within l D cI cL cB b 2 (by first | assumption | omega | (simp only [] at *; omega))) (cS_S 2 F.ts m_311 m_312 m_35 m_313 (by decide +kernel) ⟨Nat.le_of_ble_eq_true rfl, Nat.le_of_ble_eq_true rfl⟩) rfl (Nat.le_of_ble_eq_true rfl) d_CS_fits_86 ⟨Nat.le_of_ble_eq_true rfl, Nat.le_of_ble_eq_true rfl⟩ ⟨rfl, rfl, rfl, rfl, rfl, fun _ => rfl, rfl⟩ (fun r86_18 uu86_18 q86_18_ => ?_) rfl
                  subst q86_18_
                  refine V_ifb_eq F 105 d_CS_fits_89 (by decide) (fun h89 => ?_) (fun h89 => ?_)
                  · skip
                    refine V_iconst F (v := 0) d_CS_fits_105 rfl ?_
                    exact V_zret F hr rfl () (bP_f (fun z => h89 (z.2.2.2.2.2 h81).1)).symm [] rfl rfl (by decide) (by decide) d_CS_fits_106
                  · skip
                    refine V_iload F 5 d_CS_fits_92 rfl ?_
                    refine V_iconst F (v := 3) d_CS_fits_94 rfl ?_
                    refine V_callS_i (w1 := fun (u_ : Unit) => []) (wr := []) (isC := []) (isR := []) (pm := []) (As := [.int c, .int 3]) (rest := []) F (c_CS_within l D cI cL cB c 3 (by first | assumption | omega | (simp only [] at *; omega))) (cS_S 2 F.ts m_311 m_312 m_35 m_313 (by decide +kernel) ⟨Nat.le_of_ble_eq_true rfl, Nat.le_of_ble_eq_true rfl⟩) rfl (Nat.le_of_ble_eq_true rfl) d_CS_fits_95 ⟨Nat.le_of_ble_eq_true rfl, Nat.le_of_ble_eq_true rfl⟩ ⟨rfl, rfl, rfl, rfl, rfl, fun _ => rfl, rfl⟩ (fun r95_19 uu95_19 q95_19_ => ?_) rfl
                    subst q95_19_
                    refine V_ifb_eq F 105 d_CS_fits_98 (by decide) (fun h98 => ?_) (fun h98 => ?_)
                    · skip
                      refine V_iconst F (v := 0) d_CS_fits_105 rfl ?_
                      exact V_zret F hr rfl () (bP_f (fun z => h98 (z.2.2.2.2.2 h81).2)).symm [] rfl rfl (by decide) (by decide) d_CS_fits_106
                    · skip
                      refine V_iconst F (v := 1) d_CS_fits_101 rfl ?_
                      refine V_goto F 106 d_CS_fits_102 (by decide) ?_
                      exact V_zret F hr rfl () (bP_t ⟨h6, h15, fun z => (by first | exact h38 | omega), fun z => (by first | exact h55 | omega), fun z => (by first | exact h73 | omega), fun z => (by first | exact ⟨h89, h98⟩ | exact absurd z h81)⟩).symm [] rfl rfl (by decide) (by decide) d_CS_fits_106
              · skip
                refine V_iconst F (v := 0) d_CS_fits_76 rfl ?_
                exact V_zret F hr rfl () (bP_f (fun z => h73 (z.2.2.2.2.1 (by omega)))).symm [] rfl rfl (by decide) (by decide) d_CS_fits_77
          · skip
            refine V_iload_n F 4 d_CS_fits_49 rfl rfl ?_
            refine V_iload F 6 d_CS_fits_50 rfl ?_
            refine V_callS_i (w1 := fun (u_ : Unit) => []) (wr := []) (isC := []) (isR := []) (pm := []) (As := [.int b, .int (nI m)]) (rest := []) F (c_CS_within l D cI cL cB b m (by first | assumption | omega | (simp only [] at *; omega))) (cS_S 2 F.ts m_311 m_312 m_35 m_313 (by decide +kernel) ⟨Nat.le_of_ble_eq_true rfl, Nat.le_of_ble_eq_true rfl⟩) rfl (Nat.le_of_ble_eq_true rfl) d_CS_fits_52 ⟨Nat.le_of_ble_eq_true rfl, Nat.le_of_ble_eq_true rfl⟩ ⟨rfl, rfl, rfl, rfl, rfl, fun _ => rfl, rfl⟩ (fun r52_20 uu52_20 q52_20_ => ?_) rfl
            subst q52_20_
            refine V_ifb_ne F 60 d_CS_fits_55 (by decide) (fun h55 => ?_) (fun h55 => ?_)
            · skip
              refine V_iload F 0 d_CS_fits_60 rfl ?_
              refine V_iconst F (v := 2) d_CS_fits_62 rfl ?_
              refine V_icmpn_le F 78 (a := inpN kd.toNatClampNeg) (b := 2) (by omega) (by omega) d_CS_fits_63 (by decide) (fun h63 => ?_) (fun h63 => ?_)
              · skip
                refine V_iload_n F 1 d_CS_fits_78 rfl rfl ?_
                refine V_bipush F (v := 8) d_CS_fits_79 rfl ?_
                refine V_icmp_ne F 101 d_CS_fits_81 (by decide) (fun h81 => ?_) (fun h81 => ?_)
                · skip
                  refine V_iconst F (v := 1) d_CS_fits_101 rfl ?_
                  refine V_goto F 106 d_CS_fits_102 (by decide) ?_
                  exact V_zret F hr rfl () (bP_t ⟨h6, h15, fun z => (by first | exact h38 | omega), fun z => (by first | exact h55 | omega), fun z => (by first | exact h73 | omega), fun z => (by first | exact ⟨h89, h98⟩ | exact absurd z h81)⟩).symm [] rfl rfl (by decide) (by decide) d_CS_fits_106
                · skip
                  have h8 : kd = 8 := h81
                  refine V_iload_n F 4 d_CS_fits_84 rfl rfl ?_
                  refine V_iconst F (v := 2) d_CS_fits_85 rfl ?_
                  refine V_callS_i (w1 := fun (u_ : Unit) => []) (wr := []) (isC := []) (isR := []) (pm := []) (As := [.int b, .int 2]) (rest := []) F (c_CS_within l D cI cL cB b 2 (by first | assumption | omega | (simp only [] at *; omega))) (cS_S 2 F.ts m_311 m_312 m_35 m_313 (by decide +kernel) ⟨Nat.le_of_ble_eq_true rfl, Nat.le_of_ble_eq_true rfl⟩) rfl (Nat.le_of_ble_eq_true rfl) d_CS_fits_86 ⟨Nat.le_of_ble_eq_true rfl, Nat.le_of_ble_eq_true rfl⟩ ⟨rfl, rfl, rfl, rfl, rfl, fun _ => rfl, rfl⟩ (fun r86_21 uu86_21 q86_21_ => ?_) rfl
                  subst q86_21_
                  refine V_ifb_eq F 105 d_CS_fits_89 (by decide) (fun h89 => ?_) (fun h89 => ?_)
                  · skip
                    refine V_iconst F (v := 0) d_CS_fits_105 rfl ?_
                    exact V_zret F hr rfl () (bP_f (fun z => h89 (z.2.2.2.2.2 h81).1)).symm [] rfl rfl (by decide) (by decide) d_CS_fits_106
                  · skip
                    refine V_iload F 5 d_CS_fits_92 rfl ?_
                    refine V_iconst F (v := 3) d_CS_fits_94 rfl ?_
                    refine V_callS_i (w1 := fun (u_ : Unit) => []) (wr := []) (isC := []) (isR := []) (pm := []) (As := [.int c, .int 3]) (rest := []) F (c_CS_within l D cI cL cB c 3 (by first | assumption | omega | (simp only [] at *; omega))) (cS_S 2 F.ts m_311 m_312 m_35 m_313 (by decide +kernel) ⟨Nat.le_of_ble_eq_true rfl, Nat.le_of_ble_eq_true rfl⟩) rfl (Nat.le_of_ble_eq_true rfl) d_CS_fits_95 ⟨Nat.le_of_ble_eq_true rfl, Nat.le_of_ble_eq_true rfl⟩ ⟨rfl, rfl, rfl, rfl, rfl, fun _ => rfl, rfl⟩ (fun r95_22 uu95_22 q95_22_ => ?_) rfl
                    subst q95_22_
                    refine V_ifb_eq F 105 d_CS_fits_98 (by decide) (fun h98 => ?_) (fun h98 => ?_)
                    · skip
                      refine V_iconst F (v := 0) d_CS_fits_105 rfl ?_
                      exact V_zret F hr rfl () (bP_f (fun z => h98 (z.2.2.2.2.2 h81).2)).symm [] rfl rfl (by decide) (by decide) d_CS_fits_106
                    · skip
                      refine V_iconst F (v := 1) d_CS_fits_101 rfl ?_
                      refine V_goto F 106 d_CS_fits_102 (by decide) ?_
                      exact V_zret F hr rfl () (bP_t ⟨h6, h15, fun z => (by first | exact h38 | omega), fun z => (by first | exact h55 | omega), fun z => (by first | exact h73 | omega), fun z => (by first | exact ⟨h89, h98⟩ | exact absurd z h81)⟩).symm [] rfl rfl (by decide) (by decide) d_CS_fits_106
              · skip
                refine V_iload F 5 d_CS_fits_66 rfl ?_
                refine V_iload F 6 d_CS_fits_68 rfl ?_
                refine V_callS_i (w1 := fun (u_ : Unit) => []) (wr := []) (isC := []) (isR := []) (pm := []) (As := [.int c, .int (nI m)]) (rest := []) F (c_CS_within l D cI cL cB c m (by first | assumption | omega | (simp only [] at *; omega))) (cS_S 2 F.ts m_311 m_312 m_35 m_313 (by decide +kernel) ⟨Nat.le_of_ble_eq_true rfl, Nat.le_of_ble_eq_true rfl⟩) rfl (Nat.le_of_ble_eq_true rfl) d_CS_fits_70 ⟨Nat.le_of_ble_eq_true rfl, Nat.le_of_ble_eq_true rfl⟩ ⟨rfl, rfl, rfl, rfl, rfl, fun _ => rfl, rfl⟩ (fun r70_23 uu70_23 q70_23_ => ?_) rfl
                subst q70_23_
                refine V_ifb_ne F 78 d_CS_fits_73 (by decide) (fun h73 => ?_) (fun h73 => ?_)
                · skip
                  refine V_iload_n F 1 d_CS_fits_78 rfl rfl ?_
                  refine V_bipush F (v := 8) d_CS_fits_79 rfl ?_
                  refine V_icmp_ne F 101 d_CS_fits_81 (by decide) (fun h81 => ?_) (fun h81 => ?_)
                  · skip
                    refine V_iconst F (v := 1) d_CS_fits_101 rfl ?_
                    refine V_goto F 106 d_CS_fits_102 (by decide) ?_
                    exact V_zret F hr rfl () (bP_t ⟨h6, h15, fun z => (by first | exact h38 | omega), fun z => (by first | exact h55 | omega), fun z => (by first | exact h73 | omega), fun z => (by first | exact ⟨h89, h98⟩ | exact absurd z h81)⟩).symm [] rfl rfl (by decide) (by decide) d_CS_fits_106
                  · skip
                    have h8 : kd = 8 := h81
                    refine V_iload_n F 4 d_CS_fits_84 rfl rfl ?_
                    refine V_iconst F (v := 2) d_CS_fits_85 rfl ?_
                    refine V_callS_i (w1 := fun (u_ : Unit) => []) (wr := []) (isC := []) (isR := []) (pm := []) (As := [.int b, .int 2]) (rest := []) F (c_CS_within l D cI cL cB b 2 (by first | assumption | omega | (simp only [] at *; omega))) (cS_S 2 F.ts m_311 m_312 m_35 m_313 (by decide +kernel) ⟨Nat.le_of_ble_eq_true rfl, Nat.le_of_ble_eq_true rfl⟩) rfl (Nat.le_of_ble_eq_true rfl) d_CS_fits_86 ⟨Nat.le_of_ble_eq_true rfl, Nat.le_of_ble_eq_true rfl⟩ ⟨rfl, rfl, rfl, rfl, rfl, fun _ => rfl, rfl⟩ (fun r86_24 uu86_24 q86_24_ => ?_) rfl
                    subst q86_24_
                    refine V_ifb_eq F 105 d_CS_fits_89 (by decide) (fun h89 => ?_) (fun h89 => ?_)
                    · skip
                      refine V_iconst F (v := 0) d_CS_fits_105 rfl ?_
                      exact V_zret F hr rfl () (bP_f (fun z => h89 (z.2.2.2.2.2 h81).1)).symm [] rfl rfl (by decide) (by decide) d_CS_fits_106
                    · skip
                      refine V_iload F 5 d_CS_fits_92 rfl ?_
                      refine V_iconst F (v := 3) d_CS_fits_94 rfl ?_
                      refine V_callS_i (w1 := fun (u_ : Unit) => []) (wr := []) (isC := []) (isR := []) (pm := []) (As := [.int c, .int 3]) (rest := []) F (c_CS_within l D cI cL cB c 3 (by first | assumption | omega | (simp only [] at *; omega))) (cS_S 2 F.ts m_311 m_312 m_35 m_313 (by decide +kernel) ⟨Nat.le_of_ble_eq_true rfl, Nat.le_of_ble_eq_true rfl⟩) rfl (Nat.le_of_ble_eq_true rfl) d_CS_fits_95 ⟨Nat.le_of_ble_eq_true rfl, Nat.le_of_ble_eq_true rfl⟩ ⟨rfl, rfl, rfl, rfl, rfl, fun _ => rfl, rfl⟩ (fun r95_25 uu95_25 q95_25_ => ?_) rfl
                      subst q95_25_
                      refine V_ifb_eq F 105 d_CS_fits_98 (by decide) (fun h98 => ?_) (fun h98 => ?_)
                      · skip
                        refine V_iconst F (v := 0) d_CS_fits_105 rfl ?_
                        exact V_zret F hr rfl () (bP_f (fun z => h98 (z.2.2.2.2.2 h81).2)).symm [] rfl rfl (by decide) (by decide) d_CS_fits_106
                      · skip
                        refine V_iconst F (v := 1) d_CS_fits_101 rfl ?_
                        refine V_goto F 106 d_CS_fits_102 (by decide) ?_
                        exact V_zret F hr rfl () (bP_t ⟨h6, h15, fun z => (by first | exact h38 | omega), fun z => (by first | exact h55 | omega), fun z => (by first | exact h73 | omega), fun z => (by first | exact ⟨h89, h98⟩ | exact absurd z h81)⟩).symm [] rfl rfl (by decide) (by decide) d_CS_fits_106
                · skip
                  refine V_iconst F (v := 0) d_CS_fits_76 rfl ?_
                  exact V_zret F hr rfl () (bP_f (fun z => h73 (z.2.2.2.2.1 (by omega)))).symm [] rfl rfl (by decide) (by decide) d_CS_fits_77
            · skip
              refine V_iconst F (v := 0) d_CS_fits_58 rfl ?_
              exact V_zret F hr rfl () (bP_f (fun z => h55 (z.2.2.2.1 (by omega)))).symm [] rfl rfl (by decide) (by decide) d_CS_fits_59
        · skip
          refine V_iconst F (v := 0) d_CS_fits_41 rfl ?_
          exact V_zret F hr rfl () (bP_f (fun z => h38 (z.2.2.1 (by omega)))).symm [] rfl rfl (by decide) (by decide) d_CS_fits_42
    · skip
      refine V_iconst F (v := 0) d_CS_fits_18 rfl ?_
      exact V_zret F hr rfl () (bP_f (fun z => h15 z.2.1)).symm [] rfl rfl (by decide) (by decide) d_CS_fits_19

set_option maxHeartbeats 4000000 in
set_option maxRecDepth 100000 in
theorem c_CS_partsOf_0 (l : Launch) (D : va_G) (cI cL cB : ClassId) (z0 : Nat) (t0 : Nat) (u0 : Nat) (l0 : Nat) (d0 : Nat) (p0 : Nat) (bt : Prop) (sg : Nat) (c0 : Nat) (m0 : Nat)  : Ctr l y_CS_partsOf (wK w_CS_partsOf) ({ frames := 0, cells := 0, slots := 0, locals := 0 }) D classes (TY cI cL cB) [.ref z0, .int (nI 0)] [(z0, .inr (CI_CS, [.ref c0, .ref t0, .ref u0, .ref m0, .ref l0, .ref d0, .ref p0, .int (bP bt), .int (nI sg)]))] (fun (r : Nat) (u_ : Unit) => r = t0) (fun (u_ : Unit) => [(z0, .inr (CI_CS, [.ref c0, .ref t0, .ref u0, .ref m0, .ref l0, .ref d0, .ref p0, .int (bP bt), .int (nI sg)]))]) 0 0 := by
  refine Ctg_of (cc := prog_1_method_18_code) (maxL := 2) (ret := (some (.object "CircuitSimulator$Cells"))) "CircuitSimulator" [(0, .ref z0), (1, .int (nI 0))] (by decide) rfl rfl (Nat.le_of_ble_eq_true rfl) rfl ?_
  intro p_ e_ s_ m_ args_ below_ meth_ c_ A_ F hr hin
  refine V_iload_n F 1 d_CS_partsOf_0 rfl rfl ?_
  refine V_ifn_ne F 11 (a := 0) (by omega) d_CS_partsOf_1 (by decide) (fun h1 => ?_) (fun h1 => ?_)
  · skip
    exact False.elim (by omega)
  · skip
    refine V_aload_n F 0 d_CS_partsOf_4 rfl rfl ?_
    refine V_get F 0 CI_CS 1 i_CS rfl rfl (by decide) m_189 rfl rfl d_CS_partsOf_5 ?_
    refine V_goto F 15 d_CS_partsOf_8 (by decide) ?_
    exact V_aret F hr () rfl [0] rfl rfl (by decide) (by decide) d_CS_partsOf_15

set_option maxHeartbeats 4000000 in
set_option maxRecDepth 100000 in
theorem c_CS_partsOf_1 (l : Launch) (D : va_G) (cI cL cB : ClassId) (z0 : Nat) (t0 : Nat) (u0 : Nat) (l0 : Nat) (d0 : Nat) (p0 : Nat) (bt : Prop) (sg : Nat) (c0 : Nat) (m0 : Nat)  : Ctr l y_CS_partsOf (wK w_CS_partsOf) ({ frames := 0, cells := 0, slots := 0, locals := 0 }) D classes (TY cI cL cB) [.ref z0, .int (nI 1)] [(z0, .inr (CI_CS, [.ref c0, .ref t0, .ref u0, .ref m0, .ref l0, .ref d0, .ref p0, .int (bP bt), .int (nI sg)]))] (fun (r : Nat) (u_ : Unit) => r = u0) (fun (u_ : Unit) => [(z0, .inr (CI_CS, [.ref c0, .ref t0, .ref u0, .ref m0, .ref l0, .ref d0, .ref p0, .int (bP bt), .int (nI sg)]))]) 0 0 := by
  refine Ctg_of (cc := prog_1_method_18_code) (maxL := 2) (ret := (some (.object "CircuitSimulator$Cells"))) "CircuitSimulator" [(0, .ref z0), (1, .int (nI 1))] (by decide) rfl rfl (Nat.le_of_ble_eq_true rfl) rfl ?_
  intro p_ e_ s_ m_ args_ below_ meth_ c_ A_ F hr hin
  refine V_iload_n F 1 d_CS_partsOf_0 rfl rfl ?_
  refine V_ifn_ne F 11 (a := 1) (by omega) d_CS_partsOf_1 (by decide) (fun h1 => ?_) (fun h1 => ?_)
  · skip
    refine V_aload_n F 0 d_CS_partsOf_11 rfl rfl ?_
    refine V_get F 0 CI_CS 2 i_CS rfl rfl (by decide) m_190 rfl rfl d_CS_partsOf_12 ?_
    exact V_aret F hr () rfl [0] rfl rfl (by decide) (by decide) d_CS_partsOf_15
  · skip
    exact False.elim (by omega)
