set_option maxHeartbeats 4000000 in
set_option maxRecDepth 100000 in
theorem c_Model_close (l : Launch) (D : va_G) (cI cL cB : ClassId) (x0 : Nat) (x1 : Nat) (x2 : Nat) (x3 : Nat) (x4 : Nat) (x5 : Nat) (x6 : Nat) (x7 : Nat) (x8 : Nat) (x9 : Nat) (x10 : Nat) (x11 : Nat) (x12 : Nat) (x13 : Nat) (x14 : Nat) (x15 : Nat) (x16 : Nat) (x17 : Nat) (x18 : Nat) (x19 : Nat) (x20 : Nat) (th : Nat) (nn : Nat) (n : Nat) (sg : Nat) (bt : Prop) (k : Nat → Nat) (o : Nat → Nat) (A : Nat → Int32) (B : Nat → Int32) (C : Nat → Int32) (X : Nat → Int64) (Y : Nat → Int64) (hn : n ≤ 60) (hnn : nn ≤ 80) (hw : WfC nn n k o A B C) : Ctv l y_Model_close (wK w_Model_close) ({ frames := 1, cells := 0, slots := 0, locals := 22 }) D classes (TY cI cL cB) [.ref x0] [(x0, .inr (CI_Model, [.int (nI th), .int (nI nn), .ref x1, .ref x2, .ref x3, .ref x4, .ref x5, .ref x6, .ref x7, .ref x8, .ref x9, .ref x10, .ref x11, .int (nI n), .ref x12, .ref x13, .ref x14, .ref x15, .ref x16, .ref x17, .ref x18, .ref x19, .ref x20, .int (bP bt), .int (nI sg)])), (x5, .inl (cI, 60, .inl (cN k))), (x6, .inl (cI, 60, .inl (cN o))), (x7, .inl (cI, 60, .inl A)), (x8, .inl (cI, 60, .inl B)), (x9, .inl (cI, 60, .inl C)), (x19, .inl (cL, 80, .inr (.inl X))), (x20, .inl (cL, 80, .inr (.inl Y)))] (fun (u_ : (Nat → Int64) × (Nat → Int64)) => Bits 60 u_.1 u_.2 (wOut (R0 n k o A B C) nn nn)) (fun (u_ : (Nat → Int64) × (Nat → Int64)) => [(x0, .inr (CI_Model, [.int (nI th), .int (nI nn), .ref x1, .ref x2, .ref x3, .ref x4, .ref x5, .ref x6, .ref x7, .ref x8, .ref x9, .ref x10, .ref x11, .int (nI n), .ref x12, .ref x13, .ref x14, .ref x15, .ref x16, .ref x17, .ref x18, .ref x19, .ref x20, .int (bP bt), .int (nI sg)])), (x5, .inl (cI, 60, .inl (cN k))), (x6, .inl (cI, 60, .inl (cN o))), (x7, .inl (cI, 60, .inl A)), (x8, .inl (cI, 60, .inl B)), (x9, .inl (cI, 60, .inl C)), (x19, .inl (cL, 80, .inr (.inl u_.1))), (x20, .inl (cL, 80, .inr (.inl u_.2)))]) 0 0 := by
  refine Ctg_of (cc := prog_9_method_18_code) (maxL := 3) (ret := none) "CircuitSimulatorModel" [(0, .ref x0)] (by decide) rfl rfl (Nat.le_of_ble_eq_true rfl) rfl ?_
  intro p_ e_ s_ m_ args_ below_ meth_ c_ A_ F hr hin
  refine V_iconst F (v := 0) d_Model_close_0 rfl ?_
  refine V_istore_n F (lv' := [(1, .int (nI 0)), (0, .ref x0)]) d_Model_close_1 rfl (by decide) rfl ?_
  have L2 : ∀ (f_ : Nat) (i0 : Nat) (X0_ : Nat → Int64) (Y0_ : Nat → Int64), 80 - i0 < f_ → (i0 ≤ 80) → (∀ j, j < i0 → X0_ j = 0) → (∀ j, j < i0 → Y0_ j = 0) → V p_ l e_ ({ frames := 1, cells := 0, slots := 0, locals := 22 }) s_ m_ args_ below_ meth_ c_ A_ (MQ below_ (cQv D classes (fun (u_ : (Nat → Int64) × (Nat → Int64)) => Bits 60 u_.1 u_.2 (wOut (R0 n k o A B C) nn nn)) (fun (u_ : (Nat → Int64) × (Nat → Int64)) => [(x0, .inr (CI_Model, [.int (nI th), .int (nI nn), .ref x1, .ref x2, .ref x3, .ref x4, .ref x5, .ref x6, .ref x7, .ref x8, .ref x9, .ref x10, .ref x11, .int (nI n), .ref x12, .ref x13, .ref x14, .ref x15, .ref x16, .ref x17, .ref x18, .ref x19, .ref x20, .int (bP bt), .int (nI sg)])), (x5, .inl (cI, 60, .inl (cN k))), (x6, .inl (cI, 60, .inl (cN o))), (x7, .inl (cI, 60, .inl A)), (x8, .inl (cI, 60, .inl B)), (x9, .inl (cI, 60, .inl C)), (x19, .inl (cL, 80, .inr (.inl u_.1))), (x20, .inl (cL, 80, .inr (.inl u_.2)))]) A_) args_ s_ 0 0 A_) D classes 3 0 0 [(x0, .inr (CI_Model, [.int (nI th), .int (nI nn), .ref x1, .ref x2, .ref x3, .ref x4, .ref x5, .ref x6, .ref x7, .ref x8, .ref x9, .ref x10, .ref x11, .int (nI n), .ref x12, .ref x13, .ref x14, .ref x15, .ref x16, .ref x17, .ref x18, .ref x19, .ref x20, .int (bP bt), .int (nI sg)])), (x5, .inl (cI, 60, .inl (cN k))), (x6, .inl (cI, 60, .inl (cN o))), (x7, .inl (cI, 60, .inl A)), (x8, .inl (cI, 60, .inl B)), (x9, .inl (cI, 60, .inl C)), (x19, .inl (cL, 80, .inr (.inl X0_))), (x20, .inl (cL, 80, .inr (.inl Y0_)))] 2 [(0, .ref x0), (1, .int (nI i0))] [] := by
    intro f_
    induction f_ with
    | zero => intro i0 X0_ Y0_ hm_; exact absurd hm_ (Nat.not_lt_zero _)
    | succ f_ ih2 =>
      intro i0 X0_ Y0_ hm2 hi0 hX0 hY0
      refine V_iload_n F 1 d_Model_close_2 rfl rfl ?_
      refine V_bipush F (v := 80) d_Model_close_3 rfl ?_
      refine V_icmpn_ge F 28 (a := i0) (b := 80) (by omega) (by omega) d_Model_close_5 (by decide) (fun h5 => ?_) (fun h5 => ?_)
      · skip
        refine V_iconst F (v := 0) d_Model_close_28 rfl ?_
        refine V_istore_n F (lv' := [(1, .int (nI 0)), (0, .ref x0)]) d_Model_close_29 rfl (by decide) rfl ?_
        have L30 : ∀ (f_ : Nat) (i : Nat) (X1 : Nat → Int64) (Y1 : Nat → Int64), n - i < f_ → (i ≤ n) → (Bits 60 X1 Y1 (R0 i k o A B C)) → V p_ l e_ ({ frames := 1, cells := 0, slots := 0, locals := 22 }) s_ m_ args_ below_ meth_ c_ A_ (MQ below_ (cQv D classes (fun (u_ : (Nat → Int64) × (Nat → Int64)) => Bits 60 u_.1 u_.2 (wOut (R0 n k o A B C) nn nn)) (fun (u_ : (Nat → Int64) × (Nat → Int64)) => [(x0, .inr (CI_Model, [.int (nI th), .int (nI nn), .ref x1, .ref x2, .ref x3, .ref x4, .ref x5, .ref x6, .ref x7, .ref x8, .ref x9, .ref x10, .ref x11, .int (nI n), .ref x12, .ref x13, .ref x14, .ref x15, .ref x16, .ref x17, .ref x18, .ref x19, .ref x20, .int (bP bt), .int (nI sg)])), (x5, .inl (cI, 60, .inl (cN k))), (x6, .inl (cI, 60, .inl (cN o))), (x7, .inl (cI, 60, .inl A)), (x8, .inl (cI, 60, .inl B)), (x9, .inl (cI, 60, .inl C)), (x19, .inl (cL, 80, .inr (.inl u_.1))), (x20, .inl (cL, 80, .inr (.inl u_.2)))]) A_) args_ s_ 0 0 A_) D classes 3 0 0 [(x0, .inr (CI_Model, [.int (nI th), .int (nI nn), .ref x1, .ref x2, .ref x3, .ref x4, .ref x5, .ref x6, .ref x7, .ref x8, .ref x9, .ref x10, .ref x11, .int (nI n), .ref x12, .ref x13, .ref x14, .ref x15, .ref x16, .ref x17, .ref x18, .ref x19, .ref x20, .int (bP bt), .int (nI sg)])), (x5, .inl (cI, 60, .inl (cN k))), (x6, .inl (cI, 60, .inl (cN o))), (x7, .inl (cI, 60, .inl A)), (x8, .inl (cI, 60, .inl B)), (x9, .inl (cI, 60, .inl C)), (x19, .inl (cL, 80, .inr (.inl X1))), (x20, .inl (cL, 80, .inr (.inl Y1)))] 30 [(0, .ref x0), (1, .int (nI i))] [] := by
          intro f_
          induction f_ with
          | zero => intro i X1 Y1 hm_; exact absurd hm_ (Nat.not_lt_zero _)
          | succ f_ ih30 =>
            intro i X1 Y1 hm30 hi hI
            refine V_iload_n F 1 d_Model_close_30 rfl rfl ?_
            refine V_aload_n F 0 d_Model_close_31 rfl rfl ?_
            refine V_get F 0 CI_Model 13 i_Model rfl rfl (by decide) m_609 rfl rfl d_Model_close_32 ?_
            refine V_icmpn_ge F 128 (a := i) (b := n) (by omega) (by omega) d_Model_close_35 (by decide) (fun h35 => ?_) (fun h35 => ?_)
            · skip
              have e35 : i = n := by omega
              rw [e35] at hI
              refine V_iconst F (v := 0) d_Model_close_128 rfl ?_
              refine V_istore_n F (lv' := [(1, .int (nI 0)), (0, .ref x0)]) d_Model_close_129 rfl (by decide) rfl ?_
              have L130 : ∀ (f_ : Nat) (mm : Nat) (X4 : Nat → Int64) (Y4 : Nat → Int64), nn - mm < f_ → (mm ≤ nn) → (Bits 60 X4 Y4 (wOut (R0 n k o A B C) nn mm)) → V p_ l e_ ({ frames := 1, cells := 0, slots := 0, locals := 22 }) s_ m_ args_ below_ meth_ c_ A_ (MQ below_ (cQv D classes (fun (u_ : (Nat → Int64) × (Nat → Int64)) => Bits 60 u_.1 u_.2 (wOut (R0 n k o A B C) nn nn)) (fun (u_ : (Nat → Int64) × (Nat → Int64)) => [(x0, .inr (CI_Model, [.int (nI th), .int (nI nn), .ref x1, .ref x2, .ref x3, .ref x4, .ref x5, .ref x6, .ref x7, .ref x8, .ref x9, .ref x10, .ref x11, .int (nI n), .ref x12, .ref x13, .ref x14, .ref x15, .ref x16, .ref x17, .ref x18, .ref x19, .ref x20, .int (bP bt), .int (nI sg)])), (x5, .inl (cI, 60, .inl (cN k))), (x6, .inl (cI, 60, .inl (cN o))), (x7, .inl (cI, 60, .inl A)), (x8, .inl (cI, 60, .inl B)), (x9, .inl (cI, 60, .inl C)), (x19, .inl (cL, 80, .inr (.inl u_.1))), (x20, .inl (cL, 80, .inr (.inl u_.2)))]) A_) args_ s_ 0 0 A_) D classes 3 0 0 [(x0, .inr (CI_Model, [.int (nI th), .int (nI nn), .ref x1, .ref x2, .ref x3, .ref x4, .ref x5, .ref x6, .ref x7, .ref x8, .ref x9, .ref x10, .ref x11, .int (nI n), .ref x12, .ref x13, .ref x14, .ref x15, .ref x16, .ref x17, .ref x18, .ref x19, .ref x20, .int (bP bt), .int (nI sg)])), (x5, .inl (cI, 60, .inl (cN k))), (x6, .inl (cI, 60, .inl (cN o))), (x7, .inl (cI, 60, .inl A)), (x8, .inl (cI, 60, .inl B)), (x9, .inl (cI, 60, .inl C)), (x19, .inl (cL, 80, .inr (.inl X4))), (x20, .inl (cL, 80, .inr (.inl Y4)))] 130 [(0, .ref x0), (1, .int (nI mm))] [] := by
                intro f_
                induction f_ with
                | zero => intro mm X4 Y4 hm_; exact absurd hm_ (Nat.not_lt_zero _)
                | succ f_ ih130 =>
                  intro mm X4 Y4 hm130 hmm hO
                  refine V_iload_n F 1 d_Model_close_130 rfl rfl ?_
                  refine V_aload_n F 0 d_Model_close_131 rfl rfl ?_
                  refine V_get F 0 CI_Model 1 i_Model rfl rfl (by decide) m_597 rfl rfl d_Model_close_132 ?_
                  refine V_icmpn_ge F 202 (a := mm) (b := nn) (by omega) (by omega) d_Model_close_135 (by decide) (fun h135 => ?_) (fun h135 => ?_)
                  · skip
                    have e135 : mm = nn := by omega
                    rw [e135] at hO
                    exact V_vret F hr (X4, Y4) (show Bits 60 X4 Y4 (wOut (R0 n k o A B C) nn nn) from hO) [0, 1, 2, 3, 4, 5, 6, 7] rfl rfl (by decide) (by decide) d_Model_close_202
                  · skip
                    refine V_iconst F (v := 0) d_Model_close_138 rfl ?_
                    refine V_istore_n F (lv' := [(2, .int (nI 0)), (0, .ref x0), (1, .int (nI mm))]) d_Model_close_139 rfl (by decide) rfl ?_
                    have L140 : ∀ (f_ : Nat) (y : Nat) (X5 : Nat → Int64) (Y5 : Nat → Int64), nn - y < f_ → (y ≤ nn) → (Bits 60 X5 Y5 (wIn (wOut (R0 n k o A B C) nn mm) mm y)) → V p_ l e_ ({ frames := 1, cells := 0, slots := 0, locals := 22 }) s_ m_ args_ below_ meth_ c_ A_ (MQ below_ (cQv D classes (fun (u_ : (Nat → Int64) × (Nat → Int64)) => Bits 60 u_.1 u_.2 (wOut (R0 n k o A B C) nn nn)) (fun (u_ : (Nat → Int64) × (Nat → Int64)) => [(x0, .inr (CI_Model, [.int (nI th), .int (nI nn), .ref x1, .ref x2, .ref x3, .ref x4, .ref x5, .ref x6, .ref x7, .ref x8, .ref x9, .ref x10, .ref x11, .int (nI n), .ref x12, .ref x13, .ref x14, .ref x15, .ref x16, .ref x17, .ref x18, .ref x19, .ref x20, .int (bP bt), .int (nI sg)])), (x5, .inl (cI, 60, .inl (cN k))), (x6, .inl (cI, 60, .inl (cN o))), (x7, .inl (cI, 60, .inl A)), (x8, .inl (cI, 60, .inl B)), (x9, .inl (cI, 60, .inl C)), (x19, .inl (cL, 80, .inr (.inl u_.1))), (x20, .inl (cL, 80, .inr (.inl u_.2)))]) A_) args_ s_ 0 0 A_) D classes 3 0 0 [(x0, .inr (CI_Model, [.int (nI th), .int (nI nn), .ref x1, .ref x2, .ref x3, .ref x4, .ref x5, .ref x6, .ref x7, .ref x8, .ref x9, .ref x10, .ref x11, .int (nI n), .ref x12, .ref x13, .ref x14, .ref x15, .ref x16, .ref x17, .ref x18, .ref x19, .ref x20, .int (bP bt), .int (nI sg)])), (x5, .inl (cI, 60, .inl (cN k))), (x6, .inl (cI, 60, .inl (cN o))), (x7, .inl (cI, 60, .inl A)), (x8, .inl (cI, 60, .inl B)), (x9, .inl (cI, 60, .inl C)), (x19, .inl (cL, 80, .inr (.inl X5))), (x20, .inl (cL, 80, .inr (.inl Y5)))] 140 [(0, .ref x0), (1, .int (nI mm)), (2, .int (nI y))] [] := by
                      intro f_
                      induction f_ with
                      | zero => intro y X5 Y5 hm_; exact absurd hm_ (Nat.not_lt_zero _)
                      | succ f_ ih140 =>
                        intro y X5 Y5 hm140 hy hN
                        refine V_iload_n F 2 d_Model_close_140 rfl rfl ?_
                        refine V_aload_n F 0 d_Model_close_141 rfl rfl ?_
                        refine V_get F 0 CI_Model 1 i_Model rfl rfl (by decide) m_597 rfl rfl d_Model_close_142 ?_
                        refine V_icmpn_ge F 196 (a := y) (b := nn) (by omega) (by omega) d_Model_close_145 (by decide) (fun h145 => ?_) (fun h145 => ?_)
                        · skip
                          have e145 : y = nn := by omega
                          rw [e145] at hN
                          refine V_iinc F 1 (v := nI (mm + 1)) (lv' := [(1, .int (nI (mm + 1))), (0, .ref x0), (2, .int (nI y))]) d_Model_close_196 rfl (nI_inc _) (by decide) rfl ?_
                          refine V_goto F 130 d_Model_close_199 (by decide) ?_
                          refine V_lv [1, 0] rfl ?_
                          exact ih130 (mm + 1) X5 Y5 (by omega) (by first | assumption | omega | (simp only [] at *; omega)) hN
                        · skip
                          refine V_aload_n F 0 d_Model_close_148 rfl rfl ?_
                          refine V_iload_n F 2 d_Model_close_149 rfl rfl ?_
                          refine V_iload_n F 1 d_Model_close_150 rfl rfl ?_
                          refine V_callV_i (w1 := fun (u_ : Unit) => [(x0, .inr (CI_Model, [.int (nI th), .int (nI nn), .ref x1, .ref x2, .ref x3, .ref x4, .ref x5, .ref x6, .ref x7, .ref x8, .ref x9, .ref x10, .ref x11, .int (nI n), .ref x12, .ref x13, .ref x14, .ref x15, .ref x16, .ref x17, .ref x18, .ref x19, .ref x20, .int (bP bt), .int (nI sg)])), (x5, .inl (cI, 60, .inl (cN k))), (x6, .inl (cI, 60, .inl (cN o))), (x7, .inl (cI, 60, .inl A)), (x8, .inl (cI, 60, .inl B)), (x9, .inl (cI, 60, .inl C)), (x19, .inl (cL, 80, .inr (.inl X5))), (x20, .inl (cL, 80, .inr (.inl Y5)))]) (wr := [(x5, .inl (cI, 60, .inl (cN k))), (x6, .inl (cI, 60, .inl (cN o))), (x7, .inl (cI, 60, .inl A)), (x8, .inl (cI, 60, .inl B)), (x9, .inl (cI, 60, .inl C))]) (isC := [0, 6, 7]) (isR := [1, 2, 3, 4, 5]) (pm := [5, 0, 1, 2, 3, 4, 6, 7]) (As := [.int (nI y), .int (nI mm)]) (rest := []) F (c_Model_has l D cI cL cB x0 x1 x2 x3 x4 x5 x6 x7 x8 x9 x10 x11 x12 x13 x14 x15 x16 x17 x18 x19 x20 th nn n sg bt X5 Y5 (wIn (wOut (R0 n k o A B C) nn mm) mm y) y mm (by omega) (by omega) hN) (cS_V 2 F.ts m_731 m_732 m_28 m_42 m_733 (by decide +kernel) ⟨Nat.le_of_ble_eq_true rfl, Nat.le_of_ble_eq_true rfl⟩) (ci := CI_Model) (q0 := 0) rfl rfl rfl (Nat.le_of_ble_eq_true rfl) d_Model_close_151 ⟨Nat.le_of_ble_eq_true rfl, Nat.le_of_ble_eq_true rfl⟩ ⟨rfl, rfl, rfl, rfl, rfl, fun _ => rfl, rfl⟩ (fun r151 uu151 q151_ => ?_) rfl
                          subst q151_
                          refine V_ifb_ne F 160 d_Model_close_154 (by decide) (fun h154 => ?_) (fun h154 => ?_)
                          · skip
                            refine V_aload_n F 0 d_Model_close_160 rfl rfl ?_
                            refine V_get F 0 CI_Model 21 i_Model rfl rfl (by decide) m_617 rfl rfl d_Model_close_161 ?_
                            refine V_iload_n F 2 d_Model_close_164 rfl rfl ?_
                            refine V_dup2 F d_Model_close_165 rfl rfl ?_
                            refine V_laldn F 6 1 (k := y) rfl rfl (by omega) (by decide) d_Model_close_166 ?_
                            refine V_aload_n F 0 d_Model_close_167 rfl rfl ?_
                            refine V_get F 0 CI_Model 21 i_Model rfl rfl (by decide) m_617 rfl rfl d_Model_close_168 ?_
                            refine V_iload_n F 1 d_Model_close_171 rfl rfl ?_
                            refine V_laldn F 6 1 (k := mm) rfl rfl (by omega) (by decide) d_Model_close_172 ?_
                            refine V_lor F d_Model_close_173 ?_
                            refine V_lastn F 6 1 (k := y) (w' := [(x0, .inr (CI_Model, [.int (nI th), .int (nI nn), .ref x1, .ref x2, .ref x3, .ref x4, .ref x5, .ref x6, .ref x7, .ref x8, .ref x9, .ref x10, .ref x11, .int (nI n), .ref x12, .ref x13, .ref x14, .ref x15, .ref x16, .ref x17, .ref x18, .ref x19, .ref x20, .int (bP bt), .int (nI sg)])), (x5, .inl (cI, 60, .inl (cN k))), (x6, .inl (cI, 60, .inl (cN o))), (x7, .inl (cI, 60, .inl A)), (x8, .inl (cI, 60, .inl B)), (x9, .inl (cI, 60, .inl C)), (x19, .inl (cL, 80, .inr (.inl (vp_updL X5 y ((X5 y) ||| (X5 mm)))))), (x20, .inl (cL, 80, .inr (.inl Y5)))]) rfl rfl (by omega) (by decide) rfl d_Model_close_174 ?_
                            refine V_aload_n F 0 d_Model_close_175 rfl rfl ?_
                            refine V_get F 0 CI_Model 22 i_Model rfl rfl (by decide) m_618 rfl rfl d_Model_close_176 ?_
                            refine V_iload_n F 2 d_Model_close_179 rfl rfl ?_
                            refine V_dup2 F d_Model_close_180 rfl rfl ?_
                            refine V_laldn F 7 1 (k := y) rfl rfl (by omega) (by decide) d_Model_close_181 ?_
                            refine V_aload_n F 0 d_Model_close_182 rfl rfl ?_
                            refine V_get F 0 CI_Model 22 i_Model rfl rfl (by decide) m_618 rfl rfl d_Model_close_183 ?_
                            refine V_iload_n F 1 d_Model_close_186 rfl rfl ?_
                            refine V_laldn F 7 1 (k := mm) rfl rfl (by omega) (by decide) d_Model_close_187 ?_
                            refine V_lor F d_Model_close_188 ?_
                            refine V_lastn F 7 1 (k := y) (w' := [(x0, .inr (CI_Model, [.int (nI th), .int (nI nn), .ref x1, .ref x2, .ref x3, .ref x4, .ref x5, .ref x6, .ref x7, .ref x8, .ref x9, .ref x10, .ref x11, .int (nI n), .ref x12, .ref x13, .ref x14, .ref x15, .ref x16, .ref x17, .ref x18, .ref x19, .ref x20, .int (bP bt), .int (nI sg)])), (x5, .inl (cI, 60, .inl (cN k))), (x6, .inl (cI, 60, .inl (cN o))), (x7, .inl (cI, 60, .inl A)), (x8, .inl (cI, 60, .inl B)), (x9, .inl (cI, 60, .inl C)), (x19, .inl (cL, 80, .inr (.inl (vp_updL X5 y ((X5 y) ||| (X5 mm)))))), (x20, .inl (cL, 80, .inr (.inl (vp_updL Y5 y ((Y5 y) ||| (Y5 mm))))))]) rfl rfl (by omega) (by decide) rfl d_Model_close_189 ?_
                            refine V_iinc F 2 (v := nI (y + 1)) (lv' := [(2, .int (nI (y + 1))), (0, .ref x0), (1, .int (nI mm))]) d_Model_close_190 rfl (nI_inc _) (by decide) rfl ?_
                            refine V_goto F 140 d_Model_close_193 (by decide) ?_
                            refine V_lv [1, 2, 0] rfl ?_
                            exact ih140 (y + 1) (vp_updL X5 y ((X5 y) ||| (X5 mm))) (vp_updL Y5 y ((Y5 y) ||| (Y5 mm))) (by omega) (by first | assumption | omega | (simp only [] at *; omega)) (hN.row (by omega) h154)
                          · skip
                            refine V_goto F 190 d_Model_close_157 (by decide) ?_
                            refine V_iinc F 2 (v := nI (y + 1)) (lv' := [(2, .int (nI (y + 1))), (0, .ref x0), (1, .int (nI mm))]) d_Model_close_190 rfl (nI_inc _) (by decide) rfl ?_
                            refine V_goto F 140 d_Model_close_193 (by decide) ?_
                            refine V_lv [1, 2, 0] rfl ?_
                            exact ih140 (y + 1) X5 Y5 (by omega) (by first | assumption | omega | (simp only [] at *; omega)) (hN.norow h154)
                    refine V_lv [1, 2, 0] rfl ?_
                    exact L140 ((nn - 0) + 1) 0 X4 Y4 (Nat.lt_succ_self _) (by first | assumption | omega | (simp only [] at *; omega)) hO
              refine V_lv [1, 0] rfl ?_
              exact L130 ((nn - 0) + 1) 0 X1 Y1 (Nat.lt_succ_self _) (by first | assumption | omega | (simp only [] at *; omega)) hI
            · skip
              have hk8 := (hw i (by omega)).1
              have ho8 := (hw i (by omega)).2.1
              have hd8 := dep3 (k i)
              have L60 : V p_ l e_ ({ frames := 1, cells := 0, slots := 0, locals := 22 }) s_ m_ args_ below_ meth_ c_ A_ (MQ below_ (cQv D classes (fun (u_ : (Nat → Int64) × (Nat → Int64)) => Bits 60 u_.1 u_.2 (wOut (R0 n k o A B C) nn nn)) (fun (u_ : (Nat → Int64) × (Nat → Int64)) => [(x0, .inr (CI_Model, [.int (nI th), .int (nI nn), .ref x1, .ref x2, .ref x3, .ref x4, .ref x5, .ref x6, .ref x7, .ref x8, .ref x9, .ref x10, .ref x11, .int (nI n), .ref x12, .ref x13, .ref x14, .ref x15, .ref x16, .ref x17, .ref x18, .ref x19, .ref x20, .int (bP bt), .int (nI sg)])), (x5, .inl (cI, 60, .inl (cN k))), (x6, .inl (cI, 60, .inl (cN o))), (x7, .inl (cI, 60, .inl A)), (x8, .inl (cI, 60, .inl B)), (x9, .inl (cI, 60, .inl C)), (x19, .inl (cL, 80, .inr (.inl u_.1))), (x20, .inl (cL, 80, .inr (.inl u_.2)))]) A_) args_ s_ 0 0 A_) D classes 3 0 0 [(x0, .inr (CI_Model, [.int (nI th), .int (nI nn), .ref x1, .ref x2, .ref x3, .ref x4, .ref x5, .ref x6, .ref x7, .ref x8, .ref x9, .ref x10, .ref x11, .int (nI n), .ref x12, .ref x13, .ref x14, .ref x15, .ref x16, .ref x17, .ref x18, .ref x19, .ref x20, .int (bP bt), .int (nI sg)])), (x5, .inl (cI, 60, .inl (cN k))), (x6, .inl (cI, 60, .inl (cN o))), (x7, .inl (cI, 60, .inl A)), (x8, .inl (cI, 60, .inl B)), (x9, .inl (cI, 60, .inl C)), (x19, .inl (cL, 80, .inr (.inl X1))), (x20, .inl (cL, 80, .inr (.inl Y1)))] 60 [(0, .ref x0), (1, .int (nI i)), (2, .int (nI (depN (k i))))] [] := by
                have L80 : ∀ (X2 : Nat → Int64) (Y2 : Nat → Int64), (Bits 60 X2 Y2 (fun a b => R0 i k o A B C a b ∨ (o i = a ∧ ∃ t, (t < 1 ∧ t < depN (k i)) ∧ iN A B C i t = b))) → V p_ l e_ ({ frames := 1, cells := 0, slots := 0, locals := 22 }) s_ m_ args_ below_ meth_ c_ A_ (MQ below_ (cQv D classes (fun (u_ : (Nat → Int64) × (Nat → Int64)) => Bits 60 u_.1 u_.2 (wOut (R0 n k o A B C) nn nn)) (fun (u_ : (Nat → Int64) × (Nat → Int64)) => [(x0, .inr (CI_Model, [.int (nI th), .int (nI nn), .ref x1, .ref x2, .ref x3, .ref x4, .ref x5, .ref x6, .ref x7, .ref x8, .ref x9, .ref x10, .ref x11, .int (nI n), .ref x12, .ref x13, .ref x14, .ref x15, .ref x16, .ref x17, .ref x18, .ref x19, .ref x20, .int (bP bt), .int (nI sg)])), (x5, .inl (cI, 60, .inl (cN k))), (x6, .inl (cI, 60, .inl (cN o))), (x7, .inl (cI, 60, .inl A)), (x8, .inl (cI, 60, .inl B)), (x9, .inl (cI, 60, .inl C)), (x19, .inl (cL, 80, .inr (.inl u_.1))), (x20, .inl (cL, 80, .inr (.inl u_.2)))]) A_) args_ s_ 0 0 A_) D classes 3 0 0 [(x0, .inr (CI_Model, [.int (nI th), .int (nI nn), .ref x1, .ref x2, .ref x3, .ref x4, .ref x5, .ref x6, .ref x7, .ref x8, .ref x9, .ref x10, .ref x11, .int (nI n), .ref x12, .ref x13, .ref x14, .ref x15, .ref x16, .ref x17, .ref x18, .ref x19, .ref x20, .int (bP bt), .int (nI sg)])), (x5, .inl (cI, 60, .inl (cN k))), (x6, .inl (cI, 60, .inl (cN o))), (x7, .inl (cI, 60, .inl A)), (x8, .inl (cI, 60, .inl B)), (x9, .inl (cI, 60, .inl C)), (x19, .inl (cL, 80, .inr (.inl X2))), (x20, .inl (cL, 80, .inr (.inl Y2)))] 80 [(0, .ref x0), (1, .int (nI i)), (2, .int (nI (depN (k i))))] [] := by
                  intro X2 Y2 hB1
                  have L101 : ∀ (X3 : Nat → Int64) (Y3 : Nat → Int64), (Bits 60 X3 Y3 (fun a b => R0 i k o A B C a b ∨ (o i = a ∧ ∃ t, (t < 2 ∧ t < depN (k i)) ∧ iN A B C i t = b))) → V p_ l e_ ({ frames := 1, cells := 0, slots := 0, locals := 22 }) s_ m_ args_ below_ meth_ c_ A_ (MQ below_ (cQv D classes (fun (u_ : (Nat → Int64) × (Nat → Int64)) => Bits 60 u_.1 u_.2 (wOut (R0 n k o A B C) nn nn)) (fun (u_ : (Nat → Int64) × (Nat → Int64)) => [(x0, .inr (CI_Model, [.int (nI th), .int (nI nn), .ref x1, .ref x2, .ref x3, .ref x4, .ref x5, .ref x6, .ref x7, .ref x8, .ref x9, .ref x10, .ref x11, .int (nI n), .ref x12, .ref x13, .ref x14, .ref x15, .ref x16, .ref x17, .ref x18, .ref x19, .ref x20, .int (bP bt), .int (nI sg)])), (x5, .inl (cI, 60, .inl (cN k))), (x6, .inl (cI, 60, .inl (cN o))), (x7, .inl (cI, 60, .inl A)), (x8, .inl (cI, 60, .inl B)), (x9, .inl (cI, 60, .inl C)), (x19, .inl (cL, 80, .inr (.inl u_.1))), (x20, .inl (cL, 80, .inr (.inl u_.2)))]) A_) args_ s_ 0 0 A_) D classes 3 0 0 [(x0, .inr (CI_Model, [.int (nI th), .int (nI nn), .ref x1, .ref x2, .ref x3, .ref x4, .ref x5, .ref x6, .ref x7, .ref x8, .ref x9, .ref x10, .ref x11, .int (nI n), .ref x12, .ref x13, .ref x14, .ref x15, .ref x16, .ref x17, .ref x18, .ref x19, .ref x20, .int (bP bt), .int (nI sg)])), (x5, .inl (cI, 60, .inl (cN k))), (x6, .inl (cI, 60, .inl (cN o))), (x7, .inl (cI, 60, .inl A)), (x8, .inl (cI, 60, .inl B)), (x9, .inl (cI, 60, .inl C)), (x19, .inl (cL, 80, .inr (.inl X3))), (x20, .inl (cL, 80, .inr (.inl Y3)))] 101 [(0, .ref x0), (1, .int (nI i)), (2, .int (nI (depN (k i))))] [] := by
                    intro X3 Y3 hB2
                    have L122 : ∀ (X6 : Nat → Int64) (Y6 : Nat → Int64), (Bits 60 X6 Y6 (fun a b => R0 i k o A B C a b ∨ (o i = a ∧ ∃ t, (t < 3 ∧ t < depN (k i)) ∧ iN A B C i t = b))) → V p_ l e_ ({ frames := 1, cells := 0, slots := 0, locals := 22 }) s_ m_ args_ below_ meth_ c_ A_ (MQ below_ (cQv D classes (fun (u_ : (Nat → Int64) × (Nat → Int64)) => Bits 60 u_.1 u_.2 (wOut (R0 n k o A B C) nn nn)) (fun (u_ : (Nat → Int64) × (Nat → Int64)) => [(x0, .inr (CI_Model, [.int (nI th), .int (nI nn), .ref x1, .ref x2, .ref x3, .ref x4, .ref x5, .ref x6, .ref x7, .ref x8, .ref x9, .ref x10, .ref x11, .int (nI n), .ref x12, .ref x13, .ref x14, .ref x15, .ref x16, .ref x17, .ref x18, .ref x19, .ref x20, .int (bP bt), .int (nI sg)])), (x5, .inl (cI, 60, .inl (cN k))), (x6, .inl (cI, 60, .inl (cN o))), (x7, .inl (cI, 60, .inl A)), (x8, .inl (cI, 60, .inl B)), (x9, .inl (cI, 60, .inl C)), (x19, .inl (cL, 80, .inr (.inl u_.1))), (x20, .inl (cL, 80, .inr (.inl u_.2)))]) A_) args_ s_ 0 0 A_) D classes 3 0 0 [(x0, .inr (CI_Model, [.int (nI th), .int (nI nn), .ref x1, .ref x2, .ref x3, .ref x4, .ref x5, .ref x6, .ref x7, .ref x8, .ref x9, .ref x10, .ref x11, .int (nI n), .ref x12, .ref x13, .ref x14, .ref x15, .ref x16, .ref x17, .ref x18, .ref x19, .ref x20, .int (bP bt), .int (nI sg)])), (x5, .inl (cI, 60, .inl (cN k))), (x6, .inl (cI, 60, .inl (cN o))), (x7, .inl (cI, 60, .inl A)), (x8, .inl (cI, 60, .inl B)), (x9, .inl (cI, 60, .inl C)), (x19, .inl (cL, 80, .inr (.inl X6))), (x20, .inl (cL, 80, .inr (.inl Y6)))] 122 [(0, .ref x0), (1, .int (nI i)), (2, .int (nI (depN (k i))))] [] := by
                      intro X6 Y6 hB3
                      refine V_iinc F 1 (v := nI (i + 1)) (lv' := [(1, .int (nI (i + 1))), (0, .ref x0), (2, .int (nI (depN (k i))))]) d_Model_close_122 rfl (nI_inc _) (by decide) rfl ?_
                      refine V_goto F 30 d_Model_close_125 (by decide) ?_
                      refine V_lv [1, 0] rfl ?_
                      exact ih30 (i + 1) X6 Y6 (by omega) (by first | assumption | omega | (simp only [] at *; omega)) (hB3.congr (R0_m (dep3 _)))
                    refine V_iload_n F 2 d_Model_close_101 rfl rfl ?_
                    refine V_iconst F (v := 2) d_Model_close_102 rfl ?_
                    refine V_icmpn_le F 122 (a := depN (k i)) (b := 2) (by omega) (by omega) d_Model_close_103 (by decide) (fun h103 => ?_) (fun h103 => ?_)
                    · skip
                      refine V_lv [0, 1, 2] rfl ?_
                      exact L122 X3 Y3 (hB2.congr (R0_mf (by omega)))
                    · skip
                      have hv2 : vp_in (C i) nn := (hw i (by omega)).2.2.1 2 (Nat.lt_of_lt_of_le (by omega : 2 < depN (k i)) (depN_le _))
                      have hi3 : iN A B C i 2 < 80 := Nat.lt_of_lt_of_le (vp_lt hv2) hnn
                      refine V_aload_n F 0 d_Model_close_106 rfl rfl ?_
                      refine V_aload_n F 0 d_Model_close_107 rfl rfl ?_
                      refine V_get F 0 CI_Model 7 i_Model rfl rfl (by decide) m_603 rfl rfl d_Model_close_108 ?_
                      refine V_iload_n F 1 d_Model_close_111 rfl rfl ?_
                      refine V_ialdnN F 2 0 (k := i) rfl rfl (by omega) (by decide) d_Model_close_112 ?_
                      refine V_aload_n F 0 d_Model_close_113 rfl rfl ?_
                      refine V_get F 0 CI_Model 10 i_Model rfl rfl (by decide) m_606 rfl rfl d_Model_close_114 ?_
                      refine V_iload_n F 1 d_Model_close_117 rfl rfl ?_
                      refine V_ialdn F 5 0 (k := i) rfl rfl (by omega) (by decide) d_Model_close_118 ?_
                      refine V_top (y := nI (iN A B C i 2)) (vin_nI hv2 (by omega)) ?_
                      refine V_callV_v (w1 := fun (u_ : (Nat → Int64) × (Nat → Int64)) => [(x0, .inr (CI_Model, [.int (nI th), .int (nI nn), .ref x1, .ref x2, .ref x3, .ref x4, .ref x5, .ref x6, .ref x7, .ref x8, .ref x9, .ref x10, .ref x11, .int (nI n), .ref x12, .ref x13, .ref x14, .ref x15, .ref x16, .ref x17, .ref x18, .ref x19, .ref x20, .int (bP bt), .int (nI sg)])), (x5, .inl (cI, 60, .inl (cN k))), (x6, .inl (cI, 60, .inl (cN o))), (x7, .inl (cI, 60, .inl A)), (x8, .inl (cI, 60, .inl B)), (x9, .inl (cI, 60, .inl C)), (x19, .inl (cL, 80, .inr (.inl u_.1))), (x20, .inl (cL, 80, .inr (.inl u_.2)))]) (wr := [(x5, .inl (cI, 60, .inl (cN k))), (x6, .inl (cI, 60, .inl (cN o))), (x7, .inl (cI, 60, .inl A)), (x8, .inl (cI, 60, .inl B)), (x9, .inl (cI, 60, .inl C))]) (isC := [0, 6, 7]) (isR := [1, 2, 3, 4, 5]) (pm := [5, 0, 1, 2, 3, 4, 6, 7]) (As := [.int (nI (o i)), .int (nI (iN A B C i 2))]) (rest := []) F (c_Model_depend l D cI cL cB x0 x1 x2 x3 x4 x5 x6 x7 x8 x9 x10 x11 x12 x13 x14 x15 x16 x17 x18 x19 x20 th nn n sg bt X3 Y3 (fun a b => R0 i k o A B C a b ∨ (o i = a ∧ ∃ t, (t < 2 ∧ t < depN (k i)) ∧ iN A B C i t = b)) (o i) (iN A B C i 2) (by omega) (by omega) hB2) (cS_V 2 F.ts m_728 m_729 m_27 m_42 m_730 (by decide +kernel) ⟨Nat.le_of_ble_eq_true rfl, Nat.le_of_ble_eq_true rfl⟩) (ci := CI_Model) (q0 := 0) rfl rfl rfl (Nat.le_of_ble_eq_true rfl) d_Model_close_119 ⟨Nat.le_of_ble_eq_true rfl, Nat.le_of_ble_eq_true rfl⟩ ⟨rfl, rfl, rfl, rfl, rfl, fun _ => rfl, rfl⟩ (fun uu119 q119_ => ?_) rfl
                      obtain ⟨X2_119, Y2_119⟩ := uu119
                      have e119 : Bits 60 X2_119 Y2_119 (fun x y => (fun a b => R0 i k o A B C a b ∨ (o i = a ∧ ∃ t, (t < 2 ∧ t < depN (k i)) ∧ iN A B C i t = b)) x y ∨ (x = (o i) ∧ y = (iN A B C i 2))) := q119_
                      clear q119_
                      refine V_cast (w' := [(x0, .inr (CI_Model, [.int (nI th), .int (nI nn), .ref x1, .ref x2, .ref x3, .ref x4, .ref x5, .ref x6, .ref x7, .ref x8, .ref x9, .ref x10, .ref x11, .int (nI n), .ref x12, .ref x13, .ref x14, .ref x15, .ref x16, .ref x17, .ref x18, .ref x19, .ref x20, .int (bP bt), .int (nI sg)])), (x5, .inl (cI, 60, .inl (cN k))), (x6, .inl (cI, 60, .inl (cN o))), (x7, .inl (cI, 60, .inl A)), (x8, .inl (cI, 60, .inl B)), (x9, .inl (cI, 60, .inl C)), (x19, .inl (cL, 80, .inr (.inl X2_119))), (x20, .inl (cL, 80, .inr (.inl Y2_119)))]) rfl rfl rfl ?_
                      refine V_lv [0, 1, 2] rfl ?_
                      exact L122 X2_119 Y2_119 (e119.congr (R0_mt (by omega)))
                  refine V_iload_n F 2 d_Model_close_80 rfl rfl ?_
                  refine V_iconst F (v := 1) d_Model_close_81 rfl ?_
                  refine V_icmpn_le F 101 (a := depN (k i)) (b := 1) (by omega) (by omega) d_Model_close_82 (by decide) (fun h82 => ?_) (fun h82 => ?_)
                  · skip
                    refine V_lv [0, 1, 2] rfl ?_
                    exact L101 X2 Y2 (hB1.congr (R0_mf (by omega)))
                  · skip
                    have hv1 : vp_in (B i) nn := (hw i (by omega)).2.2.1 1 (Nat.lt_of_lt_of_le (by omega : 1 < depN (k i)) (depN_le _))
                    have hi2 : iN A B C i 1 < 80 := Nat.lt_of_lt_of_le (vp_lt hv1) hnn
                    refine V_aload_n F 0 d_Model_close_85 rfl rfl ?_
                    refine V_aload_n F 0 d_Model_close_86 rfl rfl ?_
                    refine V_get F 0 CI_Model 7 i_Model rfl rfl (by decide) m_603 rfl rfl d_Model_close_87 ?_
                    refine V_iload_n F 1 d_Model_close_90 rfl rfl ?_
                    refine V_ialdnN F 2 0 (k := i) rfl rfl (by omega) (by decide) d_Model_close_91 ?_
                    refine V_aload_n F 0 d_Model_close_92 rfl rfl ?_
                    refine V_get F 0 CI_Model 9 i_Model rfl rfl (by decide) m_605 rfl rfl d_Model_close_93 ?_
                    refine V_iload_n F 1 d_Model_close_96 rfl rfl ?_
                    refine V_ialdn F 4 0 (k := i) rfl rfl (by omega) (by decide) d_Model_close_97 ?_
                    refine V_top (y := nI (iN A B C i 1)) (vin_nI hv1 (by omega)) ?_
                    refine V_callV_v (w1 := fun (u_ : (Nat → Int64) × (Nat → Int64)) => [(x0, .inr (CI_Model, [.int (nI th), .int (nI nn), .ref x1, .ref x2, .ref x3, .ref x4, .ref x5, .ref x6, .ref x7, .ref x8, .ref x9, .ref x10, .ref x11, .int (nI n), .ref x12, .ref x13, .ref x14, .ref x15, .ref x16, .ref x17, .ref x18, .ref x19, .ref x20, .int (bP bt), .int (nI sg)])), (x5, .inl (cI, 60, .inl (cN k))), (x6, .inl (cI, 60, .inl (cN o))), (x7, .inl (cI, 60, .inl A)), (x8, .inl (cI, 60, .inl B)), (x9, .inl (cI, 60, .inl C)), (x19, .inl (cL, 80, .inr (.inl u_.1))), (x20, .inl (cL, 80, .inr (.inl u_.2)))]) (wr := [(x5, .inl (cI, 60, .inl (cN k))), (x6, .inl (cI, 60, .inl (cN o))), (x7, .inl (cI, 60, .inl A)), (x8, .inl (cI, 60, .inl B)), (x9, .inl (cI, 60, .inl C))]) (isC := [0, 6, 7]) (isR := [1, 2, 3, 4, 5]) (pm := [5, 0, 1, 2, 3, 4, 6, 7]) (As := [.int (nI (o i)), .int (nI (iN A B C i 1))]) (rest := []) F (c_Model_depend l D cI cL cB x0 x1 x2 x3 x4 x5 x6 x7 x8 x9 x10 x11 x12 x13 x14 x15 x16 x17 x18 x19 x20 th nn n sg bt X2 Y2 (fun a b => R0 i k o A B C a b ∨ (o i = a ∧ ∃ t, (t < 1 ∧ t < depN (k i)) ∧ iN A B C i t = b)) (o i) (iN A B C i 1) (by omega) (by omega) hB1) (cS_V 2 F.ts m_728 m_729 m_27 m_42 m_730 (by decide +kernel) ⟨Nat.le_of_ble_eq_true rfl, Nat.le_of_ble_eq_true rfl⟩) (ci := CI_Model) (q0 := 0) rfl rfl rfl (Nat.le_of_ble_eq_true rfl) d_Model_close_98 ⟨Nat.le_of_ble_eq_true rfl, Nat.le_of_ble_eq_true rfl⟩ ⟨rfl, rfl, rfl, rfl, rfl, fun _ => rfl, rfl⟩ (fun uu98 q98_ => ?_) rfl
                    obtain ⟨X2_98, Y2_98⟩ := uu98
                    have e98 : Bits 60 X2_98 Y2_98 (fun x y => (fun a b => R0 i k o A B C a b ∨ (o i = a ∧ ∃ t, (t < 1 ∧ t < depN (k i)) ∧ iN A B C i t = b)) x y ∨ (x = (o i) ∧ y = (iN A B C i 1))) := q98_
                    clear q98_
                    refine V_cast (w' := [(x0, .inr (CI_Model, [.int (nI th), .int (nI nn), .ref x1, .ref x2, .ref x3, .ref x4, .ref x5, .ref x6, .ref x7, .ref x8, .ref x9, .ref x10, .ref x11, .int (nI n), .ref x12, .ref x13, .ref x14, .ref x15, .ref x16, .ref x17, .ref x18, .ref x19, .ref x20, .int (bP bt), .int (nI sg)])), (x5, .inl (cI, 60, .inl (cN k))), (x6, .inl (cI, 60, .inl (cN o))), (x7, .inl (cI, 60, .inl A)), (x8, .inl (cI, 60, .inl B)), (x9, .inl (cI, 60, .inl C)), (x19, .inl (cL, 80, .inr (.inl X2_98))), (x20, .inl (cL, 80, .inr (.inl Y2_98)))]) rfl rfl rfl ?_
                    refine V_lv [0, 1, 2] rfl ?_
                    exact L101 X2_98 Y2_98 (e98.congr (R0_mt (by omega)))
                refine V_iload_n F 2 d_Model_close_60 rfl rfl ?_
                refine V_ifn_le F 80 (a := depN (k i)) (by omega) d_Model_close_61 (by decide) (fun h61 => ?_) (fun h61 => ?_)
                · skip
                  refine V_lv [0, 1, 2] rfl ?_
                  exact L80 X1 Y1 ((hI.congr R0_m0).congr (R0_mf (by omega)))
                · skip
                  have hv0 : vp_in (A i) nn := (hw i (by omega)).2.2.1 0 (Nat.lt_of_lt_of_le (by omega : 0 < depN (k i)) (depN_le _))
                  have hi1 : iN A B C i 0 < 80 := Nat.lt_of_lt_of_le (vp_lt hv0) hnn
                  refine V_aload_n F 0 d_Model_close_64 rfl rfl ?_
                  refine V_aload_n F 0 d_Model_close_65 rfl rfl ?_
                  refine V_get F 0 CI_Model 7 i_Model rfl rfl (by decide) m_603 rfl rfl d_Model_close_66 ?_
                  refine V_iload_n F 1 d_Model_close_69 rfl rfl ?_
                  refine V_ialdnN F 2 0 (k := i) rfl rfl (by omega) (by decide) d_Model_close_70 ?_
                  refine V_aload_n F 0 d_Model_close_71 rfl rfl ?_
                  refine V_get F 0 CI_Model 8 i_Model rfl rfl (by decide) m_604 rfl rfl d_Model_close_72 ?_
                  refine V_iload_n F 1 d_Model_close_75 rfl rfl ?_
                  refine V_ialdn F 3 0 (k := i) rfl rfl (by omega) (by decide) d_Model_close_76 ?_
                  refine V_top (y := nI (iN A B C i 0)) (vin_nI hv0 (by omega)) ?_
                  refine V_callV_v (w1 := fun (u_ : (Nat → Int64) × (Nat → Int64)) => [(x0, .inr (CI_Model, [.int (nI th), .int (nI nn), .ref x1, .ref x2, .ref x3, .ref x4, .ref x5, .ref x6, .ref x7, .ref x8, .ref x9, .ref x10, .ref x11, .int (nI n), .ref x12, .ref x13, .ref x14, .ref x15, .ref x16, .ref x17, .ref x18, .ref x19, .ref x20, .int (bP bt), .int (nI sg)])), (x5, .inl (cI, 60, .inl (cN k))), (x6, .inl (cI, 60, .inl (cN o))), (x7, .inl (cI, 60, .inl A)), (x8, .inl (cI, 60, .inl B)), (x9, .inl (cI, 60, .inl C)), (x19, .inl (cL, 80, .inr (.inl u_.1))), (x20, .inl (cL, 80, .inr (.inl u_.2)))]) (wr := [(x5, .inl (cI, 60, .inl (cN k))), (x6, .inl (cI, 60, .inl (cN o))), (x7, .inl (cI, 60, .inl A)), (x8, .inl (cI, 60, .inl B)), (x9, .inl (cI, 60, .inl C))]) (isC := [0, 6, 7]) (isR := [1, 2, 3, 4, 5]) (pm := [5, 0, 1, 2, 3, 4, 6, 7]) (As := [.int (nI (o i)), .int (nI (iN A B C i 0))]) (rest := []) F (c_Model_depend l D cI cL cB x0 x1 x2 x3 x4 x5 x6 x7 x8 x9 x10 x11 x12 x13 x14 x15 x16 x17 x18 x19 x20 th nn n sg bt X1 Y1 (fun a b => R0 i k o A B C a b ∨ (o i = a ∧ ∃ t, (t < 0 ∧ t < depN (k i)) ∧ iN A B C i t = b)) (o i) (iN A B C i 0) (by omega) (by omega) (hI.congr R0_m0)) (cS_V 2 F.ts m_728 m_729 m_27 m_42 m_730 (by decide +kernel) ⟨Nat.le_of_ble_eq_true rfl, Nat.le_of_ble_eq_true rfl⟩) (ci := CI_Model) (q0 := 0) rfl rfl rfl (Nat.le_of_ble_eq_true rfl) d_Model_close_77 ⟨Nat.le_of_ble_eq_true rfl, Nat.le_of_ble_eq_true rfl⟩ ⟨rfl, rfl, rfl, rfl, rfl, fun _ => rfl, rfl⟩ (fun uu77 q77_ => ?_) rfl
                  obtain ⟨X2_77, Y2_77⟩ := uu77
                  have e77 : Bits 60 X2_77 Y2_77 (fun x y => (fun a b => R0 i k o A B C a b ∨ (o i = a ∧ ∃ t, (t < 0 ∧ t < depN (k i)) ∧ iN A B C i t = b)) x y ∨ (x = (o i) ∧ y = (iN A B C i 0))) := q77_
                  clear q77_
                  refine V_cast (w' := [(x0, .inr (CI_Model, [.int (nI th), .int (nI nn), .ref x1, .ref x2, .ref x3, .ref x4, .ref x5, .ref x6, .ref x7, .ref x8, .ref x9, .ref x10, .ref x11, .int (nI n), .ref x12, .ref x13, .ref x14, .ref x15, .ref x16, .ref x17, .ref x18, .ref x19, .ref x20, .int (bP bt), .int (nI sg)])), (x5, .inl (cI, 60, .inl (cN k))), (x6, .inl (cI, 60, .inl (cN o))), (x7, .inl (cI, 60, .inl A)), (x8, .inl (cI, 60, .inl B)), (x9, .inl (cI, 60, .inl C)), (x19, .inl (cL, 80, .inr (.inl X2_77))), (x20, .inl (cL, 80, .inr (.inl Y2_77)))]) rfl rfl rfl ?_
                  refine V_lv [0, 1, 2] rfl ?_
                  exact L80 X2_77 Y2_77 (e77.congr (R0_mt (by omega)))
              refine V_aload_n F 0 d_Model_close_38 rfl rfl ?_
              refine V_iload_n F 1 d_Model_close_39 rfl rfl ?_
              refine V_callV_i (w1 := fun (u_ : Unit) => [(x0, .inr (CI_Model, [.int (nI th), .int (nI nn), .ref x1, .ref x2, .ref x3, .ref x4, .ref x5, .ref x6, .ref x7, .ref x8, .ref x9, .ref x10, .ref x11, .int (nI n), .ref x12, .ref x13, .ref x14, .ref x15, .ref x16, .ref x17, .ref x18, .ref x19, .ref x20, .int (bP bt), .int (nI sg)])), (x5, .inl (cI, 60, .inl (cN k))), (x6, .inl (cI, 60, .inl (cN o))), (x7, .inl (cI, 60, .inl A)), (x8, .inl (cI, 60, .inl B)), (x9, .inl (cI, 60, .inl C)), (x19, .inl (cL, 80, .inr (.inl X1))), (x20, .inl (cL, 80, .inr (.inl Y1)))]) (wr := [(x6, .inl (cI, 60, .inl (cN o))), (x7, .inl (cI, 60, .inl A)), (x8, .inl (cI, 60, .inl B)), (x9, .inl (cI, 60, .inl C)), (x19, .inl (cL, 80, .inr (.inl X1))), (x20, .inl (cL, 80, .inr (.inl Y1)))]) (isC := [0, 1]) (isR := [2, 3, 4, 5, 6, 7]) (pm := [6, 7, 0, 1, 2, 3, 4, 5]) (As := [.int (nI i)]) (rest := []) F (c_Model_passes l D cI cL cB x0 x1 x2 x3 x4 x5 x6 x7 x8 x9 x10 x11 x12 x13 x14 x15 x16 x17 x18 x19 x20 th nn n sg bt k i (by first | assumption | omega | (simp only [] at *; omega)) (by first | assumption | omega | (simp only [] at *; omega)) (by first | assumption | omega | (simp only [] at *; omega))) (cS_V 1 F.ts m_725 m_726 m_26 m_42 m_727 (by decide +kernel) ⟨Nat.le_of_ble_eq_true rfl, Nat.le_of_ble_eq_true rfl⟩) (ci := CI_Model) (q0 := 0) rfl rfl rfl (Nat.le_of_ble_eq_true rfl) d_Model_close_40 ⟨Nat.le_of_ble_eq_true rfl, Nat.le_of_ble_eq_true rfl⟩ ⟨rfl, rfl, rfl, rfl, rfl, fun _ => rfl, rfl⟩ (fun r40 uu40 q40_ => ?_) rfl
              subst q40_
              refine V_ifb_eq F 58 d_Model_close_43 (by decide) (fun h43 => ?_) (fun h43 => ?_)
              · skip
                refine V_iconst F (v := 0) d_Model_close_58 rfl ?_
                refine V_top (y := nI (depN (k i))) (congrArg nI (dep_f h43)) ?_
                refine V_istore_n F (lv' := [(2, .int (nI (depN (k i)))), (0, .ref x0), (1, .int (nI i))]) d_Model_close_59 rfl (by decide) rfl ?_
                refine V_lv [1, 2, 0] rfl ?_
                exact L60  
              · skip
                refine V_aload_n F 0 d_Model_close_46 rfl rfl ?_
                refine V_get F 0 CI_Model 6 i_Model rfl rfl (by decide) m_602 rfl rfl d_Model_close_47 ?_
                refine V_iload_n F 1 d_Model_close_50 rfl rfl ?_
                refine V_ialdnN F 1 0 (k := i) rfl rfl (by omega) (by decide) d_Model_close_51 ?_
                refine V_callS_i (w1 := fun (u_ : Unit) => [(x0, .inr (CI_Model, [.int (nI th), .int (nI nn), .ref x1, .ref x2, .ref x3, .ref x4, .ref x5, .ref x6, .ref x7, .ref x8, .ref x9, .ref x10, .ref x11, .int (nI n), .ref x12, .ref x13, .ref x14, .ref x15, .ref x16, .ref x17, .ref x18, .ref x19, .ref x20, .int (bP bt), .int (nI sg)])), (x5, .inl (cI, 60, .inl (cN k))), (x6, .inl (cI, 60, .inl (cN o))), (x7, .inl (cI, 60, .inl A)), (x8, .inl (cI, 60, .inl B)), (x9, .inl (cI, 60, .inl C)), (x19, .inl (cL, 80, .inr (.inl X1))), (x20, .inl (cL, 80, .inr (.inl Y1)))]) (wr := [(x0, .inr (CI_Model, [.int (nI th), .int (nI nn), .ref x1, .ref x2, .ref x3, .ref x4, .ref x5, .ref x6, .ref x7, .ref x8, .ref x9, .ref x10, .ref x11, .int (nI n), .ref x12, .ref x13, .ref x14, .ref x15, .ref x16, .ref x17, .ref x18, .ref x19, .ref x20, .int (bP bt), .int (nI sg)])), (x5, .inl (cI, 60, .inl (cN k))), (x6, .inl (cI, 60, .inl (cN o))), (x7, .inl (cI, 60, .inl A)), (x8, .inl (cI, 60, .inl B)), (x9, .inl (cI, 60, .inl C)), (x19, .inl (cL, 80, .inr (.inl X1))), (x20, .inl (cL, 80, .inr (.inl Y1)))]) (isC := []) (isR := [0, 1, 2, 3, 4, 5, 6, 7]) (pm := [0, 1, 2, 3, 4, 5, 6, 7]) (As := [.int (nI (k i))]) (rest := []) F (c_Model_inputs l D cI cL cB (k i) (by first | assumption | omega | (simp only [] at *; omega))) (cS_S 1 F.ts m_686 m_687 m_42 m_688 (by decide +kernel) ⟨Nat.le_of_ble_eq_true rfl, Nat.le_of_ble_eq_true rfl⟩) rfl (Nat.le_of_ble_eq_true rfl) d_Model_close_52 ⟨Nat.le_of_ble_eq_true rfl, Nat.le_of_ble_eq_true rfl⟩ ⟨rfl, rfl, rfl, rfl, rfl, fun _ => rfl, rfl⟩ (fun r52 uu52 q52_ => ?_) rfl
                subst q52_
                refine V_goto F 59 d_Model_close_55 (by decide) ?_
                refine V_top (y := nI (depN (k i))) (congrArg nI (dep_t h43)) ?_
                refine V_istore_n F (lv' := [(2, .int (nI (depN (k i)))), (0, .ref x0), (1, .int (nI i))]) d_Model_close_59 rfl (by decide) rfl ?_
                refine V_lv [1, 2, 0] rfl ?_
                exact L60  
        refine V_lv [1, 0] rfl ?_
        exact L30 ((n - 0) + 1) 0 X0_ Y0_ (Nat.lt_succ_self _) (by first | assumption | omega | (simp only [] at *; omega)) (Bits.zero 60 (fun a h => hX0 a (by omega)) (fun a h => hY0 a (by omega)) (fun a b z => by obtain ⟨c, hc, -⟩ := z; omega))
      · skip
        refine V_aload_n F 0 d_Model_close_8 rfl rfl ?_
        refine V_get F 0 CI_Model 21 i_Model rfl rfl (by decide) m_617 rfl rfl d_Model_close_9 ?_
        refine V_iload_n F 1 d_Model_close_12 rfl rfl ?_
        refine V_lconst F (v := 0) d_Model_close_13 rfl ?_
        refine V_lastn F 6 1 (k := i0) (w' := [(x0, .inr (CI_Model, [.int (nI th), .int (nI nn), .ref x1, .ref x2, .ref x3, .ref x4, .ref x5, .ref x6, .ref x7, .ref x8, .ref x9, .ref x10, .ref x11, .int (nI n), .ref x12, .ref x13, .ref x14, .ref x15, .ref x16, .ref x17, .ref x18, .ref x19, .ref x20, .int (bP bt), .int (nI sg)])), (x5, .inl (cI, 60, .inl (cN k))), (x6, .inl (cI, 60, .inl (cN o))), (x7, .inl (cI, 60, .inl A)), (x8, .inl (cI, 60, .inl B)), (x9, .inl (cI, 60, .inl C)), (x19, .inl (cL, 80, .inr (.inl (vp_updL X0_ i0 0)))), (x20, .inl (cL, 80, .inr (.inl Y0_)))]) rfl rfl (by omega) (by decide) rfl d_Model_close_14 ?_
        refine V_aload_n F 0 d_Model_close_15 rfl rfl ?_
        refine V_get F 0 CI_Model 22 i_Model rfl rfl (by decide) m_618 rfl rfl d_Model_close_16 ?_
        refine V_iload_n F 1 d_Model_close_19 rfl rfl ?_
        refine V_lconst F (v := 0) d_Model_close_20 rfl ?_
        refine V_lastn F 7 1 (k := i0) (w' := [(x0, .inr (CI_Model, [.int (nI th), .int (nI nn), .ref x1, .ref x2, .ref x3, .ref x4, .ref x5, .ref x6, .ref x7, .ref x8, .ref x9, .ref x10, .ref x11, .int (nI n), .ref x12, .ref x13, .ref x14, .ref x15, .ref x16, .ref x17, .ref x18, .ref x19, .ref x20, .int (bP bt), .int (nI sg)])), (x5, .inl (cI, 60, .inl (cN k))), (x6, .inl (cI, 60, .inl (cN o))), (x7, .inl (cI, 60, .inl A)), (x8, .inl (cI, 60, .inl B)), (x9, .inl (cI, 60, .inl C)), (x19, .inl (cL, 80, .inr (.inl (vp_updL X0_ i0 0)))), (x20, .inl (cL, 80, .inr (.inl (vp_updL Y0_ i0 0))))]) rfl rfl (by omega) (by decide) rfl d_Model_close_21 ?_
        refine V_iinc F 1 (v := nI (i0 + 1)) (lv' := [(1, .int (nI (i0 + 1))), (0, .ref x0)]) d_Model_close_22 rfl (nI_inc _) (by decide) rfl ?_
        refine V_goto F 2 d_Model_close_25 (by decide) ?_
        refine V_lv [1, 0] rfl ?_
        exact ih2 (i0 + 1) (vp_updL X0_ i0 0) (vp_updL Y0_ i0 0) (by omega) (by first | assumption | omega | (simp only [] at *; omega)) (updL_all hX0) (updL_all hY0)
  refine V_lv [1, 0] rfl ?_
  exact L2 ((80 - 0) + 1) 0 X Y (Nat.lt_succ_self _) (by first | assumption | omega | (simp only [] at *; omega)) (fun t h => absurd h (Nat.not_lt_zero t)) (fun t h => absurd h (Nat.not_lt_zero t))

set_option maxHeartbeats 4000000 in
set_option maxRecDepth 100000 in
theorem c_Model_looped (l : Launch) (D : va_G) (cI cL cB : ClassId) (x0 : Nat) (x1 : Nat) (x2 : Nat) (x3 : Nat) (x4 : Nat) (x5 : Nat) (x6 : Nat) (x7 : Nat) (x8 : Nat) (x9 : Nat) (x10 : Nat) (x11 : Nat) (x12 : Nat) (x13 : Nat) (x14 : Nat) (x15 : Nat) (x16 : Nat) (x17 : Nat) (x18 : Nat) (x19 : Nat) (x20 : Nat) (th : Nat) (nn : Nat) (n : Nat) (sg : Nat) (bt : Prop) (k : Nat → Nat) (o : Nat → Nat) (A : Nat → Int32) (B : Nat → Int32) (C : Nat → Int32) (X : Nat → Int64) (Y : Nat → Int64) (hn : n ≤ 60) (hnn : nn ≤ 80) (hw : WfC nn n k o A B C) : Cti l y_Model_looped (wK w_Model_looped) ({ frames := 2, cells := 0, slots := 0, locals := 44 }) D classes (TY cI cL cB) [.ref x0] [(x0, .inr (CI_Model, [.int (nI th), .int (nI nn), .ref x1, .ref x2, .ref x3, .ref x4, .ref x5, .ref x6, .ref x7, .ref x8, .ref x9, .ref x10, .ref x11, .int (nI n), .ref x12, .ref x13, .ref x14, .ref x15, .ref x16, .ref x17, .ref x18, .ref x19, .ref x20, .int (bP bt), .int (nI sg)])), (x5, .inl (cI, 60, .inl (cN k))), (x6, .inl (cI, 60, .inl (cN o))), (x7, .inl (cI, 60, .inl A)), (x8, .inl (cI, 60, .inl B)), (x9, .inl (cI, 60, .inl C)), (x19, .inl (cL, 80, .inr (.inl X))), (x20, .inl (cL, 80, .inr (.inl Y)))] (fun (r : Int32) (u_ : (Nat → Int64) × (Nat → Int64)) => LD (wOut (R0 n k o A B C) nn nn) nn r) (fun (u_ : (Nat → Int64) × (Nat → Int64)) => [(x0, .inr (CI_Model, [.int (nI th), .int (nI nn), .ref x1, .ref x2, .ref x3, .ref x4, .ref x5, .ref x6, .ref x7, .ref x8, .ref x9, .ref x10, .ref x11, .int (nI n), .ref x12, .ref x13, .ref x14, .ref x15, .ref x16, .ref x17, .ref x18, .ref x19, .ref x20, .int (bP bt), .int (nI sg)])), (x5, .inl (cI, 60, .inl (cN k))), (x6, .inl (cI, 60, .inl (cN o))), (x7, .inl (cI, 60, .inl A)), (x8, .inl (cI, 60, .inl B)), (x9, .inl (cI, 60, .inl C)), (x19, .inl (cL, 80, .inr (.inl u_.1))), (x20, .inl (cL, 80, .inr (.inl u_.2)))]) 0 0 := by
  refine Ctg_of (cc := prog_9_method_19_code) (maxL := 2) (ret := (some .int)) "CircuitSimulatorModel" [(0, .ref x0)] (by decide) rfl rfl (Nat.le_of_ble_eq_true rfl) rfl ?_
  intro p_ e_ s_ m_ args_ below_ meth_ c_ A_ F hr hin
  refine V_aload_n F 0 d_Model_looped_0 rfl rfl ?_
  refine V_callV_v (w1 := fun (u_ : (Nat → Int64) × (Nat → Int64)) => [(x0, .inr (CI_Model, [.int (nI th), .int (nI nn), .ref x1, .ref x2, .ref x3, .ref x4, .ref x5, .ref x6, .ref x7, .ref x8, .ref x9, .ref x10, .ref x11, .int (nI n), .ref x12, .ref x13, .ref x14, .ref x15, .ref x16, .ref x17, .ref x18, .ref x19, .ref x20, .int (bP bt), .int (nI sg)])), (x5, .inl (cI, 60, .inl (cN k))), (x6, .inl (cI, 60, .inl (cN o))), (x7, .inl (cI, 60, .inl A)), (x8, .inl (cI, 60, .inl B)), (x9, .inl (cI, 60, .inl C)), (x19, .inl (cL, 80, .inr (.inl u_.1))), (x20, .inl (cL, 80, .inr (.inl u_.2)))]) (wr := []) (isC := [0, 1, 2, 3, 4, 5, 6, 7]) (isR := []) (pm := [0, 1, 2, 3, 4, 5, 6, 7]) (As := []) (rest := []) F (c_Model_close l D cI cL cB x0 x1 x2 x3 x4 x5 x6 x7 x8 x9 x10 x11 x12 x13 x14 x15 x16 x17 x18 x19 x20 th nn n sg bt k o A B C X Y (by first | assumption | omega | (simp only [] at *; omega)) (by first | assumption | omega | (simp only [] at *; omega)) (by first | assumption | omega | (simp only [] at *; omega))) (cS_V 0 F.ts m_722 m_723 m_25 m_42 m_724 (by decide +kernel) ⟨Nat.le_of_ble_eq_true rfl, Nat.le_of_ble_eq_true rfl⟩) (ci := CI_Model) (q0 := 0) rfl rfl rfl (Nat.le_of_ble_eq_true rfl) d_Model_looped_1 ⟨Nat.le_of_ble_eq_true rfl, Nat.le_of_ble_eq_true rfl⟩ ⟨rfl, rfl, rfl, rfl, rfl, fun _ => rfl, rfl⟩ (fun uu1 q1_ => ?_) rfl
  obtain ⟨X9_1, Y9_1⟩ := uu1
  have e1 : Bits 60 X9_1 Y9_1 (wOut (R0 n k o A B C) nn nn) := q1_
  clear q1_
  refine V_cast (w' := [(x0, .inr (CI_Model, [.int (nI th), .int (nI nn), .ref x1, .ref x2, .ref x3, .ref x4, .ref x5, .ref x6, .ref x7, .ref x8, .ref x9, .ref x10, .ref x11, .int (nI n), .ref x12, .ref x13, .ref x14, .ref x15, .ref x16, .ref x17, .ref x18, .ref x19, .ref x20, .int (bP bt), .int (nI sg)])), (x5, .inl (cI, 60, .inl (cN k))), (x6, .inl (cI, 60, .inl (cN o))), (x7, .inl (cI, 60, .inl A)), (x8, .inl (cI, 60, .inl B)), (x9, .inl (cI, 60, .inl C)), (x19, .inl (cL, 80, .inr (.inl X9_1))), (x20, .inl (cL, 80, .inr (.inl Y9_1)))]) rfl rfl rfl ?_
  refine V_iconst F (v := 0) d_Model_looped_4 rfl ?_
  refine V_istore_n F (lv' := [(1, .int (nI 0)), (0, .ref x0)]) d_Model_looped_5 rfl (by decide) rfl ?_
  have L6 : ∀ (f_ : Nat) (j : Nat), nn - j < f_ → (j ≤ nn) → (∀ t, t < j → ¬ wOut (R0 n k o A B C) nn nn t t) → V p_ l e_ ({ frames := 2, cells := 0, slots := 0, locals := 44 }) s_ m_ args_ below_ meth_ c_ A_ (MQ below_ (cQi D classes (fun (r : Int32) (u_ : (Nat → Int64) × (Nat → Int64)) => LD (wOut (R0 n k o A B C) nn nn) nn r) (fun (u_ : (Nat → Int64) × (Nat → Int64)) => [(x0, .inr (CI_Model, [.int (nI th), .int (nI nn), .ref x1, .ref x2, .ref x3, .ref x4, .ref x5, .ref x6, .ref x7, .ref x8, .ref x9, .ref x10, .ref x11, .int (nI n), .ref x12, .ref x13, .ref x14, .ref x15, .ref x16, .ref x17, .ref x18, .ref x19, .ref x20, .int (bP bt), .int (nI sg)])), (x5, .inl (cI, 60, .inl (cN k))), (x6, .inl (cI, 60, .inl (cN o))), (x7, .inl (cI, 60, .inl A)), (x8, .inl (cI, 60, .inl B)), (x9, .inl (cI, 60, .inl C)), (x19, .inl (cL, 80, .inr (.inl u_.1))), (x20, .inl (cL, 80, .inr (.inl u_.2)))]) A_) args_ s_ 0 0 A_) D classes 2 0 0 [(x0, .inr (CI_Model, [.int (nI th), .int (nI nn), .ref x1, .ref x2, .ref x3, .ref x4, .ref x5, .ref x6, .ref x7, .ref x8, .ref x9, .ref x10, .ref x11, .int (nI n), .ref x12, .ref x13, .ref x14, .ref x15, .ref x16, .ref x17, .ref x18, .ref x19, .ref x20, .int (bP bt), .int (nI sg)])), (x5, .inl (cI, 60, .inl (cN k))), (x6, .inl (cI, 60, .inl (cN o))), (x7, .inl (cI, 60, .inl A)), (x8, .inl (cI, 60, .inl B)), (x9, .inl (cI, 60, .inl C)), (x19, .inl (cL, 80, .inr (.inl X9_1))), (x20, .inl (cL, 80, .inr (.inl Y9_1)))] 6 [(0, .ref x0), (1, .int (nI j))] [] := by
    intro f_
    induction f_ with
    | zero => intro j hm_; exact absurd hm_ (Nat.not_lt_zero _)
    | succ f_ ih6 =>
      intro j hm6 hj hJ
      refine V_iload_n F 1 d_Model_looped_6 rfl rfl ?_
      refine V_aload_n F 0 d_Model_looped_7 rfl rfl ?_
      refine V_get F 0 CI_Model 1 i_Model rfl rfl (by decide) m_597 rfl rfl d_Model_looped_8 ?_
      refine V_icmpn_ge F 31 (a := j) (b := nn) (by omega) (by omega) d_Model_looped_11 (by decide) (fun h11 => ?_) (fun h11 => ?_)
      · skip
        refine V_iconst F (v := (-1)) d_Model_looped_31 rfl ?_
        exact V_iret F hr (X9_1, Y9_1) (show LD (wOut (R0 n k o A B C) nn nn) nn (-1) from (Or.inl ⟨rfl, fun t ht => hJ t (by omega)⟩)) [0, 1, 2, 3, 4, 5, 6, 7] rfl rfl (by decide) (by decide) d_Model_looped_32
      · skip
        refine V_aload_n F 0 d_Model_looped_14 rfl rfl ?_
        refine V_iload_n F 1 d_Model_looped_15 rfl rfl ?_
        refine V_iload_n F 1 d_Model_looped_16 rfl rfl ?_
        refine V_callV_i (w1 := fun (u_ : Unit) => [(x0, .inr (CI_Model, [.int (nI th), .int (nI nn), .ref x1, .ref x2, .ref x3, .ref x4, .ref x5, .ref x6, .ref x7, .ref x8, .ref x9, .ref x10, .ref x11, .int (nI n), .ref x12, .ref x13, .ref x14, .ref x15, .ref x16, .ref x17, .ref x18, .ref x19, .ref x20, .int (bP bt), .int (nI sg)])), (x5, .inl (cI, 60, .inl (cN k))), (x6, .inl (cI, 60, .inl (cN o))), (x7, .inl (cI, 60, .inl A)), (x8, .inl (cI, 60, .inl B)), (x9, .inl (cI, 60, .inl C)), (x19, .inl (cL, 80, .inr (.inl X9_1))), (x20, .inl (cL, 80, .inr (.inl Y9_1)))]) (wr := [(x5, .inl (cI, 60, .inl (cN k))), (x6, .inl (cI, 60, .inl (cN o))), (x7, .inl (cI, 60, .inl A)), (x8, .inl (cI, 60, .inl B)), (x9, .inl (cI, 60, .inl C))]) (isC := [0, 6, 7]) (isR := [1, 2, 3, 4, 5]) (pm := [5, 0, 1, 2, 3, 4, 6, 7]) (As := [.int (nI j), .int (nI j)]) (rest := []) F (c_Model_has l D cI cL cB x0 x1 x2 x3 x4 x5 x6 x7 x8 x9 x10 x11 x12 x13 x14 x15 x16 x17 x18 x19 x20 th nn n sg bt X9_1 Y9_1 (wOut (R0 n k o A B C) nn nn) j j (by omega) (by omega) e1) (cS_V 2 F.ts m_731 m_732 m_28 m_42 m_733 (by decide +kernel) ⟨Nat.le_of_ble_eq_true rfl, Nat.le_of_ble_eq_true rfl⟩) (ci := CI_Model) (q0 := 0) rfl rfl rfl (Nat.le_of_ble_eq_true rfl) d_Model_looped_17 ⟨Nat.le_of_ble_eq_true rfl, Nat.le_of_ble_eq_true rfl⟩ ⟨rfl, rfl, rfl, rfl, rfl, fun _ => rfl, rfl⟩ (fun r17 uu17 q17_ => ?_) rfl
        subst q17_
        refine V_ifb_eq F 25 d_Model_looped_20 (by decide) (fun h20 => ?_) (fun h20 => ?_)
        · skip
          refine V_iinc F 1 (v := nI (j + 1)) (lv' := [(1, .int (nI (j + 1))), (0, .ref x0)]) d_Model_looped_25 rfl (nI_inc _) (by decide) rfl ?_
          refine V_goto F 6 d_Model_looped_28 (by decide) ?_
          refine V_lv [1, 0] rfl ?_
          exact ih6 (j + 1) (by omega) (by first | assumption | omega | (simp only [] at *; omega)) (lt_s hJ h20)
        · skip
          refine V_iload_n F 1 d_Model_looped_23 rfl rfl ?_
          exact V_iret F hr (X9_1, Y9_1) (show LD (wOut (R0 n k o A B C) nn nn) nn (nI j) from (Or.inr ⟨j, by omega, rfl, h20, hJ⟩)) [0, 1, 2, 3, 4, 5, 6, 7] rfl rfl (by decide) (by decide) d_Model_looped_24
  refine V_lv [1, 0] rfl ?_
  exact L6 ((nn - 0) + 1) 0 (Nat.lt_succ_self _) (by first | assumption | omega | (simp only [] at *; omega)) (fun t h => absurd h (Nat.not_lt_zero t))
