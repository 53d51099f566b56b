set_option maxHeartbeats 4000000 in
set_option maxRecDepth 100000 in
theorem c_Model_settle (l : Launch) (D : va_G) (cI cL cB : ClassId) (x0 : Nat) (x1 : Nat) (x2 : Nat) (x3 : Nat) (x4 : Nat) (x5 : Nat) (x6 : Nat) (x7 : Nat) (x8 : Nat) (x9 : Nat) (x10 : Nat) (x11 : Nat) (x12 : Nat) (x13 : Nat) (x14 : Nat) (x15 : Nat) (x16 : Nat) (x17 : Nat) (x18 : Nat) (x19 : Nat) (x20 : Nat) (th : Nat) (nn : Nat) (n : Nat) (sg : Nat) (bt : Prop) (v : Nat → Nat) (bf : Nat → Nat) (sk : Nat → Nat) (tn : Nat → Nat) (k : Nat → Nat) (o : Nat → Nat) (A : Nat → Int32) (B : Nat → Int32) (C : Nat → Int32) (q : Nat → Nat) (dr : Nat → Nat) (L : Nat → Nat) (hn : n ≤ 60) (hnn : nn ≤ 80) (hw : WfC nn n k o A B C) (hU : Up n k o A B C L) (hL : ∀ j, j < nn → L j ≤ 30) (hsk : ∀ j, j < nn → sk j ≤ 3) (hv : ∀ j, j < nn → v j ≤ 3) (hq : ∀ i, i < n → q i ≤ 3) : Ctv l y_Model_settle (wK w_Model_settle) ({ frames := 2, cells := 0, slots := 0, locals := 45 }) D classes (TY cI cL cB) [.ref x0] [(x0, .inr (CI_Model, [.int (nI th), .int (nI nn), .ref x1, .ref x2, .ref x3, .ref x4, .ref x5, .ref x6, .ref x7, .ref x8, .ref x9, .ref x10, .ref x11, .int (nI n), .ref x12, .ref x13, .ref x14, .ref x15, .ref x16, .ref x17, .ref x18, .ref x19, .ref x20, .int (bP bt), .int (nI sg)])), (x1, .inl (cI, 80, .inl (cN v))), (x2, .inl (cI, 80, .inl (cN bf))), (x3, .inl (cI, 80, .inl (cS sk))), (x4, .inl (cI, 80, .inl (cN tn))), (x5, .inl (cI, 60, .inl (cN k))), (x6, .inl (cI, 60, .inl (cN o))), (x7, .inl (cI, 60, .inl A)), (x8, .inl (cI, 60, .inl B)), (x9, .inl (cI, 60, .inl C)), (x10, .inl (cI, 60, .inl (cN q))), (x11, .inl (cI, 60, .inl (cN dr)))] (fun (u_ : (Nat → Nat) × (Nat → Nat) × (Nat → Nat) × (Nat → Nat) × (Nat → Nat)) => SetP nn n k o A B C q sk v tn u_.1 u_.2.2.1 u_.2.2.2.1) (fun (u_ : (Nat → Nat) × (Nat → Nat) × (Nat → Nat) × (Nat → Nat) × (Nat → Nat)) => [(x0, .inr (CI_Model, [.int (nI th), .int (nI nn), .ref x1, .ref x2, .ref x3, .ref x4, .ref x5, .ref x6, .ref x7, .ref x8, .ref x9, .ref x10, .ref x11, .int (nI n), .ref x12, .ref x13, .ref x14, .ref x15, .ref x16, .ref x17, .ref x18, .ref x19, .ref x20, .int (bP bt), .int (nI (sg + 1))])), (x1, .inl (cI, 80, .inl (cN u_.1))), (x2, .inl (cI, 80, .inl (cN u_.2.1))), (x3, .inl (cI, 80, .inl (cS sk))), (x4, .inl (cI, 80, .inl (cN u_.2.2.1))), (x5, .inl (cI, 60, .inl (cN k))), (x6, .inl (cI, 60, .inl (cN o))), (x7, .inl (cI, 60, .inl A)), (x8, .inl (cI, 60, .inl B)), (x9, .inl (cI, 60, .inl C)), (x10, .inl (cI, 60, .inl (cN u_.2.2.2.1))), (x11, .inl (cI, 60, .inl (cN u_.2.2.2.2)))]) 0 0 := by
  refine Ctg_of (cc := prog_9_method_25_code) (maxL := 5) (ret := none) "CircuitSimulatorModel" [(0, .ref x0)] (by decide) rfl rfl (Nat.le_of_ble_eq_true rfl) rfl ?_
  intro p_ e_ s_ m_ args_ below_ meth_ c_ A_ F hr hin
  refine V_iconst F (v := 0) d_Model_settle_0 rfl ?_
  refine V_istore_n F (lv' := [(1, .int (nI 0)), (0, .ref x0)]) d_Model_settle_1 rfl (by decide) rfl ?_
  have L2 : ∀ (f_ : Nat) (i0 : Nat) (b0 : Nat → Nat), 80 - i0 < f_ → (i0 ≤ 80) → (∀ j, j < i0 → b0 j = v j) → V p_ l e_ ({ frames := 2, cells := 0, slots := 0, locals := 45 }) s_ m_ args_ below_ meth_ c_ A_ (MQ below_ (cQv D classes (fun (u_ : (Nat → Nat) × (Nat → Nat) × (Nat → Nat) × (Nat → Nat) × (Nat → Nat)) => SetP nn n k o A B C q sk v tn u_.1 u_.2.2.1 u_.2.2.2.1) (fun (u_ : (Nat → Nat) × (Nat → Nat) × (Nat → Nat) × (Nat → Nat) × (Nat → Nat)) => [(x0, .inr (CI_Model, [.int (nI th), .int (nI nn), .ref x1, .ref x2, .ref x3, .ref x4, .ref x5, .ref x6, .ref x7, .ref x8, .ref x9, .ref x10, .ref x11, .int (nI n), .ref x12, .ref x13, .ref x14, .ref x15, .ref x16, .ref x17, .ref x18, .ref x19, .ref x20, .int (bP bt), .int (nI (sg + 1))])), (x1, .inl (cI, 80, .inl (cN u_.1))), (x2, .inl (cI, 80, .inl (cN u_.2.1))), (x3, .inl (cI, 80, .inl (cS sk))), (x4, .inl (cI, 80, .inl (cN u_.2.2.1))), (x5, .inl (cI, 60, .inl (cN k))), (x6, .inl (cI, 60, .inl (cN o))), (x7, .inl (cI, 60, .inl A)), (x8, .inl (cI, 60, .inl B)), (x9, .inl (cI, 60, .inl C)), (x10, .inl (cI, 60, .inl (cN u_.2.2.2.1))), (x11, .inl (cI, 60, .inl (cN u_.2.2.2.2)))]) A_) args_ s_ 0 0 A_) D classes 5 0 0 [(x0, .inr (CI_Model, [.int (nI th), .int (nI nn), .ref x1, .ref x2, .ref x3, .ref x4, .ref x5, .ref x6, .ref x7, .ref x8, .ref x9, .ref x10, .ref x11, .int (nI n), .ref x12, .ref x13, .ref x14, .ref x15, .ref x16, .ref x17, .ref x18, .ref x19, .ref x20, .int (bP bt), .int (nI sg)])), (x1, .inl (cI, 80, .inl (cN v))), (x2, .inl (cI, 80, .inl (cN b0))), (x3, .inl (cI, 80, .inl (cS sk))), (x4, .inl (cI, 80, .inl (cN tn))), (x5, .inl (cI, 60, .inl (cN k))), (x6, .inl (cI, 60, .inl (cN o))), (x7, .inl (cI, 60, .inl A)), (x8, .inl (cI, 60, .inl B)), (x9, .inl (cI, 60, .inl C)), (x10, .inl (cI, 60, .inl (cN q))), (x11, .inl (cI, 60, .inl (cN dr)))] 2 [(0, .ref x0), (1, .int (nI i0))] [] := by
    intro f_
    induction f_ with
    | zero => intro i0 b0 hm_; exact absurd hm_ (Nat.not_lt_zero _)
    | succ f_ ih2 =>
      intro i0 b0 hm2 hi0 hb0
      refine V_iload_n F 1 d_Model_settle_2 rfl rfl ?_
      refine V_bipush F (v := 80) d_Model_settle_3 rfl ?_
      refine V_icmpn_ge F 26 (a := i0) (b := 80) (by omega) (by omega) d_Model_settle_5 (by decide) (fun h5 => ?_) (fun h5 => ?_)
      · skip
        refine V_iconst F (v := 1) d_Model_settle_26 rfl ?_
        refine V_istore_n F (lv' := [(1, .int (nI 1)), (0, .ref x0)]) d_Model_settle_27 rfl (by decide) rfl ?_
        refine V_iconst F (v := 0) d_Model_settle_28 rfl ?_
        refine V_istore_n F (lv' := [(2, .int (nI 0)), (1, .int (nI 1)), (0, .ref x0)]) d_Model_settle_29 rfl (by decide) rfl ?_
        have L30 : ∀ (f_ : Nat) (r_ : Nat) (ch : Nat) (v3 : Nat → Nat) (dr3 : Nat → Nat), 90 - r_ < f_ → (r_ ≤ 90) → (MR nn n k o A B C q sk L v r_ ch v3 dr3) → V p_ l e_ ({ frames := 2, cells := 0, slots := 0, locals := 45 }) s_ m_ args_ below_ meth_ c_ A_ (MQ below_ (cQv D classes (fun (u_ : (Nat → Nat) × (Nat → Nat) × (Nat → Nat) × (Nat → Nat) × (Nat → Nat)) => SetP nn n k o A B C q sk v tn u_.1 u_.2.2.1 u_.2.2.2.1) (fun (u_ : (Nat → Nat) × (Nat → Nat) × (Nat → Nat) × (Nat → Nat) × (Nat → Nat)) => [(x0, .inr (CI_Model, [.int (nI th), .int (nI nn), .ref x1, .ref x2, .ref x3, .ref x4, .ref x5, .ref x6, .ref x7, .ref x8, .ref x9, .ref x10, .ref x11, .int (nI n), .ref x12, .ref x13, .ref x14, .ref x15, .ref x16, .ref x17, .ref x18, .ref x19, .ref x20, .int (bP bt), .int (nI (sg + 1))])), (x1, .inl (cI, 80, .inl (cN u_.1))), (x2, .inl (cI, 80, .inl (cN u_.2.1))), (x3, .inl (cI, 80, .inl (cS sk))), (x4, .inl (cI, 80, .inl (cN u_.2.2.1))), (x5, .inl (cI, 60, .inl (cN k))), (x6, .inl (cI, 60, .inl (cN o))), (x7, .inl (cI, 60, .inl A)), (x8, .inl (cI, 60, .inl B)), (x9, .inl (cI, 60, .inl C)), (x10, .inl (cI, 60, .inl (cN u_.2.2.2.1))), (x11, .inl (cI, 60, .inl (cN u_.2.2.2.2)))]) A_) args_ s_ 0 0 A_) D classes 5 0 0 [(x0, .inr (CI_Model, [.int (nI th), .int (nI nn), .ref x1, .ref x2, .ref x3, .ref x4, .ref x5, .ref x6, .ref x7, .ref x8, .ref x9, .ref x10, .ref x11, .int (nI n), .ref x12, .ref x13, .ref x14, .ref x15, .ref x16, .ref x17, .ref x18, .ref x19, .ref x20, .int (bP bt), .int (nI sg)])), (x1, .inl (cI, 80, .inl (cN v3))), (x2, .inl (cI, 80, .inl (cN b0))), (x3, .inl (cI, 80, .inl (cS sk))), (x4, .inl (cI, 80, .inl (cN tn))), (x5, .inl (cI, 60, .inl (cN k))), (x6, .inl (cI, 60, .inl (cN o))), (x7, .inl (cI, 60, .inl A)), (x8, .inl (cI, 60, .inl B)), (x9, .inl (cI, 60, .inl C)), (x10, .inl (cI, 60, .inl (cN q))), (x11, .inl (cI, 60, .inl (cN dr3)))] 30 [(0, .ref x0), (1, .int (nI ch)), (2, .int (nI r_))] [] := by
          intro f_
          induction f_ with
          | zero => intro r_ ch v3 dr3 hm_; exact absurd hm_ (Nat.not_lt_zero _)
          | succ f_ ih30 =>
            intro r_ ch v3 dr3 hm30 hr_ hI
            refine V_iload_n F 2 d_Model_settle_30 rfl rfl ?_
            refine V_bipush F (v := 90) d_Model_settle_31 rfl ?_
            refine V_icmpn_ge F 119 (a := r_) (b := 90) (by omega) (by omega) d_Model_settle_33 (by decide) (fun h33 => ?_) (fun h33 => ?_)
            · skip
              have hI := hI.done (Or.inl h33)
              refine V_iconst F (v := 0) d_Model_settle_119 rfl ?_
              refine V_istore_n F (lv' := [(2, .int (nI 0)), (0, .ref x0), (1, .int (nI ch))]) d_Model_settle_120 rfl (by decide) rfl ?_
              have L121 : ∀ (f_ : Nat) (i2 : Nat) (q2 : Nat → Nat), n - i2 < f_ → (i2 ≤ n) → (∀ t, t < n → q2 t = if t < i2 then (if k t = 7 then dr3 t else q t) else q t) → V p_ l e_ ({ frames := 2, cells := 0, slots := 0, locals := 45 }) s_ m_ args_ below_ meth_ c_ A_ (MQ below_ (cQv D classes (fun (u_ : (Nat → Nat) × (Nat → Nat) × (Nat → Nat) × (Nat → Nat) × (Nat → Nat)) => SetP nn n k o A B C q sk v tn u_.1 u_.2.2.1 u_.2.2.2.1) (fun (u_ : (Nat → Nat) × (Nat → Nat) × (Nat → Nat) × (Nat → Nat) × (Nat → Nat)) => [(x0, .inr (CI_Model, [.int (nI th), .int (nI nn), .ref x1, .ref x2, .ref x3, .ref x4, .ref x5, .ref x6, .ref x7, .ref x8, .ref x9, .ref x10, .ref x11, .int (nI n), .ref x12, .ref x13, .ref x14, .ref x15, .ref x16, .ref x17, .ref x18, .ref x19, .ref x20, .int (bP bt), .int (nI (sg + 1))])), (x1, .inl (cI, 80, .inl (cN u_.1))), (x2, .inl (cI, 80, .inl (cN u_.2.1))), (x3, .inl (cI, 80, .inl (cS sk))), (x4, .inl (cI, 80, .inl (cN u_.2.2.1))), (x5, .inl (cI, 60, .inl (cN k))), (x6, .inl (cI, 60, .inl (cN o))), (x7, .inl (cI, 60, .inl A)), (x8, .inl (cI, 60, .inl B)), (x9, .inl (cI, 60, .inl C)), (x10, .inl (cI, 60, .inl (cN u_.2.2.2.1))), (x11, .inl (cI, 60, .inl (cN u_.2.2.2.2)))]) A_) args_ s_ 0 0 A_) D classes 5 0 0 [(x0, .inr (CI_Model, [.int (nI th), .int (nI nn), .ref x1, .ref x2, .ref x3, .ref x4, .ref x5, .ref x6, .ref x7, .ref x8, .ref x9, .ref x10, .ref x11, .int (nI n), .ref x12, .ref x13, .ref x14, .ref x15, .ref x16, .ref x17, .ref x18, .ref x19, .ref x20, .int (bP bt), .int (nI sg)])), (x1, .inl (cI, 80, .inl (cN v3))), (x2, .inl (cI, 80, .inl (cN b0))), (x3, .inl (cI, 80, .inl (cS sk))), (x4, .inl (cI, 80, .inl (cN tn))), (x5, .inl (cI, 60, .inl (cN k))), (x6, .inl (cI, 60, .inl (cN o))), (x7, .inl (cI, 60, .inl A)), (x8, .inl (cI, 60, .inl B)), (x9, .inl (cI, 60, .inl C)), (x10, .inl (cI, 60, .inl (cN q2))), (x11, .inl (cI, 60, .inl (cN dr3)))] 121 [(0, .ref x0), (2, .int (nI i2))] [] := by
                intro f_
                induction f_ with
                | zero => intro i2 q2 hm_; exact absurd hm_ (Nat.not_lt_zero _)
                | succ f_ ih121 =>
                  intro i2 q2 hm121 hi2 hQ
                  refine V_iload_n F 1 d_Model_settle_121 rfl rfl ?_
                  refine V_aload_n F 0 d_Model_settle_122 rfl rfl ?_
                  refine V_get F 0 CI_Model 13 i_Model rfl rfl (by decide) m_609 rfl rfl d_Model_settle_123 ?_
                  refine V_icmpn_ge F 158 (a := i2) (b := n) (by omega) (by omega) d_Model_settle_126 (by decide) (fun h126 => ?_) (fun h126 => ?_)
                  · skip
                    refine V_iconst F (v := 0) d_Model_settle_158 rfl ?_
                    refine V_istore_n F (lv' := [(2, .int (nI 0)), (0, .ref x0)]) d_Model_settle_159 rfl (by decide) rfl ?_
                    have L160 : ∀ (f_ : Nat) (j2 : Nat) (tn2 : Nat → Nat), nn - j2 < f_ → (j2 ≤ nn) → (∀ j, tn2 j = if j < j2 then tn j + tnF (b0 j) (v3 j) else tn j) → V p_ l e_ ({ frames := 2, cells := 0, slots := 0, locals := 45 }) s_ m_ args_ below_ meth_ c_ A_ (MQ below_ (cQv D classes (fun (u_ : (Nat → Nat) × (Nat → Nat) × (Nat → Nat) × (Nat → Nat) × (Nat → Nat)) => SetP nn n k o A B C q sk v tn u_.1 u_.2.2.1 u_.2.2.2.1) (fun (u_ : (Nat → Nat) × (Nat → Nat) × (Nat → Nat) × (Nat → Nat) × (Nat → Nat)) => [(x0, .inr (CI_Model, [.int (nI th), .int (nI nn), .ref x1, .ref x2, .ref x3, .ref x4, .ref x5, .ref x6, .ref x7, .ref x8, .ref x9, .ref x10, .ref x11, .int (nI n), .ref x12, .ref x13, .ref x14, .ref x15, .ref x16, .ref x17, .ref x18, .ref x19, .ref x20, .int (bP bt), .int (nI (sg + 1))])), (x1, .inl (cI, 80, .inl (cN u_.1))), (x2, .inl (cI, 80, .inl (cN u_.2.1))), (x3, .inl (cI, 80, .inl (cS sk))), (x4, .inl (cI, 80, .inl (cN u_.2.2.1))), (x5, .inl (cI, 60, .inl (cN k))), (x6, .inl (cI, 60, .inl (cN o))), (x7, .inl (cI, 60, .inl A)), (x8, .inl (cI, 60, .inl B)), (x9, .inl (cI, 60, .inl C)), (x10, .inl (cI, 60, .inl (cN u_.2.2.2.1))), (x11, .inl (cI, 60, .inl (cN u_.2.2.2.2)))]) A_) args_ s_ 0 0 A_) D classes 5 0 0 [(x0, .inr (CI_Model, [.int (nI th), .int (nI nn), .ref x1, .ref x2, .ref x3, .ref x4, .ref x5, .ref x6, .ref x7, .ref x8, .ref x9, .ref x10, .ref x11, .int (nI n), .ref x12, .ref x13, .ref x14, .ref x15, .ref x16, .ref x17, .ref x18, .ref x19, .ref x20, .int (bP bt), .int (nI sg)])), (x1, .inl (cI, 80, .inl (cN v3))), (x2, .inl (cI, 80, .inl (cN b0))), (x3, .inl (cI, 80, .inl (cS sk))), (x4, .inl (cI, 80, .inl (cN tn2))), (x5, .inl (cI, 60, .inl (cN k))), (x6, .inl (cI, 60, .inl (cN o))), (x7, .inl (cI, 60, .inl A)), (x8, .inl (cI, 60, .inl B)), (x9, .inl (cI, 60, .inl C)), (x10, .inl (cI, 60, .inl (cN q2))), (x11, .inl (cI, 60, .inl (cN dr3)))] 160 [(0, .ref x0), (2, .int (nI j2))] [] := by
                      intro f_
                      induction f_ with
                      | zero => intro j2 tn2 hm_; exact absurd hm_ (Nat.not_lt_zero _)
                      | succ f_ ih160 =>
                        intro j2 tn2 hm160 hj2 hT
                        refine V_iload_n F 1 d_Model_settle_160 rfl rfl ?_
                        refine V_aload_n F 0 d_Model_settle_161 rfl rfl ?_
                        refine V_get F 0 CI_Model 1 i_Model rfl rfl (by decide) m_597 rfl rfl d_Model_settle_162 ?_
                        refine V_icmpn_ge F 216 (a := j2) (b := nn) (by omega) (by omega) d_Model_settle_165 (by decide) (fun h165 => ?_) (fun h165 => ?_)
                        · skip
                          refine V_aload_n F 0 d_Model_settle_216 rfl rfl ?_
                          refine V_dup F d_Model_settle_217 rfl ?_
                          refine V_get F 0 CI_Model 24 i_Model rfl rfl (by decide) m_620 rfl rfl d_Model_settle_218 ?_
                          refine V_iconst F (v := 1) d_Model_settle_221 rfl ?_
                          refine V_iadd F d_Model_settle_222 ?_
                          refine V_top (y := nI (sg + 1)) (nI_add _ _) ?_
                          refine V_put F 0 CI_Model 24 (w' := [(x0, .inr (CI_Model, [.int (nI th), .int (nI nn), .ref x1, .ref x2, .ref x3, .ref x4, .ref x5, .ref x6, .ref x7, .ref x8, .ref x9, .ref x10, .ref x11, .int (nI n), .ref x12, .ref x13, .ref x14, .ref x15, .ref x16, .ref x17, .ref x18, .ref x19, .ref x20, .int (bP bt), .int (nI (sg + 1))])), (x1, .inl (cI, 80, .inl (cN v3))), (x2, .inl (cI, 80, .inl (cN b0))), (x3, .inl (cI, 80, .inl (cS sk))), (x4, .inl (cI, 80, .inl (cN tn2))), (x5, .inl (cI, 60, .inl (cN k))), (x6, .inl (cI, 60, .inl (cN o))), (x7, .inl (cI, 60, .inl A)), (x8, .inl (cI, 60, .inl B)), (x9, .inl (cI, 60, .inl C)), (x10, .inl (cI, 60, .inl (cN q2))), (x11, .inl (cI, 60, .inl (cN dr3)))]) t_Model tk_Model n_Model i_Model rfl rfl (by decide) m_620 rfl rfl rfl rfl (Nat.le_of_ble_eq_true rfl) rfl d_Model_settle_223 ?_
                          exact V_vret F hr (v3, b0, tn2, q2, dr3) (show SetP nn n k o A B C q sk v tn v3 tn2 q2 from (msettle_done hI (fun i hi => by rw [hQ i hi, if_pos (by omega)]) (fun j hj => hb0 j (by omega)) (fun j => by rw [hT j, show j2 = nn by omega]))) [0, 1, 2, 3, 4, 5, 6, 7, 8, 9, 10, 11] rfl rfl (by decide) (by decide) d_Model_settle_226
                        · skip
                          have hb8 : b0 j2 ≤ 3 := by rw [hb0 j2 (by omega)]; exact hv j2 (by omega)
                          have hv8 := hI.2.2.2.1 j2 (by omega)
                          have ht8 : tn2 j2 = tn j2 := by rw [hT j2, if_neg (Nat.lt_irrefl j2)]
                          refine V_aload_n F 0 d_Model_settle_168 rfl rfl ?_
                          refine V_get F 0 CI_Model 3 i_Model rfl rfl (by decide) m_599 rfl rfl d_Model_settle_169 ?_
                          refine V_iload_n F 1 d_Model_settle_172 rfl rfl ?_
                          refine V_ialdnN F 2 0 (k := j2) rfl rfl (by omega) (by decide) d_Model_settle_173 ?_
                          refine V_aload_n F 0 d_Model_settle_174 rfl rfl ?_
                          refine V_get F 0 CI_Model 2 i_Model rfl rfl (by decide) m_598 rfl rfl d_Model_settle_175 ?_
                          refine V_iload_n F 1 d_Model_settle_178 rfl rfl ?_
                          refine V_ialdnN F 1 0 (k := j2) rfl rfl (by omega) (by decide) d_Model_settle_179 ?_
                          refine V_iadd F d_Model_settle_180 ?_
                          refine V_top (y := nI ((b0 j2) + (v3 j2))) (nI_add _ _) ?_
                          refine V_iconst F (v := 1) d_Model_settle_181 rfl ?_
                          refine V_icmpn_ne F 210 (a := (b0 j2) + (v3 j2)) (b := 1) (by omega) (by omega) d_Model_settle_182 (by decide) (fun h182 => ?_) (fun h182 => ?_)
                          · skip
                            refine V_iinc F 1 (v := nI (j2 + 1)) (lv' := [(2, .int (nI (j2 + 1))), (0, .ref x0)]) d_Model_settle_210 rfl (nI_inc _) (by decide) rfl ?_
                            refine V_goto F 160 d_Model_settle_213 (by decide) ?_
                            refine V_lv [1, 0] rfl ?_
                            exact ih160 (j2 + 1) tn2 (by omega) (by first | assumption | omega | (simp only [] at *; omega)) (up_if3 hT (by rw [tnF_f (fun z => h182 (tnF_iff.mpr z).1)]; rfl))
                          · skip
                            refine V_aload_n F 0 d_Model_settle_185 rfl rfl ?_
                            refine V_get F 0 CI_Model 3 i_Model rfl rfl (by decide) m_599 rfl rfl d_Model_settle_186 ?_
                            refine V_iload_n F 1 d_Model_settle_189 rfl rfl ?_
                            refine V_ialdnN F 2 0 (k := j2) rfl rfl (by omega) (by decide) d_Model_settle_190 ?_
                            refine V_aload_n F 0 d_Model_settle_191 rfl rfl ?_
                            refine V_get F 0 CI_Model 2 i_Model rfl rfl (by decide) m_598 rfl rfl d_Model_settle_192 ?_
                            refine V_iload_n F 1 d_Model_settle_195 rfl rfl ?_
                            refine V_ialdnN F 1 0 (k := j2) rfl rfl (by omega) (by decide) d_Model_settle_196 ?_
                            refine V_icmpn_eq F 210 (a := b0 j2) (b := v3 j2) (by omega) (by omega) d_Model_settle_197 (by decide) (fun h197 => ?_) (fun h197 => ?_)
                            · skip
                              refine V_iinc F 1 (v := nI (j2 + 1)) (lv' := [(2, .int (nI (j2 + 1))), (0, .ref x0)]) d_Model_settle_210 rfl (nI_inc _) (by decide) rfl ?_
                              refine V_goto F 160 d_Model_settle_213 (by decide) ?_
                              refine V_lv [1, 0] rfl ?_
                              exact ih160 (j2 + 1) tn2 (by omega) (by first | assumption | omega | (simp only [] at *; omega)) (up_if3 hT (by rw [tnF_f (fun z => (tnF_iff.mpr z).2 h197)]; rfl))
                            · skip
                              refine V_aload_n F 0 d_Model_settle_200 rfl rfl ?_
                              refine V_get F 0 CI_Model 5 i_Model rfl rfl (by decide) m_601 rfl rfl d_Model_settle_201 ?_
                              refine V_iload_n F 1 d_Model_settle_204 rfl rfl ?_
                              refine V_dup2 F d_Model_settle_205 rfl rfl ?_
                              refine V_ialdnN F 4 0 (k := j2) rfl rfl (by omega) (by decide) d_Model_settle_206 ?_
                              refine V_iconst F (v := 1) d_Model_settle_207 rfl ?_
                              refine V_iadd F d_Model_settle_208 ?_
                              refine V_top (y := nI ((tn2 j2) + 1)) (nI_add _ _) ?_
                              refine V_iastn F 4 0 (k := j2) (w' := [(x0, .inr (CI_Model, [.int (nI th), .int (nI nn), .ref x1, .ref x2, .ref x3, .ref x4, .ref x5, .ref x6, .ref x7, .ref x8, .ref x9, .ref x10, .ref x11, .int (nI n), .ref x12, .ref x13, .ref x14, .ref x15, .ref x16, .ref x17, .ref x18, .ref x19, .ref x20, .int (bP bt), .int (nI sg)])), (x1, .inl (cI, 80, .inl (cN v3))), (x2, .inl (cI, 80, .inl (cN b0))), (x3, .inl (cI, 80, .inl (cS sk))), (x4, .inl (cI, 80, .inl (cN (up tn2 j2 ((tn2 j2) + 1))))), (x5, .inl (cI, 60, .inl (cN k))), (x6, .inl (cI, 60, .inl (cN o))), (x7, .inl (cI, 60, .inl A)), (x8, .inl (cI, 60, .inl B)), (x9, .inl (cI, 60, .inl C)), (x10, .inl (cI, 60, .inl (cN q2))), (x11, .inl (cI, 60, .inl (cN dr3)))]) rfl rfl (by omega) (by decide) (by rw [upd_cN] <;> rfl) d_Model_settle_209 ?_
                              refine V_iinc F 1 (v := nI (j2 + 1)) (lv' := [(2, .int (nI (j2 + 1))), (0, .ref x0)]) d_Model_settle_210 rfl (nI_inc _) (by decide) rfl ?_
                              refine V_goto F 160 d_Model_settle_213 (by decide) ?_
                              refine V_lv [1, 0] rfl ?_
                              exact ih160 (j2 + 1) (up tn2 j2 ((tn2 j2) + 1)) (by omega) (by first | assumption | omega | (simp only [] at *; omega)) (up_if2 hT (by rw [ht8, tnF_t (tnF_iff.mp ⟨h182, h197⟩)]))
                    refine V_lv [1, 0] rfl ?_
                    exact L160 ((nn - 0) + 1) 0 tn (Nat.lt_succ_self _) (by first | assumption | omega | (simp only [] at *; omega)) (fun j => by rw [if_neg (Nat.not_lt_zero j)])
                  · skip
                    have hk8 := (hw i2 (by omega)).1
                    refine V_aload_n F 0 d_Model_settle_129 rfl rfl ?_
                    refine V_get F 0 CI_Model 6 i_Model rfl rfl (by decide) m_602 rfl rfl d_Model_settle_130 ?_
                    refine V_iload_n F 1 d_Model_settle_133 rfl rfl ?_
                    refine V_ialdnN F 5 0 (k := i2) rfl rfl (by omega) (by decide) d_Model_settle_134 ?_
                    refine V_bipush F (v := 7) d_Model_settle_135 rfl ?_
                    refine V_icmpn_ne F 152 (a := k i2) (b := 7) (by omega) (by omega) d_Model_settle_137 (by decide) (fun h137 => ?_) (fun h137 => ?_)
                    · skip
                      refine V_iinc F 1 (v := nI (i2 + 1)) (lv' := [(2, .int (nI (i2 + 1))), (0, .ref x0)]) d_Model_settle_152 rfl (nI_inc _) (by decide) rfl ?_
                      refine V_goto F 121 d_Model_settle_155 (by decide) ?_
                      refine V_lv [1, 0] rfl ?_
                      exact ih121 (i2 + 1) q2 (by omega) (by first | assumption | omega | (simp only [] at *; omega)) (q_same hQ h137)
                    · skip
                      refine V_aload_n F 0 d_Model_settle_140 rfl rfl ?_
                      refine V_get F 0 CI_Model 11 i_Model rfl rfl (by decide) m_607 rfl rfl d_Model_settle_141 ?_
                      refine V_iload_n F 1 d_Model_settle_144 rfl rfl ?_
                      refine V_aload_n F 0 d_Model_settle_145 rfl rfl ?_
                      refine V_get F 0 CI_Model 12 i_Model rfl rfl (by decide) m_608 rfl rfl d_Model_settle_146 ?_
                      refine V_iload_n F 1 d_Model_settle_149 rfl rfl ?_
                      refine V_ialdnN F 11 0 (k := i2) rfl rfl (by omega) (by decide) d_Model_settle_150 ?_
                      refine V_iastn F 10 0 (k := i2) (w' := [(x0, .inr (CI_Model, [.int (nI th), .int (nI nn), .ref x1, .ref x2, .ref x3, .ref x4, .ref x5, .ref x6, .ref x7, .ref x8, .ref x9, .ref x10, .ref x11, .int (nI n), .ref x12, .ref x13, .ref x14, .ref x15, .ref x16, .ref x17, .ref x18, .ref x19, .ref x20, .int (bP bt), .int (nI sg)])), (x1, .inl (cI, 80, .inl (cN v3))), (x2, .inl (cI, 80, .inl (cN b0))), (x3, .inl (cI, 80, .inl (cS sk))), (x4, .inl (cI, 80, .inl (cN tn))), (x5, .inl (cI, 60, .inl (cN k))), (x6, .inl (cI, 60, .inl (cN o))), (x7, .inl (cI, 60, .inl A)), (x8, .inl (cI, 60, .inl B)), (x9, .inl (cI, 60, .inl C)), (x10, .inl (cI, 60, .inl (cN (up q2 i2 (dr3 i2))))), (x11, .inl (cI, 60, .inl (cN dr3)))]) rfl rfl (by omega) (by decide) (by rw [upd_cN] <;> rfl) d_Model_settle_151 ?_
                      refine V_iinc F 1 (v := nI (i2 + 1)) (lv' := [(2, .int (nI (i2 + 1))), (0, .ref x0)]) d_Model_settle_152 rfl (nI_inc _) (by decide) rfl ?_
                      refine V_goto F 121 d_Model_settle_155 (by decide) ?_
                      refine V_lv [1, 0] rfl ?_
                      exact ih121 (i2 + 1) (up q2 i2 (dr3 i2)) (by omega) (by first | assumption | omega | (simp only [] at *; omega)) (q_step hQ (by rw [if_pos h137]))
              refine V_lv [1, 0] rfl ?_
              exact L121 ((n - 0) + 1) 0 q (Nat.lt_succ_self _) (by first | assumption | omega | (simp only [] at *; omega)) (fun t _ => by rw [if_neg (Nat.not_lt_zero t)])
            · skip
              have hch := hI.1
              refine V_iload_n F 1 d_Model_settle_36 rfl rfl ?_
              refine V_ifn_eq F 119 (a := ch) (by omega) d_Model_settle_37 (by decide) (fun h37 => ?_) (fun h37 => ?_)
              · skip
                have hI := hI.done (Or.inr h37)
                refine V_iconst F (v := 0) d_Model_settle_119 rfl ?_
                refine V_istore_n F (lv' := [(2, .int (nI 0)), (0, .ref x0), (1, .int (nI ch))]) d_Model_settle_120 rfl (by decide) rfl ?_
                have L121 : ∀ (f_ : Nat) (i2 : Nat) (q2 : Nat → Nat), n - i2 < f_ → (i2 ≤ n) → (∀ t, t < n → q2 t = if t < i2 then (if k t = 7 then dr3 t else q t) else q t) → V p_ l e_ ({ frames := 2, cells := 0, slots := 0, locals := 45 }) s_ m_ args_ below_ meth_ c_ A_ (MQ below_ (cQv D classes (fun (u_ : (Nat → Nat) × (Nat → Nat) × (Nat → Nat) × (Nat → Nat) × (Nat → Nat)) => SetP nn n k o A B C q sk v tn u_.1 u_.2.2.1 u_.2.2.2.1) (fun (u_ : (Nat → Nat) × (Nat → Nat) × (Nat → Nat) × (Nat → Nat) × (Nat → Nat)) => [(x0, .inr (CI_Model, [.int (nI th), .int (nI nn), .ref x1, .ref x2, .ref x3, .ref x4, .ref x5, .ref x6, .ref x7, .ref x8, .ref x9, .ref x10, .ref x11, .int (nI n), .ref x12, .ref x13, .ref x14, .ref x15, .ref x16, .ref x17, .ref x18, .ref x19, .ref x20, .int (bP bt), .int (nI (sg + 1))])), (x1, .inl (cI, 80, .inl (cN u_.1))), (x2, .inl (cI, 80, .inl (cN u_.2.1))), (x3, .inl (cI, 80, .inl (cS sk))), (x4, .inl (cI, 80, .inl (cN u_.2.2.1))), (x5, .inl (cI, 60, .inl (cN k))), (x6, .inl (cI, 60, .inl (cN o))), (x7, .inl (cI, 60, .inl A)), (x8, .inl (cI, 60, .inl B)), (x9, .inl (cI, 60, .inl C)), (x10, .inl (cI, 60, .inl (cN u_.2.2.2.1))), (x11, .inl (cI, 60, .inl (cN u_.2.2.2.2)))]) A_) args_ s_ 0 0 A_) D classes 5 0 0 [(x0, .inr (CI_Model, [.int (nI th), .int (nI nn), .ref x1, .ref x2, .ref x3, .ref x4, .ref x5, .ref x6, .ref x7, .ref x8, .ref x9, .ref x10, .ref x11, .int (nI n), .ref x12, .ref x13, .ref x14, .ref x15, .ref x16, .ref x17, .ref x18, .ref x19, .ref x20, .int (bP bt), .int (nI sg)])), (x1, .inl (cI, 80, .inl (cN v3))), (x2, .inl (cI, 80, .inl (cN b0))), (x3, .inl (cI, 80, .inl (cS sk))), (x4, .inl (cI, 80, .inl (cN tn))), (x5, .inl (cI, 60, .inl (cN k))), (x6, .inl (cI, 60, .inl (cN o))), (x7, .inl (cI, 60, .inl A)), (x8, .inl (cI, 60, .inl B)), (x9, .inl (cI, 60, .inl C)), (x10, .inl (cI, 60, .inl (cN q2))), (x11, .inl (cI, 60, .inl (cN dr3)))] 121 [(0, .ref x0), (2, .int (nI i2))] [] := by
                  intro f_
                  induction f_ with
                  | zero => intro i2 q2 hm_; exact absurd hm_ (Nat.not_lt_zero _)
                  | succ f_ ih121 =>
                    intro i2 q2 hm121 hi2 hQ
                    refine V_iload_n F 1 d_Model_settle_121 rfl rfl ?_
                    refine V_aload_n F 0 d_Model_settle_122 rfl rfl ?_
                    refine V_get F 0 CI_Model 13 i_Model rfl rfl (by decide) m_609 rfl rfl d_Model_settle_123 ?_
                    refine V_icmpn_ge F 158 (a := i2) (b := n) (by omega) (by omega) d_Model_settle_126 (by decide) (fun h126 => ?_) (fun h126 => ?_)
                    · skip
                      refine V_iconst F (v := 0) d_Model_settle_158 rfl ?_
                      refine V_istore_n F (lv' := [(2, .int (nI 0)), (0, .ref x0)]) d_Model_settle_159 rfl (by decide) rfl ?_
                      have L160 : ∀ (f_ : Nat) (j2 : Nat) (tn2 : Nat → Nat), nn - j2 < f_ → (j2 ≤ nn) → (∀ j, tn2 j = if j < j2 then tn j + tnF (b0 j) (v3 j) else tn j) → V p_ l e_ ({ frames := 2, cells := 0, slots := 0, locals := 45 }) s_ m_ args_ below_ meth_ c_ A_ (MQ below_ (cQv D classes (fun (u_ : (Nat → Nat) × (Nat → Nat) × (Nat → Nat) × (Nat → Nat) × (Nat → Nat)) => SetP nn n k o A B C q sk v tn u_.1 u_.2.2.1 u_.2.2.2.1) (fun (u_ : (Nat → Nat) × (Nat → Nat) × (Nat → Nat) × (Nat → Nat) × (Nat → Nat)) => [(x0, .inr (CI_Model, [.int (nI th), .int (nI nn), .ref x1, .ref x2, .ref x3, .ref x4, .ref x5, .ref x6, .ref x7, .ref x8, .ref x9, .ref x10, .ref x11, .int (nI n), .ref x12, .ref x13, .ref x14, .ref x15, .ref x16, .ref x17, .ref x18, .ref x19, .ref x20, .int (bP bt), .int (nI (sg + 1))])), (x1, .inl (cI, 80, .inl (cN u_.1))), (x2, .inl (cI, 80, .inl (cN u_.2.1))), (x3, .inl (cI, 80, .inl (cS sk))), (x4, .inl (cI, 80, .inl (cN u_.2.2.1))), (x5, .inl (cI, 60, .inl (cN k))), (x6, .inl (cI, 60, .inl (cN o))), (x7, .inl (cI, 60, .inl A)), (x8, .inl (cI, 60, .inl B)), (x9, .inl (cI, 60, .inl C)), (x10, .inl (cI, 60, .inl (cN u_.2.2.2.1))), (x11, .inl (cI, 60, .inl (cN u_.2.2.2.2)))]) A_) args_ s_ 0 0 A_) D classes 5 0 0 [(x0, .inr (CI_Model, [.int (nI th), .int (nI nn), .ref x1, .ref x2, .ref x3, .ref x4, .ref x5, .ref x6, .ref x7, .ref x8, .ref x9, .ref x10, .ref x11, .int (nI n), .ref x12, .ref x13, .ref x14, .ref x15, .ref x16, .ref x17, .ref x18, .ref x19, .ref x20, .int (bP bt), .int (nI sg)])), (x1, .inl (cI, 80, .inl (cN v3))), (x2, .inl (cI, 80, .inl (cN b0))), (x3, .inl (cI, 80, .inl (cS sk))), (x4, .inl (cI, 80, .inl (cN tn2))), (x5, .inl (cI, 60, .inl (cN k))), (x6, .inl (cI, 60, .inl (cN o))), (x7, .inl (cI, 60, .inl A)), (x8, .inl (cI, 60, .inl B)), (x9, .inl (cI, 60, .inl C)), (x10, .inl (cI, 60, .inl (cN q2))), (x11, .inl (cI, 60, .inl (cN dr3)))] 160 [(0, .ref x0), (2, .int (nI j2))] [] := by
                        intro f_
                        induction f_ with
                        | zero => intro j2 tn2 hm_; exact absurd hm_ (Nat.not_lt_zero _)
                        | succ f_ ih160 =>
                          intro j2 tn2 hm160 hj2 hT
                          refine V_iload_n F 1 d_Model_settle_160 rfl rfl ?_
                          refine V_aload_n F 0 d_Model_settle_161 rfl rfl ?_
                          refine V_get F 0 CI_Model 1 i_Model rfl rfl (by decide) m_597 rfl rfl d_Model_settle_162 ?_
                          refine V_icmpn_ge F 216 (a := j2) (b := nn) (by omega) (by omega) d_Model_settle_165 (by decide) (fun h165 => ?_) (fun h165 => ?_)
                          · skip
                            refine V_aload_n F 0 d_Model_settle_216 rfl rfl ?_
                            refine V_dup F d_Model_settle_217 rfl ?_
                            refine V_get F 0 CI_Model 24 i_Model rfl rfl (by decide) m_620 rfl rfl d_Model_settle_218 ?_
                            refine V_iconst F (v := 1) d_Model_settle_221 rfl ?_
                            refine V_iadd F d_Model_settle_222 ?_
                            refine V_top (y := nI (sg + 1)) (nI_add _ _) ?_
                            refine V_put F 0 CI_Model 24 (w' := [(x0, .inr (CI_Model, [.int (nI th), .int (nI nn), .ref x1, .ref x2, .ref x3, .ref x4, .ref x5, .ref x6, .ref x7, .ref x8, .ref x9, .ref x10, .ref x11, .int (nI n), .ref x12, .ref x13, .ref x14, .ref x15, .ref x16, .ref x17, .ref x18, .ref x19, .ref x20, .int (bP bt), .int (nI (sg + 1))])), (x1, .inl (cI, 80, .inl (cN v3))), (x2, .inl (cI, 80, .inl (cN b0))), (x3, .inl (cI, 80, .inl (cS sk))), (x4, .inl (cI, 80, .inl (cN tn2))), (x5, .inl (cI, 60, .inl (cN k))), (x6, .inl (cI, 60, .inl (cN o))), (x7, .inl (cI, 60, .inl A)), (x8, .inl (cI, 60, .inl B)), (x9, .inl (cI, 60, .inl C)), (x10, .inl (cI, 60, .inl (cN q2))), (x11, .inl (cI, 60, .inl (cN dr3)))]) t_Model tk_Model n_Model i_Model rfl rfl (by decide) m_620 rfl rfl rfl rfl (Nat.le_of_ble_eq_true rfl) rfl d_Model_settle_223 ?_
                            exact V_vret F hr (v3, b0, tn2, q2, dr3) (show SetP nn n k o A B C q sk v tn v3 tn2 q2 from (msettle_done hI (fun i hi => by rw [hQ i hi, if_pos (by omega)]) (fun j hj => hb0 j (by omega)) (fun j => by rw [hT j, show j2 = nn by omega]))) [0, 1, 2, 3, 4, 5, 6, 7, 8, 9, 10, 11] rfl rfl (by decide) (by decide) d_Model_settle_226
                          · skip
                            have hb8 : b0 j2 ≤ 3 := by rw [hb0 j2 (by omega)]; exact hv j2 (by omega)
                            have hv8 := hI.2.2.2.1 j2 (by omega)
                            have ht8 : tn2 j2 = tn j2 := by rw [hT j2, if_neg (Nat.lt_irrefl j2)]
                            refine V_aload_n F 0 d_Model_settle_168 rfl rfl ?_
                            refine V_get F 0 CI_Model 3 i_Model rfl rfl (by decide) m_599 rfl rfl d_Model_settle_169 ?_
                            refine V_iload_n F 1 d_Model_settle_172 rfl rfl ?_
                            refine V_ialdnN F 2 0 (k := j2) rfl rfl (by omega) (by decide) d_Model_settle_173 ?_
                            refine V_aload_n F 0 d_Model_settle_174 rfl rfl ?_
                            refine V_get F 0 CI_Model 2 i_Model rfl rfl (by decide) m_598 rfl rfl d_Model_settle_175 ?_
                            refine V_iload_n F 1 d_Model_settle_178 rfl rfl ?_
                            refine V_ialdnN F 1 0 (k := j2) rfl rfl (by omega) (by decide) d_Model_settle_179 ?_
                            refine V_iadd F d_Model_settle_180 ?_
                            refine V_top (y := nI ((b0 j2) + (v3 j2))) (nI_add _ _) ?_
                            refine V_iconst F (v := 1) d_Model_settle_181 rfl ?_
                            refine V_icmpn_ne F 210 (a := (b0 j2) + (v3 j2)) (b := 1) (by omega) (by omega) d_Model_settle_182 (by decide) (fun h182 => ?_) (fun h182 => ?_)
                            · skip
                              refine V_iinc F 1 (v := nI (j2 + 1)) (lv' := [(2, .int (nI (j2 + 1))), (0, .ref x0)]) d_Model_settle_210 rfl (nI_inc _) (by decide) rfl ?_
                              refine V_goto F 160 d_Model_settle_213 (by decide) ?_
                              refine V_lv [1, 0] rfl ?_
                              exact ih160 (j2 + 1) tn2 (by omega) (by first | assumption | omega | (simp only [] at *; omega)) (up_if3 hT (by rw [tnF_f (fun z => h182 (tnF_iff.mpr z).1)]; rfl))
                            · skip
                              refine V_aload_n F 0 d_Model_settle_185 rfl rfl ?_
                              refine V_get F 0 CI_Model 3 i_Model rfl rfl (by decide) m_599 rfl rfl d_Model_settle_186 ?_
                              refine V_iload_n F 1 d_Model_settle_189 rfl rfl ?_
                              refine V_ialdnN F 2 0 (k := j2) rfl rfl (by omega) (by decide) d_Model_settle_190 ?_
                              refine V_aload_n F 0 d_Model_settle_191 rfl rfl ?_
                              refine V_get F 0 CI_Model 2 i_Model rfl rfl (by decide) m_598 rfl rfl d_Model_settle_192 ?_
                              refine V_iload_n F 1 d_Model_settle_195 rfl rfl ?_
                              refine V_ialdnN F 1 0 (k := j2) rfl rfl (by omega) (by decide) d_Model_settle_196 ?_
                              refine V_icmpn_eq F 210 (a := b0 j2) (b := v3 j2) (by omega) (by omega) d_Model_settle_197 (by decide) (fun h197 => ?_) (fun h197 => ?_)
                              · skip
                                refine V_iinc F 1 (v := nI (j2 + 1)) (lv' := [(2, .int (nI (j2 + 1))), (0, .ref x0)]) d_Model_settle_210 rfl (nI_inc _) (by decide) rfl ?_
                                refine V_goto F 160 d_Model_settle_213 (by decide) ?_
                                refine V_lv [1, 0] rfl ?_
                                exact ih160 (j2 + 1) tn2 (by omega) (by first | assumption | omega | (simp only [] at *; omega)) (up_if3 hT (by rw [tnF_f (fun z => (tnF_iff.mpr z).2 h197)]; rfl))
                              · skip
                                refine V_aload_n F 0 d_Model_settle_200 rfl rfl ?_
                                refine V_get F 0 CI_Model 5 i_Model rfl rfl (by decide) m_601 rfl rfl d_Model_settle_201 ?_
                                refine V_iload_n F 1 d_Model_settle_204 rfl rfl ?_
                                refine V_dup2 F d_Model_settle_205 rfl rfl ?_
                                refine V_ialdnN F 4 0 (k := j2) rfl rfl (by omega) (by decide) d_Model_settle_206 ?_
                                refine V_iconst F (v := 1) d_Model_settle_207 rfl ?_
                                refine V_iadd F d_Model_settle_208 ?_
                                refine V_top (y := nI ((tn2 j2) + 1)) (nI_add _ _) ?_
                                refine V_iastn F 4 0 (k := j2) (w' := [(x0, .inr (CI_Model, [.int (nI th), .int (nI nn), .ref x1, .ref x2, .ref x3, .ref x4, .ref x5, .ref x6, .ref x7, .ref x8, .ref x9, .ref x10, .ref x11, .int (nI n), .ref x12, .ref x13, .ref x14, .ref x15, .ref x16, .ref x17, .ref x18, .ref x19, .ref x20, .int (bP bt), .int (nI sg)])), (x1, .inl (cI, 80, .inl (cN v3))), (x2, .inl (cI, 80, .inl (cN b0))), (x3, .inl (cI, 80, .inl (cS sk))), (x4, .inl (cI, 80, .inl (cN (up tn2 j2 ((tn2 j2) + 1))))), (x5, .inl (cI, 60, .inl (cN k))), (x6, .inl (cI, 60, .inl (cN o))), (x7, .inl (cI, 60, .inl A)), (x8, .inl (cI, 60, .inl B)), (x9, .inl (cI, 60, .inl C)), (x10, .inl (cI, 60, .inl (cN q2))), (x11, .inl (cI, 60, .inl (cN dr3)))]) rfl rfl (by omega) (by decide) (by rw [upd_cN] <;> rfl) d_Model_settle_209 ?_
                                refine V_iinc F 1 (v := nI (j2 + 1)) (lv' := [(2, .int (nI (j2 + 1))), (0, .ref x0)]) d_Model_settle_210 rfl (nI_inc _) (by decide) rfl ?_
                                refine V_goto F 160 d_Model_settle_213 (by decide) ?_
                                refine V_lv [1, 0] rfl ?_
                                exact ih160 (j2 + 1) (up tn2 j2 ((tn2 j2) + 1)) (by omega) (by first | assumption | omega | (simp only [] at *; omega)) (up_if2 hT (by rw [ht8, tnF_t (tnF_iff.mp ⟨h182, h197⟩)]))
                      refine V_lv [1, 0] rfl ?_
                      exact L160 ((nn - 0) + 1) 0 tn (Nat.lt_succ_self _) (by first | assumption | omega | (simp only [] at *; omega)) (fun j => by rw [if_neg (Nat.not_lt_zero j)])
                    · skip
                      have hk8 := (hw i2 (by omega)).1
                      refine V_aload_n F 0 d_Model_settle_129 rfl rfl ?_
                      refine V_get F 0 CI_Model 6 i_Model rfl rfl (by decide) m_602 rfl rfl d_Model_settle_130 ?_
                      refine V_iload_n F 1 d_Model_settle_133 rfl rfl ?_
                      refine V_ialdnN F 5 0 (k := i2) rfl rfl (by omega) (by decide) d_Model_settle_134 ?_
                      refine V_bipush F (v := 7) d_Model_settle_135 rfl ?_
                      refine V_icmpn_ne F 152 (a := k i2) (b := 7) (by omega) (by omega) d_Model_settle_137 (by decide) (fun h137 => ?_) (fun h137 => ?_)
                      · skip
                        refine V_iinc F 1 (v := nI (i2 + 1)) (lv' := [(2, .int (nI (i2 + 1))), (0, .ref x0)]) d_Model_settle_152 rfl (nI_inc _) (by decide) rfl ?_
                        refine V_goto F 121 d_Model_settle_155 (by decide) ?_
                        refine V_lv [1, 0] rfl ?_
                        exact ih121 (i2 + 1) q2 (by omega) (by first | assumption | omega | (simp only [] at *; omega)) (q_same hQ h137)
                      · skip
                        refine V_aload_n F 0 d_Model_settle_140 rfl rfl ?_
                        refine V_get F 0 CI_Model 11 i_Model rfl rfl (by decide) m_607 rfl rfl d_Model_settle_141 ?_
                        refine V_iload_n F 1 d_Model_settle_144 rfl rfl ?_
                        refine V_aload_n F 0 d_Model_settle_145 rfl rfl ?_
                        refine V_get F 0 CI_Model 12 i_Model rfl rfl (by decide) m_608 rfl rfl d_Model_settle_146 ?_
                        refine V_iload_n F 1 d_Model_settle_149 rfl rfl ?_
                        refine V_ialdnN F 11 0 (k := i2) rfl rfl (by omega) (by decide) d_Model_settle_150 ?_
                        refine V_iastn F 10 0 (k := i2) (w' := [(x0, .inr (CI_Model, [.int (nI th), .int (nI nn), .ref x1, .ref x2, .ref x3, .ref x4, .ref x5, .ref x6, .ref x7, .ref x8, .ref x9, .ref x10, .ref x11, .int (nI n), .ref x12, .ref x13, .ref x14, .ref x15, .ref x16, .ref x17, .ref x18, .ref x19, .ref x20, .int (bP bt), .int (nI sg)])), (x1, .inl (cI, 80, .inl (cN v3))), (x2, .inl (cI, 80, .inl (cN b0))), (x3, .inl (cI, 80, .inl (cS sk))), (x4, .inl (cI, 80, .inl (cN tn))), (x5, .inl (cI, 60, .inl (cN k))), (x6, .inl (cI, 60, .inl (cN o))), (x7, .inl (cI, 60, .inl A)), (x8, .inl (cI, 60, .inl B)), (x9, .inl (cI, 60, .inl C)), (x10, .inl (cI, 60, .inl (cN (up q2 i2 (dr3 i2))))), (x11, .inl (cI, 60, .inl (cN dr3)))]) rfl rfl (by omega) (by decide) (by rw [upd_cN] <;> rfl) d_Model_settle_151 ?_
                        refine V_iinc F 1 (v := nI (i2 + 1)) (lv' := [(2, .int (nI (i2 + 1))), (0, .ref x0)]) d_Model_settle_152 rfl (nI_inc _) (by decide) rfl ?_
                        refine V_goto F 121 d_Model_settle_155 (by decide) ?_
                        refine V_lv [1, 0] rfl ?_
                        exact ih121 (i2 + 1) (up q2 i2 (dr3 i2)) (by omega) (by first | assumption | omega | (simp only [] at *; omega)) (q_step hQ (by rw [if_pos h137]))
                refine V_lv [1, 0] rfl ?_
                exact L121 ((n - 0) + 1) 0 q (Nat.lt_succ_self _) (by first | assumption | omega | (simp only [] at *; omega)) (fun t _ => by rw [if_neg (Nat.not_lt_zero t)])
              · skip
                have ech : ch = 1 := by have := hI.1; omega
                rw [ech] at hI
                refine V_iconst F (v := 0) d_Model_settle_40 rfl ?_
                refine V_istore_n F (lv' := [(1, .int (nI 0)), (0, .ref x0), (2, .int (nI r_))]) d_Model_settle_41 rfl (by decide) rfl ?_
                refine V_iconst F (v := 0) d_Model_settle_42 rfl ?_
                refine V_istore_n F (lv' := [(3, .int (nI 0)), (1, .int (nI 0)), (0, .ref x0), (2, .int (nI r_))]) d_Model_settle_43 rfl (by decide) rfl ?_
                have L44 : ∀ (f_ : Nat) (i : Nat) (dr4 : Nat → Nat), n - i < f_ → (i ≤ n) → (∀ t, t < i → dr4 t = evc k A B C q v3 t) → V p_ l e_ ({ frames := 2, cells := 0, slots := 0, locals := 45 }) s_ m_ args_ below_ meth_ c_ A_ (MQ below_ (cQv D classes (fun (u_ : (Nat → Nat) × (Nat → Nat) × (Nat → Nat) × (Nat → Nat) × (Nat → Nat)) => SetP nn n k o A B C q sk v tn u_.1 u_.2.2.1 u_.2.2.2.1) (fun (u_ : (Nat → Nat) × (Nat → Nat) × (Nat → Nat) × (Nat → Nat) × (Nat → Nat)) => [(x0, .inr (CI_Model, [.int (nI th), .int (nI nn), .ref x1, .ref x2, .ref x3, .ref x4, .ref x5, .ref x6, .ref x7, .ref x8, .ref x9, .ref x10, .ref x11, .int (nI n), .ref x12, .ref x13, .ref x14, .ref x15, .ref x16, .ref x17, .ref x18, .ref x19, .ref x20, .int (bP bt), .int (nI (sg + 1))])), (x1, .inl (cI, 80, .inl (cN u_.1))), (x2, .inl (cI, 80, .inl (cN u_.2.1))), (x3, .inl (cI, 80, .inl (cS sk))), (x4, .inl (cI, 80, .inl (cN u_.2.2.1))), (x5, .inl (cI, 60, .inl (cN k))), (x6, .inl (cI, 60, .inl (cN o))), (x7, .inl (cI, 60, .inl A)), (x8, .inl (cI, 60, .inl B)), (x9, .inl (cI, 60, .inl C)), (x10, .inl (cI, 60, .inl (cN u_.2.2.2.1))), (x11, .inl (cI, 60, .inl (cN u_.2.2.2.2)))]) A_) args_ s_ 0 0 A_) D classes 5 0 0 [(x0, .inr (CI_Model, [.int (nI th), .int (nI nn), .ref x1, .ref x2, .ref x3, .ref x4, .ref x5, .ref x6, .ref x7, .ref x8, .ref x9, .ref x10, .ref x11, .int (nI n), .ref x12, .ref x13, .ref x14, .ref x15, .ref x16, .ref x17, .ref x18, .ref x19, .ref x20, .int (bP bt), .int (nI sg)])), (x1, .inl (cI, 80, .inl (cN v3))), (x2, .inl (cI, 80, .inl (cN b0))), (x3, .inl (cI, 80, .inl (cS sk))), (x4, .inl (cI, 80, .inl (cN tn))), (x5, .inl (cI, 60, .inl (cN k))), (x6, .inl (cI, 60, .inl (cN o))), (x7, .inl (cI, 60, .inl A)), (x8, .inl (cI, 60, .inl B)), (x9, .inl (cI, 60, .inl C)), (x10, .inl (cI, 60, .inl (cN q))), (x11, .inl (cI, 60, .inl (cN dr4)))] 44 [(0, .ref x0), (1, .int (nI 0)), (2, .int (nI r_)), (3, .int (nI i))] [] := by
                  intro f_
                  induction f_ with
                  | zero => intro i dr4 hm_; exact absurd hm_ (Nat.not_lt_zero _)
                  | succ f_ ih44 =>
                    intro i dr4 hm44 hi hD
                    refine V_iload_n F 3 d_Model_settle_44 rfl rfl ?_
                    refine V_aload_n F 0 d_Model_settle_45 rfl rfl ?_
                    refine V_get F 0 CI_Model 13 i_Model rfl rfl (by decide) m_609 rfl rfl d_Model_settle_46 ?_
                    refine V_icmpn_ge F 69 (a := i) (b := n) (by omega) (by omega) d_Model_settle_49 (by decide) (fun h49 => ?_) (fun h49 => ?_)
                    · skip
                      refine V_iconst F (v := 0) d_Model_settle_69 rfl ?_
                      refine V_istore_n F (lv' := [(3, .int (nI 0)), (0, .ref x0), (1, .int (nI 0)), (2, .int (nI r_))]) d_Model_settle_70 rfl (by decide) rfl ?_
                      have L71 : ∀ (f_ : Nat) (j : Nat) (ch4 : Nat) (v4 : Nat → Nat), nn - j < f_ → (j ≤ nn) → (MN n k o A B C q sk v3 j ch4 v4) → V p_ l e_ ({ frames := 2, cells := 0, slots := 0, locals := 45 }) s_ m_ args_ below_ meth_ c_ A_ (MQ below_ (cQv D classes (fun (u_ : (Nat → Nat) × (Nat → Nat) × (Nat → Nat) × (Nat → Nat) × (Nat → Nat)) => SetP nn n k o A B C q sk v tn u_.1 u_.2.2.1 u_.2.2.2.1) (fun (u_ : (Nat → Nat) × (Nat → Nat) × (Nat → Nat) × (Nat → Nat) × (Nat → Nat)) => [(x0, .inr (CI_Model, [.int (nI th), .int (nI nn), .ref x1, .ref x2, .ref x3, .ref x4, .ref x5, .ref x6, .ref x7, .ref x8, .ref x9, .ref x10, .ref x11, .int (nI n), .ref x12, .ref x13, .ref x14, .ref x15, .ref x16, .ref x17, .ref x18, .ref x19, .ref x20, .int (bP bt), .int (nI (sg + 1))])), (x1, .inl (cI, 80, .inl (cN u_.1))), (x2, .inl (cI, 80, .inl (cN u_.2.1))), (x3, .inl (cI, 80, .inl (cS sk))), (x4, .inl (cI, 80, .inl (cN u_.2.2.1))), (x5, .inl (cI, 60, .inl (cN k))), (x6, .inl (cI, 60, .inl (cN o))), (x7, .inl (cI, 60, .inl A)), (x8, .inl (cI, 60, .inl B)), (x9, .inl (cI, 60, .inl C)), (x10, .inl (cI, 60, .inl (cN u_.2.2.2.1))), (x11, .inl (cI, 60, .inl (cN u_.2.2.2.2)))]) A_) args_ s_ 0 0 A_) D classes 5 0 0 [(x0, .inr (CI_Model, [.int (nI th), .int (nI nn), .ref x1, .ref x2, .ref x3, .ref x4, .ref x5, .ref x6, .ref x7, .ref x8, .ref x9, .ref x10, .ref x11, .int (nI n), .ref x12, .ref x13, .ref x14, .ref x15, .ref x16, .ref x17, .ref x18, .ref x19, .ref x20, .int (bP bt), .int (nI sg)])), (x1, .inl (cI, 80, .inl (cN v4))), (x2, .inl (cI, 80, .inl (cN b0))), (x3, .inl (cI, 80, .inl (cS sk))), (x4, .inl (cI, 80, .inl (cN tn))), (x5, .inl (cI, 60, .inl (cN k))), (x6, .inl (cI, 60, .inl (cN o))), (x7, .inl (cI, 60, .inl A)), (x8, .inl (cI, 60, .inl B)), (x9, .inl (cI, 60, .inl C)), (x10, .inl (cI, 60, .inl (cN q))), (x11, .inl (cI, 60, .inl (cN dr4)))] 71 [(0, .ref x0), (1, .int (nI ch4)), (2, .int (nI r_)), (3, .int (nI j))] [] := by
                        intro f_
                        induction f_ with
                        | zero => intro j ch4 v4 hm_; exact absurd hm_ (Nat.not_lt_zero _)
                        | succ f_ ih71 =>
                          intro j ch4 v4 hm71 hj hN
                          refine V_iload_n F 3 d_Model_settle_71 rfl rfl ?_
                          refine V_aload_n F 0 d_Model_settle_72 rfl rfl ?_
                          refine V_get F 0 CI_Model 1 i_Model rfl rfl (by decide) m_597 rfl rfl d_Model_settle_73 ?_
                          refine V_icmpn_ge F 113 (a := j) (b := nn) (by omega) (by omega) d_Model_settle_76 (by decide) (fun h76 => ?_) (fun h76 => ?_)
                          · skip
                            have e76 : j = nn := by omega
                            rw [e76] at hN
                            refine V_iinc F 2 (v := nI (r_ + 1)) (lv' := [(2, .int (nI (r_ + 1))), (0, .ref x0), (1, .int (nI ch4)), (3, .int (nI j))]) d_Model_settle_113 rfl (nI_inc _) (by decide) rfl ?_
                            refine V_goto F 30 d_Model_settle_116 (by decide) ?_
                            refine V_lv [1, 2, 0] rfl ?_
                            exact ih30 (r_ + 1) ch4 v4 dr4 (by omega) (by first | assumption | omega | (simp only [] at *; omega)) (MR.step hw hU hL hq hsk hI hN (fun i hi => hD i (by omega)))
                          · skip
                            have hs8 := hsk j (by omega)
                            have hv8 : v4 j ≤ 3 := by rw [hN.2.2.1 j (Nat.le_refl _)]; exact hI.2.2.2.1 j (by omega)
                            have hx8 : nxt n k o A B C q sk v3 j ≤ 3 := nxt_le hw hI.2.2.2.1 hq hs8
                            refine V_aload_n F 0 d_Model_settle_79 rfl rfl ?_
                            refine V_iload_n F 3 d_Model_settle_80 rfl rfl ?_
                            refine V_callV_i (w1 := fun (u_ : Unit) => [(x0, .inr (CI_Model, [.int (nI th), .int (nI nn), .ref x1, .ref x2, .ref x3, .ref x4, .ref x5, .ref x6, .ref x7, .ref x8, .ref x9, .ref x10, .ref x11, .int (nI n), .ref x12, .ref x13, .ref x14, .ref x15, .ref x16, .ref x17, .ref x18, .ref x19, .ref x20, .int (bP bt), .int (nI sg)])), (x1, .inl (cI, 80, .inl (cN v4))), (x2, .inl (cI, 80, .inl (cN b0))), (x3, .inl (cI, 80, .inl (cS sk))), (x4, .inl (cI, 80, .inl (cN tn))), (x5, .inl (cI, 60, .inl (cN k))), (x6, .inl (cI, 60, .inl (cN o))), (x7, .inl (cI, 60, .inl A)), (x8, .inl (cI, 60, .inl B)), (x9, .inl (cI, 60, .inl C)), (x10, .inl (cI, 60, .inl (cN q))), (x11, .inl (cI, 60, .inl (cN dr4)))]) (wr := [(x1, .inl (cI, 80, .inl (cN v4))), (x2, .inl (cI, 80, .inl (cN b0))), (x4, .inl (cI, 80, .inl (cN tn))), (x5, .inl (cI, 60, .inl (cN k))), (x7, .inl (cI, 60, .inl A)), (x8, .inl (cI, 60, .inl B)), (x9, .inl (cI, 60, .inl C)), (x10, .inl (cI, 60, .inl (cN q)))]) (isC := [0, 3, 6, 11]) (isR := [1, 2, 4, 5, 7, 8, 9, 10]) (pm := [8, 0, 1, 9, 2, 3, 10, 4, 5, 6, 7, 11]) (As := [.int (nI j)]) (rest := []) F (c_Model_joined l D cI cL cB x0 x1 x2 x3 x4 x5 x6 x7 x8 x9 x10 x11 x12 x13 x14 x15 x16 x17 x18 x19 x20 th nn n sg bt sk o dr4 j (by first | assumption | omega | (simp only [] at *; omega)) (by omega) hs8 (fun i hi => by have := (hw i hi).2.1; omega) (fun i hi => by rw [hD i (by omega)]; exact evc_le hw hi hI.2.2.2.1 (hq i hi))) (cS_V 1 F.ts m_749 m_750 m_33 m_42 m_751 (by decide +kernel) ⟨Nat.le_of_ble_eq_true rfl, Nat.le_of_ble_eq_true rfl⟩) (ci := CI_Model) (q0 := 0) rfl rfl rfl (Nat.le_of_ble_eq_true rfl) d_Model_settle_81 ⟨Nat.le_of_ble_eq_true rfl, Nat.le_of_ble_eq_true rfl⟩ ⟨rfl, rfl, rfl, rfl, rfl, fun _ => rfl, rfl⟩ (fun r81 uu81 q81_ => ?_) rfl
                            subst q81_
                            refine V_top (y := nI (nxt n k o A B C q sk v3 j)) (congrArg nI (by unfold nxt; rw [jf_congr (fun i hi _ => hD i (by omega))])) ?_
                            refine V_istore F (lv' := [(4, .int (nI (nxt n k o A B C q sk v3 j))), (0, .ref x0), (1, .int (nI ch4)), (2, .int (nI r_)), (3, .int (nI j))]) d_Model_settle_84 (by decide) rfl ?_
                            refine V_iload F 0 d_Model_settle_86 rfl ?_
                            refine V_aload_n F 1 d_Model_settle_88 rfl rfl ?_
                            refine V_get F 0 CI_Model 2 i_Model rfl rfl (by decide) m_598 rfl rfl d_Model_settle_89 ?_
                            refine V_iload_n F 4 d_Model_settle_92 rfl rfl ?_
                            refine V_ialdnN F 1 0 (k := j) rfl rfl (by omega) (by decide) d_Model_settle_93 ?_
                            refine V_icmpn_eq F 99 (a := nxt n k o A B C q sk v3 j) (b := v4 j) (by omega) (by omega) d_Model_settle_94 (by decide) (fun h94 => ?_) (fun h94 => ?_)
                            · skip
                              refine V_aload_n F 1 d_Model_settle_99 rfl rfl ?_
                              refine V_get F 0 CI_Model 2 i_Model rfl rfl (by decide) m_598 rfl rfl d_Model_settle_100 ?_
                              refine V_iload_n F 4 d_Model_settle_103 rfl rfl ?_
                              refine V_iload F 0 d_Model_settle_104 rfl ?_
                              refine V_iastn F 1 0 (k := j) (w' := [(x0, .inr (CI_Model, [.int (nI th), .int (nI nn), .ref x1, .ref x2, .ref x3, .ref x4, .ref x5, .ref x6, .ref x7, .ref x8, .ref x9, .ref x10, .ref x11, .int (nI n), .ref x12, .ref x13, .ref x14, .ref x15, .ref x16, .ref x17, .ref x18, .ref x19, .ref x20, .int (bP bt), .int (nI sg)])), (x1, .inl (cI, 80, .inl (cN (up v4 j (nxt n k o A B C q sk v3 j))))), (x2, .inl (cI, 80, .inl (cN b0))), (x3, .inl (cI, 80, .inl (cS sk))), (x4, .inl (cI, 80, .inl (cN tn))), (x5, .inl (cI, 60, .inl (cN k))), (x6, .inl (cI, 60, .inl (cN o))), (x7, .inl (cI, 60, .inl A)), (x8, .inl (cI, 60, .inl B)), (x9, .inl (cI, 60, .inl C)), (x10, .inl (cI, 60, .inl (cN q))), (x11, .inl (cI, 60, .inl (cN dr4)))]) rfl rfl (by omega) (by decide) (by rw [upd_cN] <;> rfl) d_Model_settle_106 ?_
                              refine V_iinc F 4 (v := nI (j + 1)) (lv' := [(3, .int (nI (j + 1))), (4, .int (nI (nxt n k o A B C q sk v3 j))), (0, .ref x0), (1, .int (nI ch4)), (2, .int (nI r_))]) d_Model_settle_107 rfl (nI_inc _) (by decide) rfl ?_
                              refine V_goto F 71 d_Model_settle_110 (by decide) ?_
                              refine V_lv [2, 3, 4, 0] rfl ?_
                              exact ih71 (j + 1) ch4 (up v4 j (nxt n k o A B C q sk v3 j)) (by omega) (by first | assumption | omega | (simp only [] at *; omega)) (hN.step (Or.inr ⟨h94, rfl⟩))
                            · skip
                              refine V_iconst F (v := 1) d_Model_settle_97 rfl ?_
                              refine V_istore_n F (lv' := [(1, .int (nI 1)), (4, .int (nI (nxt n k o A B C q sk v3 j))), (0, .ref x0), (2, .int (nI r_)), (3, .int (nI j))]) d_Model_settle_98 rfl (by decide) rfl ?_
                              refine V_aload_n F 2 d_Model_settle_99 rfl rfl ?_
                              refine V_get F 0 CI_Model 2 i_Model rfl rfl (by decide) m_598 rfl rfl d_Model_settle_100 ?_
                              refine V_iload_n F 4 d_Model_settle_103 rfl rfl ?_
                              refine V_iload F 1 d_Model_settle_104 rfl ?_
                              refine V_iastn F 1 0 (k := j) (w' := [(x0, .inr (CI_Model, [.int (nI th), .int (nI nn), .ref x1, .ref x2, .ref x3, .ref x4, .ref x5, .ref x6, .ref x7, .ref x8, .ref x9, .ref x10, .ref x11, .int (nI n), .ref x12, .ref x13, .ref x14, .ref x15, .ref x16, .ref x17, .ref x18, .ref x19, .ref x20, .int (bP bt), .int (nI sg)])), (x1, .inl (cI, 80, .inl (cN (up v4 j (nxt n k o A B C q sk v3 j))))), (x2, .inl (cI, 80, .inl (cN b0))), (x3, .inl (cI, 80, .inl (cS sk))), (x4, .inl (cI, 80, .inl (cN tn))), (x5, .inl (cI, 60, .inl (cN k))), (x6, .inl (cI, 60, .inl (cN o))), (x7, .inl (cI, 60, .inl A)), (x8, .inl (cI, 60, .inl B)), (x9, .inl (cI, 60, .inl C)), (x10, .inl (cI, 60, .inl (cN q))), (x11, .inl (cI, 60, .inl (cN dr4)))]) rfl rfl (by omega) (by decide) (by rw [upd_cN] <;> rfl) d_Model_settle_106 ?_
                              refine V_iinc F 4 (v := nI (j + 1)) (lv' := [(3, .int (nI (j + 1))), (1, .int (nI 1)), (4, .int (nI (nxt n k o A B C q sk v3 j))), (0, .ref x0), (2, .int (nI r_))]) d_Model_settle_107 rfl (nI_inc _) (by decide) rfl ?_
                              refine V_goto F 71 d_Model_settle_110 (by decide) ?_
                              refine V_lv [3, 1, 4, 0] rfl ?_
                              exact ih71 (j + 1) 1 (up v4 j (nxt n k o A B C q sk v3 j)) (by omega) (by first | assumption | omega | (simp only [] at *; omega)) (hN.step (Or.inl ⟨h94, rfl⟩))
                      refine V_lv [1, 2, 3, 0] rfl ?_
                      exact L71 ((nn - 0) + 1) 0 0 v3 (Nat.lt_succ_self _) (by first | assumption | omega | (simp only [] at *; omega)) MN.start
                    · skip
                      have hk8 := (hw i (by omega)).1
                      refine V_aload_n F 0 d_Model_settle_52 rfl rfl ?_
                      refine V_get F 0 CI_Model 12 i_Model rfl rfl (by decide) m_608 rfl rfl d_Model_settle_53 ?_
                      refine V_iload_n F 3 d_Model_settle_56 rfl rfl ?_
                      refine V_aload_n F 0 d_Model_settle_57 rfl rfl ?_
                      refine V_iload_n F 3 d_Model_settle_58 rfl rfl ?_
                      refine V_callV_i (w1 := fun (u_ : Unit) => [(x0, .inr (CI_Model, [.int (nI th), .int (nI nn), .ref x1, .ref x2, .ref x3, .ref x4, .ref x5, .ref x6, .ref x7, .ref x8, .ref x9, .ref x10, .ref x11, .int (nI n), .ref x12, .ref x13, .ref x14, .ref x15, .ref x16, .ref x17, .ref x18, .ref x19, .ref x20, .int (bP bt), .int (nI sg)])), (x1, .inl (cI, 80, .inl (cN v3))), (x2, .inl (cI, 80, .inl (cN b0))), (x3, .inl (cI, 80, .inl (cS sk))), (x4, .inl (cI, 80, .inl (cN tn))), (x5, .inl (cI, 60, .inl (cN k))), (x6, .inl (cI, 60, .inl (cN o))), (x7, .inl (cI, 60, .inl A)), (x8, .inl (cI, 60, .inl B)), (x9, .inl (cI, 60, .inl C)), (x10, .inl (cI, 60, .inl (cN q))), (x11, .inl (cI, 60, .inl (cN dr4)))]) (wr := [(x2, .inl (cI, 80, .inl (cN b0))), (x3, .inl (cI, 80, .inl (cS sk))), (x4, .inl (cI, 80, .inl (cN tn))), (x6, .inl (cI, 60, .inl (cN o))), (x11, .inl (cI, 60, .inl (cN dr4)))]) (isC := [0, 1, 5, 7, 8, 9, 10]) (isR := [2, 3, 4, 6, 11]) (pm := [5, 6, 0, 1, 2, 7, 3, 8, 9, 10, 11, 4]) (As := [.int (nI i)]) (rest := [.int (nI i), .ref x11]) F (c_Model_worked l D cI cL cB x0 x1 x2 x3 x4 x5 x6 x7 x8 x9 x10 x11 x12 x13 x14 x15 x16 x17 x18 x19 x20 th nn n sg bt v3 k A B C q o i (by first | assumption | omega | (simp only [] at *; omega)) (by first | assumption | omega | (simp only [] at *; omega)) (by first | assumption | omega | (simp only [] at *; omega)) (by first | assumption | omega | (simp only [] at *; omega)) hI.2.2.2.1 (hq i (by omega))) (cS_V 1 F.ts m_740 m_741 m_31 m_42 m_742 (by decide +kernel) ⟨Nat.le_of_ble_eq_true rfl, Nat.le_of_ble_eq_true rfl⟩) (ci := CI_Model) (q0 := 0) rfl rfl rfl (Nat.le_of_ble_eq_true rfl) d_Model_settle_59 ⟨Nat.le_of_ble_eq_true rfl, Nat.le_of_ble_eq_true rfl⟩ ⟨rfl, rfl, rfl, rfl, rfl, fun _ => rfl, rfl⟩ (fun r59 uu59 q59_ => ?_) rfl
                      subst q59_
                      refine V_iastn F 11 0 (k := i) (w' := [(x0, .inr (CI_Model, [.int (nI th), .int (nI nn), .ref x1, .ref x2, .ref x3, .ref x4, .ref x5, .ref x6, .ref x7, .ref x8, .ref x9, .ref x10, .ref x11, .int (nI n), .ref x12, .ref x13, .ref x14, .ref x15, .ref x16, .ref x17, .ref x18, .ref x19, .ref x20, .int (bP bt), .int (nI sg)])), (x1, .inl (cI, 80, .inl (cN v3))), (x2, .inl (cI, 80, .inl (cN b0))), (x3, .inl (cI, 80, .inl (cS sk))), (x4, .inl (cI, 80, .inl (cN tn))), (x5, .inl (cI, 60, .inl (cN k))), (x6, .inl (cI, 60, .inl (cN o))), (x7, .inl (cI, 60, .inl A)), (x8, .inl (cI, 60, .inl B)), (x9, .inl (cI, 60, .inl C)), (x10, .inl (cI, 60, .inl (cN q))), (x11, .inl (cI, 60, .inl (cN (up dr4 i (evc k A B C q v3 i)))))]) rfl rfl (by omega) (by decide) (by rw [upd_cN] <;> rfl) d_Model_settle_62 ?_
                      refine V_iinc F 3 (v := nI (i + 1)) (lv' := [(3, .int (nI (i + 1))), (0, .ref x0), (1, .int (nI 0)), (2, .int (nI r_))]) d_Model_settle_63 rfl (nI_inc _) (by decide) rfl ?_
                      refine V_goto F 44 d_Model_settle_66 (by decide) ?_
                      refine V_lv [1, 2, 3, 0] rfl ?_
                      exact ih44 (i + 1) (up dr4 i (evc k A B C q v3 i)) (by omega) (by first | assumption | omega | (simp only [] at *; omega)) (up_all hD rfl)
                refine V_lv [2, 1, 3, 0] rfl ?_
                exact L44 ((n - 0) + 1) 0 dr3 (Nat.lt_succ_self _) (by first | assumption | omega | (simp only [] at *; omega)) (fun t h => absurd h (Nat.not_lt_zero t))
        refine V_lv [2, 1, 0] rfl ?_
        exact L30 ((90 - 0) + 1) 0 1 v dr (Nat.lt_succ_self _) (by first | assumption | omega | (simp only [] at *; omega)) (MR.start hv)
      · skip
        refine V_aload_n F 0 d_Model_settle_8 rfl rfl ?_
        refine V_get F 0 CI_Model 3 i_Model rfl rfl (by decide) m_599 rfl rfl d_Model_settle_9 ?_
        refine V_iload_n F 1 d_Model_settle_12 rfl rfl ?_
        refine V_aload_n F 0 d_Model_settle_13 rfl rfl ?_
        refine V_get F 0 CI_Model 2 i_Model rfl rfl (by decide) m_598 rfl rfl d_Model_settle_14 ?_
        refine V_iload_n F 1 d_Model_settle_17 rfl rfl ?_
        refine V_ialdnN F 1 0 (k := i0) rfl rfl (by omega) (by decide) d_Model_settle_18 ?_
        refine V_iastn F 2 0 (k := i0) (w' := [(x0, .inr (CI_Model, [.int (nI th), .int (nI nn), .ref x1, .ref x2, .ref x3, .ref x4, .ref x5, .ref x6, .ref x7, .ref x8, .ref x9, .ref x10, .ref x11, .int (nI n), .ref x12, .ref x13, .ref x14, .ref x15, .ref x16, .ref x17, .ref x18, .ref x19, .ref x20, .int (bP bt), .int (nI sg)])), (x1, .inl (cI, 80, .inl (cN v))), (x2, .inl (cI, 80, .inl (cN (up b0 i0 (v i0))))), (x3, .inl (cI, 80, .inl (cS sk))), (x4, .inl (cI, 80, .inl (cN tn))), (x5, .inl (cI, 60, .inl (cN k))), (x6, .inl (cI, 60, .inl (cN o))), (x7, .inl (cI, 60, .inl A)), (x8, .inl (cI, 60, .inl B)), (x9, .inl (cI, 60, .inl C)), (x10, .inl (cI, 60, .inl (cN q))), (x11, .inl (cI, 60, .inl (cN dr)))]) rfl rfl (by omega) (by decide) (by rw [upd_cN] <;> rfl) d_Model_settle_19 ?_
        refine V_iinc F 1 (v := nI (i0 + 1)) (lv' := [(1, .int (nI (i0 + 1))), (0, .ref x0)]) d_Model_settle_20 rfl (nI_inc _) (by decide) rfl ?_
        refine V_goto F 2 d_Model_settle_23 (by decide) ?_
        refine V_lv [1, 0] rfl ?_
        exact ih2 (i0 + 1) (up b0 i0 (v i0)) (by omega) (by first | assumption | omega | (simp only [] at *; omega)) (up_all hb0 rfl)
  refine V_lv [1, 0] rfl ?_
  exact L2 ((80 - 0) + 1) 0 bf (Nat.lt_succ_self _) (by first | assumption | omega | (simp only [] at *; omega)) (fun t h => absurd h (Nat.not_lt_zero t))
