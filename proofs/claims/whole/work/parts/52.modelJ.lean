set_option maxHeartbeats 4000000 in
set_option maxRecDepth 100000 in
theorem c_Model_count_0 (l : Launch) (D : va_G) (cI cL cB : ClassId) (x0 : Nat) (x1 : Nat) (x2 : Nat) (x3 : Nat) (x4 : Nat) (x5 : Nat) (x6 : Nat) (x7 : Nat) (x8 : Nat) (x9 : Nat) (x10 : Nat) (x11 : Nat) (x12 : Nat) (x13 : Nat) (x14 : Nat) (x15 : Nat) (x16 : Nat) (x17 : Nat) (x18 : Nat) (x19 : Nat) (x20 : Nat) (th : Nat) (nn : Nat) (n : Nat) (sg : Nat) (bt : Prop)  : Cti l y_Model_count (wK w_Model_count) ({ frames := 0, cells := 0, slots := 0, locals := 0 }) D classes (TY cI cL cB) [.ref x0, .int 0] [(x0, .inr (CI_Model, [.int (nI th), .int (nI nn), .ref x1, .ref x2, .ref x3, .ref x4, .ref x5, .ref x6, .ref x7, .ref x8, .ref x9, .ref x10, .ref x11, .int (nI n), .ref x12, .ref x13, .ref x14, .ref x15, .ref x16, .ref x17, .ref x18, .ref x19, .ref x20, .int (bP bt), .int (nI sg)]))] (fun (r : Int32) (u_ : Unit) => r = nI nn) (fun (u_ : Unit) => [(x0, .inr (CI_Model, [.int (nI 0), .int (nI nn), .ref x1, .ref x2, .ref x3, .ref x4, .ref x5, .ref x6, .ref x7, .ref x8, .ref x9, .ref x10, .ref x11, .int (nI n), .ref x12, .ref x13, .ref x14, .ref x15, .ref x16, .ref x17, .ref x18, .ref x19, .ref x20, .int (bP bt), .int (nI sg)]))]) 0 0 := by
  refine Ctg_of (cc := prog_9_method_36_code) (maxL := 4) (ret := (some .int)) "CircuitSimulatorModel" [(0, .ref x0), (1, .int 0)] (by decide) rfl rfl (Nat.le_of_ble_eq_true rfl) rfl ?_
  intro p_ e_ s_ m_ args_ below_ meth_ c_ A_ F hr hin
  refine V_aload_n F 0 d_Model_count_0 rfl rfl ?_
  refine V_iconst F (v := 0) d_Model_count_1 rfl ?_
  refine V_put F 0 CI_Model 0 (w' := [(x0, .inr (CI_Model, [.int (nI 0), .int (nI nn), .ref x1, .ref x2, .ref x3, .ref x4, .ref x5, .ref x6, .ref x7, .ref x8, .ref x9, .ref x10, .ref x11, .int (nI n), .ref x12, .ref x13, .ref x14, .ref x15, .ref x16, .ref x17, .ref x18, .ref x19, .ref x20, .int (bP bt), .int (nI sg)]))]) t_Model tk_Model n_Model i_Model rfl rfl (by decide) m_596 rfl rfl rfl rfl (Nat.le_of_ble_eq_true rfl) rfl d_Model_count_2 ?_
  refine V_iconst F (v := 0) d_Model_count_5 rfl ?_
  refine V_istore_n F (lv' := [(2, .int (nI 0)), (0, .ref x0), (1, .int 0)]) d_Model_count_6 rfl (by decide) rfl ?_
  refine V_iload_n F 2 d_Model_count_7 rfl rfl ?_
  refine V_tableIn F 56 d_Model_count_8 (by decide) (by decide) rfl (by decide) ?_
  refine V_aload_n F 1 d_Model_count_56 rfl rfl ?_
  refine V_get F 0 CI_Model 1 i_Model rfl rfl (by decide) m_597 rfl rfl d_Model_count_57 ?_
  exact V_iret F hr () rfl [0] rfl rfl (by decide) (by decide) d_Model_count_60

set_option maxHeartbeats 4000000 in
set_option maxRecDepth 100000 in
theorem c_Model_count_1 (l : Launch) (D : va_G) (cI cL cB : ClassId) (x0 : Nat) (x1 : Nat) (x2 : Nat) (x3 : Nat) (x4 : Nat) (x5 : Nat) (x6 : Nat) (x7 : Nat) (x8 : Nat) (x9 : Nat) (x10 : Nat) (x11 : Nat) (x12 : Nat) (x13 : Nat) (x14 : Nat) (x15 : Nat) (x16 : Nat) (x17 : Nat) (x18 : Nat) (x19 : Nat) (x20 : Nat) (th : Nat) (nn : Nat) (n : Nat) (sg : Nat) (bt : Prop)  : Cti l y_Model_count (wK w_Model_count) ({ frames := 0, cells := 0, slots := 0, locals := 0 }) D classes (TY cI cL cB) [.ref x0, .int 1] [(x0, .inr (CI_Model, [.int (nI th), .int (nI nn), .ref x1, .ref x2, .ref x3, .ref x4, .ref x5, .ref x6, .ref x7, .ref x8, .ref x9, .ref x10, .ref x11, .int (nI n), .ref x12, .ref x13, .ref x14, .ref x15, .ref x16, .ref x17, .ref x18, .ref x19, .ref x20, .int (bP bt), .int (nI sg)]))] (fun (r : Int32) (u_ : Unit) => r = nI n) (fun (u_ : Unit) => [(x0, .inr (CI_Model, [.int (nI 0), .int (nI nn), .ref x1, .ref x2, .ref x3, .ref x4, .ref x5, .ref x6, .ref x7, .ref x8, .ref x9, .ref x10, .ref x11, .int (nI n), .ref x12, .ref x13, .ref x14, .ref x15, .ref x16, .ref x17, .ref x18, .ref x19, .ref x20, .int (bP bt), .int (nI sg)]))]) 0 0 := by
  refine Ctg_of (cc := prog_9_method_36_code) (maxL := 4) (ret := (some .int)) "CircuitSimulatorModel" [(0, .ref x0), (1, .int 1)] (by decide) rfl rfl (Nat.le_of_ble_eq_true rfl) rfl ?_
  intro p_ e_ s_ m_ args_ below_ meth_ c_ A_ F hr hin
  refine V_aload_n F 0 d_Model_count_0 rfl rfl ?_
  refine V_iconst F (v := 0) d_Model_count_1 rfl ?_
  refine V_put F 0 CI_Model 0 (w' := [(x0, .inr (CI_Model, [.int (nI 0), .int (nI nn), .ref x1, .ref x2, .ref x3, .ref x4, .ref x5, .ref x6, .ref x7, .ref x8, .ref x9, .ref x10, .ref x11, .int (nI n), .ref x12, .ref x13, .ref x14, .ref x15, .ref x16, .ref x17, .ref x18, .ref x19, .ref x20, .int (bP bt), .int (nI sg)]))]) t_Model tk_Model n_Model i_Model rfl rfl (by decide) m_596 rfl rfl rfl rfl (Nat.le_of_ble_eq_true rfl) rfl d_Model_count_2 ?_
  refine V_iconst F (v := 0) d_Model_count_5 rfl ?_
  refine V_istore_n F (lv' := [(2, .int (nI 0)), (0, .ref x0), (1, .int 1)]) d_Model_count_6 rfl (by decide) rfl ?_
  refine V_iload_n F 2 d_Model_count_7 rfl rfl ?_
  refine V_tableIn F 61 d_Model_count_8 (by decide) (by decide) rfl (by decide) ?_
  refine V_aload_n F 1 d_Model_count_61 rfl rfl ?_
  refine V_get F 0 CI_Model 13 i_Model rfl rfl (by decide) m_609 rfl rfl d_Model_count_62 ?_
  exact V_iret F hr () rfl [0] rfl rfl (by decide) (by decide) d_Model_count_65

set_option maxHeartbeats 4000000 in
set_option maxRecDepth 100000 in
theorem c_Model_count_2 (l : Launch) (D : va_G) (cI cL cB : ClassId) (x0 : Nat) (x1 : Nat) (x2 : Nat) (x3 : Nat) (x4 : Nat) (x5 : Nat) (x6 : Nat) (x7 : Nat) (x8 : Nat) (x9 : Nat) (x10 : Nat) (x11 : Nat) (x12 : Nat) (x13 : Nat) (x14 : Nat) (x15 : Nat) (x16 : Nat) (x17 : Nat) (x18 : Nat) (x19 : Nat) (x20 : Nat) (th : Nat) (nn : Nat) (n : Nat) (sg : Nat) (bt : Prop) (k : Nat → Nat) (hn : n ≤ 60) (hk : ∀ i, i < n → k i ≤ 8) : Cti l y_Model_count (wK w_Model_count) ({ frames := 0, cells := 0, slots := 0, locals := 0 }) D classes (TY cI cL cB) [.ref x0, .int 2] [(x0, .inr (CI_Model, [.int (nI th), .int (nI nn), .ref x1, .ref x2, .ref x3, .ref x4, .ref x5, .ref x6, .ref x7, .ref x8, .ref x9, .ref x10, .ref x11, .int (nI n), .ref x12, .ref x13, .ref x14, .ref x15, .ref x16, .ref x17, .ref x18, .ref x19, .ref x20, .int (bP bt), .int (nI sg)])), (x5, .inl (cI, 60, .inl (cN k)))] (fun (r : Int32) (u_ : Unit) => r = nI (cnt (fun i => k i = 8) n)) (fun (u_ : Unit) => [(x0, .inr (CI_Model, [.int (nI 0), .int (nI nn), .ref x1, .ref x2, .ref x3, .ref x4, .ref x5, .ref x6, .ref x7, .ref x8, .ref x9, .ref x10, .ref x11, .int (nI n), .ref x12, .ref x13, .ref x14, .ref x15, .ref x16, .ref x17, .ref x18, .ref x19, .ref x20, .int (bP bt), .int (nI sg)])), (x5, .inl (cI, 60, .inl (cN k)))]) 0 0 := by
  refine Ctg_of (cc := prog_9_method_36_code) (maxL := 4) (ret := (some .int)) "CircuitSimulatorModel" [(0, .ref x0), (1, .int 2)] (by decide) rfl rfl (Nat.le_of_ble_eq_true rfl) rfl ?_
  intro p_ e_ s_ m_ args_ below_ meth_ c_ A_ F hr hin
  refine V_aload_n F 0 d_Model_count_0 rfl rfl ?_
  refine V_iconst F (v := 0) d_Model_count_1 rfl ?_
  refine V_put F 0 CI_Model 0 (w' := [(x0, .inr (CI_Model, [.int (nI 0), .int (nI nn), .ref x1, .ref x2, .ref x3, .ref x4, .ref x5, .ref x6, .ref x7, .ref x8, .ref x9, .ref x10, .ref x11, .int (nI n), .ref x12, .ref x13, .ref x14, .ref x15, .ref x16, .ref x17, .ref x18, .ref x19, .ref x20, .int (bP bt), .int (nI sg)])), (x5, .inl (cI, 60, .inl (cN k)))]) t_Model tk_Model n_Model i_Model rfl rfl (by decide) m_596 rfl rfl rfl rfl (Nat.le_of_ble_eq_true rfl) rfl d_Model_count_2 ?_
  refine V_iconst F (v := 0) d_Model_count_5 rfl ?_
  refine V_istore_n F (lv' := [(2, .int (nI 0)), (0, .ref x0), (1, .int 2)]) d_Model_count_6 rfl (by decide) rfl ?_
  refine V_iload_n F 2 d_Model_count_7 rfl rfl ?_
  refine V_tableIn F 66 d_Model_count_8 (by decide) (by decide) rfl (by decide) ?_
  refine V_iconst F (v := 0) d_Model_count_66 rfl ?_
  refine V_istore_n F (lv' := [(3, .int (nI 0)), (2, .int (nI 0)), (0, .ref x0), (1, .int 2)]) d_Model_count_67 rfl (by decide) rfl ?_
  have L68 : ∀ (f_ : Nat) (i : Nat) (cw : Nat), n - i < f_ → (i ≤ n) → (cw = cnt (fun i => k i = 8) i) → V p_ l e_ ({ frames := 0, cells := 0, slots := 0, locals := 0 }) s_ m_ args_ below_ meth_ c_ A_ (MQ below_ (cQi D classes (fun (r : Int32) (u_ : Unit) => r = nI (cnt (fun i => k i = 8) n)) (fun (u_ : Unit) => [(x0, .inr (CI_Model, [.int (nI 0), .int (nI nn), .ref x1, .ref x2, .ref x3, .ref x4, .ref x5, .ref x6, .ref x7, .ref x8, .ref x9, .ref x10, .ref x11, .int (nI n), .ref x12, .ref x13, .ref x14, .ref x15, .ref x16, .ref x17, .ref x18, .ref x19, .ref x20, .int (bP bt), .int (nI sg)])), (x5, .inl (cI, 60, .inl (cN k)))]) A_) args_ s_ 0 0 A_) D classes 4 0 0 [(x0, .inr (CI_Model, [.int (nI 0), .int (nI nn), .ref x1, .ref x2, .ref x3, .ref x4, .ref x5, .ref x6, .ref x7, .ref x8, .ref x9, .ref x10, .ref x11, .int (nI n), .ref x12, .ref x13, .ref x14, .ref x15, .ref x16, .ref x17, .ref x18, .ref x19, .ref x20, .int (bP bt), .int (nI sg)])), (x5, .inl (cI, 60, .inl (cN k)))] 68 [(0, .ref x0), (2, .int (nI cw)), (3, .int (nI i))] [] := by
    intro f_
    induction f_ with
    | zero => intro i cw hm_; exact absurd hm_ (Nat.not_lt_zero _)
    | succ f_ ih68 =>
      intro i cw hm68 hi hc
      refine V_iload_n F 2 d_Model_count_68 rfl rfl ?_
      refine V_aload_n F 0 d_Model_count_69 rfl rfl ?_
      refine V_get F 0 CI_Model 13 i_Model rfl rfl (by decide) m_609 rfl rfl d_Model_count_70 ?_
      refine V_icmpn_ge F 96 (a := i) (b := n) (by omega) (by omega) d_Model_count_73 (by decide) (fun h73 => ?_) (fun h73 => ?_)
      · skip
        refine V_iload_n F 1 d_Model_count_96 rfl rfl ?_
        exact V_iret F hr () (congrArg nI (by rw [hc, show i = n by omega])) [0, 1] rfl rfl (by decide) (by decide) d_Model_count_97
      · skip
        have hk8 := hk i (by omega)
        refine V_aload_n F 0 d_Model_count_76 rfl rfl ?_
        refine V_get F 0 CI_Model 6 i_Model rfl rfl (by decide) m_602 rfl rfl d_Model_count_77 ?_
        refine V_iload_n F 2 d_Model_count_80 rfl rfl ?_
        refine V_ialdnN F 1 0 (k := i) rfl rfl (by omega) (by decide) d_Model_count_81 ?_
        refine V_bipush F (v := 8) d_Model_count_82 rfl ?_
        refine V_icmpn_ne F 90 (a := k i) (b := 8) (by omega) (by omega) d_Model_count_84 (by decide) (fun h84 => ?_) (fun h84 => ?_)
        · skip
          refine V_iinc F 2 (v := nI (i + 1)) (lv' := [(3, .int (nI (i + 1))), (0, .ref x0), (2, .int (nI cw))]) d_Model_count_90 rfl (nI_inc _) (by decide) rfl ?_
          refine V_goto F 68 d_Model_count_93 (by decide) ?_
          refine V_lv [1, 2, 0] rfl ?_
          exact ih68 (i + 1) cw (by omega) (by first | assumption | omega | (simp only [] at *; omega)) (by rw [hc]; exact (cnt_f (P := fun i => k i = 8) h84).symm)
        · skip
          refine V_iinc F 1 (v := nI (cw + 1)) (lv' := [(2, .int (nI (cw + 1))), (0, .ref x0), (3, .int (nI i))]) d_Model_count_87 rfl (nI_inc _) (by decide) rfl ?_
          refine V_iinc F 2 (v := nI (i + 1)) (lv' := [(3, .int (nI (i + 1))), (2, .int (nI (cw + 1))), (0, .ref x0)]) d_Model_count_90 rfl (nI_inc _) (by decide) rfl ?_
          refine V_goto F 68 d_Model_count_93 (by decide) ?_
          refine V_lv [2, 1, 0] rfl ?_
          exact ih68 (i + 1) (cw + 1) (by omega) (by first | assumption | omega | (simp only [] at *; omega)) (by rw [hc]; exact (cnt_t (P := fun i => k i = 8) h84).symm)
  refine V_lv [2, 1, 0] rfl ?_
  exact L68 ((n - 0) + 1) 0 0 (Nat.lt_succ_self _) (by first | assumption | omega | (simp only [] at *; omega)) rfl

set_option maxHeartbeats 4000000 in
set_option maxRecDepth 100000 in
theorem c_Model_count_3 (l : Launch) (D : va_G) (cI cL cB : ClassId) (x0 : Nat) (x1 : Nat) (x2 : Nat) (x3 : Nat) (x4 : Nat) (x5 : Nat) (x6 : Nat) (x7 : Nat) (x8 : Nat) (x9 : Nat) (x10 : Nat) (x11 : Nat) (x12 : Nat) (x13 : Nat) (x14 : Nat) (x15 : Nat) (x16 : Nat) (x17 : Nat) (x18 : Nat) (x19 : Nat) (x20 : Nat) (th : Nat) (nn : Nat) (n : Nat) (sg : Nat) (bt : Prop)  : Cti l y_Model_count (wK w_Model_count) ({ frames := 0, cells := 0, slots := 0, locals := 0 }) D classes (TY cI cL cB) [.ref x0, .int 3] [(x0, .inr (CI_Model, [.int (nI th), .int (nI nn), .ref x1, .ref x2, .ref x3, .ref x4, .ref x5, .ref x6, .ref x7, .ref x8, .ref x9, .ref x10, .ref x11, .int (nI n), .ref x12, .ref x13, .ref x14, .ref x15, .ref x16, .ref x17, .ref x18, .ref x19, .ref x20, .int (bP bt), .int (nI sg)]))] (fun (r : Int32) (u_ : Unit) => r = nI (@ite Nat bt (Classical.propDecidable _) 1 0)) (fun (u_ : Unit) => [(x0, .inr (CI_Model, [.int (nI 0), .int (nI nn), .ref x1, .ref x2, .ref x3, .ref x4, .ref x5, .ref x6, .ref x7, .ref x8, .ref x9, .ref x10, .ref x11, .int (nI n), .ref x12, .ref x13, .ref x14, .ref x15, .ref x16, .ref x17, .ref x18, .ref x19, .ref x20, .int (bP bt), .int (nI sg)]))]) 0 0 := by
  refine Ctg_of (cc := prog_9_method_36_code) (maxL := 4) (ret := (some .int)) "CircuitSimulatorModel" [(0, .ref x0), (1, .int 3)] (by decide) rfl rfl (Nat.le_of_ble_eq_true rfl) rfl ?_
  intro p_ e_ s_ m_ args_ below_ meth_ c_ A_ F hr hin
  refine V_aload_n F 0 d_Model_count_0 rfl rfl ?_
  refine V_iconst F (v := 0) d_Model_count_1 rfl ?_
  refine V_put F 0 CI_Model 0 (w' := [(x0, .inr (CI_Model, [.int (nI 0), .int (nI nn), .ref x1, .ref x2, .ref x3, .ref x4, .ref x5, .ref x6, .ref x7, .ref x8, .ref x9, .ref x10, .ref x11, .int (nI n), .ref x12, .ref x13, .ref x14, .ref x15, .ref x16, .ref x17, .ref x18, .ref x19, .ref x20, .int (bP bt), .int (nI sg)]))]) t_Model tk_Model n_Model i_Model rfl rfl (by decide) m_596 rfl rfl rfl rfl (Nat.le_of_ble_eq_true rfl) rfl d_Model_count_2 ?_
  refine V_iconst F (v := 0) d_Model_count_5 rfl ?_
  refine V_istore_n F (lv' := [(2, .int (nI 0)), (0, .ref x0), (1, .int 3)]) d_Model_count_6 rfl (by decide) rfl ?_
  refine V_iload_n F 2 d_Model_count_7 rfl rfl ?_
  refine V_tableIn F 98 d_Model_count_8 (by decide) (by decide) rfl (by decide) ?_
  refine V_aload_n F 1 d_Model_count_98 rfl rfl ?_
  refine V_get F 0 CI_Model 23 i_Model rfl rfl (by decide) m_619 rfl rfl d_Model_count_99 ?_
  refine V_ifb_eq F 109 d_Model_count_102 (by decide) (fun h102 => ?_) (fun h102 => ?_)
  · skip
    refine V_iconst F (v := 0) d_Model_count_109 rfl ?_
    exact V_iret F hr () (congrArg nI (by rw [if_neg h102])) [0] rfl rfl (by decide) (by decide) d_Model_count_110
  · skip
    refine V_iconst F (v := 1) d_Model_count_105 rfl ?_
    refine V_goto F 110 d_Model_count_106 (by decide) ?_
    exact V_iret F hr () (congrArg nI (by rw [if_pos h102])) [0] rfl rfl (by decide) (by decide) d_Model_count_110

set_option maxHeartbeats 4000000 in
set_option maxRecDepth 100000 in
theorem c_Model_count_4 (l : Launch) (D : va_G) (cI cL cB : ClassId) (x0 : Nat) (x1 : Nat) (x2 : Nat) (x3 : Nat) (x4 : Nat) (x5 : Nat) (x6 : Nat) (x7 : Nat) (x8 : Nat) (x9 : Nat) (x10 : Nat) (x11 : Nat) (x12 : Nat) (x13 : Nat) (x14 : Nat) (x15 : Nat) (x16 : Nat) (x17 : Nat) (x18 : Nat) (x19 : Nat) (x20 : Nat) (th : Nat) (nn : Nat) (n : Nat) (sg : Nat) (bt : Prop) (v : Nat → Nat) (hnn : nn ≤ 80) (hv : ∀ j, j < nn → v j ≤ 3) : Cti l y_Model_count (wK w_Model_count) ({ frames := 0, cells := 0, slots := 0, locals := 0 }) D classes (TY cI cL cB) [.ref x0, .int 4] [(x0, .inr (CI_Model, [.int (nI th), .int (nI nn), .ref x1, .ref x2, .ref x3, .ref x4, .ref x5, .ref x6, .ref x7, .ref x8, .ref x9, .ref x10, .ref x11, .int (nI n), .ref x12, .ref x13, .ref x14, .ref x15, .ref x16, .ref x17, .ref x18, .ref x19, .ref x20, .int (bP bt), .int (nI sg)])), (x1, .inl (cI, 80, .inl (cN v)))] (fun (r : Int32) (u_ : Unit) => r = nI (cnt (fun j => v j < 2) nn)) (fun (u_ : Unit) => [(x0, .inr (CI_Model, [.int (nI 0), .int (nI nn), .ref x1, .ref x2, .ref x3, .ref x4, .ref x5, .ref x6, .ref x7, .ref x8, .ref x9, .ref x10, .ref x11, .int (nI n), .ref x12, .ref x13, .ref x14, .ref x15, .ref x16, .ref x17, .ref x18, .ref x19, .ref x20, .int (bP bt), .int (nI sg)])), (x1, .inl (cI, 80, .inl (cN v)))]) 0 0 := by
  refine Ctg_of (cc := prog_9_method_36_code) (maxL := 4) (ret := (some .int)) "CircuitSimulatorModel" [(0, .ref x0), (1, .int 4)] (by decide) rfl rfl (Nat.le_of_ble_eq_true rfl) rfl ?_
  intro p_ e_ s_ m_ args_ below_ meth_ c_ A_ F hr hin
  refine V_aload_n F 0 d_Model_count_0 rfl rfl ?_
  refine V_iconst F (v := 0) d_Model_count_1 rfl ?_
  refine V_put F 0 CI_Model 0 (w' := [(x0, .inr (CI_Model, [.int (nI 0), .int (nI nn), .ref x1, .ref x2, .ref x3, .ref x4, .ref x5, .ref x6, .ref x7, .ref x8, .ref x9, .ref x10, .ref x11, .int (nI n), .ref x12, .ref x13, .ref x14, .ref x15, .ref x16, .ref x17, .ref x18, .ref x19, .ref x20, .int (bP bt), .int (nI sg)])), (x1, .inl (cI, 80, .inl (cN v)))]) t_Model tk_Model n_Model i_Model rfl rfl (by decide) m_596 rfl rfl rfl rfl (Nat.le_of_ble_eq_true rfl) rfl d_Model_count_2 ?_
  refine V_iconst F (v := 0) d_Model_count_5 rfl ?_
  refine V_istore_n F (lv' := [(2, .int (nI 0)), (0, .ref x0), (1, .int 4)]) d_Model_count_6 rfl (by decide) rfl ?_
  refine V_iload_n F 2 d_Model_count_7 rfl rfl ?_
  refine V_tableIn F 111 d_Model_count_8 (by decide) (by decide) rfl (by decide) ?_
  refine V_iconst F (v := 0) d_Model_count_111 rfl ?_
  refine V_istore_n F (lv' := [(3, .int (nI 0)), (2, .int (nI 0)), (0, .ref x0), (1, .int 4)]) d_Model_count_112 rfl (by decide) rfl ?_
  have L113 : ∀ (f_ : Nat) (j : Nat) (cw : Nat), nn - j < f_ → (j ≤ nn) → (cw = cnt (fun j => v j < 2) j) → V p_ l e_ ({ frames := 0, cells := 0, slots := 0, locals := 0 }) s_ m_ args_ below_ meth_ c_ A_ (MQ below_ (cQi D classes (fun (r : Int32) (u_ : Unit) => r = nI (cnt (fun j => v j < 2) nn)) (fun (u_ : Unit) => [(x0, .inr (CI_Model, [.int (nI 0), .int (nI nn), .ref x1, .ref x2, .ref x3, .ref x4, .ref x5, .ref x6, .ref x7, .ref x8, .ref x9, .ref x10, .ref x11, .int (nI n), .ref x12, .ref x13, .ref x14, .ref x15, .ref x16, .ref x17, .ref x18, .ref x19, .ref x20, .int (bP bt), .int (nI sg)])), (x1, .inl (cI, 80, .inl (cN v)))]) A_) args_ s_ 0 0 A_) D classes 4 0 0 [(x0, .inr (CI_Model, [.int (nI 0), .int (nI nn), .ref x1, .ref x2, .ref x3, .ref x4, .ref x5, .ref x6, .ref x7, .ref x8, .ref x9, .ref x10, .ref x11, .int (nI n), .ref x12, .ref x13, .ref x14, .ref x15, .ref x16, .ref x17, .ref x18, .ref x19, .ref x20, .int (bP bt), .int (nI sg)])), (x1, .inl (cI, 80, .inl (cN v)))] 113 [(0, .ref x0), (1, .int 4), (2, .int (nI cw)), (3, .int (nI j))] [] := by
    intro f_
    induction f_ with
    | zero => intro j cw hm_; exact absurd hm_ (Nat.not_lt_zero _)
    | succ f_ ih113 =>
      intro j cw hm113 hj hc
      refine V_iload_n F 3 d_Model_count_113 rfl rfl ?_
      refine V_aload_n F 0 d_Model_count_114 rfl rfl ?_
      refine V_get F 0 CI_Model 1 i_Model rfl rfl (by decide) m_597 rfl rfl d_Model_count_115 ?_
      refine V_icmpn_ge F 160 (a := j) (b := nn) (by omega) (by omega) d_Model_count_118 (by decide) (fun h118 => ?_) (fun h118 => ?_)
      · skip
        refine V_iload_n F 2 d_Model_count_160 rfl rfl ?_
        exact V_iret F hr () (congrArg nI (by rw [hc, show j = nn by omega])) [0, 1] rfl rfl (by decide) (by decide) d_Model_count_161
      · skip
        have hv8 := hv j (by omega)
        refine V_iload_n F 1 d_Model_count_121 rfl rfl ?_
        refine V_iconst F (v := 4) d_Model_count_122 rfl ?_
        refine V_icmpn_ne F 139 (a := 4) (b := 4) (by omega) (by omega) d_Model_count_123 (by decide) (fun h123 => ?_) (fun h123 => ?_)
        · skip
          exact False.elim (by omega)
        · skip
          refine V_aload_n F 0 d_Model_count_126 rfl rfl ?_
          refine V_get F 0 CI_Model 2 i_Model rfl rfl (by decide) m_598 rfl rfl d_Model_count_127 ?_
          refine V_iload_n F 3 d_Model_count_130 rfl rfl ?_
          refine V_ialdnN F 1 0 (k := j) rfl rfl (by omega) (by decide) d_Model_count_131 ?_
          refine V_iconst F (v := 2) d_Model_count_132 rfl ?_
          refine V_icmpn_ge F 154 (a := v j) (b := 2) (by omega) (by omega) d_Model_count_133 (by decide) (fun h133 => ?_) (fun h133 => ?_)
          · skip
            refine V_iinc F 3 (v := nI (j + 1)) (lv' := [(3, .int (nI (j + 1))), (0, .ref x0), (1, .int 4), (2, .int (nI cw))]) d_Model_count_154 rfl (nI_inc _) (by decide) rfl ?_
            refine V_goto F 113 d_Model_count_157 (by decide) ?_
            refine V_lv [1, 2, 3, 0] rfl ?_
            exact ih113 (j + 1) cw (by omega) (by first | assumption | omega | (simp only [] at *; omega)) (by rw [hc]; exact (cnt_f (P := fun j => v j < 2) (by omega)).symm)
          · skip
            refine V_goto F 151 d_Model_count_136 (by decide) ?_
            refine V_iinc F 2 (v := nI (cw + 1)) (lv' := [(2, .int (nI (cw + 1))), (0, .ref x0), (1, .int 4), (3, .int (nI j))]) d_Model_count_151 rfl (nI_inc _) (by decide) rfl ?_
            refine V_iinc F 3 (v := nI (j + 1)) (lv' := [(3, .int (nI (j + 1))), (2, .int (nI (cw + 1))), (0, .ref x0), (1, .int 4)]) d_Model_count_154 rfl (nI_inc _) (by decide) rfl ?_
            refine V_goto F 113 d_Model_count_157 (by decide) ?_
            refine V_lv [2, 3, 1, 0] rfl ?_
            exact ih113 (j + 1) (cw + 1) (by omega) (by first | assumption | omega | (simp only [] at *; omega)) (by rw [hc]; exact (cnt_t (P := fun j => v j < 2) (by omega)).symm)
  refine V_lv [2, 3, 1, 0] rfl ?_
  exact L113 ((nn - 0) + 1) 0 0 (Nat.lt_succ_self _) (by first | assumption | omega | (simp only [] at *; omega)) rfl

set_option maxHeartbeats 4000000 in
set_option maxRecDepth 100000 in
theorem c_Model_count_5 (l : Launch) (D : va_G) (cI cL cB : ClassId) (x0 : Nat) (x1 : Nat) (x2 : Nat) (x3 : Nat) (x4 : Nat) (x5 : Nat) (x6 : Nat) (x7 : Nat) (x8 : Nat) (x9 : Nat) (x10 : Nat) (x11 : Nat) (x12 : Nat) (x13 : Nat) (x14 : Nat) (x15 : Nat) (x16 : Nat) (x17 : Nat) (x18 : Nat) (x19 : Nat) (x20 : Nat) (th : Nat) (nn : Nat) (n : Nat) (sg : Nat) (bt : Prop) (v : Nat → Nat) (hnn : nn ≤ 80) (hv : ∀ j, j < nn → v j ≤ 3) : Cti l y_Model_count (wK w_Model_count) ({ frames := 0, cells := 0, slots := 0, locals := 0 }) D classes (TY cI cL cB) [.ref x0, .int 5] [(x0, .inr (CI_Model, [.int (nI th), .int (nI nn), .ref x1, .ref x2, .ref x3, .ref x4, .ref x5, .ref x6, .ref x7, .ref x8, .ref x9, .ref x10, .ref x11, .int (nI n), .ref x12, .ref x13, .ref x14, .ref x15, .ref x16, .ref x17, .ref x18, .ref x19, .ref x20, .int (bP bt), .int (nI sg)])), (x1, .inl (cI, 80, .inl (cN v)))] (fun (r : Int32) (u_ : Unit) => r = nI (cnt (fun j => v j = 2) nn)) (fun (u_ : Unit) => [(x0, .inr (CI_Model, [.int (nI 0), .int (nI nn), .ref x1, .ref x2, .ref x3, .ref x4, .ref x5, .ref x6, .ref x7, .ref x8, .ref x9, .ref x10, .ref x11, .int (nI n), .ref x12, .ref x13, .ref x14, .ref x15, .ref x16, .ref x17, .ref x18, .ref x19, .ref x20, .int (bP bt), .int (nI sg)])), (x1, .inl (cI, 80, .inl (cN v)))]) 0 0 := by
  refine Ctg_of (cc := prog_9_method_36_code) (maxL := 4) (ret := (some .int)) "CircuitSimulatorModel" [(0, .ref x0), (1, .int 5)] (by decide) rfl rfl (Nat.le_of_ble_eq_true rfl) rfl ?_
  intro p_ e_ s_ m_ args_ below_ meth_ c_ A_ F hr hin
  refine V_aload_n F 0 d_Model_count_0 rfl rfl ?_
  refine V_iconst F (v := 0) d_Model_count_1 rfl ?_
  refine V_put F 0 CI_Model 0 (w' := [(x0, .inr (CI_Model, [.int (nI 0), .int (nI nn), .ref x1, .ref x2, .ref x3, .ref x4, .ref x5, .ref x6, .ref x7, .ref x8, .ref x9, .ref x10, .ref x11, .int (nI n), .ref x12, .ref x13, .ref x14, .ref x15, .ref x16, .ref x17, .ref x18, .ref x19, .ref x20, .int (bP bt), .int (nI sg)])), (x1, .inl (cI, 80, .inl (cN v)))]) t_Model tk_Model n_Model i_Model rfl rfl (by decide) m_596 rfl rfl rfl rfl (Nat.le_of_ble_eq_true rfl) rfl d_Model_count_2 ?_
  refine V_iconst F (v := 0) d_Model_count_5 rfl ?_
  refine V_istore_n F (lv' := [(2, .int (nI 0)), (0, .ref x0), (1, .int 5)]) d_Model_count_6 rfl (by decide) rfl ?_
  refine V_iload_n F 2 d_Model_count_7 rfl rfl ?_
  refine V_tableIn F 111 d_Model_count_8 (by decide) (by decide) rfl (by decide) ?_
  refine V_iconst F (v := 0) d_Model_count_111 rfl ?_
  refine V_istore_n F (lv' := [(3, .int (nI 0)), (2, .int (nI 0)), (0, .ref x0), (1, .int 5)]) d_Model_count_112 rfl (by decide) rfl ?_
  have L113 : ∀ (f_ : Nat) (j : Nat) (cw : Nat), nn - j < f_ → (j ≤ nn) → (cw = cnt (fun j => v j = 2) j) → V p_ l e_ ({ frames := 0, cells := 0, slots := 0, locals := 0 }) s_ m_ args_ below_ meth_ c_ A_ (MQ below_ (cQi D classes (fun (r : Int32) (u_ : Unit) => r = nI (cnt (fun j => v j = 2) nn)) (fun (u_ : Unit) => [(x0, .inr (CI_Model, [.int (nI 0), .int (nI nn), .ref x1, .ref x2, .ref x3, .ref x4, .ref x5, .ref x6, .ref x7, .ref x8, .ref x9, .ref x10, .ref x11, .int (nI n), .ref x12, .ref x13, .ref x14, .ref x15, .ref x16, .ref x17, .ref x18, .ref x19, .ref x20, .int (bP bt), .int (nI sg)])), (x1, .inl (cI, 80, .inl (cN v)))]) A_) args_ s_ 0 0 A_) D classes 4 0 0 [(x0, .inr (CI_Model, [.int (nI 0), .int (nI nn), .ref x1, .ref x2, .ref x3, .ref x4, .ref x5, .ref x6, .ref x7, .ref x8, .ref x9, .ref x10, .ref x11, .int (nI n), .ref x12, .ref x13, .ref x14, .ref x15, .ref x16, .ref x17, .ref x18, .ref x19, .ref x20, .int (bP bt), .int (nI sg)])), (x1, .inl (cI, 80, .inl (cN v)))] 113 [(0, .ref x0), (1, .int 5), (2, .int (nI cw)), (3, .int (nI j))] [] := by
    intro f_
    induction f_ with
    | zero => intro j cw hm_; exact absurd hm_ (Nat.not_lt_zero _)
    | succ f_ ih113 =>
      intro j cw hm113 hj hc
      refine V_iload_n F 3 d_Model_count_113 rfl rfl ?_
      refine V_aload_n F 0 d_Model_count_114 rfl rfl ?_
      refine V_get F 0 CI_Model 1 i_Model rfl rfl (by decide) m_597 rfl rfl d_Model_count_115 ?_
      refine V_icmpn_ge F 160 (a := j) (b := nn) (by omega) (by omega) d_Model_count_118 (by decide) (fun h118 => ?_) (fun h118 => ?_)
      · skip
        refine V_iload_n F 2 d_Model_count_160 rfl rfl ?_
        exact V_iret F hr () (congrArg nI (by rw [hc, show j = nn by omega])) [0, 1] rfl rfl (by decide) (by decide) d_Model_count_161
      · skip
        have hv8 := hv j (by omega)
        refine V_iload_n F 1 d_Model_count_121 rfl rfl ?_
        refine V_iconst F (v := 4) d_Model_count_122 rfl ?_
        refine V_icmpn_ne F 139 (a := 5) (b := 4) (by omega) (by omega) d_Model_count_123 (by decide) (fun h123 => ?_) (fun h123 => ?_)
        · skip
          refine V_aload_n F 0 d_Model_count_139 rfl rfl ?_
          refine V_get F 0 CI_Model 2 i_Model rfl rfl (by decide) m_598 rfl rfl d_Model_count_140 ?_
          refine V_iload_n F 3 d_Model_count_143 rfl rfl ?_
          refine V_ialdnN F 1 0 (k := j) rfl rfl (by omega) (by decide) d_Model_count_144 ?_
          refine V_iload_n F 1 d_Model_count_145 rfl rfl ?_
          refine V_iconst F (v := 3) d_Model_count_146 rfl ?_
          refine V_isub F d_Model_count_147 ?_
          refine V_top (y := nI (5 - 3)) (pk_sub (a := 5) (b := 3) (by omega)) ?_
          refine V_icmpn_ne F 154 (a := v j) (b := 5 - 3) (by omega) (by omega) d_Model_count_148 (by decide) (fun h148 => ?_) (fun h148 => ?_)
          · skip
            refine V_iinc F 3 (v := nI (j + 1)) (lv' := [(3, .int (nI (j + 1))), (0, .ref x0), (1, .int 5), (2, .int (nI cw))]) d_Model_count_154 rfl (nI_inc _) (by decide) rfl ?_
            refine V_goto F 113 d_Model_count_157 (by decide) ?_
            refine V_lv [1, 2, 3, 0] rfl ?_
            exact ih113 (j + 1) cw (by omega) (by first | assumption | omega | (simp only [] at *; omega)) (by rw [hc]; exact (cnt_f (P := fun j => v j = 2) (by omega)).symm)
          · skip
            refine V_iinc F 2 (v := nI (cw + 1)) (lv' := [(2, .int (nI (cw + 1))), (0, .ref x0), (1, .int 5), (3, .int (nI j))]) d_Model_count_151 rfl (nI_inc _) (by decide) rfl ?_
            refine V_iinc F 3 (v := nI (j + 1)) (lv' := [(3, .int (nI (j + 1))), (2, .int (nI (cw + 1))), (0, .ref x0), (1, .int 5)]) d_Model_count_154 rfl (nI_inc _) (by decide) rfl ?_
            refine V_goto F 113 d_Model_count_157 (by decide) ?_
            refine V_lv [2, 3, 1, 0] rfl ?_
            exact ih113 (j + 1) (cw + 1) (by omega) (by first | assumption | omega | (simp only [] at *; omega)) (by rw [hc]; exact (cnt_t (P := fun j => v j = 2) (by omega)).symm)
        · skip
          exact False.elim (by omega)
  refine V_lv [2, 3, 1, 0] rfl ?_
  exact L113 ((nn - 0) + 1) 0 0 (Nat.lt_succ_self _) (by first | assumption | omega | (simp only [] at *; omega)) rfl

set_option maxHeartbeats 4000000 in
set_option maxRecDepth 100000 in
theorem c_Model_count_6 (l : Launch) (D : va_G) (cI cL cB : ClassId) (x0 : Nat) (x1 : Nat) (x2 : Nat) (x3 : Nat) (x4 : Nat) (x5 : Nat) (x6 : Nat) (x7 : Nat) (x8 : Nat) (x9 : Nat) (x10 : Nat) (x11 : Nat) (x12 : Nat) (x13 : Nat) (x14 : Nat) (x15 : Nat) (x16 : Nat) (x17 : Nat) (x18 : Nat) (x19 : Nat) (x20 : Nat) (th : Nat) (nn : Nat) (n : Nat) (sg : Nat) (bt : Prop) (v : Nat → Nat) (hnn : nn ≤ 80) (hv : ∀ j, j < nn → v j ≤ 3) : Cti l y_Model_count (wK w_Model_count) ({ frames := 0, cells := 0, slots := 0, locals := 0 }) D classes (TY cI cL cB) [.ref x0, .int 6] [(x0, .inr (CI_Model, [.int (nI th), .int (nI nn), .ref x1, .ref x2, .ref x3, .ref x4, .ref x5, .ref x6, .ref x7, .ref x8, .ref x9, .ref x10, .ref x11, .int (nI n), .ref x12, .ref x13, .ref x14, .ref x15, .ref x16, .ref x17, .ref x18, .ref x19, .ref x20, .int (bP bt), .int (nI sg)])), (x1, .inl (cI, 80, .inl (cN v)))] (fun (r : Int32) (u_ : Unit) => r = nI (cnt (fun j => v j = 3) nn)) (fun (u_ : Unit) => [(x0, .inr (CI_Model, [.int (nI 0), .int (nI nn), .ref x1, .ref x2, .ref x3, .ref x4, .ref x5, .ref x6, .ref x7, .ref x8, .ref x9, .ref x10, .ref x11, .int (nI n), .ref x12, .ref x13, .ref x14, .ref x15, .ref x16, .ref x17, .ref x18, .ref x19, .ref x20, .int (bP bt), .int (nI sg)])), (x1, .inl (cI, 80, .inl (cN v)))]) 0 0 := by
  refine Ctg_of (cc := prog_9_method_36_code) (maxL := 4) (ret := (some .int)) "CircuitSimulatorModel" [(0, .ref x0), (1, .int 6)] (by decide) rfl rfl (Nat.le_of_ble_eq_true rfl) rfl ?_
  intro p_ e_ s_ m_ args_ below_ meth_ c_ A_ F hr hin
  refine V_aload_n F 0 d_Model_count_0 rfl rfl ?_
  refine V_iconst F (v := 0) d_Model_count_1 rfl ?_
  refine V_put F 0 CI_Model 0 (w' := [(x0, .inr (CI_Model, [.int (nI 0), .int (nI nn), .ref x1, .ref x2, .ref x3, .ref x4, .ref x5, .ref x6, .ref x7, .ref x8, .ref x9, .ref x10, .ref x11, .int (nI n), .ref x12, .ref x13, .ref x14, .ref x15, .ref x16, .ref x17, .ref x18, .ref x19, .ref x20, .int (bP bt), .int (nI sg)])), (x1, .inl (cI, 80, .inl (cN v)))]) t_Model tk_Model n_Model i_Model rfl rfl (by decide) m_596 rfl rfl rfl rfl (Nat.le_of_ble_eq_true rfl) rfl d_Model_count_2 ?_
  refine V_iconst F (v := 0) d_Model_count_5 rfl ?_
  refine V_istore_n F (lv' := [(2, .int (nI 0)), (0, .ref x0), (1, .int 6)]) d_Model_count_6 rfl (by decide) rfl ?_
  refine V_iload_n F 2 d_Model_count_7 rfl rfl ?_
  refine V_tableIn F 111 d_Model_count_8 (by decide) (by decide) rfl (by decide) ?_
  refine V_iconst F (v := 0) d_Model_count_111 rfl ?_
  refine V_istore_n F (lv' := [(3, .int (nI 0)), (2, .int (nI 0)), (0, .ref x0), (1, .int 6)]) d_Model_count_112 rfl (by decide) rfl ?_
  have L113 : ∀ (f_ : Nat) (j : Nat) (cw : Nat), nn - j < f_ → (j ≤ nn) → (cw = cnt (fun j => v j = 3) j) → V p_ l e_ ({ frames := 0, cells := 0, slots := 0, locals := 0 }) s_ m_ args_ below_ meth_ c_ A_ (MQ below_ (cQi D classes (fun (r : Int32) (u_ : Unit) => r = nI (cnt (fun j => v j = 3) nn)) (fun (u_ : Unit) => [(x0, .inr (CI_Model, [.int (nI 0), .int (nI nn), .ref x1, .ref x2, .ref x3, .ref x4, .ref x5, .ref x6, .ref x7, .ref x8, .ref x9, .ref x10, .ref x11, .int (nI n), .ref x12, .ref x13, .ref x14, .ref x15, .ref x16, .ref x17, .ref x18, .ref x19, .ref x20, .int (bP bt), .int (nI sg)])), (x1, .inl (cI, 80, .inl (cN v)))]) A_) args_ s_ 0 0 A_) D classes 4 0 0 [(x0, .inr (CI_Model, [.int (nI 0), .int (nI nn), .ref x1, .ref x2, .ref x3, .ref x4, .ref x5, .ref x6, .ref x7, .ref x8, .ref x9, .ref x10, .ref x11, .int (nI n), .ref x12, .ref x13, .ref x14, .ref x15, .ref x16, .ref x17, .ref x18, .ref x19, .ref x20, .int (bP bt), .int (nI sg)])), (x1, .inl (cI, 80, .inl (cN v)))] 113 [(0, .ref x0), (1, .int 6), (2, .int (nI cw)), (3, .int (nI j))] [] := by
    intro f_
    induction f_ with
    | zero => intro j cw hm_; exact absurd hm_ (Nat.not_lt_zero _)
    | succ f_ ih113 =>
      intro j cw hm113 hj hc
      refine V_iload_n F 3 d_Model_count_113 rfl rfl ?_
      refine V_aload_n F 0 d_Model_count_114 rfl rfl ?_
      refine V_get F 0 CI_Model 1 i_Model rfl rfl (by decide) m_597 rfl rfl d_Model_count_115 ?_
      refine V_icmpn_ge F 160 (a := j) (b := nn) (by omega) (by omega) d_Model_count_118 (by decide) (fun h118 => ?_) (fun h118 => ?_)
      · skip
        refine V_iload_n F 2 d_Model_count_160 rfl rfl ?_
        exact V_iret F hr () (congrArg nI (by rw [hc, show j = nn by omega])) [0, 1] rfl rfl (by decide) (by decide) d_Model_count_161
      · skip
        have hv8 := hv j (by omega)
        refine V_iload_n F 1 d_Model_count_121 rfl rfl ?_
        refine V_iconst F (v := 4) d_Model_count_122 rfl ?_
        refine V_icmpn_ne F 139 (a := 6) (b := 4) (by omega) (by omega) d_Model_count_123 (by decide) (fun h123 => ?_) (fun h123 => ?_)
        · skip
          refine V_aload_n F 0 d_Model_count_139 rfl rfl ?_
          refine V_get F 0 CI_Model 2 i_Model rfl rfl (by decide) m_598 rfl rfl d_Model_count_140 ?_
          refine V_iload_n F 3 d_Model_count_143 rfl rfl ?_
          refine V_ialdnN F 1 0 (k := j) rfl rfl (by omega) (by decide) d_Model_count_144 ?_
          refine V_iload_n F 1 d_Model_count_145 rfl rfl ?_
          refine V_iconst F (v := 3) d_Model_count_146 rfl ?_
          refine V_isub F d_Model_count_147 ?_
          refine V_top (y := nI (6 - 3)) (pk_sub (a := 6) (b := 3) (by omega)) ?_
          refine V_icmpn_ne F 154 (a := v j) (b := 6 - 3) (by omega) (by omega) d_Model_count_148 (by decide) (fun h148 => ?_) (fun h148 => ?_)
          · skip
            refine V_iinc F 3 (v := nI (j + 1)) (lv' := [(3, .int (nI (j + 1))), (0, .ref x0), (1, .int 6), (2, .int (nI cw))]) d_Model_count_154 rfl (nI_inc _) (by decide) rfl ?_
            refine V_goto F 113 d_Model_count_157 (by decide) ?_
            refine V_lv [1, 2, 3, 0] rfl ?_
            exact ih113 (j + 1) cw (by omega) (by first | assumption | omega | (simp only [] at *; omega)) (by rw [hc]; exact (cnt_f (P := fun j => v j = 3) (by omega)).symm)
          · skip
            refine V_iinc F 2 (v := nI (cw + 1)) (lv' := [(2, .int (nI (cw + 1))), (0, .ref x0), (1, .int 6), (3, .int (nI j))]) d_Model_count_151 rfl (nI_inc _) (by decide) rfl ?_
            refine V_iinc F 3 (v := nI (j + 1)) (lv' := [(3, .int (nI (j + 1))), (2, .int (nI (cw + 1))), (0, .ref x0), (1, .int 6)]) d_Model_count_154 rfl (nI_inc _) (by decide) rfl ?_
            refine V_goto F 113 d_Model_count_157 (by decide) ?_
            refine V_lv [2, 3, 1, 0] rfl ?_
            exact ih113 (j + 1) (cw + 1) (by omega) (by first | assumption | omega | (simp only [] at *; omega)) (by rw [hc]; exact (cnt_t (P := fun j => v j = 3) (by omega)).symm)
        · skip
          exact False.elim (by omega)
  refine V_lv [2, 3, 1, 0] rfl ?_
  exact L113 ((nn - 0) + 1) 0 0 (Nat.lt_succ_self _) (by first | assumption | omega | (simp only [] at *; omega)) rfl

set_option maxHeartbeats 4000000 in
set_option maxRecDepth 100000 in
theorem c_Model_count_7 (l : Launch) (D : va_G) (cI cL cB : ClassId) (x0 : Nat) (x1 : Nat) (x2 : Nat) (x3 : Nat) (x4 : Nat) (x5 : Nat) (x6 : Nat) (x7 : Nat) (x8 : Nat) (x9 : Nat) (x10 : Nat) (x11 : Nat) (x12 : Nat) (x13 : Nat) (x14 : Nat) (x15 : Nat) (x16 : Nat) (x17 : Nat) (x18 : Nat) (x19 : Nat) (x20 : Nat) (th : Nat) (nn : Nat) (n : Nat) (sg : Nat) (bt : Prop)  : Cti l y_Model_count (wK w_Model_count) ({ frames := 0, cells := 0, slots := 0, locals := 0 }) D classes (TY cI cL cB) [.ref x0, .int 7] [(x0, .inr (CI_Model, [.int (nI th), .int (nI nn), .ref x1, .ref x2, .ref x3, .ref x4, .ref x5, .ref x6, .ref x7, .ref x8, .ref x9, .ref x10, .ref x11, .int (nI n), .ref x12, .ref x13, .ref x14, .ref x15, .ref x16, .ref x17, .ref x18, .ref x19, .ref x20, .int (bP bt), .int (nI sg)]))] (fun (r : Int32) (u_ : Unit) => r = nI sg) (fun (u_ : Unit) => [(x0, .inr (CI_Model, [.int (nI 0), .int (nI nn), .ref x1, .ref x2, .ref x3, .ref x4, .ref x5, .ref x6, .ref x7, .ref x8, .ref x9, .ref x10, .ref x11, .int (nI n), .ref x12, .ref x13, .ref x14, .ref x15, .ref x16, .ref x17, .ref x18, .ref x19, .ref x20, .int (bP bt), .int (nI sg)]))]) 0 0 := by
  refine Ctg_of (cc := prog_9_method_36_code) (maxL := 4) (ret := (some .int)) "CircuitSimulatorModel" [(0, .ref x0), (1, .int 7)] (by decide) rfl rfl (Nat.le_of_ble_eq_true rfl) rfl ?_
  intro p_ e_ s_ m_ args_ below_ meth_ c_ A_ F hr hin
  refine V_aload_n F 0 d_Model_count_0 rfl rfl ?_
  refine V_iconst F (v := 0) d_Model_count_1 rfl ?_
  refine V_put F 0 CI_Model 0 (w' := [(x0, .inr (CI_Model, [.int (nI 0), .int (nI nn), .ref x1, .ref x2, .ref x3, .ref x4, .ref x5, .ref x6, .ref x7, .ref x8, .ref x9, .ref x10, .ref x11, .int (nI n), .ref x12, .ref x13, .ref x14, .ref x15, .ref x16, .ref x17, .ref x18, .ref x19, .ref x20, .int (bP bt), .int (nI sg)]))]) t_Model tk_Model n_Model i_Model rfl rfl (by decide) m_596 rfl rfl rfl rfl (Nat.le_of_ble_eq_true rfl) rfl d_Model_count_2 ?_
  refine V_iconst F (v := 0) d_Model_count_5 rfl ?_
  refine V_istore_n F (lv' := [(2, .int (nI 0)), (0, .ref x0), (1, .int 7)]) d_Model_count_6 rfl (by decide) rfl ?_
  refine V_iload_n F 2 d_Model_count_7 rfl rfl ?_
  refine V_tableIn F 162 d_Model_count_8 (by decide) (by decide) rfl (by decide) ?_
  refine V_aload_n F 1 d_Model_count_162 rfl rfl ?_
  refine V_get F 0 CI_Model 24 i_Model rfl rfl (by decide) m_620 rfl rfl d_Model_count_163 ?_
  exact V_iret F hr () rfl [0] rfl rfl (by decide) (by decide) d_Model_count_166

set_option maxHeartbeats 4000000 in
set_option maxRecDepth 100000 in
theorem c_Model_count_x (l : Launch) (D : va_G) (cI cL cB : ClassId) (x0 : Nat) (x1 : Nat) (x2 : Nat) (x3 : Nat) (x4 : Nat) (x5 : Nat) (x6 : Nat) (x7 : Nat) (x8 : Nat) (x9 : Nat) (x10 : Nat) (x11 : Nat) (x12 : Nat) (x13 : Nat) (x14 : Nat) (x15 : Nat) (x16 : Nat) (x17 : Nat) (x18 : Nat) (x19 : Nat) (x20 : Nat) (th : Nat) (nn : Nat) (n : Nat) (sg : Nat) (bt : Prop) (x : Int32) (hx : ¬ vp_in x 8) : Cti l y_Model_count (wK w_Model_count) ({ frames := 1, cells := 0, slots := 0, locals := 21 }) D classes (TY cI cL cB) [.ref x0, .int x] [(x0, .inr (CI_Model, [.int (nI th), .int (nI nn), .ref x1, .ref x2, .ref x3, .ref x4, .ref x5, .ref x6, .ref x7, .ref x8, .ref x9, .ref x10, .ref x11, .int (nI n), .ref x12, .ref x13, .ref x14, .ref x15, .ref x16, .ref x17, .ref x18, .ref x19, .ref x20, .int (bP bt), .int (nI sg)]))] (fun (r : Int32) (u_ : Unit) => r = nI 0) (fun (u_ : Unit) => [(x0, .inr (CI_Model, [.int (nI 1), .int (nI nn), .ref x1, .ref x2, .ref x3, .ref x4, .ref x5, .ref x6, .ref x7, .ref x8, .ref x9, .ref x10, .ref x11, .int (nI n), .ref x12, .ref x13, .ref x14, .ref x15, .ref x16, .ref x17, .ref x18, .ref x19, .ref x20, .int (bP bt), .int (nI sg)]))]) 0 0 := by
  refine Ctg_of (cc := prog_9_method_36_code) (maxL := 4) (ret := (some .int)) "CircuitSimulatorModel" [(0, .ref x0), (1, .int x)] (by decide) rfl rfl (Nat.le_of_ble_eq_true rfl) rfl ?_
  intro p_ e_ s_ m_ args_ below_ meth_ c_ A_ F hr hin
  refine V_aload_n F 0 d_Model_count_0 rfl rfl ?_
  refine V_iconst F (v := 0) d_Model_count_1 rfl ?_
  refine V_put F 0 CI_Model 0 (w' := [(x0, .inr (CI_Model, [.int (nI 0), .int (nI nn), .ref x1, .ref x2, .ref x3, .ref x4, .ref x5, .ref x6, .ref x7, .ref x8, .ref x9, .ref x10, .ref x11, .int (nI n), .ref x12, .ref x13, .ref x14, .ref x15, .ref x16, .ref x17, .ref x18, .ref x19, .ref x20, .int (bP bt), .int (nI sg)]))]) t_Model tk_Model n_Model i_Model rfl rfl (by decide) m_596 rfl rfl rfl rfl (Nat.le_of_ble_eq_true rfl) rfl d_Model_count_2 ?_
  refine V_iconst F (v := 0) d_Model_count_5 rfl ?_
  refine V_istore_n F (lv' := [(2, .int (nI 0)), (0, .ref x0), (1, .int x)]) d_Model_count_6 rfl (by decide) rfl ?_
  refine V_iload_n F 2 d_Model_count_7 rfl rfl ?_
  by_cases sw8 : (x).toInt < 0 ∨ 7 < (x).toInt
  · skip
    refine V_tableOut F 167 d_Model_count_8 sw8 (by decide) ?_
    refine V_aload_n F 1 d_Model_count_167 rfl rfl ?_
    refine V_iconst F (v := 1) d_Model_count_168 rfl ?_
    refine V_callV_i (w1 := fun (u_ : Unit) => [(x0, .inr (CI_Model, [.int (nI 1), .int (nI nn), .ref x1, .ref x2, .ref x3, .ref x4, .ref x5, .ref x6, .ref x7, .ref x8, .ref x9, .ref x10, .ref x11, .int (nI n), .ref x12, .ref x13, .ref x14, .ref x15, .ref x16, .ref x17, .ref x18, .ref x19, .ref x20, .int (bP bt), .int (nI sg)]))]) (wr := []) (isC := [0]) (isR := []) (pm := [0]) (As := [.int 1]) (rest := []) F (c_Model_raise l D cI cL cB x0 x1 x2 x3 x4 x5 x6 x7 x8 x9 x10 x11 x12 x13 x14 x15 x16 x17 x18 x19 x20 0 nn n sg bt 1 ) (cS_V 1 F.ts m_689 m_690 m_18 m_42 m_691 (by decide +kernel) ⟨Nat.le_of_ble_eq_true rfl, Nat.le_of_ble_eq_true rfl⟩) (ci := CI_Model) (q0 := 0) rfl rfl rfl (Nat.le_of_ble_eq_true rfl) d_Model_count_169 ⟨Nat.le_of_ble_eq_true rfl, Nat.le_of_ble_eq_true rfl⟩ ⟨rfl, rfl, rfl, rfl, rfl, fun _ => rfl, rfl⟩ (fun r169 uu169 q169_ => ?_) rfl
    subst q169_
    exact V_iret F hr () rfl [0] rfl rfl (by decide) (by decide) d_Model_count_172
  · skip
    have sw8c : x = 0 ∨ x = 1 ∨ x = 2 ∨ x = 3 ∨ x = 4 ∨ x = 5 ∨ x = 6 ∨ x = 7 := by
      exact sw_0_7 (by omega) (by omega)
    rcases sw8c with sw8_0 | sw8_1 | sw8_2 | sw8_3 | sw8_4 | sw8_5 | sw8_6 | sw8_7
    · skip
      refine V_top (y := 0) sw8_0 ?_
      refine V_tableIn F 56 d_Model_count_8 (by decide) (by decide) rfl (by decide) ?_
      exact False.elim (hx (by rw [sw8_0]; exact (show vp_in (nI 0) 8 from vp_in_nI (by omega) (by omega))))
    · skip
      refine V_top (y := 1) sw8_1 ?_
      refine V_tableIn F 61 d_Model_count_8 (by decide) (by decide) rfl (by decide) ?_
      exact False.elim (hx (by rw [sw8_1]; exact (show vp_in (nI 1) 8 from vp_in_nI (by omega) (by omega))))
    · skip
      refine V_top (y := 2) sw8_2 ?_
      refine V_tableIn F 66 d_Model_count_8 (by decide) (by decide) rfl (by decide) ?_
      exact False.elim (hx (by rw [sw8_2]; exact (show vp_in (nI 2) 8 from vp_in_nI (by omega) (by omega))))
    · skip
      refine V_top (y := 3) sw8_3 ?_
      refine V_tableIn F 98 d_Model_count_8 (by decide) (by decide) rfl (by decide) ?_
      exact False.elim (hx (by rw [sw8_3]; exact (show vp_in (nI 3) 8 from vp_in_nI (by omega) (by omega))))
    · skip
      refine V_top (y := 4) sw8_4 ?_
      refine V_tableIn F 111 d_Model_count_8 (by decide) (by decide) rfl (by decide) ?_
      exact False.elim (hx (by rw [sw8_4]; exact (show vp_in (nI 4) 8 from vp_in_nI (by omega) (by omega))))
    · skip
      refine V_top (y := 5) sw8_5 ?_
      refine V_tableIn F 111 d_Model_count_8 (by decide) (by decide) rfl (by decide) ?_
      exact False.elim (hx (by rw [sw8_5]; exact (show vp_in (nI 5) 8 from vp_in_nI (by omega) (by omega))))
    · skip
      refine V_top (y := 6) sw8_6 ?_
      refine V_tableIn F 111 d_Model_count_8 (by decide) (by decide) rfl (by decide) ?_
      exact False.elim (hx (by rw [sw8_6]; exact (show vp_in (nI 6) 8 from vp_in_nI (by omega) (by omega))))
    · skip
      refine V_top (y := 7) sw8_7 ?_
      refine V_tableIn F 162 d_Model_count_8 (by decide) (by decide) rfl (by decide) ?_
      exact False.elim (hx (by rw [sw8_7]; exact (show vp_in (nI 7) 8 from vp_in_nI (by omega) (by omega))))
