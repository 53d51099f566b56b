set_option maxHeartbeats 4000000 in
set_option maxRecDepth 100000 in
theorem c_Model_levelOf_m (l : Launch) (D : va_G) (cI cL cB : ClassId) (x0 : Nat) (x1 : Nat) (x2 : Nat) (x3 : Nat) (x4 : Nat) (x5 : Nat) (x6 : Nat) (x7 : Nat) (x8 : Nat) (x9 : Nat) (x10 : Nat) (x11 : Nat) (x12 : Nat) (x13 : Nat) (x14 : Nat) (x15 : Nat) (x16 : Nat) (x17 : Nat) (x18 : Nat) (x19 : Nat) (x20 : Nat) (th : Nat) (nn : Nat) (n : Nat) (sg : Nat) (bt : Prop) (bf : Nat → Nat) (k : Nat → Nat) (o : Nat → Nat) (A : Nat → Int32) (B : Nat → Int32) (C : Nat → Int32) (hn : n ≤ 60) (hnn : nn ≤ 80) (hw : WfC nn n k o A B C) : Cti l y_Model_levelOf (wK w_Model_levelOf) ({ frames := 1, cells := 0, slots := 0, locals := 21 }) D classes (TY cI cL cB) [.ref x0, .int (-1)] [(x0, .inr (CI_Model, [.int (nI th), .int (nI nn), .ref x1, .ref x2, .ref x3, .ref x4, .ref x5, .ref x6, .ref x7, .ref x8, .ref x9, .ref x10, .ref x11, .int (nI n), .ref x12, .ref x13, .ref x14, .ref x15, .ref x16, .ref x17, .ref x18, .ref x19, .ref x20, .int (bP bt), .int (nI sg)])), (x2, .inl (cI, 80, .inl (cN bf))), (x5, .inl (cI, 60, .inl (cN k))), (x6, .inl (cI, 60, .inl (cN o))), (x7, .inl (cI, 60, .inl A)), (x8, .inl (cI, 60, .inl B)), (x9, .inl (cI, 60, .inl C))] (fun (r : Int32) (u_ : (Nat → Nat)) => LI n k o A B C 80 0 u_ ∧ ∃ mx, r = nI mx ∧ IsMax u_ nn mx) (fun (u_ : (Nat → Nat)) => [(x0, .inr (CI_Model, [.int (nI th), .int (nI nn), .ref x1, .ref x2, .ref x3, .ref x4, .ref x5, .ref x6, .ref x7, .ref x8, .ref x9, .ref x10, .ref x11, .int (nI n), .ref x12, .ref x13, .ref x14, .ref x15, .ref x16, .ref x17, .ref x18, .ref x19, .ref x20, .int (bP bt), .int (nI sg)])), (x2, .inl (cI, 80, .inl (cN u_))), (x5, .inl (cI, 60, .inl (cN k))), (x6, .inl (cI, 60, .inl (cN o))), (x7, .inl (cI, 60, .inl A)), (x8, .inl (cI, 60, .inl B)), (x9, .inl (cI, 60, .inl C))]) 0 0 := by
  refine Ctg_of (cc := prog_9_method_20_code) (maxL := 6) (ret := (some .int)) "CircuitSimulatorModel" [(0, .ref x0), (1, .int (-1))] (by decide) rfl rfl (Nat.le_of_ble_eq_true rfl) rfl ?_
  intro p_ e_ s_ m_ args_ below_ meth_ c_ A_ F hr hin
  refine V_iconst F (v := 0) d_Model_levelOf_0 rfl ?_
  refine V_istore_n F (lv' := [(2, .int (nI 0)), (0, .ref x0), (1, .int (-1))]) d_Model_levelOf_1 rfl (by decide) rfl ?_
  have L2 : ∀ (f_ : Nat) (i0 : Nat) (b0 : Nat → Nat), 80 - i0 < f_ → (i0 ≤ 80) → (∀ j, j < i0 → b0 j = 0) → V p_ l e_ ({ frames := 1, cells := 0, slots := 0, locals := 21 }) s_ m_ args_ below_ meth_ c_ A_ (MQ below_ (cQi D classes (fun (r : Int32) (u_ : (Nat → Nat)) => LI n k o A B C 80 0 u_ ∧ ∃ mx, r = nI mx ∧ IsMax u_ nn mx) (fun (u_ : (Nat → Nat)) => [(x0, .inr (CI_Model, [.int (nI th), .int (nI nn), .ref x1, .ref x2, .ref x3, .ref x4, .ref x5, .ref x6, .ref x7, .ref x8, .ref x9, .ref x10, .ref x11, .int (nI n), .ref x12, .ref x13, .ref x14, .ref x15, .ref x16, .ref x17, .ref x18, .ref x19, .ref x20, .int (bP bt), .int (nI sg)])), (x2, .inl (cI, 80, .inl (cN u_))), (x5, .inl (cI, 60, .inl (cN k))), (x6, .inl (cI, 60, .inl (cN o))), (x7, .inl (cI, 60, .inl A)), (x8, .inl (cI, 60, .inl B)), (x9, .inl (cI, 60, .inl C))]) A_) args_ s_ 0 0 A_) D classes 6 0 0 [(x0, .inr (CI_Model, [.int (nI th), .int (nI nn), .ref x1, .ref x2, .ref x3, .ref x4, .ref x5, .ref x6, .ref x7, .ref x8, .ref x9, .ref x10, .ref x11, .int (nI n), .ref x12, .ref x13, .ref x14, .ref x15, .ref x16, .ref x17, .ref x18, .ref x19, .ref x20, .int (bP bt), .int (nI sg)])), (x2, .inl (cI, 80, .inl (cN b0))), (x5, .inl (cI, 60, .inl (cN k))), (x6, .inl (cI, 60, .inl (cN o))), (x7, .inl (cI, 60, .inl A)), (x8, .inl (cI, 60, .inl B)), (x9, .inl (cI, 60, .inl C))] 2 [(0, .ref x0), (1, .int (-1)), (2, .int (nI i0))] [] := by
    intro f_
    induction f_ with
    | zero => intro i0 b0 hm_; exact absurd hm_ (Nat.not_lt_zero _)
    | succ f_ ih2 =>
      intro i0 b0 hm2 hi0 hb0
      refine V_iload_n F 2 d_Model_levelOf_2 rfl rfl ?_
      refine V_bipush F (v := 80) d_Model_levelOf_3 rfl ?_
      refine V_icmpn_ge F 21 (a := i0) (b := 80) (by omega) (by omega) d_Model_levelOf_5 (by decide) (fun h5 => ?_) (fun h5 => ?_)
      · skip
        refine V_ext 1 (g := cN (fun _ => 0)) (w' := [(x0, .inr (CI_Model, [.int (nI th), .int (nI nn), .ref x1, .ref x2, .ref x3, .ref x4, .ref x5, .ref x6, .ref x7, .ref x8, .ref x9, .ref x10, .ref x11, .int (nI n), .ref x12, .ref x13, .ref x14, .ref x15, .ref x16, .ref x17, .ref x18, .ref x19, .ref x20, .int (bP bt), .int (nI sg)])), (x2, .inl (cI, 80, .inl (cN (fun _ => 0)))), (x5, .inl (cI, 60, .inl (cN k))), (x6, .inl (cI, 60, .inl (cN o))), (x7, .inl (cI, 60, .inl A)), (x8, .inl (cI, 60, .inl B)), (x9, .inl (cI, 60, .inl C))]) rfl (fun j hj => by show nI (b0 j) = nI 0; rw [hb0 j (by omega)]) rfl ?_
        have hLz : LI n k o A B C 0 0 (fun _ => 0) := LI.start (fun _ => rfl)
        refine V_iconst F (v := 0) d_Model_levelOf_21 rfl ?_
        refine V_istore_n F (lv' := [(2, .int (nI 0)), (0, .ref x0), (1, .int (-1))]) d_Model_levelOf_22 rfl (by decide) rfl ?_
        have L23 : ∀ (f_ : Nat) (r_ : Nat) (b1 : Nat → Nat), 80 - r_ < f_ → (r_ ≤ 80) → (LI n k o A B C r_ 0 b1) → V p_ l e_ ({ frames := 1, cells := 0, slots := 0, locals := 21 }) s_ m_ args_ below_ meth_ c_ A_ (MQ below_ (cQi D classes (fun (r : Int32) (u_ : (Nat → Nat)) => LI n k o A B C 80 0 u_ ∧ ∃ mx, r = nI mx ∧ IsMax u_ nn mx) (fun (u_ : (Nat → Nat)) => [(x0, .inr (CI_Model, [.int (nI th), .int (nI nn), .ref x1, .ref x2, .ref x3, .ref x4, .ref x5, .ref x6, .ref x7, .ref x8, .ref x9, .ref x10, .ref x11, .int (nI n), .ref x12, .ref x13, .ref x14, .ref x15, .ref x16, .ref x17, .ref x18, .ref x19, .ref x20, .int (bP bt), .int (nI sg)])), (x2, .inl (cI, 80, .inl (cN u_))), (x5, .inl (cI, 60, .inl (cN k))), (x6, .inl (cI, 60, .inl (cN o))), (x7, .inl (cI, 60, .inl A)), (x8, .inl (cI, 60, .inl B)), (x9, .inl (cI, 60, .inl C))]) A_) args_ s_ 0 0 A_) D classes 6 0 0 [(x0, .inr (CI_Model, [.int (nI th), .int (nI nn), .ref x1, .ref x2, .ref x3, .ref x4, .ref x5, .ref x6, .ref x7, .ref x8, .ref x9, .ref x10, .ref x11, .int (nI n), .ref x12, .ref x13, .ref x14, .ref x15, .ref x16, .ref x17, .ref x18, .ref x19, .ref x20, .int (bP bt), .int (nI sg)])), (x2, .inl (cI, 80, .inl (cN b1))), (x5, .inl (cI, 60, .inl (cN k))), (x6, .inl (cI, 60, .inl (cN o))), (x7, .inl (cI, 60, .inl A)), (x8, .inl (cI, 60, .inl B)), (x9, .inl (cI, 60, .inl C))] 23 [(0, .ref x0), (1, .int (-1)), (2, .int (nI r_))] [] := by
          intro f_
          induction f_ with
          | zero => intro r_ b1 hm_; exact absurd hm_ (Nat.not_lt_zero _)
          | succ f_ ih23 =>
            intro r_ b1 hm23 hr_ hI1
            refine V_iload_n F 2 d_Model_levelOf_23 rfl rfl ?_
            refine V_bipush F (v := 80) d_Model_levelOf_24 rfl ?_
            refine V_icmpn_ge F 214 (a := r_) (b := 80) (by omega) (by omega) d_Model_levelOf_26 (by decide) (fun h26 => ?_) (fun h26 => ?_)
            · skip
              have e26 : r_ = 80 := by omega
              rw [e26] at hI1
              have hb9 := hI1.2.2.2
              refine V_iconst F (v := 0) d_Model_levelOf_214 rfl ?_
              refine V_istore_n F (lv' := [(2, .int (nI 0)), (0, .ref x0), (1, .int (-1))]) d_Model_levelOf_215 rfl (by decide) rfl ?_
              refine V_iconst F (v := 0) d_Model_levelOf_216 rfl ?_
              refine V_istore_n F (lv' := [(3, .int (nI 0)), (2, .int (nI 0)), (0, .ref x0), (1, .int (-1))]) d_Model_levelOf_217 rfl (by decide) rfl ?_
              have L218 : ∀ (f_ : Nat) (j : Nat) (mx : Nat), nn - j < f_ → (j ≤ nn) → (IsMax b1 j mx) → V p_ l e_ ({ frames := 1, cells := 0, slots := 0, locals := 21 }) s_ m_ args_ below_ meth_ c_ A_ (MQ below_ (cQi D classes (fun (r : Int32) (u_ : (Nat → Nat)) => LI n k o A B C 80 0 u_ ∧ ∃ mx, r = nI mx ∧ IsMax u_ nn mx) (fun (u_ : (Nat → Nat)) => [(x0, .inr (CI_Model, [.int (nI th), .int (nI nn), .ref x1, .ref x2, .ref x3, .ref x4, .ref x5, .ref x6, .ref x7, .ref x8, .ref x9, .ref x10, .ref x11, .int (nI n), .ref x12, .ref x13, .ref x14, .ref x15, .ref x16, .ref x17, .ref x18, .ref x19, .ref x20, .int (bP bt), .int (nI sg)])), (x2, .inl (cI, 80, .inl (cN u_))), (x5, .inl (cI, 60, .inl (cN k))), (x6, .inl (cI, 60, .inl (cN o))), (x7, .inl (cI, 60, .inl A)), (x8, .inl (cI, 60, .inl B)), (x9, .inl (cI, 60, .inl C))]) A_) args_ s_ 0 0 A_) D classes 6 0 0 [(x0, .inr (CI_Model, [.int (nI th), .int (nI nn), .ref x1, .ref x2, .ref x3, .ref x4, .ref x5, .ref x6, .ref x7, .ref x8, .ref x9, .ref x10, .ref x11, .int (nI n), .ref x12, .ref x13, .ref x14, .ref x15, .ref x16, .ref x17, .ref x18, .ref x19, .ref x20, .int (bP bt), .int (nI sg)])), (x2, .inl (cI, 80, .inl (cN b1))), (x5, .inl (cI, 60, .inl (cN k))), (x6, .inl (cI, 60, .inl (cN o))), (x7, .inl (cI, 60, .inl A)), (x8, .inl (cI, 60, .inl B)), (x9, .inl (cI, 60, .inl C))] 218 [(0, .ref x0), (1, .int (-1)), (2, .int (nI mx)), (3, .int (nI j))] [] := by
                intro f_
                induction f_ with
                | zero => intro j mx hm_; exact absurd hm_ (Nat.not_lt_zero _)
                | succ f_ ih218 =>
                  intro j mx hm218 hj hx
                  refine V_iload_n F 3 d_Model_levelOf_218 rfl rfl ?_
                  refine V_aload_n F 0 d_Model_levelOf_219 rfl rfl ?_
                  refine V_get F 0 CI_Model 1 i_Model rfl rfl (by decide) m_597 rfl rfl d_Model_levelOf_220 ?_
                  refine V_icmpn_ge F 249 (a := j) (b := nn) (by omega) (by omega) d_Model_levelOf_223 (by decide) (fun h223 => ?_) (fun h223 => ?_)
                  · skip
                    refine V_iload_n F 1 d_Model_levelOf_249 rfl rfl ?_
                    refine V_if_ge F 257 d_Model_levelOf_250 (by decide) (fun h250 => ?_) (fun h250 => ?_)
                    · skip
                      exact False.elim (absurd h250 (by decide))
                    · skip
                      refine V_iload_n F 2 d_Model_levelOf_253 rfl rfl ?_
                      refine V_goto F 263 d_Model_levelOf_254 (by decide) ?_
                      exact V_iret F hr b1 ⟨hI1, mx, rfl, (by rw [← show j = nn by omega]; exact hx)⟩ [0, 1, 2, 3, 4, 5, 6] rfl rfl (by decide) (by decide) d_Model_levelOf_263
                  · skip
                    have hb7 := hb9 j
                    have hmx : mx ≤ 80 * 60 + 0 := hx.le hb9
                    refine V_aload_n F 0 d_Model_levelOf_226 rfl rfl ?_
                    refine V_get F 0 CI_Model 3 i_Model rfl rfl (by decide) m_599 rfl rfl d_Model_levelOf_227 ?_
                    refine V_iload_n F 3 d_Model_levelOf_230 rfl rfl ?_
                    refine V_ialdnN F 1 0 (k := j) rfl rfl (by omega) (by decide) d_Model_levelOf_231 ?_
                    refine V_iload_n F 2 d_Model_levelOf_232 rfl rfl ?_
                    refine V_icmpn_le F 243 (a := b1 j) (b := mx) (by omega) (by omega) d_Model_levelOf_233 (by decide) (fun h233 => ?_) (fun h233 => ?_)
                    · skip
                      refine V_iinc F 3 (v := nI (j + 1)) (lv' := [(3, .int (nI (j + 1))), (0, .ref x0), (1, .int (-1)), (2, .int (nI mx))]) d_Model_levelOf_243 rfl (nI_inc _) (by decide) rfl ?_
                      refine V_goto F 218 d_Model_levelOf_246 (by decide) ?_
                      refine V_lv [1, 2, 3, 0] rfl ?_
                      exact ih218 (j + 1) mx (by omega) (by first | assumption | omega | (simp only [] at *; omega)) (hx.up2 (by omega))
                    · skip
                      refine V_aload_n F 0 d_Model_levelOf_236 rfl rfl ?_
                      refine V_get F 0 CI_Model 3 i_Model rfl rfl (by decide) m_599 rfl rfl d_Model_levelOf_237 ?_
                      refine V_iload_n F 3 d_Model_levelOf_240 rfl rfl ?_
                      refine V_ialdnN F 1 0 (k := j) rfl rfl (by omega) (by decide) d_Model_levelOf_241 ?_
                      refine V_istore_n F (lv' := [(2, .int (nI (b1 j))), (0, .ref x0), (1, .int (-1)), (3, .int (nI j))]) d_Model_levelOf_242 rfl (by decide) rfl ?_
                      refine V_iinc F 3 (v := nI (j + 1)) (lv' := [(3, .int (nI (j + 1))), (2, .int (nI (b1 j))), (0, .ref x0), (1, .int (-1))]) d_Model_levelOf_243 rfl (nI_inc _) (by decide) rfl ?_
                      refine V_goto F 218 d_Model_levelOf_246 (by decide) ?_
                      refine V_lv [2, 3, 1, 0] rfl ?_
                      exact ih218 (j + 1) (b1 j) (by omega) (by first | assumption | omega | (simp only [] at *; omega)) (hx.up1 (by omega))
              refine V_lv [2, 3, 1, 0] rfl ?_
              exact L218 ((nn - 0) + 1) 0 0 (Nat.lt_succ_self _) (by first | assumption | omega | (simp only [] at *; omega)) ⟨fun t h => absurd h (Nat.not_lt_zero t), Or.inl rfl⟩
            · skip
              refine V_iconst F (v := 0) d_Model_levelOf_29 rfl ?_
              refine V_istore_n F (lv' := [(3, .int (nI 0)), (0, .ref x0), (1, .int (-1)), (2, .int (nI r_))]) d_Model_levelOf_30 rfl (by decide) rfl ?_
              have L31 : ∀ (f_ : Nat) (c : Nat) (b2 : Nat → Nat), n - c < f_ → (c ≤ n) → (LI n k o A B C r_ c b2) → V p_ l e_ ({ frames := 1, cells := 0, slots := 0, locals := 21 }) s_ m_ args_ below_ meth_ c_ A_ (MQ below_ (cQi D classes (fun (r : Int32) (u_ : (Nat → Nat)) => LI n k o A B C 80 0 u_ ∧ ∃ mx, r = nI mx ∧ IsMax u_ nn mx) (fun (u_ : (Nat → Nat)) => [(x0, .inr (CI_Model, [.int (nI th), .int (nI nn), .ref x1, .ref x2, .ref x3, .ref x4, .ref x5, .ref x6, .ref x7, .ref x8, .ref x9, .ref x10, .ref x11, .int (nI n), .ref x12, .ref x13, .ref x14, .ref x15, .ref x16, .ref x17, .ref x18, .ref x19, .ref x20, .int (bP bt), .int (nI sg)])), (x2, .inl (cI, 80, .inl (cN u_))), (x5, .inl (cI, 60, .inl (cN k))), (x6, .inl (cI, 60, .inl (cN o))), (x7, .inl (cI, 60, .inl A)), (x8, .inl (cI, 60, .inl B)), (x9, .inl (cI, 60, .inl C))]) A_) args_ s_ 0 0 A_) D classes 6 0 0 [(x0, .inr (CI_Model, [.int (nI th), .int (nI nn), .ref x1, .ref x2, .ref x3, .ref x4, .ref x5, .ref x6, .ref x7, .ref x8, .ref x9, .ref x10, .ref x11, .int (nI n), .ref x12, .ref x13, .ref x14, .ref x15, .ref x16, .ref x17, .ref x18, .ref x19, .ref x20, .int (bP bt), .int (nI sg)])), (x2, .inl (cI, 80, .inl (cN b2))), (x5, .inl (cI, 60, .inl (cN k))), (x6, .inl (cI, 60, .inl (cN o))), (x7, .inl (cI, 60, .inl A)), (x8, .inl (cI, 60, .inl B)), (x9, .inl (cI, 60, .inl C))] 31 [(0, .ref x0), (1, .int (-1)), (2, .int (nI r_)), (3, .int (nI c))] [] := by
                intro f_
                induction f_ with
                | zero => intro c b2 hm_; exact absurd hm_ (Nat.not_lt_zero _)
                | succ f_ ih31 =>
                  intro c b2 hm31 hc hI2
                  refine V_iload_n F 3 d_Model_levelOf_31 rfl rfl ?_
                  refine V_aload_n F 0 d_Model_levelOf_32 rfl rfl ?_
                  refine V_get F 0 CI_Model 13 i_Model rfl rfl (by decide) m_609 rfl rfl d_Model_levelOf_33 ?_
                  refine V_icmpn_ge F 208 (a := c) (b := n) (by omega) (by omega) d_Model_levelOf_36 (by decide) (fun h36 => ?_) (fun h36 => ?_)
                  · skip
                    have e36 : c = n := by omega
                    rw [e36] at hI2
                    refine V_iinc F 2 (v := nI (r_ + 1)) (lv' := [(2, .int (nI (r_ + 1))), (0, .ref x0), (1, .int (-1)), (3, .int (nI c))]) d_Model_levelOf_208 rfl (nI_inc _) (by decide) rfl ?_
                    refine V_goto F 23 d_Model_levelOf_211 (by decide) ?_
                    refine V_lv [1, 2, 0] rfl ?_
                    exact ih23 (r_ + 1) b2 (by omega) (by first | assumption | omega | (simp only [] at *; omega)) (LI.next hn hI2)
                  · skip
                    have hk8 := (hw c (by omega)).1
                    have ho8 := (hw c (by omega)).2.1
                    have hd8 := dep3 (k c)
                    have hb8 := hI2.2.2.2
                    have hr8 : r_ < 80 := h26
                    have L62 : V p_ l e_ ({ frames := 1, cells := 0, slots := 0, locals := 21 }) s_ m_ args_ below_ meth_ c_ A_ (MQ below_ (cQi D classes (fun (r : Int32) (u_ : (Nat → Nat)) => LI n k o A B C 80 0 u_ ∧ ∃ mx, r = nI mx ∧ IsMax u_ nn mx) (fun (u_ : (Nat → Nat)) => [(x0, .inr (CI_Model, [.int (nI th), .int (nI nn), .ref x1, .ref x2, .ref x3, .ref x4, .ref x5, .ref x6, .ref x7, .ref x8, .ref x9, .ref x10, .ref x11, .int (nI n), .ref x12, .ref x13, .ref x14, .ref x15, .ref x16, .ref x17, .ref x18, .ref x19, .ref x20, .int (bP bt), .int (nI sg)])), (x2, .inl (cI, 80, .inl (cN u_))), (x5, .inl (cI, 60, .inl (cN k))), (x6, .inl (cI, 60, .inl (cN o))), (x7, .inl (cI, 60, .inl A)), (x8, .inl (cI, 60, .inl B)), (x9, .inl (cI, 60, .inl C))]) A_) args_ s_ 0 0 A_) D classes 6 0 0 [(x0, .inr (CI_Model, [.int (nI th), .int (nI nn), .ref x1, .ref x2, .ref x3, .ref x4, .ref x5, .ref x6, .ref x7, .ref x8, .ref x9, .ref x10, .ref x11, .int (nI n), .ref x12, .ref x13, .ref x14, .ref x15, .ref x16, .ref x17, .ref x18, .ref x19, .ref x20, .int (bP bt), .int (nI sg)])), (x2, .inl (cI, 80, .inl (cN b2))), (x5, .inl (cI, 60, .inl (cN k))), (x6, .inl (cI, 60, .inl (cN o))), (x7, .inl (cI, 60, .inl A)), (x8, .inl (cI, 60, .inl B)), (x9, .inl (cI, 60, .inl C))] 62 [(0, .ref x0), (1, .int (-1)), (2, .int (nI r_)), (3, .int (nI c)), (4, .int (nI (depN (k c))))] [] := by
                      have L99 : ∀ (l1 : Nat), (l1 = if 0 < depN (k c) ∧ 0 < b2 (A c).toNatClampNeg then b2 (A c).toNatClampNeg else 0) → V p_ l e_ ({ frames := 1, cells := 0, slots := 0, locals := 21 }) s_ m_ args_ below_ meth_ c_ A_ (MQ below_ (cQi D classes (fun (r : Int32) (u_ : (Nat → Nat)) => LI n k o A B C 80 0 u_ ∧ ∃ mx, r = nI mx ∧ IsMax u_ nn mx) (fun (u_ : (Nat → Nat)) => [(x0, .inr (CI_Model, [.int (nI th), .int (nI nn), .ref x1, .ref x2, .ref x3, .ref x4, .ref x5, .ref x6, .ref x7, .ref x8, .ref x9, .ref x10, .ref x11, .int (nI n), .ref x12, .ref x13, .ref x14, .ref x15, .ref x16, .ref x17, .ref x18, .ref x19, .ref x20, .int (bP bt), .int (nI sg)])), (x2, .inl (cI, 80, .inl (cN u_))), (x5, .inl (cI, 60, .inl (cN k))), (x6, .inl (cI, 60, .inl (cN o))), (x7, .inl (cI, 60, .inl A)), (x8, .inl (cI, 60, .inl B)), (x9, .inl (cI, 60, .inl C))]) A_) args_ s_ 0 0 A_) D classes 6 0 0 [(x0, .inr (CI_Model, [.int (nI th), .int (nI nn), .ref x1, .ref x2, .ref x3, .ref x4, .ref x5, .ref x6, .ref x7, .ref x8, .ref x9, .ref x10, .ref x11, .int (nI n), .ref x12, .ref x13, .ref x14, .ref x15, .ref x16, .ref x17, .ref x18, .ref x19, .ref x20, .int (bP bt), .int (nI sg)])), (x2, .inl (cI, 80, .inl (cN b2))), (x5, .inl (cI, 60, .inl (cN k))), (x6, .inl (cI, 60, .inl (cN o))), (x7, .inl (cI, 60, .inl A)), (x8, .inl (cI, 60, .inl B)), (x9, .inl (cI, 60, .inl C))] 99 [(0, .ref x0), (1, .int (-1)), (2, .int (nI r_)), (3, .int (nI c)), (4, .int (nI (depN (k c)))), (5, .int (nI l1))] [] := by
                        intro l1 hl1
                        have hl1b : l1 ≤ r_ * 60 + c := by rw [hl1]; split; exact hb8 _; omega
                        have L134 : ∀ (l2 : Nat), (l2 = if 1 < depN (k c) ∧ l1 < b2 (B c).toNatClampNeg then b2 (B c).toNatClampNeg else l1) → V p_ l e_ ({ frames := 1, cells := 0, slots := 0, locals := 21 }) s_ m_ args_ below_ meth_ c_ A_ (MQ below_ (cQi D classes (fun (r : Int32) (u_ : (Nat → Nat)) => LI n k o A B C 80 0 u_ ∧ ∃ mx, r = nI mx ∧ IsMax u_ nn mx) (fun (u_ : (Nat → Nat)) => [(x0, .inr (CI_Model, [.int (nI th), .int (nI nn), .ref x1, .ref x2, .ref x3, .ref x4, .ref x5, .ref x6, .ref x7, .ref x8, .ref x9, .ref x10, .ref x11, .int (nI n), .ref x12, .ref x13, .ref x14, .ref x15, .ref x16, .ref x17, .ref x18, .ref x19, .ref x20, .int (bP bt), .int (nI sg)])), (x2, .inl (cI, 80, .inl (cN u_))), (x5, .inl (cI, 60, .inl (cN k))), (x6, .inl (cI, 60, .inl (cN o))), (x7, .inl (cI, 60, .inl A)), (x8, .inl (cI, 60, .inl B)), (x9, .inl (cI, 60, .inl C))]) A_) args_ s_ 0 0 A_) D classes 6 0 0 [(x0, .inr (CI_Model, [.int (nI th), .int (nI nn), .ref x1, .ref x2, .ref x3, .ref x4, .ref x5, .ref x6, .ref x7, .ref x8, .ref x9, .ref x10, .ref x11, .int (nI n), .ref x12, .ref x13, .ref x14, .ref x15, .ref x16, .ref x17, .ref x18, .ref x19, .ref x20, .int (bP bt), .int (nI sg)])), (x2, .inl (cI, 80, .inl (cN b2))), (x5, .inl (cI, 60, .inl (cN k))), (x6, .inl (cI, 60, .inl (cN o))), (x7, .inl (cI, 60, .inl A)), (x8, .inl (cI, 60, .inl B)), (x9, .inl (cI, 60, .inl C))] 134 [(0, .ref x0), (1, .int (-1)), (2, .int (nI r_)), (3, .int (nI c)), (4, .int (nI (depN (k c)))), (5, .int (nI l2))] [] := by
                          intro l2 hl2
                          have hl2b : l2 ≤ r_ * 60 + c := by rw [hl2]; split; exact hb8 _; exact hl1b
                          have L169 : ∀ (l3 : Nat), (l3 = if 2 < depN (k c) ∧ l2 < b2 (C c).toNatClampNeg then b2 (C c).toNatClampNeg else l2) → V p_ l e_ ({ frames := 1, cells := 0, slots := 0, locals := 21 }) s_ m_ args_ below_ meth_ c_ A_ (MQ below_ (cQi D classes (fun (r : Int32) (u_ : (Nat → Nat)) => LI n k o A B C 80 0 u_ ∧ ∃ mx, r = nI mx ∧ IsMax u_ nn mx) (fun (u_ : (Nat → Nat)) => [(x0, .inr (CI_Model, [.int (nI th), .int (nI nn), .ref x1, .ref x2, .ref x3, .ref x4, .ref x5, .ref x6, .ref x7, .ref x8, .ref x9, .ref x10, .ref x11, .int (nI n), .ref x12, .ref x13, .ref x14, .ref x15, .ref x16, .ref x17, .ref x18, .ref x19, .ref x20, .int (bP bt), .int (nI sg)])), (x2, .inl (cI, 80, .inl (cN u_))), (x5, .inl (cI, 60, .inl (cN k))), (x6, .inl (cI, 60, .inl (cN o))), (x7, .inl (cI, 60, .inl A)), (x8, .inl (cI, 60, .inl B)), (x9, .inl (cI, 60, .inl C))]) A_) args_ s_ 0 0 A_) D classes 6 0 0 [(x0, .inr (CI_Model, [.int (nI th), .int (nI nn), .ref x1, .ref x2, .ref x3, .ref x4, .ref x5, .ref x6, .ref x7, .ref x8, .ref x9, .ref x10, .ref x11, .int (nI n), .ref x12, .ref x13, .ref x14, .ref x15, .ref x16, .ref x17, .ref x18, .ref x19, .ref x20, .int (bP bt), .int (nI sg)])), (x2, .inl (cI, 80, .inl (cN b2))), (x5, .inl (cI, 60, .inl (cN k))), (x6, .inl (cI, 60, .inl (cN o))), (x7, .inl (cI, 60, .inl A)), (x8, .inl (cI, 60, .inl B)), (x9, .inl (cI, 60, .inl C))] 169 [(0, .ref x0), (1, .int (-1)), (2, .int (nI r_)), (3, .int (nI c)), (4, .int (nI (depN (k c)))), (5, .int (nI l3))] [] := by
                            intro l3 hl3
                            have hl3b : l3 ≤ r_ * 60 + c := by rw [hl3]; split; exact hb8 _; exact hl2b
                            have hmd : l3 = mdc k A B C b2 c := by rw [hl3, hl2, hl1]; rfl
                            have hbo := hb8 (o c)
                            refine V_iload F 5 d_Model_levelOf_169 rfl ?_
                            refine V_iconst F (v := 1) d_Model_levelOf_171 rfl ?_
                            refine V_iadd F d_Model_levelOf_172 ?_
                            refine V_top (y := nI (l3 + 1)) (nI_add _ _) ?_
                            refine V_aload_n F 0 d_Model_levelOf_173 rfl rfl ?_
                            refine V_get F 0 CI_Model 3 i_Model rfl rfl (by decide) m_599 rfl rfl d_Model_levelOf_174 ?_
                            refine V_aload_n F 0 d_Model_levelOf_177 rfl rfl ?_
                            refine V_get F 0 CI_Model 7 i_Model rfl rfl (by decide) m_603 rfl rfl d_Model_levelOf_178 ?_
                            refine V_iload_n F 3 d_Model_levelOf_181 rfl rfl ?_
                            refine V_ialdnN F 3 0 (k := c) rfl rfl (by omega) (by decide) d_Model_levelOf_182 ?_
                            refine V_ialdnN F 1 0 (k := o c) rfl rfl (by omega) (by decide) d_Model_levelOf_183 ?_
                            refine V_icmpn_le F 202 (a := l3 + 1) (b := b2 (o c)) (by omega) (by omega) d_Model_levelOf_184 (by decide) (fun h184 => ?_) (fun h184 => ?_)
                            · skip
                              refine V_iinc F 3 (v := nI (c + 1)) (lv' := [(3, .int (nI (c + 1))), (0, .ref x0), (1, .int (-1)), (2, .int (nI r_)), (4, .int (nI (depN (k c)))), (5, .int (nI l3))]) d_Model_levelOf_202 rfl (nI_inc _) (by decide) rfl ?_
                              refine V_goto F 31 d_Model_levelOf_205 (by decide) ?_
                              refine V_lv [1, 2, 3, 0] rfl ?_
                              exact ih31 (c + 1) b2 (by omega) (by first | assumption | omega | (simp only [] at *; omega)) (rel_f (k := k) (o := o) (A := A) (B := B) (C := C) (b := b2) (c := c) (by rw [← hmd]; omega) ▸ hI2.step h36)
                            · skip
                              refine V_aload_n F 0 d_Model_levelOf_187 rfl rfl ?_
                              refine V_get F 0 CI_Model 3 i_Model rfl rfl (by decide) m_599 rfl rfl d_Model_levelOf_188 ?_
                              refine V_aload_n F 0 d_Model_levelOf_191 rfl rfl ?_
                              refine V_get F 0 CI_Model 7 i_Model rfl rfl (by decide) m_603 rfl rfl d_Model_levelOf_192 ?_
                              refine V_iload_n F 3 d_Model_levelOf_195 rfl rfl ?_
                              refine V_ialdnN F 3 0 (k := c) rfl rfl (by omega) (by decide) d_Model_levelOf_196 ?_
                              refine V_iload F 5 d_Model_levelOf_197 rfl ?_
                              refine V_iconst F (v := 1) d_Model_levelOf_199 rfl ?_
                              refine V_iadd F d_Model_levelOf_200 ?_
                              refine V_top (y := nI (l3 + 1)) (nI_add _ _) ?_
                              refine V_iastn F 1 0 (k := o c) (w' := [(x0, .inr (CI_Model, [.int (nI th), .int (nI nn), .ref x1, .ref x2, .ref x3, .ref x4, .ref x5, .ref x6, .ref x7, .ref x8, .ref x9, .ref x10, .ref x11, .int (nI n), .ref x12, .ref x13, .ref x14, .ref x15, .ref x16, .ref x17, .ref x18, .ref x19, .ref x20, .int (bP bt), .int (nI sg)])), (x2, .inl (cI, 80, .inl (cN (up b2 (o c) (l3 + 1))))), (x5, .inl (cI, 60, .inl (cN k))), (x6, .inl (cI, 60, .inl (cN o))), (x7, .inl (cI, 60, .inl A)), (x8, .inl (cI, 60, .inl B)), (x9, .inl (cI, 60, .inl C))]) rfl rfl (by omega) (by decide) (by rw [upd_cN] <;> rfl) d_Model_levelOf_201 ?_
                              refine V_iinc F 3 (v := nI (c + 1)) (lv' := [(3, .int (nI (c + 1))), (0, .ref x0), (1, .int (-1)), (2, .int (nI r_)), (4, .int (nI (depN (k c)))), (5, .int (nI l3))]) d_Model_levelOf_202 rfl (nI_inc _) (by decide) rfl ?_
                              refine V_goto F 31 d_Model_levelOf_205 (by decide) ?_
                              refine V_lv [1, 2, 3, 0] rfl ?_
                              exact ih31 (c + 1) (up b2 (o c) (l3 + 1)) (by omega) (by first | assumption | omega | (simp only [] at *; omega)) (by have e := hI2.step h36; rw [rel_t (by rw [← hmd]; omega), ← hmd] at e; exact e)
                          refine V_iload F 4 d_Model_levelOf_134 rfl ?_
                          refine V_iconst F (v := 2) d_Model_levelOf_136 rfl ?_
                          refine V_icmpn_le F 169 (a := depN (k c)) (b := 2) (by omega) (by omega) d_Model_levelOf_137 (by decide) (fun h137 => ?_) (fun h137 => ?_)
                          · skip
                            refine V_lv [0, 1, 2, 3, 4, 5] rfl ?_
                            exact L169 l2 (by rw [if_neg (by omega)])
                          · skip
                            have hv2 : vp_in (C c) nn := (hw c (by omega)).2.2.1 2 (Nat.lt_of_lt_of_le (by omega : 2 < depN (k c)) (depN_le _))
                            have hb2_ := hb8 (C c).toNatClampNeg
                            refine V_aload_n F 0 d_Model_levelOf_140 rfl rfl ?_
                            refine V_get F 0 CI_Model 3 i_Model rfl rfl (by decide) m_599 rfl rfl d_Model_levelOf_141 ?_
                            refine V_aload_n F 0 d_Model_levelOf_144 rfl rfl ?_
                            refine V_get F 0 CI_Model 10 i_Model rfl rfl (by decide) m_606 rfl rfl d_Model_levelOf_145 ?_
                            refine V_iload_n F 3 d_Model_levelOf_148 rfl rfl ?_
                            refine V_ialdn F 6 0 (k := c) rfl rfl (by omega) (by decide) d_Model_levelOf_149 ?_
                            refine V_ialdN F 1 0 rfl rfl (vin_mono hv2 hnn) d_Model_levelOf_150 ?_
                            refine V_iload F 5 d_Model_levelOf_151 rfl ?_
                            refine V_icmpn_le F 169 (a := b2 (C c).toNatClampNeg) (b := l2) (by omega) (by omega) d_Model_levelOf_153 (by decide) (fun h153 => ?_) (fun h153 => ?_)
                            · skip
                              refine V_lv [0, 1, 2, 3, 4, 5] rfl ?_
                              exact L169 l2 (by rw [if_neg (by omega)])
                            · skip
                              refine V_aload_n F 0 d_Model_levelOf_156 rfl rfl ?_
                              refine V_get F 0 CI_Model 3 i_Model rfl rfl (by decide) m_599 rfl rfl d_Model_levelOf_157 ?_
                              refine V_aload_n F 0 d_Model_levelOf_160 rfl rfl ?_
                              refine V_get F 0 CI_Model 10 i_Model rfl rfl (by decide) m_606 rfl rfl d_Model_levelOf_161 ?_
                              refine V_iload_n F 3 d_Model_levelOf_164 rfl rfl ?_
                              refine V_ialdn F 6 0 (k := c) rfl rfl (by omega) (by decide) d_Model_levelOf_165 ?_
                              refine V_ialdN F 1 0 rfl rfl (vin_mono hv2 hnn) d_Model_levelOf_166 ?_
                              refine V_istore F (lv' := [(5, .int (nI (b2 (C c).toNatClampNeg))), (0, .ref x0), (1, .int (-1)), (2, .int (nI r_)), (3, .int (nI c)), (4, .int (nI (depN (k c))))]) d_Model_levelOf_167 (by decide) rfl ?_
                              refine V_lv [1, 2, 3, 4, 5, 0] rfl ?_
                              exact L169 (b2 (C c).toNatClampNeg) (by rw [if_pos ⟨by omega, by omega⟩])
                        refine V_iload F 4 d_Model_levelOf_99 rfl ?_
                        refine V_iconst F (v := 1) d_Model_levelOf_101 rfl ?_
                        refine V_icmpn_le F 134 (a := depN (k c)) (b := 1) (by omega) (by omega) d_Model_levelOf_102 (by decide) (fun h102 => ?_) (fun h102 => ?_)
                        · skip
                          refine V_lv [0, 1, 2, 3, 4, 5] rfl ?_
                          exact L134 l1 (by rw [if_neg (by omega)])
                        · skip
                          have hv1 : vp_in (B c) nn := (hw c (by omega)).2.2.1 1 (Nat.lt_of_lt_of_le (by omega : 1 < depN (k c)) (depN_le _))
                          have hb1_ := hb8 (B c).toNatClampNeg
                          refine V_aload_n F 0 d_Model_levelOf_105 rfl rfl ?_
                          refine V_get F 0 CI_Model 3 i_Model rfl rfl (by decide) m_599 rfl rfl d_Model_levelOf_106 ?_
                          refine V_aload_n F 0 d_Model_levelOf_109 rfl rfl ?_
                          refine V_get F 0 CI_Model 9 i_Model rfl rfl (by decide) m_605 rfl rfl d_Model_levelOf_110 ?_
                          refine V_iload_n F 3 d_Model_levelOf_113 rfl rfl ?_
                          refine V_ialdn F 5 0 (k := c) rfl rfl (by omega) (by decide) d_Model_levelOf_114 ?_
                          refine V_ialdN F 1 0 rfl rfl (vin_mono hv1 hnn) d_Model_levelOf_115 ?_
                          refine V_iload F 5 d_Model_levelOf_116 rfl ?_
                          refine V_icmpn_le F 134 (a := b2 (B c).toNatClampNeg) (b := l1) (by omega) (by omega) d_Model_levelOf_118 (by decide) (fun h118 => ?_) (fun h118 => ?_)
                          · skip
                            refine V_lv [0, 1, 2, 3, 4, 5] rfl ?_
                            exact L134 l1 (by rw [if_neg (by omega)])
                          · skip
                            refine V_aload_n F 0 d_Model_levelOf_121 rfl rfl ?_
                            refine V_get F 0 CI_Model 3 i_Model rfl rfl (by decide) m_599 rfl rfl d_Model_levelOf_122 ?_
                            refine V_aload_n F 0 d_Model_levelOf_125 rfl rfl ?_
                            refine V_get F 0 CI_Model 9 i_Model rfl rfl (by decide) m_605 rfl rfl d_Model_levelOf_126 ?_
                            refine V_iload_n F 3 d_Model_levelOf_129 rfl rfl ?_
                            refine V_ialdn F 5 0 (k := c) rfl rfl (by omega) (by decide) d_Model_levelOf_130 ?_
                            refine V_ialdN F 1 0 rfl rfl (vin_mono hv1 hnn) d_Model_levelOf_131 ?_
                            refine V_istore F (lv' := [(5, .int (nI (b2 (B c).toNatClampNeg))), (0, .ref x0), (1, .int (-1)), (2, .int (nI r_)), (3, .int (nI c)), (4, .int (nI (depN (k c))))]) d_Model_levelOf_132 (by decide) rfl ?_
                            refine V_lv [1, 2, 3, 4, 5, 0] rfl ?_
                            exact L134 (b2 (B c).toNatClampNeg) (by rw [if_pos ⟨by omega, by omega⟩])
                      refine V_iconst F (v := 0) d_Model_levelOf_62 rfl ?_
                      refine V_istore F (lv' := [(5, .int (nI 0)), (0, .ref x0), (1, .int (-1)), (2, .int (nI r_)), (3, .int (nI c)), (4, .int (nI (depN (k c))))]) d_Model_levelOf_63 (by decide) rfl ?_
                      refine V_iload F 5 d_Model_levelOf_65 rfl ?_
                      refine V_ifn_le F 99 (a := depN (k c)) (by omega) d_Model_levelOf_67 (by decide) (fun h67 => ?_) (fun h67 => ?_)
                      · skip
                        refine V_lv [1, 2, 3, 4, 5, 0] rfl ?_
                        exact L99 0 (by rw [if_neg (by omega)])
                      · skip
                        have hv0 : vp_in (A c) nn := (hw c (by omega)).2.2.1 0 (Nat.lt_of_lt_of_le (by omega : 0 < depN (k c)) (depN_le _))
                        have hb0_ := hb8 (A c).toNatClampNeg
                        refine V_aload_n F 1 d_Model_levelOf_70 rfl rfl ?_
                        refine V_get F 0 CI_Model 3 i_Model rfl rfl (by decide) m_599 rfl rfl d_Model_levelOf_71 ?_
                        refine V_aload_n F 1 d_Model_levelOf_74 rfl rfl ?_
                        refine V_get F 0 CI_Model 8 i_Model rfl rfl (by decide) m_604 rfl rfl d_Model_levelOf_75 ?_
                        refine V_iload_n F 4 d_Model_levelOf_78 rfl rfl ?_
                        refine V_ialdn F 4 0 (k := c) rfl rfl (by omega) (by decide) d_Model_levelOf_79 ?_
                        refine V_ialdN F 1 0 rfl rfl (vin_mono hv0 hnn) d_Model_levelOf_80 ?_
                        refine V_iload F 0 d_Model_levelOf_81 rfl ?_
                        refine V_icmpn_le F 99 (a := b2 (A c).toNatClampNeg) (b := 0) (by omega) (by omega) d_Model_levelOf_83 (by decide) (fun h83 => ?_) (fun h83 => ?_)
                        · skip
                          refine V_lv [1, 2, 3, 4, 5, 0] rfl ?_
                          exact L99 0 (by rw [if_neg (by omega)])
                        · skip
                          refine V_aload_n F 1 d_Model_levelOf_86 rfl rfl ?_
                          refine V_get F 0 CI_Model 3 i_Model rfl rfl (by decide) m_599 rfl rfl d_Model_levelOf_87 ?_
                          refine V_aload_n F 1 d_Model_levelOf_90 rfl rfl ?_
                          refine V_get F 0 CI_Model 8 i_Model rfl rfl (by decide) m_604 rfl rfl d_Model_levelOf_91 ?_
                          refine V_iload_n F 4 d_Model_levelOf_94 rfl rfl ?_
                          refine V_ialdn F 4 0 (k := c) rfl rfl (by omega) (by decide) d_Model_levelOf_95 ?_
                          refine V_ialdN F 1 0 rfl rfl (vin_mono hv0 hnn) d_Model_levelOf_96 ?_
                          refine V_istore F (lv' := [(5, .int (nI (b2 (A c).toNatClampNeg))), (0, .ref x0), (1, .int (-1)), (2, .int (nI r_)), (3, .int (nI c)), (4, .int (nI (depN (k c))))]) d_Model_levelOf_97 (by decide) rfl ?_
                          refine V_lv [1, 2, 3, 4, 5, 0] rfl ?_
                          exact L99 (b2 (A c).toNatClampNeg) (by rw [if_pos ⟨by omega, by omega⟩])
                    refine V_aload_n F 0 d_Model_levelOf_39 rfl rfl ?_
                    refine V_iload_n F 3 d_Model_levelOf_40 rfl rfl ?_
                    refine V_callV_i (w1 := fun (u_ : Unit) => [(x0, .inr (CI_Model, [.int (nI th), .int (nI nn), .ref x1, .ref x2, .ref x3, .ref x4, .ref x5, .ref x6, .ref x7, .ref x8, .ref x9, .ref x10, .ref x11, .int (nI n), .ref x12, .ref x13, .ref x14, .ref x15, .ref x16, .ref x17, .ref x18, .ref x19, .ref x20, .int (bP bt), .int (nI sg)])), (x2, .inl (cI, 80, .inl (cN b2))), (x5, .inl (cI, 60, .inl (cN k))), (x6, .inl (cI, 60, .inl (cN o))), (x7, .inl (cI, 60, .inl A)), (x8, .inl (cI, 60, .inl B)), (x9, .inl (cI, 60, .inl C))]) (wr := [(x2, .inl (cI, 80, .inl (cN b2))), (x6, .inl (cI, 60, .inl (cN o))), (x7, .inl (cI, 60, .inl A)), (x8, .inl (cI, 60, .inl B)), (x9, .inl (cI, 60, .inl C))]) (isC := [0, 2]) (isR := [1, 3, 4, 5, 6]) (pm := [5, 0, 6, 1, 2, 3, 4]) (As := [.int (nI c)]) (rest := []) F (c_Model_passes l D cI cL cB x0 x1 x2 x3 x4 x5 x6 x7 x8 x9 x10 x11 x12 x13 x14 x15 x16 x17 x18 x19 x20 th nn n sg bt k c (by first | assumption | omega | (simp only [] at *; omega)) (by first | assumption | omega | (simp only [] at *; omega)) (by first | assumption | omega | (simp only [] at *; omega))) (cS_V 1 F.ts m_725 m_726 m_26 m_42 m_727 (by decide +kernel) ⟨Nat.le_of_ble_eq_true rfl, Nat.le_of_ble_eq_true rfl⟩) (ci := CI_Model) (q0 := 0) rfl rfl rfl (Nat.le_of_ble_eq_true rfl) d_Model_levelOf_41 ⟨Nat.le_of_ble_eq_true rfl, Nat.le_of_ble_eq_true rfl⟩ ⟨rfl, rfl, rfl, rfl, rfl, fun _ => rfl, rfl⟩ (fun r41 uu41 q41_ => ?_) rfl
                    subst q41_
                    refine V_ifb_eq F 59 d_Model_levelOf_44 (by decide) (fun h44 => ?_) (fun h44 => ?_)
                    · skip
                      refine V_iconst F (v := 0) d_Model_levelOf_59 rfl ?_
                      refine V_top (y := nI (depN (k c))) (congrArg nI (dep_f h44)) ?_
                      refine V_istore F (lv' := [(4, .int (nI (depN (k c)))), (0, .ref x0), (1, .int (-1)), (2, .int (nI r_)), (3, .int (nI c))]) d_Model_levelOf_60 (by decide) rfl ?_
                      refine V_lv [1, 2, 3, 4, 0] rfl ?_
                      exact L62  
                    · skip
                      refine V_aload_n F 0 d_Model_levelOf_47 rfl rfl ?_
                      refine V_get F 0 CI_Model 6 i_Model rfl rfl (by decide) m_602 rfl rfl d_Model_levelOf_48 ?_
                      refine V_iload_n F 3 d_Model_levelOf_51 rfl rfl ?_
                      refine V_ialdnN F 2 0 (k := c) rfl rfl (by omega) (by decide) d_Model_levelOf_52 ?_
                      refine V_callS_i (w1 := fun (u_ : Unit) => [(x0, .inr (CI_Model, [.int (nI th), .int (nI nn), .ref x1, .ref x2, .ref x3, .ref x4, .ref x5, .ref x6, .ref x7, .ref x8, .ref x9, .ref x10, .ref x11, .int (nI n), .ref x12, .ref x13, .ref x14, .ref x15, .ref x16, .ref x17, .ref x18, .ref x19, .ref x20, .int (bP bt), .int (nI sg)])), (x2, .inl (cI, 80, .inl (cN b2))), (x5, .inl (cI, 60, .inl (cN k))), (x6, .inl (cI, 60, .inl (cN o))), (x7, .inl (cI, 60, .inl A)), (x8, .inl (cI, 60, .inl B)), (x9, .inl (cI, 60, .inl C))]) (wr := [(x0, .inr (CI_Model, [.int (nI th), .int (nI nn), .ref x1, .ref x2, .ref x3, .ref x4, .ref x5, .ref x6, .ref x7, .ref x8, .ref x9, .ref x10, .ref x11, .int (nI n), .ref x12, .ref x13, .ref x14, .ref x15, .ref x16, .ref x17, .ref x18, .ref x19, .ref x20, .int (bP bt), .int (nI sg)])), (x2, .inl (cI, 80, .inl (cN b2))), (x5, .inl (cI, 60, .inl (cN k))), (x6, .inl (cI, 60, .inl (cN o))), (x7, .inl (cI, 60, .inl A)), (x8, .inl (cI, 60, .inl B)), (x9, .inl (cI, 60, .inl C))]) (isC := []) (isR := [0, 1, 2, 3, 4, 5, 6]) (pm := [0, 1, 2, 3, 4, 5, 6]) (As := [.int (nI (k c))]) (rest := []) F (c_Model_inputs l D cI cL cB (k c) (by first | assumption | omega | (simp only [] at *; omega))) (cS_S 1 F.ts m_686 m_687 m_42 m_688 (by decide +kernel) ⟨Nat.le_of_ble_eq_true rfl, Nat.le_of_ble_eq_true rfl⟩) rfl (Nat.le_of_ble_eq_true rfl) d_Model_levelOf_53 ⟨Nat.le_of_ble_eq_true rfl, Nat.le_of_ble_eq_true rfl⟩ ⟨rfl, rfl, rfl, rfl, rfl, fun _ => rfl, rfl⟩ (fun r53 uu53 q53_ => ?_) rfl
                      subst q53_
                      refine V_goto F 60 d_Model_levelOf_56 (by decide) ?_
                      refine V_top (y := nI (depN (k c))) (congrArg nI (dep_t h44)) ?_
                      refine V_istore F (lv' := [(4, .int (nI (depN (k c)))), (0, .ref x0), (1, .int (-1)), (2, .int (nI r_)), (3, .int (nI c))]) d_Model_levelOf_60 (by decide) rfl ?_
                      refine V_lv [1, 2, 3, 4, 0] rfl ?_
                      exact L62  
              refine V_lv [1, 2, 3, 0] rfl ?_
              exact L31 ((n - 0) + 1) 0 b1 (Nat.lt_succ_self _) (by first | assumption | omega | (simp only [] at *; omega)) hI1
        refine V_lv [1, 2, 0] rfl ?_
        exact L23 ((80 - 0) + 1) 0 (fun _ => 0) (Nat.lt_succ_self _) (by first | assumption | omega | (simp only [] at *; omega)) hLz
      · skip
        refine V_aload_n F 0 d_Model_levelOf_8 rfl rfl ?_
        refine V_get F 0 CI_Model 3 i_Model rfl rfl (by decide) m_599 rfl rfl d_Model_levelOf_9 ?_
        refine V_iload_n F 2 d_Model_levelOf_12 rfl rfl ?_
        refine V_iconst F (v := 0) d_Model_levelOf_13 rfl ?_
        refine V_top (y := nI 0) rfl ?_
        refine V_iastn F 1 0 (k := i0) (w' := [(x0, .inr (CI_Model, [.int (nI th), .int (nI nn), .ref x1, .ref x2, .ref x3, .ref x4, .ref x5, .ref x6, .ref x7, .ref x8, .ref x9, .ref x10, .ref x11, .int (nI n), .ref x12, .ref x13, .ref x14, .ref x15, .ref x16, .ref x17, .ref x18, .ref x19, .ref x20, .int (bP bt), .int (nI sg)])), (x2, .inl (cI, 80, .inl (cN (up b0 i0 0)))), (x5, .inl (cI, 60, .inl (cN k))), (x6, .inl (cI, 60, .inl (cN o))), (x7, .inl (cI, 60, .inl A)), (x8, .inl (cI, 60, .inl B)), (x9, .inl (cI, 60, .inl C))]) rfl rfl (by omega) (by decide) (by rw [upd_cN] <;> rfl) d_Model_levelOf_14 ?_
        refine V_iinc F 2 (v := nI (i0 + 1)) (lv' := [(2, .int (nI (i0 + 1))), (0, .ref x0), (1, .int (-1))]) d_Model_levelOf_15 rfl (nI_inc _) (by decide) rfl ?_
        refine V_goto F 2 d_Model_levelOf_18 (by decide) ?_
        refine V_lv [1, 2, 0] rfl ?_
        exact ih2 (i0 + 1) (up b0 i0 0) (by omega) (by first | assumption | omega | (simp only [] at *; omega)) (up_all (f := fun _ => 0) hb0 rfl)
  refine V_lv [1, 2, 0] rfl ?_
  exact L2 ((80 - 0) + 1) 0 bf (Nat.lt_succ_self _) (by first | assumption | omega | (simp only [] at *; omega)) (fun t h => absurd h (Nat.not_lt_zero t))

set_option maxHeartbeats 4000000 in
set_option maxRecDepth 100000 in
theorem c_Model_levelOf_n (l : Launch) (D : va_G) (cI cL cB : ClassId) (x0 : Nat) (x1 : Nat) (x2 : Nat) (x3 : Nat) (x4 : Nat) (x5 : Nat) (x6 : Nat) (x7 : Nat) (x8 : Nat) (x9 : Nat) (x10 : Nat) (x11 : Nat) (x12 : Nat) (x13 : Nat) (x14 : Nat) (x15 : Nat) (x16 : Nat) (x17 : Nat) (x18 : Nat) (x19 : Nat) (x20 : Nat) (th : Nat) (nn : Nat) (n : Nat) (sg : Nat) (bt : Prop) (bf : Nat → Nat) (k : Nat → Nat) (o : Nat → Nat) (A : Nat → Int32) (B : Nat → Int32) (C : Nat → Int32) (j0 : Nat) (hn : n ≤ 60) (hnn : nn ≤ 80) (hw : WfC nn n k o A B C) (hj0 : j0 < nn) : Cti l y_Model_levelOf (wK w_Model_levelOf) ({ frames := 1, cells := 0, slots := 0, locals := 21 }) D classes (TY cI cL cB) [.ref x0, .int (nI j0)] [(x0, .inr (CI_Model, [.int (nI th), .int (nI nn), .ref x1, .ref x2, .ref x3, .ref x4, .ref x5, .ref x6, .ref x7, .ref x8, .ref x9, .ref x10, .ref x11, .int (nI n), .ref x12, .ref x13, .ref x14, .ref x15, .ref x16, .ref x17, .ref x18, .ref x19, .ref x20, .int (bP bt), .int (nI sg)])), (x2, .inl (cI, 80, .inl (cN bf))), (x5, .inl (cI, 60, .inl (cN k))), (x6, .inl (cI, 60, .inl (cN o))), (x7, .inl (cI, 60, .inl A)), (x8, .inl (cI, 60, .inl B)), (x9, .inl (cI, 60, .inl C))] (fun (r : Int32) (u_ : (Nat → Nat)) => r = nI (u_ j0) ∧ (LI n k o A B C 80 0 u_)) (fun (u_ : (Nat → Nat)) => [(x0, .inr (CI_Model, [.int (nI th), .int (nI nn), .ref x1, .ref x2, .ref x3, .ref x4, .ref x5, .ref x6, .ref x7, .ref x8, .ref x9, .ref x10, .ref x11, .int (nI n), .ref x12, .ref x13, .ref x14, .ref x15, .ref x16, .ref x17, .ref x18, .ref x19, .ref x20, .int (bP bt), .int (nI sg)])), (x2, .inl (cI, 80, .inl (cN u_))), (x5, .inl (cI, 60, .inl (cN k))), (x6, .inl (cI, 60, .inl (cN o))), (x7, .inl (cI, 60, .inl A)), (x8, .inl (cI, 60, .inl B)), (x9, .inl (cI, 60, .inl C))]) 0 0 := by
  refine Ctg_of (cc := prog_9_method_20_code) (maxL := 6) (ret := (some .int)) "CircuitSimulatorModel" [(0, .ref x0), (1, .int (nI j0))] (by decide) rfl rfl (Nat.le_of_ble_eq_true rfl) rfl ?_
  intro p_ e_ s_ m_ args_ below_ meth_ c_ A_ F hr hin
  refine V_iconst F (v := 0) d_Model_levelOf_0 rfl ?_
  refine V_istore_n F (lv' := [(2, .int (nI 0)), (0, .ref x0), (1, .int (nI j0))]) d_Model_levelOf_1 rfl (by decide) rfl ?_
  have L2 : ∀ (f_ : Nat) (i0 : Nat) (b0 : Nat → Nat), 80 - i0 < f_ → (i0 ≤ 80) → (∀ j, j < i0 → b0 j = 0) → V p_ l e_ ({ frames := 1, cells := 0, slots := 0, locals := 21 }) s_ m_ args_ below_ meth_ c_ A_ (MQ below_ (cQi D classes (fun (r : Int32) (u_ : (Nat → Nat)) => r = nI (u_ j0) ∧ (LI n k o A B C 80 0 u_)) (fun (u_ : (Nat → Nat)) => [(x0, .inr (CI_Model, [.int (nI th), .int (nI nn), .ref x1, .ref x2, .ref x3, .ref x4, .ref x5, .ref x6, .ref x7, .ref x8, .ref x9, .ref x10, .ref x11, .int (nI n), .ref x12, .ref x13, .ref x14, .ref x15, .ref x16, .ref x17, .ref x18, .ref x19, .ref x20, .int (bP bt), .int (nI sg)])), (x2, .inl (cI, 80, .inl (cN u_))), (x5, .inl (cI, 60, .inl (cN k))), (x6, .inl (cI, 60, .inl (cN o))), (x7, .inl (cI, 60, .inl A)), (x8, .inl (cI, 60, .inl B)), (x9, .inl (cI, 60, .inl C))]) A_) args_ s_ 0 0 A_) D classes 6 0 0 [(x0, .inr (CI_Model, [.int (nI th), .int (nI nn), .ref x1, .ref x2, .ref x3, .ref x4, .ref x5, .ref x6, .ref x7, .ref x8, .ref x9, .ref x10, .ref x11, .int (nI n), .ref x12, .ref x13, .ref x14, .ref x15, .ref x16, .ref x17, .ref x18, .ref x19, .ref x20, .int (bP bt), .int (nI sg)])), (x2, .inl (cI, 80, .inl (cN b0))), (x5, .inl (cI, 60, .inl (cN k))), (x6, .inl (cI, 60, .inl (cN o))), (x7, .inl (cI, 60, .inl A)), (x8, .inl (cI, 60, .inl B)), (x9, .inl (cI, 60, .inl C))] 2 [(0, .ref x0), (1, .int (nI j0)), (2, .int (nI i0))] [] := by
    intro f_
    induction f_ with
    | zero => intro i0 b0 hm_; exact absurd hm_ (Nat.not_lt_zero _)
    | succ f_ ih2 =>
      intro i0 b0 hm2 hi0 hb0
      refine V_iload_n F 2 d_Model_levelOf_2 rfl rfl ?_
      refine V_bipush F (v := 80) d_Model_levelOf_3 rfl ?_
      refine V_icmpn_ge F 21 (a := i0) (b := 80) (by omega) (by omega) d_Model_levelOf_5 (by decide) (fun h5 => ?_) (fun h5 => ?_)
      · skip
        refine V_ext 1 (g := cN (fun _ => 0)) (w' := [(x0, .inr (CI_Model, [.int (nI th), .int (nI nn), .ref x1, .ref x2, .ref x3, .ref x4, .ref x5, .ref x6, .ref x7, .ref x8, .ref x9, .ref x10, .ref x11, .int (nI n), .ref x12, .ref x13, .ref x14, .ref x15, .ref x16, .ref x17, .ref x18, .ref x19, .ref x20, .int (bP bt), .int (nI sg)])), (x2, .inl (cI, 80, .inl (cN (fun _ => 0)))), (x5, .inl (cI, 60, .inl (cN k))), (x6, .inl (cI, 60, .inl (cN o))), (x7, .inl (cI, 60, .inl A)), (x8, .inl (cI, 60, .inl B)), (x9, .inl (cI, 60, .inl C))]) rfl (fun j hj => by show nI (b0 j) = nI 0; rw [hb0 j (by omega)]) rfl ?_
        have hLz : LI n k o A B C 0 0 (fun _ => 0) := LI.start (fun _ => rfl)
        refine V_iconst F (v := 0) d_Model_levelOf_21 rfl ?_
        refine V_istore_n F (lv' := [(2, .int (nI 0)), (0, .ref x0), (1, .int (nI j0))]) d_Model_levelOf_22 rfl (by decide) rfl ?_
        have L23 : ∀ (f_ : Nat) (r_ : Nat) (b1 : Nat → Nat), 80 - r_ < f_ → (r_ ≤ 80) → (LI n k o A B C r_ 0 b1) → V p_ l e_ ({ frames := 1, cells := 0, slots := 0, locals := 21 }) s_ m_ args_ below_ meth_ c_ A_ (MQ below_ (cQi D classes (fun (r : Int32) (u_ : (Nat → Nat)) => r = nI (u_ j0) ∧ (LI n k o A B C 80 0 u_)) (fun (u_ : (Nat → Nat)) => [(x0, .inr (CI_Model, [.int (nI th), .int (nI nn), .ref x1, .ref x2, .ref x3, .ref x4, .ref x5, .ref x6, .ref x7, .ref x8, .ref x9, .ref x10, .ref x11, .int (nI n), .ref x12, .ref x13, .ref x14, .ref x15, .ref x16, .ref x17, .ref x18, .ref x19, .ref x20, .int (bP bt), .int (nI sg)])), (x2, .inl (cI, 80, .inl (cN u_))), (x5, .inl (cI, 60, .inl (cN k))), (x6, .inl (cI, 60, .inl (cN o))), (x7, .inl (cI, 60, .inl A)), (x8, .inl (cI, 60, .inl B)), (x9, .inl (cI, 60, .inl C))]) A_) args_ s_ 0 0 A_) D classes 6 0 0 [(x0, .inr (CI_Model, [.int (nI th), .int (nI nn), .ref x1, .ref x2, .ref x3, .ref x4, .ref x5, .ref x6, .ref x7, .ref x8, .ref x9, .ref x10, .ref x11, .int (nI n), .ref x12, .ref x13, .ref x14, .ref x15, .ref x16, .ref x17, .ref x18, .ref x19, .ref x20, .int (bP bt), .int (nI sg)])), (x2, .inl (cI, 80, .inl (cN b1))), (x5, .inl (cI, 60, .inl (cN k))), (x6, .inl (cI, 60, .inl (cN o))), (x7, .inl (cI, 60, .inl A)), (x8, .inl (cI, 60, .inl B)), (x9, .inl (cI, 60, .inl C))] 23 [(0, .ref x0), (1, .int (nI j0)), (2, .int (nI r_))] [] := by
          intro f_
          induction f_ with
          | zero => intro r_ b1 hm_; exact absurd hm_ (Nat.not_lt_zero _)
          | succ f_ ih23 =>
            intro r_ b1 hm23 hr_ hI1
            refine V_iload_n F 2 d_Model_levelOf_23 rfl rfl ?_
            refine V_bipush F (v := 80) d_Model_levelOf_24 rfl ?_
            refine V_icmpn_ge F 214 (a := r_) (b := 80) (by omega) (by omega) d_Model_levelOf_26 (by decide) (fun h26 => ?_) (fun h26 => ?_)
            · skip
              have e26 : r_ = 80 := by omega
              rw [e26] at hI1
              have hb9 := hI1.2.2.2
              refine V_iconst F (v := 0) d_Model_levelOf_214 rfl ?_
              refine V_istore_n F (lv' := [(2, .int (nI 0)), (0, .ref x0), (1, .int (nI j0))]) d_Model_levelOf_215 rfl (by decide) rfl ?_
              refine V_iconst F (v := 0) d_Model_levelOf_216 rfl ?_
              refine V_istore_n F (lv' := [(3, .int (nI 0)), (2, .int (nI 0)), (0, .ref x0), (1, .int (nI j0))]) d_Model_levelOf_217 rfl (by decide) rfl ?_
              have L218 : ∀ (f_ : Nat) (j : Nat) (mx : Nat), nn - j < f_ → (j ≤ nn) → (IsMax b1 j mx) → V p_ l e_ ({ frames := 1, cells := 0, slots := 0, locals := 21 }) s_ m_ args_ below_ meth_ c_ A_ (MQ below_ (cQi D classes (fun (r : Int32) (u_ : (Nat → Nat)) => r = nI (u_ j0) ∧ (LI n k o A B C 80 0 u_)) (fun (u_ : (Nat → Nat)) => [(x0, .inr (CI_Model, [.int (nI th), .int (nI nn), .ref x1, .ref x2, .ref x3, .ref x4, .ref x5, .ref x6, .ref x7, .ref x8, .ref x9, .ref x10, .ref x11, .int (nI n), .ref x12, .ref x13, .ref x14, .ref x15, .ref x16, .ref x17, .ref x18, .ref x19, .ref x20, .int (bP bt), .int (nI sg)])), (x2, .inl (cI, 80, .inl (cN u_))), (x5, .inl (cI, 60, .inl (cN k))), (x6, .inl (cI, 60, .inl (cN o))), (x7, .inl (cI, 60, .inl A)), (x8, .inl (cI, 60, .inl B)), (x9, .inl (cI, 60, .inl C))]) A_) args_ s_ 0 0 A_) D classes 6 0 0 [(x0, .inr (CI_Model, [.int (nI th), .int (nI nn), .ref x1, .ref x2, .ref x3, .ref x4, .ref x5, .ref x6, .ref x7, .ref x8, .ref x9, .ref x10, .ref x11, .int (nI n), .ref x12, .ref x13, .ref x14, .ref x15, .ref x16, .ref x17, .ref x18, .ref x19, .ref x20, .int (bP bt), .int (nI sg)])), (x2, .inl (cI, 80, .inl (cN b1))), (x5, .inl (cI, 60, .inl (cN k))), (x6, .inl (cI, 60, .inl (cN o))), (x7, .inl (cI, 60, .inl A)), (x8, .inl (cI, 60, .inl B)), (x9, .inl (cI, 60, .inl C))] 218 [(0, .ref x0), (1, .int (nI j0)), (2, .int (nI mx)), (3, .int (nI j))] [] := by
                intro f_
                induction f_ with
                | zero => intro j mx hm_; exact absurd hm_ (Nat.not_lt_zero _)
                | succ f_ ih218 =>
                  intro j mx hm218 hj hx
                  refine V_iload_n F 3 d_Model_levelOf_218 rfl rfl ?_
                  refine V_aload_n F 0 d_Model_levelOf_219 rfl rfl ?_
                  refine V_get F 0 CI_Model 1 i_Model rfl rfl (by decide) m_597 rfl rfl d_Model_levelOf_220 ?_
                  refine V_icmpn_ge F 249 (a := j) (b := nn) (by omega) (by omega) d_Model_levelOf_223 (by decide) (fun h223 => ?_) (fun h223 => ?_)
                  · skip
                    refine V_iload_n F 1 d_Model_levelOf_249 rfl rfl ?_
                    refine V_ifn_ge F 257 (a := j0) (by omega) d_Model_levelOf_250 (by decide) (fun h250 => ?_) (fun h250 => ?_)
                    · skip
                      refine V_aload_n F 0 d_Model_levelOf_257 rfl rfl ?_
                      refine V_get F 0 CI_Model 3 i_Model rfl rfl (by decide) m_599 rfl rfl d_Model_levelOf_258 ?_
                      refine V_iload_n F 1 d_Model_levelOf_261 rfl rfl ?_
                      refine V_ialdnN F 1 0 (k := j0) rfl rfl (by omega) (by decide) d_Model_levelOf_262 ?_
                      exact V_iret F hr b1 ⟨rfl, hI1⟩ [0, 1, 2, 3, 4, 5, 6] rfl rfl (by decide) (by decide) d_Model_levelOf_263
                    · skip
                      exact False.elim h250
                  · skip
                    have hb7 := hb9 j
                    have hmx : mx ≤ 80 * 60 + 0 := hx.le hb9
                    refine V_aload_n F 0 d_Model_levelOf_226 rfl rfl ?_
                    refine V_get F 0 CI_Model 3 i_Model rfl rfl (by decide) m_599 rfl rfl d_Model_levelOf_227 ?_
                    refine V_iload_n F 3 d_Model_levelOf_230 rfl rfl ?_
                    refine V_ialdnN F 1 0 (k := j) rfl rfl (by omega) (by decide) d_Model_levelOf_231 ?_
                    refine V_iload_n F 2 d_Model_levelOf_232 rfl rfl ?_
                    refine V_icmpn_le F 243 (a := b1 j) (b := mx) (by omega) (by omega) d_Model_levelOf_233 (by decide) (fun h233 => ?_) (fun h233 => ?_)
                    · skip
                      refine V_iinc F 3 (v := nI (j + 1)) (lv' := [(3, .int (nI (j + 1))), (0, .ref x0), (1, .int (nI j0)), (2, .int (nI mx))]) d_Model_levelOf_243 rfl (nI_inc _) (by decide) rfl ?_
                      refine V_goto F 218 d_Model_levelOf_246 (by decide) ?_
                      refine V_lv [1, 2, 3, 0] rfl ?_
                      exact ih218 (j + 1) mx (by omega) (by first | assumption | omega | (simp only [] at *; omega)) (hx.up2 (by omega))
                    · skip
                      refine V_aload_n F 0 d_Model_levelOf_236 rfl rfl ?_
                      refine V_get F 0 CI_Model 3 i_Model rfl rfl (by decide) m_599 rfl rfl d_Model_levelOf_237 ?_
                      refine V_iload_n F 3 d_Model_levelOf_240 rfl rfl ?_
                      refine V_ialdnN F 1 0 (k := j) rfl rfl (by omega) (by decide) d_Model_levelOf_241 ?_
                      refine V_istore_n F (lv' := [(2, .int (nI (b1 j))), (0, .ref x0), (1, .int (nI j0)), (3, .int (nI j))]) d_Model_levelOf_242 rfl (by decide) rfl ?_
                      refine V_iinc F 3 (v := nI (j + 1)) (lv' := [(3, .int (nI (j + 1))), (2, .int (nI (b1 j))), (0, .ref x0), (1, .int (nI j0))]) d_Model_levelOf_243 rfl (nI_inc _) (by decide) rfl ?_
                      refine V_goto F 218 d_Model_levelOf_246 (by decide) ?_
                      refine V_lv [2, 3, 1, 0] rfl ?_
                      exact ih218 (j + 1) (b1 j) (by omega) (by first | assumption | omega | (simp only [] at *; omega)) (hx.up1 (by omega))
              refine V_lv [2, 3, 1, 0] rfl ?_
              exact L218 ((nn - 0) + 1) 0 0 (Nat.lt_succ_self _) (by first | assumption | omega | (simp only [] at *; omega)) ⟨fun t h => absurd h (Nat.not_lt_zero t), Or.inl rfl⟩
            · skip
              refine V_iconst F (v := 0) d_Model_levelOf_29 rfl ?_
              refine V_istore_n F (lv' := [(3, .int (nI 0)), (0, .ref x0), (1, .int (nI j0)), (2, .int (nI r_))]) d_Model_levelOf_30 rfl (by decide) rfl ?_
              have L31 : ∀ (f_ : Nat) (c : Nat) (b2 : Nat → Nat), n - c < f_ → (c ≤ n) → (LI n k o A B C r_ c b2) → V p_ l e_ ({ frames := 1, cells := 0, slots := 0, locals := 21 }) s_ m_ args_ below_ meth_ c_ A_ (MQ below_ (cQi D classes (fun (r : Int32) (u_ : (Nat → Nat)) => r = nI (u_ j0) ∧ (LI n k o A B C 80 0 u_)) (fun (u_ : (Nat → Nat)) => [(x0, .inr (CI_Model, [.int (nI th), .int (nI nn), .ref x1, .ref x2, .ref x3, .ref x4, .ref x5, .ref x6, .ref x7, .ref x8, .ref x9, .ref x10, .ref x11, .int (nI n), .ref x12, .ref x13, .ref x14, .ref x15, .ref x16, .ref x17, .ref x18, .ref x19, .ref x20, .int (bP bt), .int (nI sg)])), (x2, .inl (cI, 80, .inl (cN u_))), (x5, .inl (cI, 60, .inl (cN k))), (x6, .inl (cI, 60, .inl (cN o))), (x7, .inl (cI, 60, .inl A)), (x8, .inl (cI, 60, .inl B)), (x9, .inl (cI, 60, .inl C))]) A_) args_ s_ 0 0 A_) D classes 6 0 0 [(x0, .inr (CI_Model, [.int (nI th), .int (nI nn), .ref x1, .ref x2, .ref x3, .ref x4, .ref x5, .ref x6, .ref x7, .ref x8, .ref x9, .ref x10, .ref x11, .int (nI n), .ref x12, .ref x13, .ref x14, .ref x15, .ref x16, .ref x17, .ref x18, .ref x19, .ref x20, .int (bP bt), .int (nI sg)])), (x2, .inl (cI, 80, .inl (cN b2))), (x5, .inl (cI, 60, .inl (cN k))), (x6, .inl (cI, 60, .inl (cN o))), (x7, .inl (cI, 60, .inl A)), (x8, .inl (cI, 60, .inl B)), (x9, .inl (cI, 60, .inl C))] 31 [(0, .ref x0), (1, .int (nI j0)), (2, .int (nI r_)), (3, .int (nI c))] [] := by
                intro f_
                induction f_ with
                | zero => intro c b2 hm_; exact absurd hm_ (Nat.not_lt_zero _)
                | succ f_ ih31 =>
                  intro c b2 hm31 hc hI2
                  refine V_iload_n F 3 d_Model_levelOf_31 rfl rfl ?_
                  refine V_aload_n F 0 d_Model_levelOf_32 rfl rfl ?_
                  refine V_get F 0 CI_Model 13 i_Model rfl rfl (by decide) m_609 rfl rfl d_Model_levelOf_33 ?_
                  refine V_icmpn_ge F 208 (a := c) (b := n) (by omega) (by omega) d_Model_levelOf_36 (by decide) (fun h36 => ?_) (fun h36 => ?_)
                  · skip
                    have e36 : c = n := by omega
                    rw [e36] at hI2
                    refine V_iinc F 2 (v := nI (r_ + 1)) (lv' := [(2, .int (nI (r_ + 1))), (0, .ref x0), (1, .int (nI j0)), (3, .int (nI c))]) d_Model_levelOf_208 rfl (nI_inc _) (by decide) rfl ?_
                    refine V_goto F 23 d_Model_levelOf_211 (by decide) ?_
                    refine V_lv [1, 2, 0] rfl ?_
                    exact ih23 (r_ + 1) b2 (by omega) (by first | assumption | omega | (simp only [] at *; omega)) (LI.next hn hI2)
                  · skip
                    have hk8 := (hw c (by omega)).1
                    have ho8 := (hw c (by omega)).2.1
                    have hd8 := dep3 (k c)
                    have hb8 := hI2.2.2.2
                    have hr8 : r_ < 80 := h26
                    have L62 : V p_ l e_ ({ frames := 1, cells := 0, slots := 0, locals := 21 }) s_ m_ args_ below_ meth_ c_ A_ (MQ below_ (cQi D classes (fun (r : Int32) (u_ : (Nat → Nat)) => r = nI (u_ j0) ∧ (LI n k o A B C 80 0 u_)) (fun (u_ : (Nat → Nat)) => [(x0, .inr (CI_Model, [.int (nI th), .int (nI nn), .ref x1, .ref x2, .ref x3, .ref x4, .ref x5, .ref x6, .ref x7, .ref x8, .ref x9, .ref x10, .ref x11, .int (nI n), .ref x12, .ref x13, .ref x14, .ref x15, .ref x16, .ref x17, .ref x18, .ref x19, .ref x20, .int (bP bt), .int (nI sg)])), (x2, .inl (cI, 80, .inl (cN u_))), (x5, .inl (cI, 60, .inl (cN k))), (x6, .inl (cI, 60, .inl (cN o))), (x7, .inl (cI, 60, .inl A)), (x8, .inl (cI, 60, .inl B)), (x9, .inl (cI, 60, .inl C))]) A_) args_ s_ 0 0 A_) D classes 6 0 0 [(x0, .inr (CI_Model, [.int (nI th), .int (nI nn), .ref x1, .ref x2, .ref x3, .ref x4, .ref x5, .ref x6, .ref x7, .ref x8, .ref x9, .ref x10, .ref x11, .int (nI n), .ref x12, .ref x13, .ref x14, .ref x15, .ref x16, .ref x17, .ref x18, .ref x19, .ref x20, .int (bP bt), .int (nI sg)])), (x2, .inl (cI, 80, .inl (cN b2))), (x5, .inl (cI, 60, .inl (cN k))), (x6, .inl (cI, 60, .inl (cN o))), (x7, .inl (cI, 60, .inl A)), (x8, .inl (cI, 60, .inl B)), (x9, .inl (cI, 60, .inl C))] 62 [(0, .ref x0), (1, .int (nI j0)), (2, .int (nI r_)), (3, .int (nI c)), (4, .int (nI (depN (k c))))] [] := by
                      have L99 : ∀ (l1 : Nat), (l1 = if 0 < depN (k c) ∧ 0 < b2 (A c).toNatClampNeg then b2 (A c).toNatClampNeg else 0) → V p_ l e_ ({ frames := 1, cells := 0, slots := 0, locals := 21 }) s_ m_ args_ below_ meth_ c_ A_ (MQ below_ (cQi D classes (fun (r : Int32) (u_ : (Nat → Nat)) => r = nI (u_ j0) ∧ (LI n k o A B C 80 0 u_)) (fun (u_ : (Nat → Nat)) => [(x0, .inr (CI_Model, [.int (nI th), .int (nI nn), .ref x1, .ref x2, .ref x3, .ref x4, .ref x5, .ref x6, .ref x7, .ref x8, .ref x9, .ref x10, .ref x11, .int (nI n), .ref x12, .ref x13, .ref x14, .ref x15, .ref x16, .ref x17, .ref x18, .ref x19, .ref x20, .int (bP bt), .int (nI sg)])), (x2, .inl (cI, 80, .inl (cN u_))), (x5, .inl (cI, 60, .inl (cN k))), (x6, .inl (cI, 60, .inl (cN o))), (x7, .inl (cI, 60, .inl A)), (x8, .inl (cI, 60, .inl B)), (x9, .inl (cI, 60, .inl C))]) A_) args_ s_ 0 0 A_) D classes 6 0 0 [(x0, .inr (CI_Model, [.int (nI th), .int (nI nn), .ref x1, .ref x2, .ref x3, .ref x4, .ref x5, .ref x6, .ref x7, .ref x8, .ref x9, .ref x10, .ref x11, .int (nI n), .ref x12, .ref x13, .ref x14, .ref x15, .ref x16, .ref x17, .ref x18, .ref x19, .ref x20, .int (bP bt), .int (nI sg)])), (x2, .inl (cI, 80, .inl (cN b2))), (x5, .inl (cI, 60, .inl (cN k))), (x6, .inl (cI, 60, .inl (cN o))), (x7, .inl (cI, 60, .inl A)), (x8, .inl (cI, 60, .inl B)), (x9, .inl (cI, 60, .inl C))] 99 [(0, .ref x0), (1, .int (nI j0)), (2, .int (nI r_)), (3, .int (nI c)), (4, .int (nI (depN (k c)))), (5, .int (nI l1))] [] := by
                        intro l1 hl1
                        have hl1b : l1 ≤ r_ * 60 + c := by rw [hl1]; split; exact hb8 _; omega
                        have L134 : ∀ (l2 : Nat), (l2 = if 1 < depN (k c) ∧ l1 < b2 (B c).toNatClampNeg then b2 (B c).toNatClampNeg else l1) → V p_ l e_ ({ frames := 1, cells := 0, slots := 0, locals := 21 }) s_ m_ args_ below_ meth_ c_ A_ (MQ below_ (cQi D classes (fun (r : Int32) (u_ : (Nat → Nat)) => r = nI (u_ j0) ∧ (LI n k o A B C 80 0 u_)) (fun (u_ : (Nat → Nat)) => [(x0, .inr (CI_Model, [.int (nI th), .int (nI nn), .ref x1, .ref x2, .ref x3, .ref x4, .ref x5, .ref x6, .ref x7, .ref x8, .ref x9, .ref x10, .ref x11, .int (nI n), .ref x12, .ref x13, .ref x14, .ref x15, .ref x16, .ref x17, .ref x18, .ref x19, .ref x20, .int (bP bt), .int (nI sg)])), (x2, .inl (cI, 80, .inl (cN u_))), (x5, .inl (cI, 60, .inl (cN k))), (x6, .inl (cI, 60, .inl (cN o))), (x7, .inl (cI, 60, .inl A)), (x8, .inl (cI, 60, .inl B)), (x9, .inl (cI, 60, .inl C))]) A_) args_ s_ 0 0 A_) D classes 6 0 0 [(x0, .inr (CI_Model, [.int (nI th), .int (nI nn), .ref x1, .ref x2, .ref x3, .ref x4, .ref x5, .ref x6, .ref x7, .ref x8, .ref x9, .ref x10, .ref x11, .int (nI n), .ref x12, .ref x13, .ref x14, .ref x15, .ref x16, .ref x17, .ref x18, .ref x19, .ref x20, .int (bP bt), .int (nI sg)])), (x2, .inl (cI, 80, .inl (cN b2))), (x5, .inl (cI, 60, .inl (cN k))), (x6, .inl (cI, 60, .inl (cN o))), (x7, .inl (cI, 60, .inl A)), (x8, .inl (cI, 60, .inl B)), (x9, .inl (cI, 60, .inl C))] 134 [(0, .ref x0), (1, .int (nI j0)), (2, .int (nI r_)), (3, .int (nI c)), (4, .int (nI (depN (k c)))), (5, .int (nI l2))] [] := by
                          intro l2 hl2
                          have hl2b : l2 ≤ r_ * 60 + c := by rw [hl2]; split; exact hb8 _; exact hl1b
                          have L169 : ∀ (l3 : Nat), (l3 = if 2 < depN (k c) ∧ l2 < b2 (C c).toNatClampNeg then b2 (C c).toNatClampNeg else l2) → V p_ l e_ ({ frames := 1, cells := 0, slots := 0, locals := 21 }) s_ m_ args_ below_ meth_ c_ A_ (MQ below_ (cQi D classes (fun (r : Int32) (u_ : (Nat → Nat)) => r = nI (u_ j0) ∧ (LI n k o A B C 80 0 u_)) (fun (u_ : (Nat → Nat)) => [(x0, .inr (CI_Model, [.int (nI th), .int (nI nn), .ref x1, .ref x2, .ref x3, .ref x4, .ref x5, .ref x6, .ref x7, .ref x8, .ref x9, .ref x10, .ref x11, .int (nI n), .ref x12, .ref x13, .ref x14, .ref x15, .ref x16, .ref x17, .ref x18, .ref x19, .ref x20, .int (bP bt), .int (nI sg)])), (x2, .inl (cI, 80, .inl (cN u_))), (x5, .inl (cI, 60, .inl (cN k))), (x6, .inl (cI, 60, .inl (cN o))), (x7, .inl (cI, 60, .inl A)), (x8, .inl (cI, 60, .inl B)), (x9, .inl (cI, 60, .inl C))]) A_) args_ s_ 0 0 A_) D classes 6 0 0 [(x0, .inr (CI_Model, [.int (nI th), .int (nI nn), .ref x1, .ref x2, .ref x3, .ref x4, .ref x5, .ref x6, .ref x7, .ref x8, .ref x9, .ref x10, .ref x11, .int (nI n), .ref x12, .ref x13, .ref x14, .ref x15, .ref x16, .ref x17, .ref x18, .ref x19, .ref x20, .int (bP bt), .int (nI sg)])), (x2, .inl (cI, 80, .inl (cN b2))), (x5, .inl (cI, 60, .inl (cN k))), (x6, .inl (cI, 60, .inl (cN o))), (x7, .inl (cI, 60, .inl A)), (x8, .inl (cI, 60, .inl B)), (x9, .inl (cI, 60, .inl C))] 169 [(0, .ref x0), (1, .int (nI j0)), (2, .int (nI r_)), (3, .int (nI c)), (4, .int (nI (depN (k c)))), (5, .int (nI l3))] [] := by
                            intro l3 hl3
                            have hl3b : l3 ≤ r_ * 60 + c := by rw [hl3]; split; exact hb8 _; exact hl2b
                            have hmd : l3 = mdc k A B C b2 c := by rw [hl3, hl2, hl1]; rfl
                            have hbo := hb8 (o c)
                            refine V_iload F 5 d_Model_levelOf_169 rfl ?_
                            refine V_iconst F (v := 1) d_Model_levelOf_171 rfl ?_
                            refine V_iadd F d_Model_levelOf_172 ?_
                            refine V_top (y := nI (l3 + 1)) (nI_add _ _) ?_
                            refine V_aload_n F 0 d_Model_levelOf_173 rfl rfl ?_
                            refine V_get F 0 CI_Model 3 i_Model rfl rfl (by decide) m_599 rfl rfl d_Model_levelOf_174 ?_
                            refine V_aload_n F 0 d_Model_levelOf_177 rfl rfl ?_
                            refine V_get F 0 CI_Model 7 i_Model rfl rfl (by decide) m_603 rfl rfl d_Model_levelOf_178 ?_
                            refine V_iload_n F 3 d_Model_levelOf_181 rfl rfl ?_
                            refine V_ialdnN F 3 0 (k := c) rfl rfl (by omega) (by decide) d_Model_levelOf_182 ?_
                            refine V_ialdnN F 1 0 (k := o c) rfl rfl (by omega) (by decide) d_Model_levelOf_183 ?_
                            refine V_icmpn_le F 202 (a := l3 + 1) (b := b2 (o c)) (by omega) (by omega) d_Model_levelOf_184 (by decide) (fun h184 => ?_) (fun h184 => ?_)
                            · skip
                              refine V_iinc F 3 (v := nI (c + 1)) (lv' := [(3, .int (nI (c + 1))), (0, .ref x0), (1, .int (nI j0)), (2, .int (nI r_)), (4, .int (nI (depN (k c)))), (5, .int (nI l3))]) d_Model_levelOf_202 rfl (nI_inc _) (by decide) rfl ?_
                              refine V_goto F 31 d_Model_levelOf_205 (by decide) ?_
                              refine V_lv [1, 2, 3, 0] rfl ?_
                              exact ih31 (c + 1) b2 (by omega) (by first | assumption | omega | (simp only [] at *; omega)) (rel_f (k := k) (o := o) (A := A) (B := B) (C := C) (b := b2) (c := c) (by rw [← hmd]; omega) ▸ hI2.step h36)
                            · skip
                              refine V_aload_n F 0 d_Model_levelOf_187 rfl rfl ?_
                              refine V_get F 0 CI_Model 3 i_Model rfl rfl (by decide) m_599 rfl rfl d_Model_levelOf_188 ?_
                              refine V_aload_n F 0 d_Model_levelOf_191 rfl rfl ?_
                              refine V_get F 0 CI_Model 7 i_Model rfl rfl (by decide) m_603 rfl rfl d_Model_levelOf_192 ?_
                              refine V_iload_n F 3 d_Model_levelOf_195 rfl rfl ?_
                              refine V_ialdnN F 3 0 (k := c) rfl rfl (by omega) (by decide) d_Model_levelOf_196 ?_
                              refine V_iload F 5 d_Model_levelOf_197 rfl ?_
                              refine V_iconst F (v := 1) d_Model_levelOf_199 rfl ?_
                              refine V_iadd F d_Model_levelOf_200 ?_
                              refine V_top (y := nI (l3 + 1)) (nI_add _ _) ?_
                              refine V_iastn F 1 0 (k := o c) (w' := [(x0, .inr (CI_Model, [.int (nI th), .int (nI nn), .ref x1, .ref x2, .ref x3, .ref x4, .ref x5, .ref x6, .ref x7, .ref x8, .ref x9, .ref x10, .ref x11, .int (nI n), .ref x12, .ref x13, .ref x14, .ref x15, .ref x16, .ref x17, .ref x18, .ref x19, .ref x20, .int (bP bt), .int (nI sg)])), (x2, .inl (cI, 80, .inl (cN (up b2 (o c) (l3 + 1))))), (x5, .inl (cI, 60, .inl (cN k))), (x6, .inl (cI, 60, .inl (cN o))), (x7, .inl (cI, 60, .inl A)), (x8, .inl (cI, 60, .inl B)), (x9, .inl (cI, 60, .inl C))]) rfl rfl (by omega) (by decide) (by rw [upd_cN] <;> rfl) d_Model_levelOf_201 ?_
                              refine V_iinc F 3 (v := nI (c + 1)) (lv' := [(3, .int (nI (c + 1))), (0, .ref x0), (1, .int (nI j0)), (2, .int (nI r_)), (4, .int (nI (depN (k c)))), (5, .int (nI l3))]) d_Model_levelOf_202 rfl (nI_inc _) (by decide) rfl ?_
                              refine V_goto F 31 d_Model_levelOf_205 (by decide) ?_
                              refine V_lv [1, 2, 3, 0] rfl ?_
                              exact ih31 (c + 1) (up b2 (o c) (l3 + 1)) (by omega) (by first | assumption | omega | (simp only [] at *; omega)) (by have e := hI2.step h36; rw [rel_t (by rw [← hmd]; omega), ← hmd] at e; exact e)
                          refine V_iload F 4 d_Model_levelOf_134 rfl ?_
                          refine V_iconst F (v := 2) d_Model_levelOf_136 rfl ?_
                          refine V_icmpn_le F 169 (a := depN (k c)) (b := 2) (by omega) (by omega) d_Model_levelOf_137 (by decide) (fun h137 => ?_) (fun h137 => ?_)
                          · skip
                            refine V_lv [0, 1, 2, 3, 4, 5] rfl ?_
                            exact L169 l2 (by rw [if_neg (by omega)])
                          · skip
                            have hv2 : vp_in (C c) nn := (hw c (by omega)).2.2.1 2 (Nat.lt_of_lt_of_le (by omega : 2 < depN (k c)) (depN_le _))
                            have hb2_ := hb8 (C c).toNatClampNeg
                            refine V_aload_n F 0 d_Model_levelOf_140 rfl rfl ?_
                            refine V_get F 0 CI_Model 3 i_Model rfl rfl (by decide) m_599 rfl rfl d_Model_levelOf_141 ?_
                            refine V_aload_n F 0 d_Model_levelOf_144 rfl rfl ?_
                            refine V_get F 0 CI_Model 10 i_Model rfl rfl (by decide) m_606 rfl rfl d_Model_levelOf_145 ?_
                            refine V_iload_n F 3 d_Model_levelOf_148 rfl rfl ?_
                            refine V_ialdn F 6 0 (k := c) rfl rfl (by omega) (by decide) d_Model_levelOf_149 ?_
                            refine V_ialdN F 1 0 rfl rfl (vin_mono hv2 hnn) d_Model_levelOf_150 ?_
                            refine V_iload F 5 d_Model_levelOf_151 rfl ?_
                            refine V_icmpn_le F 169 (a := b2 (C c).toNatClampNeg) (b := l2) (by omega) (by omega) d_Model_levelOf_153 (by decide) (fun h153 => ?_) (fun h153 => ?_)
                            · skip
                              refine V_lv [0, 1, 2, 3, 4, 5] rfl ?_
                              exact L169 l2 (by rw [if_neg (by omega)])
                            · skip
                              refine V_aload_n F 0 d_Model_levelOf_156 rfl rfl ?_
                              refine V_get F 0 CI_Model 3 i_Model rfl rfl (by decide) m_599 rfl rfl d_Model_levelOf_157 ?_
                              refine V_aload_n F 0 d_Model_levelOf_160 rfl rfl ?_
                              refine V_get F 0 CI_Model 10 i_Model rfl rfl (by decide) m_606 rfl rfl d_Model_levelOf_161 ?_
                              refine V_iload_n F 3 d_Model_levelOf_164 rfl rfl ?_
                              refine V_ialdn F 6 0 (k := c) rfl rfl (by omega) (by decide) d_Model_levelOf_165 ?_
                              refine V_ialdN F 1 0 rfl rfl (vin_mono hv2 hnn) d_Model_levelOf_166 ?_
                              refine V_istore F (lv' := [(5, .int (nI (b2 (C c).toNatClampNeg))), (0, .ref x0), (1, .int (nI j0)), (2, .int (nI r_)), (3, .int (nI c)), (4, .int (nI (depN (k c))))]) d_Model_levelOf_167 (by decide) rfl ?_
                              refine V_lv [1, 2, 3, 4, 5, 0] rfl ?_
                              exact L169 (b2 (C c).toNatClampNeg) (by rw [if_pos ⟨by omega, by omega⟩])
                        refine V_iload F 4 d_Model_levelOf_99 rfl ?_
                        refine V_iconst F (v := 1) d_Model_levelOf_101 rfl ?_
                        refine V_icmpn_le F 134 (a := depN (k c)) (b := 1) (by omega) (by omega) d_Model_levelOf_102 (by decide) (fun h102 => ?_) (fun h102 => ?_)
                        · skip
                          refine V_lv [0, 1, 2, 3, 4, 5] rfl ?_
                          exact L134 l1 (by rw [if_neg (by omega)])
                        · skip
                          have hv1 : vp_in (B c) nn := (hw c (by omega)).2.2.1 1 (Nat.lt_of_lt_of_le (by omega : 1 < depN (k c)) (depN_le _))
                          have hb1_ := hb8 (B c).toNatClampNeg
                          refine V_aload_n F 0 d_Model_levelOf_105 rfl rfl ?_
                          refine V_get F 0 CI_Model 3 i_Model rfl rfl (by decide) m_599 rfl rfl d_Model_levelOf_106 ?_
                          refine V_aload_n F 0 d_Model_levelOf_109 rfl rfl ?_
                          refine V_get F 0 CI_Model 9 i_Model rfl rfl (by decide) m_605 rfl rfl d_Model_levelOf_110 ?_
                          refine V_iload_n F 3 d_Model_levelOf_113 rfl rfl ?_
                          refine V_ialdn F 5 0 (k := c) rfl rfl (by omega) (by decide) d_Model_levelOf_114 ?_
                          refine V_ialdN F 1 0 rfl rfl (vin_mono hv1 hnn) d_Model_levelOf_115 ?_
                          refine V_iload F 5 d_Model_levelOf_116 rfl ?_
                          refine V_icmpn_le F 134 (a := b2 (B c).toNatClampNeg) (b := l1) (by omega) (by omega) d_Model_levelOf_118 (by decide) (fun h118 => ?_) (fun h118 => ?_)
                          · skip
                            refine V_lv [0, 1, 2, 3, 4, 5] rfl ?_
                            exact L134 l1 (by rw [if_neg (by omega)])
                          · skip
                            refine V_aload_n F 0 d_Model_levelOf_121 rfl rfl ?_
                            refine V_get F 0 CI_Model 3 i_Model rfl rfl (by decide) m_599 rfl rfl d_Model_levelOf_122 ?_
                            refine V_aload_n F 0 d_Model_levelOf_125 rfl rfl ?_
                            refine V_get F 0 CI_Model 9 i_Model rfl rfl (by decide) m_605 rfl rfl d_Model_levelOf_126 ?_
                            refine V_iload_n F 3 d_Model_levelOf_129 rfl rfl ?_
                            refine V_ialdn F 5 0 (k := c) rfl rfl (by omega) (by decide) d_Model_levelOf_130 ?_
                            refine V_ialdN F 1 0 rfl rfl (vin_mono hv1 hnn) d_Model_levelOf_131 ?_
                            refine V_istore F (lv' := [(5, .int (nI (b2 (B c).toNatClampNeg))), (0, .ref x0), (1, .int (nI j0)), (2, .int (nI r_)), (3, .int (nI c)), (4, .int (nI (depN (k c))))]) d_Model_levelOf_132 (by decide) rfl ?_
                            refine V_lv [1, 2, 3, 4, 5, 0] rfl ?_
                            exact L134 (b2 (B c).toNatClampNeg) (by rw [if_pos ⟨by omega, by omega⟩])
                      refine V_iconst F (v := 0) d_Model_levelOf_62 rfl ?_
                      refine V_istore F (lv' := [(5, .int (nI 0)), (0, .ref x0), (1, .int (nI j0)), (2, .int (nI r_)), (3, .int (nI c)), (4, .int (nI (depN (k c))))]) d_Model_levelOf_63 (by decide) rfl ?_
                      refine V_iload F 5 d_Model_levelOf_65 rfl ?_
                      refine V_ifn_le F 99 (a := depN (k c)) (by omega) d_Model_levelOf_67 (by decide) (fun h67 => ?_) (fun h67 => ?_)
                      · skip
                        refine V_lv [1, 2, 3, 4, 5, 0] rfl ?_
                        exact L99 0 (by rw [if_neg (by omega)])
                      · skip
                        have hv0 : vp_in (A c) nn := (hw c (by omega)).2.2.1 0 (Nat.lt_of_lt_of_le (by omega : 0 < depN (k c)) (depN_le _))
                        have hb0_ := hb8 (A c).toNatClampNeg
                        refine V_aload_n F 1 d_Model_levelOf_70 rfl rfl ?_
                        refine V_get F 0 CI_Model 3 i_Model rfl rfl (by decide) m_599 rfl rfl d_Model_levelOf_71 ?_
                        refine V_aload_n F 1 d_Model_levelOf_74 rfl rfl ?_
                        refine V_get F 0 CI_Model 8 i_Model rfl rfl (by decide) m_604 rfl rfl d_Model_levelOf_75 ?_
                        refine V_iload_n F 4 d_Model_levelOf_78 rfl rfl ?_
                        refine V_ialdn F 4 0 (k := c) rfl rfl (by omega) (by decide) d_Model_levelOf_79 ?_
                        refine V_ialdN F 1 0 rfl rfl (vin_mono hv0 hnn) d_Model_levelOf_80 ?_
                        refine V_iload F 0 d_Model_levelOf_81 rfl ?_
                        refine V_icmpn_le F 99 (a := b2 (A c).toNatClampNeg) (b := 0) (by omega) (by omega) d_Model_levelOf_83 (by decide) (fun h83 => ?_) (fun h83 => ?_)
                        · skip
                          refine V_lv [1, 2, 3, 4, 5, 0] rfl ?_
                          exact L99 0 (by rw [if_neg (by omega)])
                        · skip
                          refine V_aload_n F 1 d_Model_levelOf_86 rfl rfl ?_
                          refine V_get F 0 CI_Model 3 i_Model rfl rfl (by decide) m_599 rfl rfl d_Model_levelOf_87 ?_
                          refine V_aload_n F 1 d_Model_levelOf_90 rfl rfl ?_
                          refine V_get F 0 CI_Model 8 i_Model rfl rfl (by decide) m_604 rfl rfl d_Model_levelOf_91 ?_
                          refine V_iload_n F 4 d_Model_levelOf_94 rfl rfl ?_
                          refine V_ialdn F 4 0 (k := c) rfl rfl (by omega) (by decide) d_Model_levelOf_95 ?_
                          refine V_ialdN F 1 0 rfl rfl (vin_mono hv0 hnn) d_Model_levelOf_96 ?_
                          refine V_istore F (lv' := [(5, .int (nI (b2 (A c).toNatClampNeg))), (0, .ref x0), (1, .int (nI j0)), (2, .int (nI r_)), (3, .int (nI c)), (4, .int (nI (depN (k c))))]) d_Model_levelOf_97 (by decide) rfl ?_
                          refine V_lv [1, 2, 3, 4, 5, 0] rfl ?_
                          exact L99 (b2 (A c).toNatClampNeg) (by rw [if_pos ⟨by omega, by omega⟩])
                    refine V_aload_n F 0 d_Model_levelOf_39 rfl rfl ?_
                    refine V_iload_n F 3 d_Model_levelOf_40 rfl rfl ?_
                    refine V_callV_i (w1 := fun (u_ : Unit) => [(x0, .inr (CI_Model, [.int (nI th), .int (nI nn), .ref x1, .ref x2, .ref x3, .ref x4, .ref x5, .ref x6, .ref x7, .ref x8, .ref x9, .ref x10, .ref x11, .int (nI n), .ref x12, .ref x13, .ref x14, .ref x15, .ref x16, .ref x17, .ref x18, .ref x19, .ref x20, .int (bP bt), .int (nI sg)])), (x2, .inl (cI, 80, .inl (cN b2))), (x5, .inl (cI, 60, .inl (cN k))), (x6, .inl (cI, 60, .inl (cN o))), (x7, .inl (cI, 60, .inl A)), (x8, .inl (cI, 60, .inl B)), (x9, .inl (cI, 60, .inl C))]) (wr := [(x2, .inl (cI, 80, .inl (cN b2))), (x6, .inl (cI, 60, .inl (cN o))), (x7, .inl (cI, 60, .inl A)), (x8, .inl (cI, 60, .inl B)), (x9, .inl (cI, 60, .inl C))]) (isC := [0, 2]) (isR := [1, 3, 4, 5, 6]) (pm := [5, 0, 6, 1, 2, 3, 4]) (As := [.int (nI c)]) (rest := []) F (c_Model_passes l D cI cL cB x0 x1 x2 x3 x4 x5 x6 x7 x8 x9 x10 x11 x12 x13 x14 x15 x16 x17 x18 x19 x20 th nn n sg bt k c (by first | assumption | omega | (simp only [] at *; omega)) (by first | assumption | omega | (simp only [] at *; omega)) (by first | assumption | omega | (simp only [] at *; omega))) (cS_V 1 F.ts m_725 m_726 m_26 m_42 m_727 (by decide +kernel) ⟨Nat.le_of_ble_eq_true rfl, Nat.le_of_ble_eq_true rfl⟩) (ci := CI_Model) (q0 := 0) rfl rfl rfl (Nat.le_of_ble_eq_true rfl) d_Model_levelOf_41 ⟨Nat.le_of_ble_eq_true rfl, Nat.le_of_ble_eq_true rfl⟩ ⟨rfl, rfl, rfl, rfl, rfl, fun _ => rfl, rfl⟩ (fun r41 uu41 q41_ => ?_) rfl
                    subst q41_
                    refine V_ifb_eq F 59 d_Model_levelOf_44 (by decide) (fun h44 => ?_) (fun h44 => ?_)
                    · skip
                      refine V_iconst F (v := 0) d_Model_levelOf_59 rfl ?_
                      refine V_top (y := nI (depN (k c))) (congrArg nI (dep_f h44)) ?_
                      refine V_istore F (lv' := [(4, .int (nI (depN (k c)))), (0, .ref x0), (1, .int (nI j0)), (2, .int (nI r_)), (3, .int (nI c))]) d_Model_levelOf_60 (by decide) rfl ?_
                      refine V_lv [1, 2, 3, 4, 0] rfl ?_
                      exact L62  
                    · skip
                      refine V_aload_n F 0 d_Model_levelOf_47 rfl rfl ?_
                      refine V_get F 0 CI_Model 6 i_Model rfl rfl (by decide) m_602 rfl rfl d_Model_levelOf_48 ?_
                      refine V_iload_n F 3 d_Model_levelOf_51 rfl rfl ?_
                      refine V_ialdnN F 2 0 (k := c) rfl rfl (by omega) (by decide) d_Model_levelOf_52 ?_
                      refine V_callS_i (w1 := fun (u_ : Unit) => [(x0, .inr (CI_Model, [.int (nI th), .int (nI nn), .ref x1, .ref x2, .ref x3, .ref x4, .ref x5, .ref x6, .ref x7, .ref x8, .ref x9, .ref x10, .ref x11, .int (nI n), .ref x12, .ref x13, .ref x14, .ref x15, .ref x16, .ref x17, .ref x18, .ref x19, .ref x20, .int (bP bt), .int (nI sg)])), (x2, .inl (cI, 80, .inl (cN b2))), (x5, .inl (cI, 60, .inl (cN k))), (x6, .inl (cI, 60, .inl (cN o))), (x7, .inl (cI, 60, .inl A)), (x8, .inl (cI, 60, .inl B)), (x9, .inl (cI, 60, .inl C))]) (wr := [(x0, .inr (CI_Model, [.int (nI th), .int (nI nn), .ref x1, .ref x2, .ref x3, .ref x4, .ref x5, .ref x6, .ref x7, .ref x8, .ref x9, .ref x10, .ref x11, .int (nI n), .ref x12, .ref x13, .ref x14, .ref x15, .ref x16, .ref x17, .ref x18, .ref x19, .ref x20, .int (bP bt), .int (nI sg)])), (x2, .inl (cI, 80, .inl (cN b2))), (x5, .inl (cI, 60, .inl (cN k))), (x6, .inl (cI, 60, .inl (cN o))), (x7, .inl (cI, 60, .inl A)), (x8, .inl (cI, 60, .inl B)), (x9, .inl (cI, 60, .inl C))]) (isC := []) (isR := [0, 1, 2, 3, 4, 5, 6]) (pm := [0, 1, 2, 3, 4, 5, 6]) (As := [.int (nI (k c))]) (rest := []) F (c_Model_inputs l D cI cL cB (k c) (by first | assumption | omega | (simp only [] at *; omega))) (cS_S 1 F.ts m_686 m_687 m_42 m_688 (by decide +kernel) ⟨Nat.le_of_ble_eq_true rfl, Nat.le_of_ble_eq_true rfl⟩) rfl (Nat.le_of_ble_eq_true rfl) d_Model_levelOf_53 ⟨Nat.le_of_ble_eq_true rfl, Nat.le_of_ble_eq_true rfl⟩ ⟨rfl, rfl, rfl, rfl, rfl, fun _ => rfl, rfl⟩ (fun r53 uu53 q53_ => ?_) rfl
                      subst q53_
                      refine V_goto F 60 d_Model_levelOf_56 (by decide) ?_
                      refine V_top (y := nI (depN (k c))) (congrArg nI (dep_t h44)) ?_
                      refine V_istore F (lv' := [(4, .int (nI (depN (k c)))), (0, .ref x0), (1, .int (nI j0)), (2, .int (nI r_)), (3, .int (nI c))]) d_Model_levelOf_60 (by decide) rfl ?_
                      refine V_lv [1, 2, 3, 4, 0] rfl ?_
                      exact L62  
              refine V_lv [1, 2, 3, 0] rfl ?_
              exact L31 ((n - 0) + 1) 0 b1 (Nat.lt_succ_self _) (by first | assumption | omega | (simp only [] at *; omega)) hI1
        refine V_lv [1, 2, 0] rfl ?_
        exact L23 ((80 - 0) + 1) 0 (fun _ => 0) (Nat.lt_succ_self _) (by first | assumption | omega | (simp only [] at *; omega)) hLz
      · skip
        refine V_aload_n F 0 d_Model_levelOf_8 rfl rfl ?_
        refine V_get F 0 CI_Model 3 i_Model rfl rfl (by decide) m_599 rfl rfl d_Model_levelOf_9 ?_
        refine V_iload_n F 2 d_Model_levelOf_12 rfl rfl ?_
        refine V_iconst F (v := 0) d_Model_levelOf_13 rfl ?_
        refine V_top (y := nI 0) rfl ?_
        refine V_iastn F 1 0 (k := i0) (w' := [(x0, .inr (CI_Model, [.int (nI th), .int (nI nn), .ref x1, .ref x2, .ref x3, .ref x4, .ref x5, .ref x6, .ref x7, .ref x8, .ref x9, .ref x10, .ref x11, .int (nI n), .ref x12, .ref x13, .ref x14, .ref x15, .ref x16, .ref x17, .ref x18, .ref x19, .ref x20, .int (bP bt), .int (nI sg)])), (x2, .inl (cI, 80, .inl (cN (up b0 i0 0)))), (x5, .inl (cI, 60, .inl (cN k))), (x6, .inl (cI, 60, .inl (cN o))), (x7, .inl (cI, 60, .inl A)), (x8, .inl (cI, 60, .inl B)), (x9, .inl (cI, 60, .inl C))]) rfl rfl (by omega) (by decide) (by rw [upd_cN] <;> rfl) d_Model_levelOf_14 ?_
        refine V_iinc F 2 (v := nI (i0 + 1)) (lv' := [(2, .int (nI (i0 + 1))), (0, .ref x0), (1, .int (nI j0))]) d_Model_levelOf_15 rfl (nI_inc _) (by decide) rfl ?_
        refine V_goto F 2 d_Model_levelOf_18 (by decide) ?_
        refine V_lv [1, 2, 0] rfl ?_
        exact ih2 (i0 + 1) (up b0 i0 0) (by omega) (by first | assumption | omega | (simp only [] at *; omega)) (up_all (f := fun _ => 0) hb0 rfl)
  refine V_lv [1, 2, 0] rfl ?_
  exact L2 ((80 - 0) + 1) 0 bf (Nat.lt_succ_self _) (by first | assumption | omega | (simp only [] at *; omega)) (fun t h => absurd h (Nat.not_lt_zero t))

set_option maxHeartbeats 4000000 in
set_option maxRecDepth 100000 in
theorem c_Model_worked (l : Launch) (D : va_G) (cI cL cB : ClassId) (x0 : Nat) (x1 : Nat) (x2 : Nat) (x3 : Nat) (x4 : Nat) (x5 : Nat) (x6 : Nat) (x7 : Nat) (x8 : Nat) (x9 : Nat) (x10 : Nat) (x11 : Nat) (x12 : Nat) (x13 : Nat) (x14 : Nat) (x15 : Nat) (x16 : Nat) (x17 : Nat) (x18 : Nat) (x19 : Nat) (x20 : Nat) (th : Nat) (nn : Nat) (n : Nat) (sg : Nat) (bt : Prop) (v : Nat → Nat) (k : Nat → Nat) (A : Nat → Int32) (B : Nat → Int32) (C : Nat → Int32) (q : Nat → Nat) (o : Nat → Nat) (i : Nat) (hn : n ≤ 60) (hnn : nn ≤ 80) (hw : WfC nn n k o A B C) (hi : i < n) (hv : ∀ j, j < nn → v j ≤ 3) (hq : q i ≤ 3) : Cti l y_Model_worked (wK w_Model_worked) ({ frames := 1, cells := 0, slots := 0, locals := 21 }) D classes (TY cI cL cB) [.ref x0, .int (nI i)] [(x0, .inr (CI_Model, [.int (nI th), .int (nI nn), .ref x1, .ref x2, .ref x3, .ref x4, .ref x5, .ref x6, .ref x7, .ref x8, .ref x9, .ref x10, .ref x11, .int (nI n), .ref x12, .ref x13, .ref x14, .ref x15, .ref x16, .ref x17, .ref x18, .ref x19, .ref x20, .int (bP bt), .int (nI sg)])), (x1, .inl (cI, 80, .inl (cN v))), (x5, .inl (cI, 60, .inl (cN k))), (x7, .inl (cI, 60, .inl A)), (x8, .inl (cI, 60, .inl B)), (x9, .inl (cI, 60, .inl C)), (x10, .inl (cI, 60, .inl (cN q)))] (fun (r : Int32) (u_ : Unit) => r = nI (evc k A B C q v i)) (fun (u_ : Unit) => [(x0, .inr (CI_Model, [.int (nI th), .int (nI nn), .ref x1, .ref x2, .ref x3, .ref x4, .ref x5, .ref x6, .ref x7, .ref x8, .ref x9, .ref x10, .ref x11, .int (nI n), .ref x12, .ref x13, .ref x14, .ref x15, .ref x16, .ref x17, .ref x18, .ref x19, .ref x20, .int (bP bt), .int (nI sg)])), (x1, .inl (cI, 80, .inl (cN v))), (x5, .inl (cI, 60, .inl (cN k))), (x7, .inl (cI, 60, .inl A)), (x8, .inl (cI, 60, .inl B)), (x9, .inl (cI, 60, .inl C)), (x10, .inl (cI, 60, .inl (cN q)))]) 0 0 := by
  refine Ctg_of (cc := prog_9_method_23_code) (maxL := 5) (ret := (some .int)) "CircuitSimulatorModel" [(0, .ref x0), (1, .int (nI i))] (by decide) rfl rfl (Nat.le_of_ble_eq_true rfl) rfl ?_
  intro p_ e_ s_ m_ args_ below_ meth_ c_ A_ F hr hin
  have hk8 := (hw i hi).1
  have hd8 := inpN_le (k i)
  refine V_aload_n F 0 d_Model_worked_0 rfl rfl ?_
  refine V_iload_n F 1 d_Model_worked_1 rfl rfl ?_
  refine V_callV_i (w1 := fun (u_ : Unit) => [(x0, .inr (CI_Model, [.int (nI th), .int (nI nn), .ref x1, .ref x2, .ref x3, .ref x4, .ref x5, .ref x6, .ref x7, .ref x8, .ref x9, .ref x10, .ref x11, .int (nI n), .ref x12, .ref x13, .ref x14, .ref x15, .ref x16, .ref x17, .ref x18, .ref x19, .ref x20, .int (bP bt), .int (nI sg)])), (x1, .inl (cI, 80, .inl (cN v))), (x5, .inl (cI, 60, .inl (cN k))), (x7, .inl (cI, 60, .inl A)), (x8, .inl (cI, 60, .inl B)), (x9, .inl (cI, 60, .inl C)), (x10, .inl (cI, 60, .inl (cN q)))]) (wr := [(x1, .inl (cI, 80, .inl (cN v))), (x7, .inl (cI, 60, .inl A)), (x8, .inl (cI, 60, .inl B)), (x9, .inl (cI, 60, .inl C)), (x10, .inl (cI, 60, .inl (cN q)))]) (isC := [0, 2]) (isR := [1, 3, 4, 5, 6]) (pm := [5, 0, 6, 1, 2, 3, 4]) (As := [.int (nI i)]) (rest := []) F (c_Model_passes l D cI cL cB x0 x1 x2 x3 x4 x5 x6 x7 x8 x9 x10 x11 x12 x13 x14 x15 x16 x17 x18 x19 x20 th nn n sg bt k i (by first | assumption | omega | (simp only [] at *; omega)) (by first | assumption | omega | (simp only [] at *; omega)) (by first | assumption | omega | (simp only [] at *; omega))) (cS_V 1 F.ts m_725 m_726 m_26 m_42 m_727 (by decide +kernel) ⟨Nat.le_of_ble_eq_true rfl, Nat.le_of_ble_eq_true rfl⟩) (ci := CI_Model) (q0 := 0) rfl rfl rfl (Nat.le_of_ble_eq_true rfl) d_Model_worked_2 ⟨Nat.le_of_ble_eq_true rfl, Nat.le_of_ble_eq_true rfl⟩ ⟨rfl, rfl, rfl, rfl, rfl, fun _ => rfl, rfl⟩ (fun r2 uu2 q2_ => ?_) rfl
  subst q2_
  refine V_ifb_ne F 15 d_Model_worked_5 (by decide) (fun h5 => ?_) (fun h5 => ?_)
  · skip
    have hdi : inpN (k i) = depN (k i) := dep_t h5
    have hd1 : 0 < inpN (k i) := by unfold inpN; rw [if_neg h5.1]; (repeat' split) <;> omega
    have hv0 : vp_in (A i) nn := (hw i hi).2.2.1 0 hd1
    have hvA : v (iN A B C i 0) ≤ 3 := hv _ (vp_lt hv0)
    have hvA2 := asI_le hvA
    refine V_aload_n F 0 d_Model_worked_15 rfl rfl ?_
    refine V_aload_n F 0 d_Model_worked_16 rfl rfl ?_
    refine V_get F 0 CI_Model 8 i_Model rfl rfl (by decide) m_604 rfl rfl d_Model_worked_17 ?_
    refine V_iload_n F 1 d_Model_worked_20 rfl rfl ?_
    refine V_ialdn F 3 0 (k := i) rfl rfl (by omega) (by decide) d_Model_worked_21 ?_
    refine V_top (y := nI (iN A B C i 0)) (vin_nI hv0 (by omega)) ?_
    refine V_callV_i (w1 := fun (u_ : Unit) => [(x0, .inr (CI_Model, [.int (nI th), .int (nI nn), .ref x1, .ref x2, .ref x3, .ref x4, .ref x5, .ref x6, .ref x7, .ref x8, .ref x9, .ref x10, .ref x11, .int (nI n), .ref x12, .ref x13, .ref x14, .ref x15, .ref x16, .ref x17, .ref x18, .ref x19, .ref x20, .int (bP bt), .int (nI sg)])), (x1, .inl (cI, 80, .inl (cN v))), (x5, .inl (cI, 60, .inl (cN k))), (x7, .inl (cI, 60, .inl A)), (x8, .inl (cI, 60, .inl B)), (x9, .inl (cI, 60, .inl C)), (x10, .inl (cI, 60, .inl (cN q)))]) (wr := [(x5, .inl (cI, 60, .inl (cN k))), (x7, .inl (cI, 60, .inl A)), (x8, .inl (cI, 60, .inl B)), (x9, .inl (cI, 60, .inl C)), (x10, .inl (cI, 60, .inl (cN q)))]) (isC := [0, 1]) (isR := [2, 3, 4, 5, 6]) (pm := [5, 6, 0, 1, 2, 3, 4]) (As := [.int (nI (iN A B C i 0))]) (rest := []) F (c_Model_read l D cI cL cB x0 x1 x2 x3 x4 x5 x6 x7 x8 x9 x10 x11 x12 x13 x14 x15 x16 x17 x18 x19 x20 th nn n sg bt v (iN A B C i 0) (Nat.lt_of_lt_of_le (vp_lt hv0) hnn) hvA) (cS_V 1 F.ts m_743 m_744 m_32 m_42 m_745 (by decide +kernel) ⟨Nat.le_of_ble_eq_true rfl, Nat.le_of_ble_eq_true rfl⟩) (ci := CI_Model) (q0 := 0) rfl rfl rfl (Nat.le_of_ble_eq_true rfl) d_Model_worked_22 ⟨Nat.le_of_ble_eq_true rfl, Nat.le_of_ble_eq_true rfl⟩ ⟨rfl, rfl, rfl, rfl, rfl, fun _ => rfl, rfl⟩ (fun r22 uu22 q22_ => ?_) rfl
    subst q22_
    refine V_istore_n F (lv' := [(2, .int (nI (asI (v (iN A B C i 0))))), (0, .ref x0), (1, .int (nI i))]) d_Model_worked_25 rfl (by decide) rfl ?_
    have L54 : ∀ (b : Nat), ((1 < depN (k i) → b = asI (v (iN A B C i 1))) ∧ b ≤ 2) → V p_ l e_ ({ frames := 1, cells := 0, slots := 0, locals := 21 }) s_ m_ args_ below_ meth_ c_ A_ (MQ below_ (cQi D classes (fun (r : Int32) (u_ : Unit) => r = nI (evc k A B C q v i)) (fun (u_ : Unit) => [(x0, .inr (CI_Model, [.int (nI th), .int (nI nn), .ref x1, .ref x2, .ref x3, .ref x4, .ref x5, .ref x6, .ref x7, .ref x8, .ref x9, .ref x10, .ref x11, .int (nI n), .ref x12, .ref x13, .ref x14, .ref x15, .ref x16, .ref x17, .ref x18, .ref x19, .ref x20, .int (bP bt), .int (nI sg)])), (x1, .inl (cI, 80, .inl (cN v))), (x5, .inl (cI, 60, .inl (cN k))), (x7, .inl (cI, 60, .inl A)), (x8, .inl (cI, 60, .inl B)), (x9, .inl (cI, 60, .inl C)), (x10, .inl (cI, 60, .inl (cN q)))]) A_) args_ s_ 0 0 A_) D classes 5 0 0 [(x0, .inr (CI_Model, [.int (nI th), .int (nI nn), .ref x1, .ref x2, .ref x3, .ref x4, .ref x5, .ref x6, .ref x7, .ref x8, .ref x9, .ref x10, .ref x11, .int (nI n), .ref x12, .ref x13, .ref x14, .ref x15, .ref x16, .ref x17, .ref x18, .ref x19, .ref x20, .int (bP bt), .int (nI sg)])), (x1, .inl (cI, 80, .inl (cN v))), (x5, .inl (cI, 60, .inl (cN k))), (x7, .inl (cI, 60, .inl A)), (x8, .inl (cI, 60, .inl B)), (x9, .inl (cI, 60, .inl C)), (x10, .inl (cI, 60, .inl (cN q)))] 54 [(0, .ref x0), (1, .int (nI i)), (2, .int (nI (asI (v (iN A B C i 0))))), (3, .int (nI b))] [] := by
      intro b hb
      refine V_aload_n F 0 d_Model_worked_54 rfl rfl ?_
      refine V_get F 0 CI_Model 6 i_Model rfl rfl (by decide) m_602 rfl rfl d_Model_worked_55 ?_
      refine V_iload_n F 1 d_Model_worked_58 rfl rfl ?_
      refine V_ialdnN F 2 0 (k := i) rfl rfl (by omega) (by decide) d_Model_worked_59 ?_
      by_cases sw60 : k i < 1 ∨ 6 < k i
      · skip
        refine V_tableOut F 233 d_Model_worked_60 (by rw [nI_toInt (by omega)]; omega) (by decide) ?_
        have hk7 : k i = 7 := by omega
        refine V_iload_n F 3 d_Model_worked_233 rfl rfl ?_
        refine V_iconst F (v := 1) d_Model_worked_234 rfl ?_
        refine V_icmpn_ne F 242 (a := b) (b := 1) (by omega) (by omega) d_Model_worked_235 (by decide) (fun h235 => ?_) (fun h235 => ?_)
        · skip
          refine V_iload_n F 3 d_Model_worked_242 rfl rfl ?_
          refine V_ifn_ne F 255 (a := b) (by omega) d_Model_worked_243 (by decide) (fun h243 => ?_) (fun h243 => ?_)
          · skip
            refine V_iload_n F 2 d_Model_worked_255 rfl rfl ?_
            refine V_aload_n F 0 d_Model_worked_256 rfl rfl ?_
            refine V_get F 0 CI_Model 11 i_Model rfl rfl (by decide) m_607 rfl rfl d_Model_worked_257 ?_
            refine V_iload_n F 1 d_Model_worked_260 rfl rfl ?_
            refine V_ialdnN F 6 0 (k := i) rfl rfl (by omega) (by decide) d_Model_worked_261 ?_
            refine V_icmpn_ne F 269 (a := asI (v (iN A B C i 0))) (b := q i) (by omega) (by omega) d_Model_worked_262 (by decide) (fun h262 => ?_) (fun h262 => ?_)
            · skip
              refine V_iconst F (v := 2) d_Model_worked_269 rfl ?_
              exact V_iret F hr () (congrArg nI (by rw [evc_7 hk7, ← hb.1 (by rw [hk7]; decide)]; unfold ev7; (repeat' split) <;> omega)) [0, 1, 2, 3, 4, 5, 6] rfl rfl (by decide) (by decide) d_Model_worked_270
            · skip
              refine V_iload_n F 2 d_Model_worked_265 rfl rfl ?_
              refine V_goto F 270 d_Model_worked_266 (by decide) ?_
              exact V_iret F hr () (congrArg nI (by rw [evc_7 hk7, ← hb.1 (by rw [hk7]; decide)]; unfold ev7; (repeat' split) <;> omega)) [0, 1, 2, 3, 4, 5, 6] rfl rfl (by decide) (by decide) d_Model_worked_270
          · skip
            refine V_aload_n F 0 d_Model_worked_246 rfl rfl ?_
            refine V_get F 0 CI_Model 11 i_Model rfl rfl (by decide) m_607 rfl rfl d_Model_worked_247 ?_
            refine V_iload_n F 1 d_Model_worked_250 rfl rfl ?_
            refine V_ialdnN F 6 0 (k := i) rfl rfl (by omega) (by decide) d_Model_worked_251 ?_
            refine V_goto F 270 d_Model_worked_252 (by decide) ?_
            exact V_iret F hr () (congrArg nI (by rw [evc_7 hk7, ← hb.1 (by rw [hk7]; decide)]; unfold ev7; (repeat' split) <;> omega)) [0, 1, 2, 3, 4, 5, 6] rfl rfl (by decide) (by decide) d_Model_worked_270
        · skip
          refine V_iload_n F 2 d_Model_worked_238 rfl rfl ?_
          refine V_goto F 270 d_Model_worked_239 (by decide) ?_
          exact V_iret F hr () (congrArg nI (by rw [evc_7 hk7, ← hb.1 (by rw [hk7]; decide)]; unfold ev7; (repeat' split) <;> omega)) [0, 1, 2, 3, 4, 5, 6] rfl rfl (by decide) (by decide) d_Model_worked_270
      · skip
        have sw60c : k i = 1 ∨ k i = 2 ∨ k i = 3 ∨ k i = 4 ∨ k i = 5 ∨ k i = 6 := by omega
        rcases sw60c with sw60_1 | sw60_2 | sw60_3 | sw60_4 | sw60_5 | sw60_6
        · skip
          refine V_top (y := 1) (congrArg nI sw60_1) ?_
          refine V_tableIn F 100 d_Model_worked_60 (by decide) (by decide) rfl (by decide) ?_
          refine V_iload_n F 2 d_Model_worked_100 rfl rfl ?_
          refine V_iconst F (v := 2) d_Model_worked_101 rfl ?_
          refine V_icmpn_ne F 109 (a := asI (v (iN A B C i 0))) (b := 2) (by omega) (by omega) d_Model_worked_102 (by decide) (fun h102 => ?_) (fun h102 => ?_)
          · skip
            refine V_iconst F (v := 1) d_Model_worked_109 rfl ?_
            refine V_iload_n F 2 d_Model_worked_110 rfl rfl ?_
            refine V_isub F d_Model_worked_111 ?_
            refine V_top (y := nI (1 - (asI (v (iN A B C i 0))))) (pk_sub (a := 1) (b := asI (v (iN A B C i 0))) (by omega)) ?_
            exact V_iret F hr () (congrArg nI (by rw [evc_1 sw60_1]; unfold ev1; (repeat' split) <;> omega)) [0, 1, 2, 3, 4, 5, 6] rfl rfl (by decide) (by decide) d_Model_worked_112
          · skip
            refine V_iconst F (v := 2) d_Model_worked_105 rfl ?_
            refine V_goto F 112 d_Model_worked_106 (by decide) ?_
            exact V_iret F hr () (congrArg nI (by rw [evc_1 sw60_1]; unfold ev1; (repeat' split) <;> omega)) [0, 1, 2, 3, 4, 5, 6] rfl rfl (by decide) (by decide) d_Model_worked_112
        · skip
          refine V_top (y := 2) (congrArg nI sw60_2) ?_
          refine V_tableIn F 113 d_Model_worked_60 (by decide) (by decide) rfl (by decide) ?_
          refine V_iload_n F 2 d_Model_worked_113 rfl rfl ?_
          refine V_iload_n F 3 d_Model_worked_114 rfl rfl ?_
          refine V_callS_i (w1 := fun (u_ : Unit) => [(x0, .inr (CI_Model, [.int (nI th), .int (nI nn), .ref x1, .ref x2, .ref x3, .ref x4, .ref x5, .ref x6, .ref x7, .ref x8, .ref x9, .ref x10, .ref x11, .int (nI n), .ref x12, .ref x13, .ref x14, .ref x15, .ref x16, .ref x17, .ref x18, .ref x19, .ref x20, .int (bP bt), .int (nI sg)])), (x1, .inl (cI, 80, .inl (cN v))), (x5, .inl (cI, 60, .inl (cN k))), (x7, .inl (cI, 60, .inl A)), (x8, .inl (cI, 60, .inl B)), (x9, .inl (cI, 60, .inl C)), (x10, .inl (cI, 60, .inl (cN q)))]) (wr := [(x0, .inr (CI_Model, [.int (nI th), .int (nI nn), .ref x1, .ref x2, .ref x3, .ref x4, .ref x5, .ref x6, .ref x7, .ref x8, .ref x9, .ref x10, .ref x11, .int (nI n), .ref x12, .ref x13, .ref x14, .ref x15, .ref x16, .ref x17, .ref x18, .ref x19, .ref x20, .int (bP bt), .int (nI sg)])), (x1, .inl (cI, 80, .inl (cN v))), (x5, .inl (cI, 60, .inl (cN k))), (x7, .inl (cI, 60, .inl A)), (x8, .inl (cI, 60, .inl B)), (x9, .inl (cI, 60, .inl C)), (x10, .inl (cI, 60, .inl (cN q)))]) (isC := []) (isR := [0, 1, 2, 3, 4, 5, 6]) (pm := [0, 1, 2, 3, 4, 5, 6]) (As := [.int (nI (asI (v (iN A B C i 0)))), .int (nI b)]) (rest := []) F (c_Model_both l D cI cL cB (asI (v (iN A B C i 0))) b (by first | assumption | omega | (simp only [] at *; omega)) (by first | assumption | omega | (simp only [] at *; omega))) (cS_S 2 F.ts m_746 m_747 m_42 m_748 (by decide +kernel) ⟨Nat.le_of_ble_eq_true rfl, Nat.le_of_ble_eq_true rfl⟩) rfl (Nat.le_of_ble_eq_true rfl) d_Model_worked_115 ⟨Nat.le_of_ble_eq_true rfl, Nat.le_of_ble_eq_true rfl⟩ ⟨rfl, rfl, rfl, rfl, rfl, fun _ => rfl, rfl⟩ (fun r115 uu115 q115_ => ?_) rfl
          subst q115_
          exact V_iret F hr () (congrArg nI (by rw [evc_2 sw60_2, ← hb.1 (by rw [sw60_2]; decide)])) [0, 1, 2, 3, 4, 5, 6] rfl rfl (by decide) (by decide) d_Model_worked_118
        · skip
          refine V_top (y := 3) (congrArg nI sw60_3) ?_
          refine V_tableIn F 119 d_Model_worked_60 (by decide) (by decide) rfl (by decide) ?_
          refine V_iload_n F 2 d_Model_worked_119 rfl rfl ?_
          refine V_iconst F (v := 1) d_Model_worked_120 rfl ?_
          refine V_icmpn_eq F 129 (a := asI (v (iN A B C i 0))) (b := 1) (by omega) (by omega) d_Model_worked_121 (by decide) (fun h121 => ?_) (fun h121 => ?_)
          · skip
            refine V_iconst F (v := 1) d_Model_worked_129 rfl ?_
            refine V_goto F 146 d_Model_worked_130 (by decide) ?_
            exact V_iret F hr () (congrArg nI (by rw [evc_3 sw60_3, ← hb.1 (by rw [sw60_3]; decide)]; unfold ev3; (repeat' split) <;> omega)) [0, 1, 2, 3, 4, 5, 6] rfl rfl (by decide) (by decide) d_Model_worked_146
          · skip
            refine V_iload_n F 3 d_Model_worked_124 rfl rfl ?_
            refine V_iconst F (v := 1) d_Model_worked_125 rfl ?_
            refine V_icmpn_ne F 133 (a := b) (b := 1) (by omega) (by omega) d_Model_worked_126 (by decide) (fun h126 => ?_) (fun h126 => ?_)
            · skip
              refine V_iload_n F 2 d_Model_worked_133 rfl rfl ?_
              refine V_ifn_ne F 145 (a := asI (v (iN A B C i 0))) (by omega) d_Model_worked_134 (by decide) (fun h134 => ?_) (fun h134 => ?_)
              · skip
                refine V_iconst F (v := 2) d_Model_worked_145 rfl ?_
                exact V_iret F hr () (congrArg nI (by rw [evc_3 sw60_3, ← hb.1 (by rw [sw60_3]; decide)]; unfold ev3; (repeat' split) <;> omega)) [0, 1, 2, 3, 4, 5, 6] rfl rfl (by decide) (by decide) d_Model_worked_146
              · skip
                refine V_iload_n F 3 d_Model_worked_137 rfl rfl ?_
                refine V_ifn_ne F 145 (a := b) (by omega) d_Model_worked_138 (by decide) (fun h138 => ?_) (fun h138 => ?_)
                · skip
                  refine V_iconst F (v := 2) d_Model_worked_145 rfl ?_
                  exact V_iret F hr () (congrArg nI (by rw [evc_3 sw60_3, ← hb.1 (by rw [sw60_3]; decide)]; unfold ev3; (repeat' split) <;> omega)) [0, 1, 2, 3, 4, 5, 6] rfl rfl (by decide) (by decide) d_Model_worked_146
                · skip
                  refine V_iconst F (v := 0) d_Model_worked_141 rfl ?_
                  refine V_goto F 146 d_Model_worked_142 (by decide) ?_
                  exact V_iret F hr () (congrArg nI (by rw [evc_3 sw60_3, ← hb.1 (by rw [sw60_3]; decide)]; unfold ev3; (repeat' split) <;> omega)) [0, 1, 2, 3, 4, 5, 6] rfl rfl (by decide) (by decide) d_Model_worked_146
            · skip
              refine V_iconst F (v := 1) d_Model_worked_129 rfl ?_
              refine V_goto F 146 d_Model_worked_130 (by decide) ?_
              exact V_iret F hr () (congrArg nI (by rw [evc_3 sw60_3, ← hb.1 (by rw [sw60_3]; decide)]; unfold ev3; (repeat' split) <;> omega)) [0, 1, 2, 3, 4, 5, 6] rfl rfl (by decide) (by decide) d_Model_worked_146
        · skip
          refine V_top (y := 4) (congrArg nI sw60_4) ?_
          refine V_tableIn F 147 d_Model_worked_60 (by decide) (by decide) rfl (by decide) ?_
          refine V_iload_n F 2 d_Model_worked_147 rfl rfl ?_
          refine V_iconst F (v := 2) d_Model_worked_148 rfl ?_
          refine V_icmpn_eq F 157 (a := asI (v (iN A B C i 0))) (b := 2) (by omega) (by omega) d_Model_worked_149 (by decide) (fun h149 => ?_) (fun h149 => ?_)
          · skip
            refine V_iconst F (v := 2) d_Model_worked_157 rfl ?_
            refine V_goto F 171 d_Model_worked_158 (by decide) ?_
            exact V_iret F hr () (congrArg nI (by rw [evc_4 sw60_4, ← hb.1 (by rw [sw60_4]; decide)]; unfold ev4; (repeat' split) <;> omega)) [0, 1, 2, 3, 4, 5, 6] rfl rfl (by decide) (by decide) d_Model_worked_171
          · skip
            refine V_iload_n F 3 d_Model_worked_152 rfl rfl ?_
            refine V_iconst F (v := 2) d_Model_worked_153 rfl ?_
            refine V_icmpn_ne F 161 (a := b) (b := 2) (by omega) (by omega) d_Model_worked_154 (by decide) (fun h154 => ?_) (fun h154 => ?_)
            · skip
              refine V_iload_n F 2 d_Model_worked_161 rfl rfl ?_
              refine V_iload_n F 3 d_Model_worked_162 rfl rfl ?_
              refine V_icmpn_ne F 170 (a := asI (v (iN A B C i 0))) (b := b) (by omega) (by omega) d_Model_worked_163 (by decide) (fun h163 => ?_) (fun h163 => ?_)
              · skip
                refine V_iconst F (v := 1) d_Model_worked_170 rfl ?_
                exact V_iret F hr () (congrArg nI (by rw [evc_4 sw60_4, ← hb.1 (by rw [sw60_4]; decide)]; unfold ev4; (repeat' split) <;> omega)) [0, 1, 2, 3, 4, 5, 6] rfl rfl (by decide) (by decide) d_Model_worked_171
              · skip
                refine V_iconst F (v := 0) d_Model_worked_166 rfl ?_
                refine V_goto F 171 d_Model_worked_167 (by decide) ?_
                exact V_iret F hr () (congrArg nI (by rw [evc_4 sw60_4, ← hb.1 (by rw [sw60_4]; decide)]; unfold ev4; (repeat' split) <;> omega)) [0, 1, 2, 3, 4, 5, 6] rfl rfl (by decide) (by decide) d_Model_worked_171
            · skip
              refine V_iconst F (v := 2) d_Model_worked_157 rfl ?_
              refine V_goto F 171 d_Model_worked_158 (by decide) ?_
              exact V_iret F hr () (congrArg nI (by rw [evc_4 sw60_4, ← hb.1 (by rw [sw60_4]; decide)]; unfold ev4; (repeat' split) <;> omega)) [0, 1, 2, 3, 4, 5, 6] rfl rfl (by decide) (by decide) d_Model_worked_171
        · skip
          refine V_top (y := 5) (congrArg nI sw60_5) ?_
          refine V_tableIn F 172 d_Model_worked_60 (by decide) (by decide) rfl (by decide) ?_
          have hv2 : vp_in (C i) nn := (hw i hi).2.2.1 2 (by rw [sw60_5]; decide)
          have hvC : v (iN A B C i 2) ≤ 3 := hv _ (vp_lt hv2)
          have hvC2 := asI_le hvC
          refine V_aload_n F 0 d_Model_worked_172 rfl rfl ?_
          refine V_aload_n F 0 d_Model_worked_173 rfl rfl ?_
          refine V_get F 0 CI_Model 10 i_Model rfl rfl (by decide) m_606 rfl rfl d_Model_worked_174 ?_
          refine V_iload_n F 1 d_Model_worked_177 rfl rfl ?_
          refine V_ialdn F 5 0 (k := i) rfl rfl (by omega) (by decide) d_Model_worked_178 ?_
          refine V_top (y := nI (iN A B C i 2)) (vin_nI hv2 (by omega)) ?_
          refine V_callV_i (w1 := fun (u_ : Unit) => [(x0, .inr (CI_Model, [.int (nI th), .int (nI nn), .ref x1, .ref x2, .ref x3, .ref x4, .ref x5, .ref x6, .ref x7, .ref x8, .ref x9, .ref x10, .ref x11, .int (nI n), .ref x12, .ref x13, .ref x14, .ref x15, .ref x16, .ref x17, .ref x18, .ref x19, .ref x20, .int (bP bt), .int (nI sg)])), (x1, .inl (cI, 80, .inl (cN v))), (x5, .inl (cI, 60, .inl (cN k))), (x7, .inl (cI, 60, .inl A)), (x8, .inl (cI, 60, .inl B)), (x9, .inl (cI, 60, .inl C)), (x10, .inl (cI, 60, .inl (cN q)))]) (wr := [(x5, .inl (cI, 60, .inl (cN k))), (x7, .inl (cI, 60, .inl A)), (x8, .inl (cI, 60, .inl B)), (x9, .inl (cI, 60, .inl C)), (x10, .inl (cI, 60, .inl (cN q)))]) (isC := [0, 1]) (isR := [2, 3, 4, 5, 6]) (pm := [5, 6, 0, 1, 2, 3, 4]) (As := [.int (nI (iN A B C i 2))]) (rest := []) F (c_Model_read l D cI cL cB x0 x1 x2 x3 x4 x5 x6 x7 x8 x9 x10 x11 x12 x13 x14 x15 x16 x17 x18 x19 x20 th nn n sg bt v (iN A B C i 2) (Nat.lt_of_lt_of_le (vp_lt hv2) hnn) hvC) (cS_V 1 F.ts m_743 m_744 m_32 m_42 m_745 (by decide +kernel) ⟨Nat.le_of_ble_eq_true rfl, Nat.le_of_ble_eq_true rfl⟩) (ci := CI_Model) (q0 := 0) rfl rfl rfl (Nat.le_of_ble_eq_true rfl) d_Model_worked_179 ⟨Nat.le_of_ble_eq_true rfl, Nat.le_of_ble_eq_true rfl⟩ ⟨rfl, rfl, rfl, rfl, rfl, fun _ => rfl, rfl⟩ (fun r179 uu179 q179_ => ?_) rfl
          subst q179_
          refine V_istore F (lv' := [(4, .int (nI (asI (v (iN A B C i 2))))), (0, .ref x0), (1, .int (nI i)), (2, .int (nI (asI (v (iN A B C i 0))))), (3, .int (nI b))]) d_Model_worked_182 (by decide) rfl ?_
          refine V_iload F 0 d_Model_worked_184 rfl ?_
          refine V_ifn_ne F 193 (a := asI (v (iN A B C i 2))) (by omega) d_Model_worked_186 (by decide) (fun h186 => ?_) (fun h186 => ?_)
          · skip
            refine V_iload F 0 d_Model_worked_193 rfl ?_
            refine V_iconst F (v := 1) d_Model_worked_195 rfl ?_
            refine V_icmpn_ne F 203 (a := asI (v (iN A B C i 2))) (b := 1) (by omega) (by omega) d_Model_worked_196 (by decide) (fun h196 => ?_) (fun h196 => ?_)
            · skip
              refine V_iload_n F 3 d_Model_worked_203 rfl rfl ?_
              refine V_iload_n F 4 d_Model_worked_204 rfl rfl ?_
              refine V_icmpn_ne F 212 (a := asI (v (iN A B C i 0))) (b := b) (by omega) (by omega) d_Model_worked_205 (by decide) (fun h205 => ?_) (fun h205 => ?_)
              · skip
                refine V_iconst F (v := 2) d_Model_worked_212 rfl ?_
                exact V_iret F hr () (congrArg nI (by rw [evc_5 sw60_5, ← hb.1 (by rw [sw60_5]; decide)]; unfold ev5; (repeat' split) <;> omega)) [0, 1, 2, 3, 4, 5, 6] rfl rfl (by decide) (by decide) d_Model_worked_213
              · skip
                refine V_iload_n F 3 d_Model_worked_208 rfl rfl ?_
                refine V_goto F 213 d_Model_worked_209 (by decide) ?_
                exact V_iret F hr () (congrArg nI (by rw [evc_5 sw60_5, ← hb.1 (by rw [sw60_5]; decide)]; unfold ev5; (repeat' split) <;> omega)) [0, 1, 2, 3, 4, 5, 6] rfl rfl (by decide) (by decide) d_Model_worked_213
            · skip
              refine V_iload_n F 4 d_Model_worked_199 rfl rfl ?_
              refine V_goto F 213 d_Model_worked_200 (by decide) ?_
              exact V_iret F hr () (congrArg nI (by rw [evc_5 sw60_5, ← hb.1 (by rw [sw60_5]; decide)]; unfold ev5; (repeat' split) <;> omega)) [0, 1, 2, 3, 4, 5, 6] rfl rfl (by decide) (by decide) d_Model_worked_213
          · skip
            refine V_iload_n F 3 d_Model_worked_189 rfl rfl ?_
            refine V_goto F 213 d_Model_worked_190 (by decide) ?_
            exact V_iret F hr () (congrArg nI (by rw [evc_5 sw60_5, ← hb.1 (by rw [sw60_5]; decide)]; unfold ev5; (repeat' split) <;> omega)) [0, 1, 2, 3, 4, 5, 6] rfl rfl (by decide) (by decide) d_Model_worked_213
        · skip
          refine V_top (y := 6) (congrArg nI sw60_6) ?_
          refine V_tableIn F 214 d_Model_worked_60 (by decide) (by decide) rfl (by decide) ?_
          refine V_iload_n F 3 d_Model_worked_214 rfl rfl ?_
          refine V_iconst F (v := 1) d_Model_worked_215 rfl ?_
          refine V_icmpn_ne F 223 (a := b) (b := 1) (by omega) (by omega) d_Model_worked_216 (by decide) (fun h216 => ?_) (fun h216 => ?_)
          · skip
            refine V_iload_n F 3 d_Model_worked_223 rfl rfl ?_
            refine V_ifn_ne F 231 (a := b) (by omega) d_Model_worked_224 (by decide) (fun h224 => ?_) (fun h224 => ?_)
            · skip
              refine V_iconst F (v := 2) d_Model_worked_231 rfl ?_
              exact V_iret F hr () (congrArg nI (by rw [evc_6 sw60_6, ← hb.1 (by rw [sw60_6]; decide)]; unfold ev6; (repeat' split) <;> omega)) [0, 1, 2, 3, 4, 5, 6] rfl rfl (by decide) (by decide) d_Model_worked_232
            · skip
              refine V_iconst F (v := 3) d_Model_worked_227 rfl ?_
              refine V_goto F 232 d_Model_worked_228 (by decide) ?_
              exact V_iret F hr () (congrArg nI (by rw [evc_6 sw60_6, ← hb.1 (by rw [sw60_6]; decide)]; unfold ev6; (repeat' split) <;> omega)) [0, 1, 2, 3, 4, 5, 6] rfl rfl (by decide) (by decide) d_Model_worked_232
          · skip
            refine V_iload_n F 2 d_Model_worked_219 rfl rfl ?_
            refine V_goto F 232 d_Model_worked_220 (by decide) ?_
            exact V_iret F hr () (congrArg nI (by rw [evc_6 sw60_6, ← hb.1 (by rw [sw60_6]; decide)]; unfold ev6; (repeat' split) <;> omega)) [0, 1, 2, 3, 4, 5, 6] rfl rfl (by decide) (by decide) d_Model_worked_232
    refine V_aload_n F 1 d_Model_worked_26 rfl rfl ?_
    refine V_get F 0 CI_Model 6 i_Model rfl rfl (by decide) m_602 rfl rfl d_Model_worked_27 ?_
    refine V_iload_n F 2 d_Model_worked_30 rfl rfl ?_
    refine V_ialdnN F 2 0 (k := i) rfl rfl (by omega) (by decide) d_Model_worked_31 ?_
    refine V_callS_i (w1 := fun (u_ : Unit) => [(x0, .inr (CI_Model, [.int (nI th), .int (nI nn), .ref x1, .ref x2, .ref x3, .ref x4, .ref x5, .ref x6, .ref x7, .ref x8, .ref x9, .ref x10, .ref x11, .int (nI n), .ref x12, .ref x13, .ref x14, .ref x15, .ref x16, .ref x17, .ref x18, .ref x19, .ref x20, .int (bP bt), .int (nI sg)])), (x1, .inl (cI, 80, .inl (cN v))), (x5, .inl (cI, 60, .inl (cN k))), (x7, .inl (cI, 60, .inl A)), (x8, .inl (cI, 60, .inl B)), (x9, .inl (cI, 60, .inl C)), (x10, .inl (cI, 60, .inl (cN q)))]) (wr := [(x0, .inr (CI_Model, [.int (nI th), .int (nI nn), .ref x1, .ref x2, .ref x3, .ref x4, .ref x5, .ref x6, .ref x7, .ref x8, .ref x9, .ref x10, .ref x11, .int (nI n), .ref x12, .ref x13, .ref x14, .ref x15, .ref x16, .ref x17, .ref x18, .ref x19, .ref x20, .int (bP bt), .int (nI sg)])), (x1, .inl (cI, 80, .inl (cN v))), (x5, .inl (cI, 60, .inl (cN k))), (x7, .inl (cI, 60, .inl A)), (x8, .inl (cI, 60, .inl B)), (x9, .inl (cI, 60, .inl C)), (x10, .inl (cI, 60, .inl (cN q)))]) (isC := []) (isR := [0, 1, 2, 3, 4, 5, 6]) (pm := [0, 1, 2, 3, 4, 5, 6]) (As := [.int (nI (k i))]) (rest := []) F (c_Model_inputs l D cI cL cB (k i) (by first | assumption | omega | (simp only [] at *; omega))) (cS_S 1 F.ts m_686 m_687 m_42 m_688 (by decide +kernel) ⟨Nat.le_of_ble_eq_true rfl, Nat.le_of_ble_eq_true rfl⟩) rfl (Nat.le_of_ble_eq_true rfl) d_Model_worked_32 ⟨Nat.le_of_ble_eq_true rfl, Nat.le_of_ble_eq_true rfl⟩ ⟨rfl, rfl, rfl, rfl, rfl, fun _ => rfl, rfl⟩ (fun r32 uu32 q32_ => ?_) rfl
    subst q32_
    refine V_iconst F (v := 1) d_Model_worked_35 rfl ?_
    refine V_icmpn_le F 52 (a := inpN (k i)) (b := 1) (by omega) (by omega) d_Model_worked_36 (by decide) (fun h36 => ?_) (fun h36 => ?_)
    · skip
      refine V_iconst F (v := 0) d_Model_worked_52 rfl ?_
      refine V_istore_n F (lv' := [(3, .int (nI 0)), (2, .int (nI (asI (v (iN A B C i 0))))), (0, .ref x0), (1, .int (nI i))]) d_Model_worked_53 rfl (by decide) rfl ?_
      refine V_lv [2, 3, 1, 0] rfl ?_
      exact L54 0 ⟨fun z => absurd (Nat.lt_of_lt_of_le z (depN_le _)) (by omega), by omega⟩
    · skip
      have hv1 : vp_in (B i) nn := (hw i hi).2.2.1 1 (by omega)
      have hvB : v (iN A B C i 1) ≤ 3 := hv _ (vp_lt hv1)
      refine V_aload_n F 1 d_Model_worked_39 rfl rfl ?_
      refine V_aload_n F 1 d_Model_worked_40 rfl rfl ?_
      refine V_get F 0 CI_Model 9 i_Model rfl rfl (by decide) m_605 rfl rfl d_Model_worked_41 ?_
      refine V_iload_n F 2 d_Model_worked_44 rfl rfl ?_
      refine V_ialdn F 4 0 (k := i) rfl rfl (by omega) (by decide) d_Model_worked_45 ?_
      refine V_top (y := nI (iN A B C i 1)) (vin_nI hv1 (by omega)) ?_
      refine V_callV_i (w1 := fun (u_ : Unit) => [(x0, .inr (CI_Model, [.int (nI th), .int (nI nn), .ref x1, .ref x2, .ref x3, .ref x4, .ref x5, .ref x6, .ref x7, .ref x8, .ref x9, .ref x10, .ref x11, .int (nI n), .ref x12, .ref x13, .ref x14, .ref x15, .ref x16, .ref x17, .ref x18, .ref x19, .ref x20, .int (bP bt), .int (nI sg)])), (x1, .inl (cI, 80, .inl (cN v))), (x5, .inl (cI, 60, .inl (cN k))), (x7, .inl (cI, 60, .inl A)), (x8, .inl (cI, 60, .inl B)), (x9, .inl (cI, 60, .inl C)), (x10, .inl (cI, 60, .inl (cN q)))]) (wr := [(x5, .inl (cI, 60, .inl (cN k))), (x7, .inl (cI, 60, .inl A)), (x8, .inl (cI, 60, .inl B)), (x9, .inl (cI, 60, .inl C)), (x10, .inl (cI, 60, .inl (cN q)))]) (isC := [0, 1]) (isR := [2, 3, 4, 5, 6]) (pm := [5, 6, 0, 1, 2, 3, 4]) (As := [.int (nI (iN A B C i 1))]) (rest := []) F (c_Model_read l D cI cL cB x0 x1 x2 x3 x4 x5 x6 x7 x8 x9 x10 x11 x12 x13 x14 x15 x16 x17 x18 x19 x20 th nn n sg bt v (iN A B C i 1) (Nat.lt_of_lt_of_le (vp_lt hv1) hnn) hvB) (cS_V 1 F.ts m_743 m_744 m_32 m_42 m_745 (by decide +kernel) ⟨Nat.le_of_ble_eq_true rfl, Nat.le_of_ble_eq_true rfl⟩) (ci := CI_Model) (q0 := 0) rfl rfl rfl (Nat.le_of_ble_eq_true rfl) d_Model_worked_46 ⟨Nat.le_of_ble_eq_true rfl, Nat.le_of_ble_eq_true rfl⟩ ⟨rfl, rfl, rfl, rfl, rfl, fun _ => rfl, rfl⟩ (fun r46 uu46 q46_ => ?_) rfl
      subst q46_
      refine V_goto F 53 d_Model_worked_49 (by decide) ?_
      refine V_istore_n F (lv' := [(3, .int (nI (asI (v (iN A B C i 1))))), (2, .int (nI (asI (v (iN A B C i 0))))), (0, .ref x0), (1, .int (nI i))]) d_Model_worked_53 rfl (by decide) rfl ?_
      refine V_lv [2, 3, 1, 0] rfl ?_
      exact L54 (asI (v (iN A B C i 1))) ⟨fun _ => rfl, asI_le (hv _ (vp_lt hv1))⟩
  · skip
    refine V_aload_n F 0 d_Model_worked_8 rfl rfl ?_
    refine V_get F 0 CI_Model 11 i_Model rfl rfl (by decide) m_607 rfl rfl d_Model_worked_9 ?_
    refine V_iload_n F 1 d_Model_worked_12 rfl rfl ?_
    refine V_ialdnN F 6 0 (k := i) rfl rfl (by omega) (by decide) d_Model_worked_13 ?_
    exact V_iret F hr () (congrArg nI (evc_j.2.2.2.2.2.2.2 (by omega))) [0, 1, 2, 3, 4, 5, 6] rfl rfl (by decide) (by decide) d_Model_worked_14

set_option maxHeartbeats 4000000 in
set_option maxRecDepth 100000 in
theorem c_Model_joined (l : Launch) (D : va_G) (cI cL cB : ClassId) (x0 : Nat) (x1 : Nat) (x2 : Nat) (x3 : Nat) (x4 : Nat) (x5 : Nat) (x6 : Nat) (x7 : Nat) (x8 : Nat) (x9 : Nat) (x10 : Nat) (x11 : Nat) (x12 : Nat) (x13 : Nat) (x14 : Nat) (x15 : Nat) (x16 : Nat) (x17 : Nat) (x18 : Nat) (x19 : Nat) (x20 : Nat) (th : Nat) (nn : Nat) (n : Nat) (sg : Nat) (bt : Prop) (sk : Nat → Nat) (o : Nat → Nat) (dr : Nat → Nat) (j : Nat) (hn : n ≤ 60) (hj : j < 80) (hsk : sk j ≤ 3) (ho : ∀ i, i < n → o i < 100) (hd : ∀ i, i < n → dr i ≤ 3) : Cti l y_Model_joined (wK w_Model_joined) ({ frames := 0, cells := 0, slots := 0, locals := 0 }) D classes (TY cI cL cB) [.ref x0, .int (nI j)] [(x0, .inr (CI_Model, [.int (nI th), .int (nI nn), .ref x1, .ref x2, .ref x3, .ref x4, .ref x5, .ref x6, .ref x7, .ref x8, .ref x9, .ref x10, .ref x11, .int (nI n), .ref x12, .ref x13, .ref x14, .ref x15, .ref x16, .ref x17, .ref x18, .ref x19, .ref x20, .int (bP bt), .int (nI sg)])), (x3, .inl (cI, 80, .inl (cS sk))), (x6, .inl (cI, 60, .inl (cN o))), (x11, .inl (cI, 60, .inl (cN dr)))] (fun (r : Int32) (u_ : Unit) => r = nI (if sk j = 0 then jf o dr j n else sk j - 1)) (fun (u_ : Unit) => [(x0, .inr (CI_Model, [.int (nI th), .int (nI nn), .ref x1, .ref x2, .ref x3, .ref x4, .ref x5, .ref x6, .ref x7, .ref x8, .ref x9, .ref x10, .ref x11, .int (nI n), .ref x12, .ref x13, .ref x14, .ref x15, .ref x16, .ref x17, .ref x18, .ref x19, .ref x20, .int (bP bt), .int (nI sg)])), (x3, .inl (cI, 80, .inl (cS sk))), (x6, .inl (cI, 60, .inl (cN o))), (x11, .inl (cI, 60, .inl (cN dr)))]) 0 0 := by
  refine Ctg_of (cc := prog_9_method_24_code) (maxL := 4) (ret := (some .int)) "CircuitSimulatorModel" [(0, .ref x0), (1, .int (nI j))] (by decide) rfl rfl (Nat.le_of_ble_eq_true rfl) rfl ?_
  intro p_ e_ s_ m_ args_ below_ meth_ c_ A_ F hr hin
  refine V_aload_n F 0 d_Model_joined_0 rfl rfl ?_
  refine V_get F 0 CI_Model 4 i_Model rfl rfl (by decide) m_600 rfl rfl d_Model_joined_1 ?_
  refine V_iload_n F 1 d_Model_joined_4 rfl rfl ?_
  refine V_ialdnS F 1 0 (k := j) rfl rfl (by omega) (by decide) d_Model_joined_5 ?_
  refine V_ifs_lt F 16 (a := sk j) (by omega) d_Model_joined_6 (by decide) (fun h6 => ?_) (fun h6 => ?_)
  · skip
    refine V_iconst F (v := 3) d_Model_joined_16 rfl ?_
    refine V_istore_n F (lv' := [(2, .int (nI 3)), (0, .ref x0), (1, .int (nI j))]) d_Model_joined_17 rfl (by decide) rfl ?_
    refine V_iconst F (v := 0) d_Model_joined_18 rfl ?_
    refine V_istore_n F (lv' := [(3, .int (nI 0)), (2, .int (nI 3)), (0, .ref x0), (1, .int (nI j))]) d_Model_joined_19 rfl (by decide) rfl ?_
    have L20 : ∀ (f_ : Nat) (i : Nat) (y : Nat), n - i < f_ → (i ≤ n) → (y = jf o dr j i) → V p_ l e_ ({ frames := 0, cells := 0, slots := 0, locals := 0 }) s_ m_ args_ below_ meth_ c_ A_ (MQ below_ (cQi D classes (fun (r : Int32) (u_ : Unit) => r = nI (if sk j = 0 then jf o dr j n else sk j - 1)) (fun (u_ : Unit) => [(x0, .inr (CI_Model, [.int (nI th), .int (nI nn), .ref x1, .ref x2, .ref x3, .ref x4, .ref x5, .ref x6, .ref x7, .ref x8, .ref x9, .ref x10, .ref x11, .int (nI n), .ref x12, .ref x13, .ref x14, .ref x15, .ref x16, .ref x17, .ref x18, .ref x19, .ref x20, .int (bP bt), .int (nI sg)])), (x3, .inl (cI, 80, .inl (cS sk))), (x6, .inl (cI, 60, .inl (cN o))), (x11, .inl (cI, 60, .inl (cN dr)))]) A_) args_ s_ 0 0 A_) D classes 4 0 0 [(x0, .inr (CI_Model, [.int (nI th), .int (nI nn), .ref x1, .ref x2, .ref x3, .ref x4, .ref x5, .ref x6, .ref x7, .ref x8, .ref x9, .ref x10, .ref x11, .int (nI n), .ref x12, .ref x13, .ref x14, .ref x15, .ref x16, .ref x17, .ref x18, .ref x19, .ref x20, .int (bP bt), .int (nI sg)])), (x3, .inl (cI, 80, .inl (cS sk))), (x6, .inl (cI, 60, .inl (cN o))), (x11, .inl (cI, 60, .inl (cN dr)))] 20 [(0, .ref x0), (1, .int (nI j)), (2, .int (nI y)), (3, .int (nI i))] [] := by
      intro f_
      induction f_ with
      | zero => intro i y hm_; exact absurd hm_ (Nat.not_lt_zero _)
      | succ f_ ih20 =>
        intro i y hm20 hi hy
        refine V_iload_n F 3 d_Model_joined_20 rfl rfl ?_
        refine V_aload_n F 0 d_Model_joined_21 rfl rfl ?_
        refine V_get F 0 CI_Model 13 i_Model rfl rfl (by decide) m_609 rfl rfl d_Model_joined_22 ?_
        refine V_icmpn_ge F 83 (a := i) (b := n) (by omega) (by omega) d_Model_joined_25 (by decide) (fun h25 => ?_) (fun h25 => ?_)
        · skip
          refine V_iload_n F 2 d_Model_joined_83 rfl rfl ?_
          exact V_iret F hr () (by rw [if_pos h6, hy, show i = n by omega]) [0, 1, 2, 3] rfl rfl (by decide) (by decide) d_Model_joined_84
        · skip
          have ho8 := ho i (by omega)
          have hd8 := hd i (by omega)
          have hy3 : y ≤ 3 := by rw [hy]; exact jf_le (fun t ht => hd t (by omega))
          refine V_aload_n F 0 d_Model_joined_28 rfl rfl ?_
          refine V_get F 0 CI_Model 7 i_Model rfl rfl (by decide) m_603 rfl rfl d_Model_joined_29 ?_
          refine V_iload_n F 3 d_Model_joined_32 rfl rfl ?_
          refine V_ialdnN F 2 0 (k := i) rfl rfl (by omega) (by decide) d_Model_joined_33 ?_
          refine V_iload_n F 1 d_Model_joined_34 rfl rfl ?_
          refine V_icmpn_ne F 77 (a := o i) (b := j) (by omega) (by omega) d_Model_joined_35 (by decide) (fun h35 => ?_) (fun h35 => ?_)
          · skip
            refine V_iinc F 3 (v := nI (i + 1)) (lv' := [(3, .int (nI (i + 1))), (0, .ref x0), (1, .int (nI j)), (2, .int (nI y))]) d_Model_joined_77 rfl (nI_inc _) (by decide) rfl ?_
            refine V_goto F 20 d_Model_joined_80 (by decide) ?_
            refine V_lv [1, 2, 3, 0] rfl ?_
            exact ih20 (i + 1) y (by omega) (by first | assumption | omega | (simp only [] at *; omega)) (by rw [jf_skip h35]; exact hy)
          · skip
            refine V_aload_n F 0 d_Model_joined_38 rfl rfl ?_
            refine V_get F 0 CI_Model 12 i_Model rfl rfl (by decide) m_608 rfl rfl d_Model_joined_39 ?_
            refine V_iload_n F 3 d_Model_joined_42 rfl rfl ?_
            refine V_ialdnN F 3 0 (k := i) rfl rfl (by omega) (by decide) d_Model_joined_43 ?_
            refine V_iconst F (v := 3) d_Model_joined_44 rfl ?_
            refine V_icmpn_ne F 51 (a := dr i) (b := 3) (by omega) (by omega) d_Model_joined_45 (by decide) (fun h45 => ?_) (fun h45 => ?_)
            · skip
              refine V_iload_n F 2 d_Model_joined_51 rfl rfl ?_
              refine V_iconst F (v := 3) d_Model_joined_52 rfl ?_
              refine V_icmpn_eq F 66 (a := y) (b := 3) (by omega) (by omega) d_Model_joined_53 (by decide) (fun h53 => ?_) (fun h53 => ?_)
              · skip
                refine V_aload_n F 0 d_Model_joined_66 rfl rfl ?_
                refine V_get F 0 CI_Model 12 i_Model rfl rfl (by decide) m_608 rfl rfl d_Model_joined_67 ?_
                refine V_iload_n F 3 d_Model_joined_70 rfl rfl ?_
                refine V_ialdnN F 3 0 (k := i) rfl rfl (by omega) (by decide) d_Model_joined_71 ?_
                refine V_goto F 76 d_Model_joined_72 (by decide) ?_
                refine V_istore_n F (lv' := [(2, .int (nI (dr i))), (0, .ref x0), (1, .int (nI j)), (3, .int (nI i))]) d_Model_joined_76 rfl (by decide) rfl ?_
                refine V_iinc F 3 (v := nI (i + 1)) (lv' := [(3, .int (nI (i + 1))), (2, .int (nI (dr i))), (0, .ref x0), (1, .int (nI j))]) d_Model_joined_77 rfl (nI_inc _) (by decide) rfl ?_
                refine V_goto F 20 d_Model_joined_80 (by decide) ?_
                refine V_lv [2, 3, 1, 0] rfl ?_
                exact ih20 (i + 1) (dr i) (by omega) (by first | assumption | omega | (simp only [] at *; omega)) (by rw [jf_take h35, ← hy]; unfold jn; (repeat' split) <;> omega)
              · skip
                refine V_iload_n F 2 d_Model_joined_56 rfl rfl ?_
                refine V_aload_n F 0 d_Model_joined_57 rfl rfl ?_
                refine V_get F 0 CI_Model 12 i_Model rfl rfl (by decide) m_608 rfl rfl d_Model_joined_58 ?_
                refine V_iload_n F 3 d_Model_joined_61 rfl rfl ?_
                refine V_ialdnN F 3 0 (k := i) rfl rfl (by omega) (by decide) d_Model_joined_62 ?_
                refine V_icmpn_ne F 75 (a := y) (b := dr i) (by omega) (by omega) d_Model_joined_63 (by decide) (fun h63 => ?_) (fun h63 => ?_)
                · skip
                  refine V_iconst F (v := 2) d_Model_joined_75 rfl ?_
                  refine V_istore_n F (lv' := [(2, .int (nI 2)), (0, .ref x0), (1, .int (nI j)), (3, .int (nI i))]) d_Model_joined_76 rfl (by decide) rfl ?_
                  refine V_iinc F 3 (v := nI (i + 1)) (lv' := [(3, .int (nI (i + 1))), (2, .int (nI 2)), (0, .ref x0), (1, .int (nI j))]) d_Model_joined_77 rfl (nI_inc _) (by decide) rfl ?_
                  refine V_goto F 20 d_Model_joined_80 (by decide) ?_
                  refine V_lv [2, 3, 1, 0] rfl ?_
                  exact ih20 (i + 1) 2 (by omega) (by first | assumption | omega | (simp only [] at *; omega)) (by rw [jf_take h35, ← hy]; unfold jn; (repeat' split) <;> omega)
                · skip
                  refine V_aload_n F 0 d_Model_joined_66 rfl rfl ?_
                  refine V_get F 0 CI_Model 12 i_Model rfl rfl (by decide) m_608 rfl rfl d_Model_joined_67 ?_
                  refine V_iload_n F 3 d_Model_joined_70 rfl rfl ?_
                  refine V_ialdnN F 3 0 (k := i) rfl rfl (by omega) (by decide) d_Model_joined_71 ?_
                  refine V_goto F 76 d_Model_joined_72 (by decide) ?_
                  refine V_istore_n F (lv' := [(2, .int (nI (dr i))), (0, .ref x0), (1, .int (nI j)), (3, .int (nI i))]) d_Model_joined_76 rfl (by decide) rfl ?_
                  refine V_iinc F 3 (v := nI (i + 1)) (lv' := [(3, .int (nI (i + 1))), (2, .int (nI (dr i))), (0, .ref x0), (1, .int (nI j))]) d_Model_joined_77 rfl (nI_inc _) (by decide) rfl ?_
                  refine V_goto F 20 d_Model_joined_80 (by decide) ?_
                  refine V_lv [2, 3, 1, 0] rfl ?_
                  exact ih20 (i + 1) (dr i) (by omega) (by first | assumption | omega | (simp only [] at *; omega)) (by rw [jf_take h35, ← hy]; unfold jn; (repeat' split) <;> omega)
            · skip
              refine V_goto F 77 d_Model_joined_48 (by decide) ?_
              refine V_iinc F 3 (v := nI (i + 1)) (lv' := [(3, .int (nI (i + 1))), (0, .ref x0), (1, .int (nI j)), (2, .int (nI y))]) d_Model_joined_77 rfl (nI_inc _) (by decide) rfl ?_
              refine V_goto F 20 d_Model_joined_80 (by decide) ?_
              refine V_lv [1, 2, 3, 0] rfl ?_
              exact ih20 (i + 1) y (by omega) (by first | assumption | omega | (simp only [] at *; omega)) (by rw [jf_take h35, ← hy]; unfold jn; (repeat' split) <;> omega)
    refine V_lv [2, 3, 1, 0] rfl ?_
    exact L20 ((n - 0) + 1) 0 3 (Nat.lt_succ_self _) (by first | assumption | omega | (simp only [] at *; omega)) rfl
  · skip
    refine V_aload_n F 0 d_Model_joined_9 rfl rfl ?_
    refine V_get F 0 CI_Model 4 i_Model rfl rfl (by decide) m_600 rfl rfl d_Model_joined_10 ?_
    refine V_iload_n F 1 d_Model_joined_13 rfl rfl ?_
    refine V_ialdnS F 1 0 (k := j) rfl rfl (by omega) (by decide) d_Model_joined_14 ?_
    exact V_iret F hr () (by rw [if_neg h6]; exact st_sub (by omega)) [0, 1, 2, 3] rfl rfl (by decide) (by decide) d_Model_joined_15
