set_option maxHeartbeats 4000000 in
set_option maxRecDepth 100000 in
theorem c_Levels_begin (l : Launch) (D : va_G) (cI cL cB : ClassId) (l0 : Nat) (l1 : Nat) (l2 : Nat) (l3 : Nat) (l4 : Nat) (gr : Nat) (oc : Nat) (g : Nat → Nat) (od : Nat → Nat) (wt : Nat → Nat) (pl : Nat → Prop) (c0 : Nat) (c1 : Nat) (c2 : Nat) (c3 : Nat) (c4 : Nat) (c5 : Nat) (c6 : Nat) (n : Nat) (k : Nat → Nat) (o : Nat → Nat) (q : Nat → Nat) (A : Nat → Int32) (B : Nat → Int32) (C : Nat → Int32) (nn : Nat) (hn : n ≤ 60) (hnn : nn ≤ 80) (ho : ∀ i, i < n → o i < nn) : Ctv l y_Levels_begin (wK w_Levels_begin) ({ frames := 0, cells := 0, slots := 0, locals := 0 }) D classes (TY cI cL cB) [.ref l0, .ref c0, .int (nI nn)] [(l0, .inr (CI_Levels, [.ref l1, .ref l2, .int (nI gr), .ref l3, .ref l4, .int (nI oc)])), (l1, .inl (cI, 80, .inl (cN g))), (l2, .inl (cI, 60, .inl (cN od))), (l3, .inl (cI, 80, .inl (cN wt))), (l4, .inl (cB, 60, .inl (cT pl))), (c0, .inr (CI_Cells, [.ref c1, .ref c2, .ref c3, .ref c4, .ref c5, .ref c6, .int (nI n)])), (c1, .inl (cI, 60, .inl (cN k))), (c2, .inl (cI, 60, .inl (cN o))), (c3, .inl (cI, 60, .inl A)), (c4, .inl (cI, 60, .inl B)), (c5, .inl (cI, 60, .inl C)), (c6, .inl (cI, 60, .inl (cN q)))] (fun (u_ : (Nat → Nat) × (Nat → Nat) × (Nat → Prop)) => (∀ c, c < n → ¬ u_.2.2 c) ∧ (∀ j, j < nn → u_.2.1 j = cnt (fun c => o c = j) n) ∧ (∀ j, j < nn → u_.1 j = if u_.2.1 j = 0 then 0 else 31)) (fun (u_ : (Nat → Nat) × (Nat → Nat) × (Nat → Prop)) => [(l0, .inr (CI_Levels, [.ref l1, .ref l2, .int (nI 0), .ref l3, .ref l4, .int (nI 0)])), (l1, .inl (cI, 80, .inl (cN u_.1))), (l2, .inl (cI, 60, .inl (cN od))), (l3, .inl (cI, 80, .inl (cN u_.2.1))), (l4, .inl (cB, 60, .inl (cT u_.2.2))), (c0, .inr (CI_Cells, [.ref c1, .ref c2, .ref c3, .ref c4, .ref c5, .ref c6, .int (nI n)])), (c1, .inl (cI, 60, .inl (cN k))), (c2, .inl (cI, 60, .inl (cN o))), (c3, .inl (cI, 60, .inl A)), (c4, .inl (cI, 60, .inl B)), (c5, .inl (cI, 60, .inl C)), (c6, .inl (cI, 60, .inl (cN q)))]) 0 0 := by
  refine Ctg_of (cc := prog_4_method_3_code) (maxL := 4) (ret := none) "CircuitSimulator$Levels" [(0, .ref l0), (1, .ref c0), (2, .int (nI nn))] (by decide) rfl rfl (Nat.le_of_ble_eq_true rfl) rfl ?_
  intro p_ e_ s_ m_ args_ below_ meth_ c_ A_ F hr hin
  refine V_aload_n F 0 d_Levels_begin_0 rfl rfl ?_
  refine V_iconst F (v := 0) d_Levels_begin_1 rfl ?_
  refine V_put F 0 CI_Levels 2 (w' := [(l0, .inr (CI_Levels, [.ref l1, .ref l2, .int (nI 0), .ref l3, .ref l4, .int (nI oc)])), (l1, .inl (cI, 80, .inl (cN g))), (l2, .inl (cI, 60, .inl (cN od))), (l3, .inl (cI, 80, .inl (cN wt))), (l4, .inl (cB, 60, .inl (cT pl))), (c0, .inr (CI_Cells, [.ref c1, .ref c2, .ref c3, .ref c4, .ref c5, .ref c6, .int (nI n)])), (c1, .inl (cI, 60, .inl (cN k))), (c2, .inl (cI, 60, .inl (cN o))), (c3, .inl (cI, 60, .inl A)), (c4, .inl (cI, 60, .inl B)), (c5, .inl (cI, 60, .inl C)), (c6, .inl (cI, 60, .inl (cN q)))]) t_Levels tk_Levels n_Levels i_Levels rfl rfl (by decide) m_140 rfl rfl rfl rfl (Nat.le_of_ble_eq_true rfl) rfl d_Levels_begin_2 ?_
  refine V_aload_n F 0 d_Levels_begin_5 rfl rfl ?_
  refine V_iconst F (v := 0) d_Levels_begin_6 rfl ?_
  refine V_put F 0 CI_Levels 5 (w' := [(l0, .inr (CI_Levels, [.ref l1, .ref l2, .int (nI 0), .ref l3, .ref l4, .int (nI 0)])), (l1, .inl (cI, 80, .inl (cN g))), (l2, .inl (cI, 60, .inl (cN od))), (l3, .inl (cI, 80, .inl (cN wt))), (l4, .inl (cB, 60, .inl (cT pl))), (c0, .inr (CI_Cells, [.ref c1, .ref c2, .ref c3, .ref c4, .ref c5, .ref c6, .int (nI n)])), (c1, .inl (cI, 60, .inl (cN k))), (c2, .inl (cI, 60, .inl (cN o))), (c3, .inl (cI, 60, .inl A)), (c4, .inl (cI, 60, .inl B)), (c5, .inl (cI, 60, .inl C)), (c6, .inl (cI, 60, .inl (cN q)))]) t_Levels tk_Levels n_Levels i_Levels rfl rfl (by decide) m_144 rfl rfl rfl rfl (Nat.le_of_ble_eq_true rfl) rfl d_Levels_begin_7 ?_
  refine V_iconst F (v := 0) d_Levels_begin_10 rfl ?_
  refine V_istore_n F (lv' := [(3, .int (nI 0)), (0, .ref l0), (1, .ref c0), (2, .int (nI nn))]) d_Levels_begin_11 rfl (by decide) rfl ?_
  have L12 : ∀ (f_ : Nat) (i : Nat) (g2 : Nat → Nat) (wt2 : Nat → Nat), nn - i < f_ → (i ≤ nn) → (∀ j, j < i → g2 j = 0) → (∀ j, j < i → wt2 j = 0) → V p_ l e_ ({ frames := 0, cells := 0, slots := 0, locals := 0 }) s_ m_ args_ below_ meth_ c_ A_ (MQ below_ (cQv D classes (fun (u_ : (Nat → Nat) × (Nat → Nat) × (Nat → Prop)) => (∀ c, c < n → ¬ u_.2.2 c) ∧ (∀ j, j < nn → u_.2.1 j = cnt (fun c => o c = j) n) ∧ (∀ j, j < nn → u_.1 j = if u_.2.1 j = 0 then 0 else 31)) (fun (u_ : (Nat → Nat) × (Nat → Nat) × (Nat → Prop)) => [(l0, .inr (CI_Levels, [.ref l1, .ref l2, .int (nI 0), .ref l3, .ref l4, .int (nI 0)])), (l1, .inl (cI, 80, .inl (cN u_.1))), (l2, .inl (cI, 60, .inl (cN od))), (l3, .inl (cI, 80, .inl (cN u_.2.1))), (l4, .inl (cB, 60, .inl (cT u_.2.2))), (c0, .inr (CI_Cells, [.ref c1, .ref c2, .ref c3, .ref c4, .ref c5, .ref c6, .int (nI n)])), (c1, .inl (cI, 60, .inl (cN k))), (c2, .inl (cI, 60, .inl (cN o))), (c3, .inl (cI, 60, .inl A)), (c4, .inl (cI, 60, .inl B)), (c5, .inl (cI, 60, .inl C)), (c6, .inl (cI, 60, .inl (cN q)))]) A_) args_ s_ 0 0 A_) D classes 4 0 0 [(l0, .inr (CI_Levels, [.ref l1, .ref l2, .int (nI 0), .ref l3, .ref l4, .int (nI 0)])), (l1, .inl (cI, 80, .inl (cN g2))), (l2, .inl (cI, 60, .inl (cN od))), (l3, .inl (cI, 80, .inl (cN wt2))), (l4, .inl (cB, 60, .inl (cT pl))), (c0, .inr (CI_Cells, [.ref c1, .ref c2, .ref c3, .ref c4, .ref c5, .ref c6, .int (nI n)])), (c1, .inl (cI, 60, .inl (cN k))), (c2, .inl (cI, 60, .inl (cN o))), (c3, .inl (cI, 60, .inl A)), (c4, .inl (cI, 60, .inl B)), (c5, .inl (cI, 60, .inl C)), (c6, .inl (cI, 60, .inl (cN q)))] 12 [(0, .ref l0), (1, .ref c0), (2, .int (nI nn)), (3, .int (nI i))] [] := by
    intro f_
    induction f_ with
    | zero => intro i g2 wt2 hm_; exact absurd hm_ (Nat.not_lt_zero _)
    | succ f_ ih12 =>
      intro i g2 wt2 hm12 hi hG hW
      refine V_iload_n F 3 d_Levels_begin_12 rfl rfl ?_
      refine V_iload_n F 2 d_Levels_begin_13 rfl rfl ?_
      refine V_icmpn_ge F 37 (a := i) (b := nn) (by omega) (by omega) d_Levels_begin_14 (by decide) (fun h14 => ?_) (fun h14 => ?_)
      · skip
        refine V_iconst F (v := 0) d_Levels_begin_37 rfl ?_
        refine V_istore_n F (lv' := [(3, .int (nI 0)), (0, .ref l0), (1, .ref c0), (2, .int (nI nn))]) d_Levels_begin_38 rfl (by decide) rfl ?_
        have L39 : ∀ (f_ : Nat) (i3 : Nat) (g3 : Nat → Nat) (wt3 : Nat → Nat) (pl3 : Nat → Prop), n - i3 < f_ → (i3 ≤ n) → (∀ c, c < i3 → ¬ pl3 c) → (LB nn o i3 g3 wt3) → V p_ l e_ ({ frames := 0, cells := 0, slots := 0, locals := 0 }) s_ m_ args_ below_ meth_ c_ A_ (MQ below_ (cQv D classes (fun (u_ : (Nat → Nat) × (Nat → Nat) × (Nat → Prop)) => (∀ c, c < n → ¬ u_.2.2 c) ∧ (∀ j, j < nn → u_.2.1 j = cnt (fun c => o c = j) n) ∧ (∀ j, j < nn → u_.1 j = if u_.2.1 j = 0 then 0 else 31)) (fun (u_ : (Nat → Nat) × (Nat → Nat) × (Nat → Prop)) => [(l0, .inr (CI_Levels, [.ref l1, .ref l2, .int (nI 0), .ref l3, .ref l4, .int (nI 0)])), (l1, .inl (cI, 80, .inl (cN u_.1))), (l2, .inl (cI, 60, .inl (cN od))), (l3, .inl (cI, 80, .inl (cN u_.2.1))), (l4, .inl (cB, 60, .inl (cT u_.2.2))), (c0, .inr (CI_Cells, [.ref c1, .ref c2, .ref c3, .ref c4, .ref c5, .ref c6, .int (nI n)])), (c1, .inl (cI, 60, .inl (cN k))), (c2, .inl (cI, 60, .inl (cN o))), (c3, .inl (cI, 60, .inl A)), (c4, .inl (cI, 60, .inl B)), (c5, .inl (cI, 60, .inl C)), (c6, .inl (cI, 60, .inl (cN q)))]) A_) args_ s_ 0 0 A_) D classes 4 0 0 [(l0, .inr (CI_Levels, [.ref l1, .ref l2, .int (nI 0), .ref l3, .ref l4, .int (nI 0)])), (l1, .inl (cI, 80, .inl (cN g3))), (l2, .inl (cI, 60, .inl (cN od))), (l3, .inl (cI, 80, .inl (cN wt3))), (l4, .inl (cB, 60, .inl (cT pl3))), (c0, .inr (CI_Cells, [.ref c1, .ref c2, .ref c3, .ref c4, .ref c5, .ref c6, .int (nI n)])), (c1, .inl (cI, 60, .inl (cN k))), (c2, .inl (cI, 60, .inl (cN o))), (c3, .inl (cI, 60, .inl A)), (c4, .inl (cI, 60, .inl B)), (c5, .inl (cI, 60, .inl C)), (c6, .inl (cI, 60, .inl (cN q)))] 39 [(0, .ref l0), (1, .ref c0), (2, .int (nI nn)), (3, .int (nI i3))] [] := by
          intro f_
          induction f_ with
          | zero => intro i3 g3 wt3 pl3 hm_; exact absurd hm_ (Nat.not_lt_zero _)
          | succ f_ ih39 =>
            intro i3 g3 wt3 pl3 hm39 hi3 hP hB
            refine V_iload_n F 3 d_Levels_begin_39 rfl rfl ?_
            refine V_aload_n F 1 d_Levels_begin_40 rfl rfl ?_
            refine V_get F 5 CI_Cells 6 i_Cells rfl rfl (by decide) m_81 rfl rfl d_Levels_begin_41 ?_
            refine V_icmpn_ge F 88 (a := i3) (b := n) (by omega) (by omega) d_Levels_begin_44 (by decide) (fun h44 => ?_) (fun h44 => ?_)
            · skip
              exact V_vret F hr (g3, wt3, pl3) (show (∀ c, c < n → ¬ pl3 c) ∧ (∀ j, j < nn → wt3 j = cnt (fun c => o c = j) n) ∧ (∀ j, j < nn → g3 j = if wt3 j = 0 then 0 else 31) from (by have e : i3 = n := (by omega); subst e; exact ⟨hP, fun j hj => (hB j hj).1, fun j hj => (hB j hj).2⟩)) [0, 1, 2, 3, 4, 5, 6, 7, 8, 9, 10, 11] rfl rfl (by decide) (by decide) d_Levels_begin_88
            · skip
              have ho8 := ho i3 (by omega)
              have hb8 := hB.le (j := o i3) ho8
              refine V_aload_n F 0 d_Levels_begin_47 rfl rfl ?_
              refine V_get F 0 CI_Levels 4 i_Levels rfl rfl (by decide) m_143 rfl rfl d_Levels_begin_48 ?_
              refine V_iload_n F 3 d_Levels_begin_51 rfl rfl ?_
              refine V_iconst F (v := 0) d_Levels_begin_52 rfl ?_
              refine V_top (y := bP False) (bP_f id).symm ?_
              refine V_zastn F 4 2 (k := i3) (w' := [(l0, .inr (CI_Levels, [.ref l1, .ref l2, .int (nI 0), .ref l3, .ref l4, .int (nI 0)])), (l1, .inl (cI, 80, .inl (cN g3))), (l2, .inl (cI, 60, .inl (cN od))), (l3, .inl (cI, 80, .inl (cN wt3))), (l4, .inl (cB, 60, .inl (cT (up pl3 i3 False)))), (c0, .inr (CI_Cells, [.ref c1, .ref c2, .ref c3, .ref c4, .ref c5, .ref c6, .int (nI n)])), (c1, .inl (cI, 60, .inl (cN k))), (c2, .inl (cI, 60, .inl (cN o))), (c3, .inl (cI, 60, .inl A)), (c4, .inl (cI, 60, .inl B)), (c5, .inl (cI, 60, .inl C)), (c6, .inl (cI, 60, .inl (cN q)))]) rfl rfl (by omega) (by decide) (bP_vnar _) (by rw [upd_cT] <;> rfl) d_Levels_begin_53 ?_
              refine V_aload_n F 0 d_Levels_begin_54 rfl rfl ?_
              refine V_get F 0 CI_Levels 0 i_Levels rfl rfl (by decide) m_136 rfl rfl d_Levels_begin_55 ?_
              refine V_aload_n F 1 d_Levels_begin_58 rfl rfl ?_
              refine V_get F 5 CI_Cells 1 i_Cells rfl rfl (by decide) m_71 rfl rfl d_Levels_begin_59 ?_
              refine V_iload_n F 3 d_Levels_begin_62 rfl rfl ?_
              refine V_ialdnN F 7 0 (k := i3) rfl rfl (by omega) (by decide) d_Levels_begin_63 ?_
              refine V_bipush F (v := 31) d_Levels_begin_64 rfl ?_
              refine V_top (y := nI 31) rfl ?_
              refine V_iastn F 1 0 (k := o i3) (w' := [(l0, .inr (CI_Levels, [.ref l1, .ref l2, .int (nI 0), .ref l3, .ref l4, .int (nI 0)])), (l1, .inl (cI, 80, .inl (cN (up g3 (o i3) 31)))), (l2, .inl (cI, 60, .inl (cN od))), (l3, .inl (cI, 80, .inl (cN wt3))), (l4, .inl (cB, 60, .inl (cT (up pl3 i3 False)))), (c0, .inr (CI_Cells, [.ref c1, .ref c2, .ref c3, .ref c4, .ref c5, .ref c6, .int (nI n)])), (c1, .inl (cI, 60, .inl (cN k))), (c2, .inl (cI, 60, .inl (cN o))), (c3, .inl (cI, 60, .inl A)), (c4, .inl (cI, 60, .inl B)), (c5, .inl (cI, 60, .inl C)), (c6, .inl (cI, 60, .inl (cN q)))]) rfl rfl (by omega) (by decide) (by rw [upd_cN] <;> rfl) d_Levels_begin_66 ?_
              refine V_aload_n F 0 d_Levels_begin_67 rfl rfl ?_
              refine V_get F 0 CI_Levels 3 i_Levels rfl rfl (by decide) m_142 rfl rfl d_Levels_begin_68 ?_
              refine V_aload_n F 1 d_Levels_begin_71 rfl rfl ?_
              refine V_get F 5 CI_Cells 1 i_Cells rfl rfl (by decide) m_71 rfl rfl d_Levels_begin_72 ?_
              refine V_iload_n F 3 d_Levels_begin_75 rfl rfl ?_
              refine V_ialdnN F 7 0 (k := i3) rfl rfl (by omega) (by decide) d_Levels_begin_76 ?_
              refine V_dup2 F d_Levels_begin_77 rfl rfl ?_
              refine V_ialdnN F 3 0 (k := o i3) rfl rfl (by omega) (by decide) d_Levels_begin_78 ?_
              refine V_iconst F (v := 1) d_Levels_begin_79 rfl ?_
              refine V_iadd F d_Levels_begin_80 ?_
              refine V_top (y := nI ((wt3 (o i3)) + 1)) (nI_add _ _) ?_
              refine V_iastn F 3 0 (k := o i3) (w' := [(l0, .inr (CI_Levels, [.ref l1, .ref l2, .int (nI 0), .ref l3, .ref l4, .int (nI 0)])), (l1, .inl (cI, 80, .inl (cN (up g3 (o i3) 31)))), (l2, .inl (cI, 60, .inl (cN od))), (l3, .inl (cI, 80, .inl (cN (up wt3 (o i3) ((wt3 (o i3)) + 1))))), (l4, .inl (cB, 60, .inl (cT (up pl3 i3 False)))), (c0, .inr (CI_Cells, [.ref c1, .ref c2, .ref c3, .ref c4, .ref c5, .ref c6, .int (nI n)])), (c1, .inl (cI, 60, .inl (cN k))), (c2, .inl (cI, 60, .inl (cN o))), (c3, .inl (cI, 60, .inl A)), (c4, .inl (cI, 60, .inl B)), (c5, .inl (cI, 60, .inl C)), (c6, .inl (cI, 60, .inl (cN q)))]) rfl rfl (by omega) (by decide) (by rw [upd_cN] <;> rfl) d_Levels_begin_81 ?_
              refine V_iinc F 3 (v := nI (i3 + 1)) (lv' := [(3, .int (nI (i3 + 1))), (0, .ref l0), (1, .ref c0), (2, .int (nI nn))]) d_Levels_begin_82 rfl (nI_inc _) (by decide) rfl ?_
              refine V_goto F 39 d_Levels_begin_85 (by decide) ?_
              refine V_lv [1, 2, 3, 0] rfl ?_
              exact ih39 (i3 + 1) (up g3 (o i3) 31) (up wt3 (o i3) ((wt3 (o i3)) + 1)) (up pl3 i3 False) (by omega) (by first | assumption | omega | (simp only [] at *; omega)) (up_allP hP id) (hB.step ho8)
        refine V_lv [1, 2, 3, 0] rfl ?_
        exact L39 ((n - 0) + 1) 0 g2 wt2 pl (Nat.lt_succ_self _) (by first | assumption | omega | (simp only [] at *; omega)) (fun t h => absurd h (Nat.not_lt_zero t)) (LB.start (fun j hj => hG j (by omega)) (fun j hj => hW j (by omega)))
      · skip
        refine V_aload_n F 0 d_Levels_begin_17 rfl rfl ?_
        refine V_get F 0 CI_Levels 0 i_Levels rfl rfl (by decide) m_136 rfl rfl d_Levels_begin_18 ?_
        refine V_iload_n F 3 d_Levels_begin_21 rfl rfl ?_
        refine V_iconst F (v := 0) d_Levels_begin_22 rfl ?_
        refine V_top (y := nI 0) rfl ?_
        refine V_iastn F 1 0 (k := i) (w' := [(l0, .inr (CI_Levels, [.ref l1, .ref l2, .int (nI 0), .ref l3, .ref l4, .int (nI 0)])), (l1, .inl (cI, 80, .inl (cN (up g2 i 0)))), (l2, .inl (cI, 60, .inl (cN od))), (l3, .inl (cI, 80, .inl (cN wt2))), (l4, .inl (cB, 60, .inl (cT pl))), (c0, .inr (CI_Cells, [.ref c1, .ref c2, .ref c3, .ref c4, .ref c5, .ref c6, .int (nI n)])), (c1, .inl (cI, 60, .inl (cN k))), (c2, .inl (cI, 60, .inl (cN o))), (c3, .inl (cI, 60, .inl A)), (c4, .inl (cI, 60, .inl B)), (c5, .inl (cI, 60, .inl C)), (c6, .inl (cI, 60, .inl (cN q)))]) rfl rfl (by omega) (by decide) (by rw [upd_cN] <;> rfl) d_Levels_begin_23 ?_
        refine V_aload_n F 0 d_Levels_begin_24 rfl rfl ?_
        refine V_get F 0 CI_Levels 3 i_Levels rfl rfl (by decide) m_142 rfl rfl d_Levels_begin_25 ?_
        refine V_iload_n F 3 d_Levels_begin_28 rfl rfl ?_
        refine V_iconst F (v := 0) d_Levels_begin_29 rfl ?_
        refine V_top (y := nI 0) rfl ?_
        refine V_iastn F 3 0 (k := i) (w' := [(l0, .inr (CI_Levels, [.ref l1, .ref l2, .int (nI 0), .ref l3, .ref l4, .int (nI 0)])), (l1, .inl (cI, 80, .inl (cN (up g2 i 0)))), (l2, .inl (cI, 60, .inl (cN od))), (l3, .inl (cI, 80, .inl (cN (up wt2 i 0)))), (l4, .inl (cB, 60, .inl (cT pl))), (c0, .inr (CI_Cells, [.ref c1, .ref c2, .ref c3, .ref c4, .ref c5, .ref c6, .int (nI n)])), (c1, .inl (cI, 60, .inl (cN k))), (c2, .inl (cI, 60, .inl (cN o))), (c3, .inl (cI, 60, .inl A)), (c4, .inl (cI, 60, .inl B)), (c5, .inl (cI, 60, .inl C)), (c6, .inl (cI, 60, .inl (cN q)))]) rfl rfl (by omega) (by decide) (by rw [upd_cN] <;> rfl) d_Levels_begin_30 ?_
        refine V_iinc F 3 (v := nI (i + 1)) (lv' := [(3, .int (nI (i + 1))), (0, .ref l0), (1, .ref c0), (2, .int (nI nn))]) d_Levels_begin_31 rfl (nI_inc _) (by decide) rfl ?_
        refine V_goto F 12 d_Levels_begin_34 (by decide) ?_
        refine V_lv [1, 2, 3, 0] rfl ?_
        exact ih12 (i + 1) (up g2 i 0) (up wt2 i 0) (by omega) (by first | assumption | omega | (simp only [] at *; omega)) (up_all hG rfl) (up_all hW rfl)
  refine V_lv [1, 2, 3, 0] rfl ?_
  exact L12 ((nn - 0) + 1) 0 g wt (Nat.lt_succ_self _) (by first | assumption | omega | (simp only [] at *; omega)) (fun t h => absurd h (Nat.not_lt_zero t)) (fun t h => absurd h (Nat.not_lt_zero t))

set_option maxHeartbeats 4000000 in
set_option maxRecDepth 100000 in
theorem c_Levels_isReady (l : Launch) (D : va_G) (cI cL cB : ClassId) (l0 : Nat) (l1 : Nat) (l2 : Nat) (l3 : Nat) (l4 : Nat) (gr : Nat) (oc : Nat) (g : Nat → Nat) (od : Nat → Nat) (wt : Nat → Nat) (pl : Nat → Prop) (c0 : Nat) (c1 : Nat) (c2 : Nat) (c3 : Nat) (c4 : Nat) (c5 : Nat) (c6 : Nat) (n : Nat) (k : Nat → Nat) (o : Nat → Nat) (q : Nat → Nat) (A : Nat → Int32) (B : Nat → Int32) (C : Nat → Int32) (nn : Nat) (i : Nat) (ll : Nat) (hn : n ≤ 60) (hnn : nn ≤ 80) (hw : WfC nn n k o A B C) (hi : i < n) (hg : ∀ j, j < nn → g j ≤ 31) (hll : ll ≤ 31) : Cti l y_Levels_isReady (wK w_Levels_isReady) ({ frames := 2, cells := 0, slots := 0, locals := 42 }) D classes (TY cI cL cB) [.ref l0, .ref c0, .int (nI i), .int (nI ll)] [(l0, .inr (CI_Levels, [.ref l1, .ref l2, .int (nI gr), .ref l3, .ref l4, .int (nI oc)])), (l1, .inl (cI, 80, .inl (cN g))), (l2, .inl (cI, 60, .inl (cN od))), (l3, .inl (cI, 80, .inl (cN wt))), (l4, .inl (cB, 60, .inl (cT pl))), (c0, .inr (CI_Cells, [.ref c1, .ref c2, .ref c3, .ref c4, .ref c5, .ref c6, .int (nI n)])), (c1, .inl (cI, 60, .inl (cN k))), (c2, .inl (cI, 60, .inl (cN o))), (c3, .inl (cI, 60, .inl A)), (c4, .inl (cI, 60, .inl B)), (c5, .inl (cI, 60, .inl C)), (c6, .inl (cI, 60, .inl (cN q)))] (fun (r : Int32) (u_ : Unit) => r = bP (∀ p, p < depN (k i) → g (iN A B C i p) < ll)) (fun (u_ : Unit) => [(l0, .inr (CI_Levels, [.ref l1, .ref l2, .int (nI gr), .ref l3, .ref l4, .int (nI oc)])), (l1, .inl (cI, 80, .inl (cN g))), (l2, .inl (cI, 60, .inl (cN od))), (l3, .inl (cI, 80, .inl (cN wt))), (l4, .inl (cB, 60, .inl (cT pl))), (c0, .inr (CI_Cells, [.ref c1, .ref c2, .ref c3, .ref c4, .ref c5, .ref c6, .int (nI n)])), (c1, .inl (cI, 60, .inl (cN k))), (c2, .inl (cI, 60, .inl (cN o))), (c3, .inl (cI, 60, .inl A)), (c4, .inl (cI, 60, .inl B)), (c5, .inl (cI, 60, .inl C)), (c6, .inl (cI, 60, .inl (cN q)))]) 0 0 := by
  refine Ctg_of (cc := prog_4_method_5_code) (maxL := 6) (ret := (some .boolean)) "CircuitSimulator$Levels" [(0, .ref l0), (1, .ref c0), (2, .int (nI i)), (3, .int (nI ll))] (by decide) rfl rfl (Nat.le_of_ble_eq_true rfl) rfl ?_
  intro p_ e_ s_ m_ args_ below_ meth_ c_ A_ F hr hin
  refine V_aload_n F 1 d_Levels_isReady_0 rfl rfl ?_
  refine V_iload_n F 2 d_Levels_isReady_1 rfl rfl ?_
  have hk8 := (hw i hi).1
  refine V_callV_i (w1 := fun (u_ : Unit) => [(l0, .inr (CI_Levels, [.ref l1, .ref l2, .int (nI gr), .ref l3, .ref l4, .int (nI oc)])), (l1, .inl (cI, 80, .inl (cN g))), (l2, .inl (cI, 60, .inl (cN od))), (l3, .inl (cI, 80, .inl (cN wt))), (l4, .inl (cB, 60, .inl (cT pl))), (c0, .inr (CI_Cells, [.ref c1, .ref c2, .ref c3, .ref c4, .ref c5, .ref c6, .int (nI n)])), (c1, .inl (cI, 60, .inl (cN k))), (c2, .inl (cI, 60, .inl (cN o))), (c3, .inl (cI, 60, .inl A)), (c4, .inl (cI, 60, .inl B)), (c5, .inl (cI, 60, .inl C)), (c6, .inl (cI, 60, .inl (cN q)))]) (wr := [(l0, .inr (CI_Levels, [.ref l1, .ref l2, .int (nI gr), .ref l3, .ref l4, .int (nI oc)])), (l1, .inl (cI, 80, .inl (cN g))), (l2, .inl (cI, 60, .inl (cN od))), (l3, .inl (cI, 80, .inl (cN wt))), (l4, .inl (cB, 60, .inl (cT pl)))]) (isC := [5, 6, 7, 8, 9, 10, 11]) (isR := [0, 1, 2, 3, 4]) (pm := [0, 1, 2, 3, 4, 5, 6, 7, 8, 9, 10, 11]) (As := [.int (nI i)]) (rest := []) F (c_Cells_dependencies l D cI cL cB c0 c1 c2 c3 c4 c5 c6 60 n k o q A B C i (by omega) (by omega) (by omega) (by omega)) (cS_V 1 F.ts m_471 m_249 m_250 m_36 m_251 (by decide +kernel) ⟨Nat.le_of_ble_eq_true rfl, Nat.le_of_ble_eq_true rfl⟩) (ci := CI_Cells) (q0 := 0) rfl rfl rfl (Nat.le_of_ble_eq_true rfl) d_Levels_isReady_2 ⟨Nat.le_of_ble_eq_true rfl, Nat.le_of_ble_eq_true rfl⟩ ⟨rfl, rfl, rfl, rfl, rfl, fun _ => rfl, rfl⟩ (fun r2 uu2 q2_ => ?_) rfl
  subst q2_
  refine V_istore F (lv' := [(4, .int (nI (depN (k i)))), (0, .ref l0), (1, .ref c0), (2, .int (nI i)), (3, .int (nI ll))]) d_Levels_isReady_5 (by decide) rfl ?_
  have hd8 := dep3 (k i)
  refine V_iconst F (v := 0) d_Levels_isReady_7 rfl ?_
  refine V_istore F (lv' := [(5, .int (nI 0)), (4, .int (nI (depN (k i)))), (0, .ref l0), (1, .ref c0), (2, .int (nI i)), (3, .int (nI ll))]) d_Levels_isReady_8 (by decide) rfl ?_
  have L10 : ∀ (f_ : Nat) (p : Nat), depN (k i) - p < f_ → (p ≤ depN (k i)) → (∀ t, t < p → g (iN A B C i t) < ll) → V p_ l e_ ({ frames := 2, cells := 0, slots := 0, locals := 42 }) s_ m_ args_ below_ meth_ c_ A_ (MQ below_ (cQi D classes (fun (r : Int32) (u_ : Unit) => r = bP (∀ p, p < depN (k i) → g (iN A B C i p) < ll)) (fun (u_ : Unit) => [(l0, .inr (CI_Levels, [.ref l1, .ref l2, .int (nI gr), .ref l3, .ref l4, .int (nI oc)])), (l1, .inl (cI, 80, .inl (cN g))), (l2, .inl (cI, 60, .inl (cN od))), (l3, .inl (cI, 80, .inl (cN wt))), (l4, .inl (cB, 60, .inl (cT pl))), (c0, .inr (CI_Cells, [.ref c1, .ref c2, .ref c3, .ref c4, .ref c5, .ref c6, .int (nI n)])), (c1, .inl (cI, 60, .inl (cN k))), (c2, .inl (cI, 60, .inl (cN o))), (c3, .inl (cI, 60, .inl A)), (c4, .inl (cI, 60, .inl B)), (c5, .inl (cI, 60, .inl C)), (c6, .inl (cI, 60, .inl (cN q)))]) A_) args_ s_ 0 0 A_) D classes 6 0 0 [(l0, .inr (CI_Levels, [.ref l1, .ref l2, .int (nI gr), .ref l3, .ref l4, .int (nI oc)])), (l1, .inl (cI, 80, .inl (cN g))), (l2, .inl (cI, 60, .inl (cN od))), (l3, .inl (cI, 80, .inl (cN wt))), (l4, .inl (cB, 60, .inl (cT pl))), (c0, .inr (CI_Cells, [.ref c1, .ref c2, .ref c3, .ref c4, .ref c5, .ref c6, .int (nI n)])), (c1, .inl (cI, 60, .inl (cN k))), (c2, .inl (cI, 60, .inl (cN o))), (c3, .inl (cI, 60, .inl A)), (c4, .inl (cI, 60, .inl B)), (c5, .inl (cI, 60, .inl C)), (c6, .inl (cI, 60, .inl (cN q)))] 10 [(0, .ref l0), (1, .ref c0), (2, .int (nI i)), (3, .int (nI ll)), (4, .int (nI (depN (k i)))), (5, .int (nI p))] [] := by
    intro f_
    induction f_ with
    | zero => intro p hm_; exact absurd hm_ (Nat.not_lt_zero _)
    | succ f_ ih10 =>
      intro p hm10 hp hI
      refine V_iload F 5 d_Levels_isReady_10 rfl ?_
      refine V_iload F 4 d_Levels_isReady_12 rfl ?_
      refine V_icmpn_ge F 41 (a := p) (b := depN (k i)) (by omega) (by omega) d_Levels_isReady_14 (by decide) (fun h14 => ?_) (fun h14 => ?_)
      · skip
        refine V_iconst F (v := 1) d_Levels_isReady_41 rfl ?_
        exact V_zret F hr rfl () (bP_t (fun t h => hI t (by omega))).symm [0, 1, 2, 3, 4, 5, 6, 7, 8, 9, 10, 11] rfl rfl (by decide) (by decide) d_Levels_isReady_42
      · skip
        have hv8 : vp_in (inP A B C i p) nn := (hw i hi).2.2.1 p (Nat.lt_of_lt_of_le h14 (depN_le _))
        have hg8 : g (inP A B C i p).toNatClampNeg ≤ 31 := hg _ (vp_lt hv8)
        refine V_aload_n F 0 d_Levels_isReady_17 rfl rfl ?_
        refine V_get F 0 CI_Levels 0 i_Levels rfl rfl (by decide) m_136 rfl rfl d_Levels_isReady_18 ?_
        refine V_aload_n F 1 d_Levels_isReady_21 rfl rfl ?_
        refine V_iload_n F 2 d_Levels_isReady_22 rfl rfl ?_
        refine V_iload F 5 d_Levels_isReady_23 rfl ?_
        refine V_callV_i (w1 := fun (u_ : Unit) => [(l0, .inr (CI_Levels, [.ref l1, .ref l2, .int (nI gr), .ref l3, .ref l4, .int (nI oc)])), (l1, .inl (cI, 80, .inl (cN g))), (l2, .inl (cI, 60, .inl (cN od))), (l3, .inl (cI, 80, .inl (cN wt))), (l4, .inl (cB, 60, .inl (cT pl))), (c0, .inr (CI_Cells, [.ref c1, .ref c2, .ref c3, .ref c4, .ref c5, .ref c6, .int (nI n)])), (c1, .inl (cI, 60, .inl (cN k))), (c2, .inl (cI, 60, .inl (cN o))), (c3, .inl (cI, 60, .inl A)), (c4, .inl (cI, 60, .inl B)), (c5, .inl (cI, 60, .inl C)), (c6, .inl (cI, 60, .inl (cN q)))]) (wr := [(l0, .inr (CI_Levels, [.ref l1, .ref l2, .int (nI gr), .ref l3, .ref l4, .int (nI oc)])), (l1, .inl (cI, 80, .inl (cN g))), (l2, .inl (cI, 60, .inl (cN od))), (l3, .inl (cI, 80, .inl (cN wt))), (l4, .inl (cB, 60, .inl (cT pl)))]) (isC := [5, 6, 7, 8, 9, 10, 11]) (isR := [0, 1, 2, 3, 4]) (pm := [0, 1, 2, 3, 4, 5, 6, 7, 8, 9, 10, 11]) (As := [.int (nI i), .int (nI p)]) (rest := [.ref l1]) F (c_Cells_input l D cI cL cB c0 c1 c2 c3 c4 c5 c6 60 n k o q A B C i p (by omega) (by omega) (by omega) (by omega)) (cS_V 2 F.ts m_472 m_257 m_258 m_36 m_259 (by decide +kernel) ⟨Nat.le_of_ble_eq_true rfl, Nat.le_of_ble_eq_true rfl⟩) (ci := CI_Cells) (q0 := 0) rfl rfl rfl (Nat.le_of_ble_eq_true rfl) d_Levels_isReady_25 ⟨Nat.le_of_ble_eq_true rfl, Nat.le_of_ble_eq_true rfl⟩ ⟨rfl, rfl, rfl, rfl, rfl, fun _ => rfl, rfl⟩ (fun r25 uu25 q25_ => ?_) rfl
        subst q25_
        refine V_ialdN F 1 0 rfl rfl (vin_mono hv8 hnn) d_Levels_isReady_28 ?_
        refine V_iload_n F 3 d_Levels_isReady_29 rfl rfl ?_
        refine V_icmpn_lt F 35 (a := g (inP A B C i p).toNatClampNeg) (b := ll) (by omega) (by omega) d_Levels_isReady_30 (by decide) (fun h30 => ?_) (fun h30 => ?_)
        · skip
          refine V_iinc F 5 (v := nI (p + 1)) (lv' := [(5, .int (nI (p + 1))), (0, .ref l0), (1, .ref c0), (2, .int (nI i)), (3, .int (nI ll)), (4, .int (nI (depN (k i))))]) d_Levels_isReady_35 rfl (nI_inc _) (by decide) rfl ?_
          refine V_goto F 10 d_Levels_isReady_38 (by decide) ?_
          refine V_lv [1, 2, 3, 4, 5, 0] rfl ?_
          exact ih10 (p + 1) (by omega) (by first | assumption | omega | (simp only [] at *; omega)) (lt_s hI h30)
        · skip
          refine V_iconst F (v := 0) d_Levels_isReady_33 rfl ?_
          exact V_zret F hr rfl () (bP_f (fun z => absurd (z p h14) (Nat.not_lt.mpr h30))).symm [0, 1, 2, 3, 4, 5, 6, 7, 8, 9, 10, 11] rfl rfl (by decide) (by decide) d_Levels_isReady_34
  refine V_lv [2, 3, 4, 5, 1, 0] rfl ?_
  exact L10 ((depN (k i) - 0) + 1) 0 (Nat.lt_succ_self _) (by first | assumption | omega | (simp only [] at *; omega)) (fun t h => absurd h (Nat.not_lt_zero t))

set_option maxHeartbeats 4000000 in
set_option maxRecDepth 100000 in
theorem c_Levels_placeNext (l : Launch) (D : va_G) (cI cL cB : ClassId) (l0 : Nat) (l1 : Nat) (l2 : Nat) (l3 : Nat) (l4 : Nat) (gr : Nat) (oc : Nat) (g : Nat → Nat) (od : Nat → Nat) (wt : Nat → Nat) (pl : Nat → Prop) (i : Nat) (j : Nat) (ll : Nat) (hi : i < 60) (hoc : oc < 60) (hj : j < 80) (hw1 : 1 ≤ wt j) (hw2 : wt j ≤ 60) (hll : ll ≤ 31) : Ctv l y_Levels_placeNext (wK w_Levels_placeNext) ({ frames := 0, cells := 0, slots := 0, locals := 0 }) D classes (TY cI cL cB) [.ref l0, .int (nI i), .int (nI j), .int (nI ll)] [(l0, .inr (CI_Levels, [.ref l1, .ref l2, .int (nI gr), .ref l3, .ref l4, .int (nI oc)])), (l1, .inl (cI, 80, .inl (cN g))), (l2, .inl (cI, 60, .inl (cN od))), (l3, .inl (cI, 80, .inl (cN wt))), (l4, .inl (cB, 60, .inl (cT pl)))] (fun (u_ : (Nat → Nat)) => u_ = if wt j - 1 = 0 then up g j ll else g) (fun (u_ : (Nat → Nat)) => [(l0, .inr (CI_Levels, [.ref l1, .ref l2, .int (nI ll), .ref l3, .ref l4, .int (nI (oc + 1))])), (l1, .inl (cI, 80, .inl (cN u_))), (l2, .inl (cI, 60, .inl (cN (up od oc i)))), (l3, .inl (cI, 80, .inl (cN (up wt j (wt j - 1))))), (l4, .inl (cB, 60, .inl (cT (up pl i True))))]) 0 0 := by
  refine Ctg_of (cc := prog_4_method_6_code) (maxL := 4) (ret := none) "CircuitSimulator$Levels" [(0, .ref l0), (1, .int (nI i)), (2, .int (nI j)), (3, .int (nI ll))] (by decide) rfl rfl (Nat.le_of_ble_eq_true rfl) rfl ?_
  intro p_ e_ s_ m_ args_ below_ meth_ c_ A_ F hr hin
  refine V_aload_n F 0 d_Levels_placeNext_0 rfl rfl ?_
  refine V_get F 0 CI_Levels 4 i_Levels rfl rfl (by decide) m_143 rfl rfl d_Levels_placeNext_1 ?_
  refine V_iload_n F 1 d_Levels_placeNext_4 rfl rfl ?_
  refine V_iconst F (v := 1) d_Levels_placeNext_5 rfl ?_
  refine V_top (y := bP True) (bP_t trivial).symm ?_
  refine V_zastn F 4 2 (k := i) (w' := [(l0, .inr (CI_Levels, [.ref l1, .ref l2, .int (nI gr), .ref l3, .ref l4, .int (nI oc)])), (l1, .inl (cI, 80, .inl (cN g))), (l2, .inl (cI, 60, .inl (cN od))), (l3, .inl (cI, 80, .inl (cN wt))), (l4, .inl (cB, 60, .inl (cT (up pl i True))))]) rfl rfl (by omega) (by decide) (bP_vnar _) (by rw [upd_cT] <;> rfl) d_Levels_placeNext_6 ?_
  refine V_aload_n F 0 d_Levels_placeNext_7 rfl rfl ?_
  refine V_get F 0 CI_Levels 1 i_Levels rfl rfl (by decide) m_138 rfl rfl d_Levels_placeNext_8 ?_
  refine V_aload_n F 0 d_Levels_placeNext_11 rfl rfl ?_
  refine V_get F 0 CI_Levels 5 i_Levels rfl rfl (by decide) m_144 rfl rfl d_Levels_placeNext_12 ?_
  refine V_iload_n F 1 d_Levels_placeNext_15 rfl rfl ?_
  refine V_iastn F 2 0 (k := oc) (w' := [(l0, .inr (CI_Levels, [.ref l1, .ref l2, .int (nI gr), .ref l3, .ref l4, .int (nI oc)])), (l1, .inl (cI, 80, .inl (cN g))), (l2, .inl (cI, 60, .inl (cN (up od oc i)))), (l3, .inl (cI, 80, .inl (cN wt))), (l4, .inl (cB, 60, .inl (cT (up pl i True))))]) rfl rfl (by omega) (by decide) (by rw [upd_cN] <;> rfl) d_Levels_placeNext_16 ?_
  refine V_aload_n F 0 d_Levels_placeNext_17 rfl rfl ?_
  refine V_dup F d_Levels_placeNext_18 rfl ?_
  refine V_get F 0 CI_Levels 5 i_Levels rfl rfl (by decide) m_144 rfl rfl d_Levels_placeNext_19 ?_
  refine V_iconst F (v := 1) d_Levels_placeNext_22 rfl ?_
  refine V_iadd F d_Levels_placeNext_23 ?_
  refine V_top (y := nI (oc + 1)) (nI_add _ _) ?_
  refine V_put F 0 CI_Levels 5 (w' := [(l0, .inr (CI_Levels, [.ref l1, .ref l2, .int (nI gr), .ref l3, .ref l4, .int (nI (oc + 1))])), (l1, .inl (cI, 80, .inl (cN g))), (l2, .inl (cI, 60, .inl (cN (up od oc i)))), (l3, .inl (cI, 80, .inl (cN wt))), (l4, .inl (cB, 60, .inl (cT (up pl i True))))]) t_Levels tk_Levels n_Levels i_Levels rfl rfl (by decide) m_144 rfl rfl rfl rfl (Nat.le_of_ble_eq_true rfl) rfl d_Levels_placeNext_24 ?_
  refine V_aload_n F 0 d_Levels_placeNext_27 rfl rfl ?_
  refine V_iload_n F 3 d_Levels_placeNext_28 rfl rfl ?_
  refine V_put F 0 CI_Levels 2 (w' := [(l0, .inr (CI_Levels, [.ref l1, .ref l2, .int (nI ll), .ref l3, .ref l4, .int (nI (oc + 1))])), (l1, .inl (cI, 80, .inl (cN g))), (l2, .inl (cI, 60, .inl (cN (up od oc i)))), (l3, .inl (cI, 80, .inl (cN wt))), (l4, .inl (cB, 60, .inl (cT (up pl i True))))]) t_Levels tk_Levels n_Levels i_Levels rfl rfl (by decide) m_140 rfl rfl rfl rfl (Nat.le_of_ble_eq_true rfl) rfl d_Levels_placeNext_29 ?_
  refine V_aload_n F 0 d_Levels_placeNext_32 rfl rfl ?_
  refine V_get F 0 CI_Levels 3 i_Levels rfl rfl (by decide) m_142 rfl rfl d_Levels_placeNext_33 ?_
  refine V_iload_n F 2 d_Levels_placeNext_36 rfl rfl ?_
  refine V_dup2 F d_Levels_placeNext_37 rfl rfl ?_
  refine V_ialdnN F 3 0 (k := j) rfl rfl (by omega) (by decide) d_Levels_placeNext_38 ?_
  refine V_iconst F (v := 1) d_Levels_placeNext_39 rfl ?_
  refine V_isub F d_Levels_placeNext_40 ?_
  refine V_top (y := nI ((wt j) - 1)) (pk_sub (a := wt j) (b := 1) (by omega)) ?_
  refine V_iastn F 3 0 (k := j) (w' := [(l0, .inr (CI_Levels, [.ref l1, .ref l2, .int (nI ll), .ref l3, .ref l4, .int (nI (oc + 1))])), (l1, .inl (cI, 80, .inl (cN g))), (l2, .inl (cI, 60, .inl (cN (up od oc i)))), (l3, .inl (cI, 80, .inl (cN (up wt j ((wt j) - 1))))), (l4, .inl (cB, 60, .inl (cT (up pl i True))))]) rfl rfl (by omega) (by decide) (by rw [upd_cN] <;> rfl) d_Levels_placeNext_41 ?_
  refine V_aload_n F 0 d_Levels_placeNext_42 rfl rfl ?_
  refine V_get F 0 CI_Levels 3 i_Levels rfl rfl (by decide) m_142 rfl rfl d_Levels_placeNext_43 ?_
  refine V_iload_n F 2 d_Levels_placeNext_46 rfl rfl ?_
  refine V_ialdnN F 3 0 (k := j) rfl rfl (by omega) (by decide) d_Levels_placeNext_47 ?_
  refine V_top (y := nI ((wt j) - 1)) (congrArg nI up_s) ?_
  refine V_ifn_ne F 58 (a := ((wt j) - 1)) (by omega) d_Levels_placeNext_48 (by decide) (fun h48 => ?_) (fun h48 => ?_)
  · skip
    exact V_vret F hr g (by first | rw [if_pos (by assumption)] | rw [if_neg (by assumption)]) [0, 1, 2, 3, 4] rfl rfl (by decide) (by decide) d_Levels_placeNext_58
  · skip
    refine V_aload_n F 0 d_Levels_placeNext_51 rfl rfl ?_
    refine V_get F 0 CI_Levels 0 i_Levels rfl rfl (by decide) m_136 rfl rfl d_Levels_placeNext_52 ?_
    refine V_iload_n F 2 d_Levels_placeNext_55 rfl rfl ?_
    refine V_iload_n F 3 d_Levels_placeNext_56 rfl rfl ?_
    refine V_iastn F 1 0 (k := j) (w' := [(l0, .inr (CI_Levels, [.ref l1, .ref l2, .int (nI ll), .ref l3, .ref l4, .int (nI (oc + 1))])), (l1, .inl (cI, 80, .inl (cN (up g j ll)))), (l2, .inl (cI, 60, .inl (cN (up od oc i)))), (l3, .inl (cI, 80, .inl (cN (up wt j ((wt j) - 1))))), (l4, .inl (cB, 60, .inl (cT (up pl i True))))]) rfl rfl (by omega) (by decide) (by rw [upd_cN] <;> rfl) d_Levels_placeNext_57 ?_
    exact V_vret F hr (up g j ll) (by first | rw [if_pos (by assumption)] | rw [if_neg (by assumption)]) [0, 1, 2, 3, 4] rfl rfl (by decide) (by decide) d_Levels_placeNext_58

set_option maxHeartbeats 4000000 in
set_option maxRecDepth 100000 in
theorem c_Levels_rankOneLevel (l : Launch) (D : va_G) (cI cL cB : ClassId) (l0 : Nat) (l1 : Nat) (l2 : Nat) (l3 : Nat) (l4 : Nat) (gr : Nat) (oc : Nat) (g : Nat → Nat) (od : Nat → Nat) (wt : Nat → Nat) (pl : Nat → Prop) (c0 : Nat) (c1 : Nat) (c2 : Nat) (c3 : Nat) (c4 : Nat) (c5 : Nat) (c6 : Nat) (n : Nat) (k : Nat → Nat) (o : Nat → Nat) (q : Nat → Nat) (A : Nat → Int32) (B : Nat → Int32) (C : Nat → Int32) (nn : Nat) (ll : Nat) (hn : n ≤ 60) (hnn : nn ≤ 80) (hw : WfC nn n k o A B C) (hl1 : 1 ≤ ll) (hl2 : ll ≤ 30) (hR : RI nn n k o A B C ll 0 g wt pl od oc gr) : Ctv l y_Levels_rankOneLevel (wK w_Levels_rankOneLevel) ({ frames := 3, cells := 0, slots := 0, locals := 67 }) D classes (TY cI cL cB) [.ref l0, .ref c0, .int (nI ll)] [(l0, .inr (CI_Levels, [.ref l1, .ref l2, .int (nI gr), .ref l3, .ref l4, .int (nI oc)])), (l1, .inl (cI, 80, .inl (cN g))), (l2, .inl (cI, 60, .inl (cN od))), (l3, .inl (cI, 80, .inl (cN wt))), (l4, .inl (cB, 60, .inl (cT pl))), (c0, .inr (CI_Cells, [.ref c1, .ref c2, .ref c3, .ref c4, .ref c5, .ref c6, .int (nI n)])), (c1, .inl (cI, 60, .inl (cN k))), (c2, .inl (cI, 60, .inl (cN o))), (c3, .inl (cI, 60, .inl A)), (c4, .inl (cI, 60, .inl B)), (c5, .inl (cI, 60, .inl C)), (c6, .inl (cI, 60, .inl (cN q)))] (fun (u_ : (Nat → Nat) × (Nat → Nat) × Nat × (Nat → Nat) × (Nat → Prop) × Nat) => RI nn n k o A B C (ll + 1) 0 u_.1 u_.2.2.2.1 u_.2.2.2.2.1 u_.2.1 u_.2.2.2.2.2 u_.2.2.1) (fun (u_ : (Nat → Nat) × (Nat → Nat) × Nat × (Nat → Nat) × (Nat → Prop) × Nat) => [(l0, .inr (CI_Levels, [.ref l1, .ref l2, .int (nI u_.2.2.1), .ref l3, .ref l4, .int (nI u_.2.2.2.2.2)])), (l1, .inl (cI, 80, .inl (cN u_.1))), (l2, .inl (cI, 60, .inl (cN u_.2.1))), (l3, .inl (cI, 80, .inl (cN u_.2.2.2.1))), (l4, .inl (cB, 60, .inl (cT u_.2.2.2.2.1))), (c0, .inr (CI_Cells, [.ref c1, .ref c2, .ref c3, .ref c4, .ref c5, .ref c6, .int (nI n)])), (c1, .inl (cI, 60, .inl (cN k))), (c2, .inl (cI, 60, .inl (cN o))), (c3, .inl (cI, 60, .inl A)), (c4, .inl (cI, 60, .inl B)), (c5, .inl (cI, 60, .inl C)), (c6, .inl (cI, 60, .inl (cN q)))]) 0 0 := by
  refine Ctg_of (cc := prog_4_method_4_code) (maxL := 4) (ret := none) "CircuitSimulator$Levels" [(0, .ref l0), (1, .ref c0), (2, .int (nI ll))] (by decide) rfl rfl (Nat.le_of_ble_eq_true rfl) rfl ?_
  intro p_ e_ s_ m_ args_ below_ meth_ c_ A_ F hr hin
  refine V_iconst F (v := 0) d_Levels_rankOneLevel_0 rfl ?_
  refine V_istore_n F (lv' := [(3, .int (nI 0)), (0, .ref l0), (1, .ref c0), (2, .int (nI ll))]) d_Levels_rankOneLevel_1 rfl (by decide) rfl ?_
  have L2 : ∀ (f_ : Nat) (i : Nat) (g2 : Nat → Nat) (od2 : Nat → Nat) (gr2 : Nat) (wt2 : Nat → Nat) (pl2 : Nat → Prop) (oc2 : Nat), n - i < f_ → (i ≤ n) → (RI nn n k o A B C ll i g2 wt2 pl2 od2 oc2 gr2) → V p_ l e_ ({ frames := 3, cells := 0, slots := 0, locals := 67 }) s_ m_ args_ below_ meth_ c_ A_ (MQ below_ (cQv D classes (fun (u_ : (Nat → Nat) × (Nat → Nat) × Nat × (Nat → Nat) × (Nat → Prop) × Nat) => RI nn n k o A B C (ll + 1) 0 u_.1 u_.2.2.2.1 u_.2.2.2.2.1 u_.2.1 u_.2.2.2.2.2 u_.2.2.1) (fun (u_ : (Nat → Nat) × (Nat → Nat) × Nat × (Nat → Nat) × (Nat → Prop) × Nat) => [(l0, .inr (CI_Levels, [.ref l1, .ref l2, .int (nI u_.2.2.1), .ref l3, .ref l4, .int (nI u_.2.2.2.2.2)])), (l1, .inl (cI, 80, .inl (cN u_.1))), (l2, .inl (cI, 60, .inl (cN u_.2.1))), (l3, .inl (cI, 80, .inl (cN u_.2.2.2.1))), (l4, .inl (cB, 60, .inl (cT u_.2.2.2.2.1))), (c0, .inr (CI_Cells, [.ref c1, .ref c2, .ref c3, .ref c4, .ref c5, .ref c6, .int (nI n)])), (c1, .inl (cI, 60, .inl (cN k))), (c2, .inl (cI, 60, .inl (cN o))), (c3, .inl (cI, 60, .inl A)), (c4, .inl (cI, 60, .inl B)), (c5, .inl (cI, 60, .inl C)), (c6, .inl (cI, 60, .inl (cN q)))]) A_) args_ s_ 0 0 A_) D classes 4 0 0 [(l0, .inr (CI_Levels, [.ref l1, .ref l2, .int (nI gr2), .ref l3, .ref l4, .int (nI oc2)])), (l1, .inl (cI, 80, .inl (cN g2))), (l2, .inl (cI, 60, .inl (cN od2))), (l3, .inl (cI, 80, .inl (cN wt2))), (l4, .inl (cB, 60, .inl (cT pl2))), (c0, .inr (CI_Cells, [.ref c1, .ref c2, .ref c3, .ref c4, .ref c5, .ref c6, .int (nI n)])), (c1, .inl (cI, 60, .inl (cN k))), (c2, .inl (cI, 60, .inl (cN o))), (c3, .inl (cI, 60, .inl A)), (c4, .inl (cI, 60, .inl B)), (c5, .inl (cI, 60, .inl C)), (c6, .inl (cI, 60, .inl (cN q)))] 2 [(0, .ref l0), (1, .ref c0), (2, .int (nI ll)), (3, .int (nI i))] [] := by
    intro f_
    induction f_ with
    | zero => intro i g2 od2 gr2 wt2 pl2 oc2 hm_; exact absurd hm_ (Nat.not_lt_zero _)
    | succ f_ ih2 =>
      intro i g2 od2 gr2 wt2 pl2 oc2 hm2 hi hI
      refine V_iload_n F 3 d_Levels_rankOneLevel_2 rfl rfl ?_
      refine V_aload_n F 1 d_Levels_rankOneLevel_3 rfl rfl ?_
      refine V_get F 5 CI_Cells 6 i_Cells rfl rfl (by decide) m_81 rfl rfl d_Levels_rankOneLevel_4 ?_
      refine V_icmpn_ge F 47 (a := i) (b := n) (by omega) (by omega) d_Levels_rankOneLevel_7 (by decide) (fun h7 => ?_) (fun h7 => ?_)
      · skip
        exact V_vret F hr (g2, od2, gr2, wt2, pl2, oc2) (show RI nn n k o A B C (ll + 1) 0 g2 wt2 pl2 od2 oc2 gr2 from (by have e : i = n := (by omega); subst e; exact hI.next)) [0, 1, 2, 3, 4, 5, 6, 7, 8, 9, 10, 11] rfl rfl (by decide) (by decide) d_Levels_rankOneLevel_47
      · skip
        have ho8 := (hw i (by omega)).2.1
        have hg8 := hI.g31
        refine V_aload_n F 0 d_Levels_rankOneLevel_10 rfl rfl ?_
        refine V_get F 0 CI_Levels 4 i_Levels rfl rfl (by decide) m_143 rfl rfl d_Levels_rankOneLevel_11 ?_
        refine V_iload_n F 3 d_Levels_rankOneLevel_14 rfl rfl ?_
        refine V_zaldnT F 4 2 (k := i) rfl rfl (by omega) (by decide) d_Levels_rankOneLevel_15 ?_
        refine V_ifb_ne F 41 d_Levels_rankOneLevel_16 (by decide) (fun h16 => ?_) (fun h16 => ?_)
        · skip
          refine V_iinc F 3 (v := nI (i + 1)) (lv' := [(3, .int (nI (i + 1))), (0, .ref l0), (1, .ref c0), (2, .int (nI ll))]) d_Levels_rankOneLevel_41 rfl (nI_inc _) (by decide) rfl ?_
          refine V_goto F 2 d_Levels_rankOneLevel_44 (by decide) ?_
          refine V_lv [1, 2, 3, 0] rfl ?_
          exact ih2 (i + 1) g2 od2 gr2 wt2 pl2 oc2 (by omega) (by first | assumption | omega | (simp only [] at *; omega)) (by first | exact hI.skip (by omega) (Or.inl (by assumption)) | exact hI.skip (by omega) (Or.inr (not_ready (by assumption))) | exact e38 ▸ hI.place hw (by omega) hl1 hl2 (by assumption) (by assumption))
        · skip
          refine V_aload_n F 0 d_Levels_rankOneLevel_19 rfl rfl ?_
          refine V_aload_n F 1 d_Levels_rankOneLevel_20 rfl rfl ?_
          refine V_iload_n F 3 d_Levels_rankOneLevel_21 rfl rfl ?_
          refine V_iload_n F 2 d_Levels_rankOneLevel_22 rfl rfl ?_
          refine V_callV_i (w1 := fun (u_ : Unit) => [(l0, .inr (CI_Levels, [.ref l1, .ref l2, .int (nI gr2), .ref l3, .ref l4, .int (nI oc2)])), (l1, .inl (cI, 80, .inl (cN g2))), (l2, .inl (cI, 60, .inl (cN od2))), (l3, .inl (cI, 80, .inl (cN wt2))), (l4, .inl (cB, 60, .inl (cT pl2))), (c0, .inr (CI_Cells, [.ref c1, .ref c2, .ref c3, .ref c4, .ref c5, .ref c6, .int (nI n)])), (c1, .inl (cI, 60, .inl (cN k))), (c2, .inl (cI, 60, .inl (cN o))), (c3, .inl (cI, 60, .inl A)), (c4, .inl (cI, 60, .inl B)), (c5, .inl (cI, 60, .inl C)), (c6, .inl (cI, 60, .inl (cN q)))]) (wr := []) (isC := [0, 1, 2, 3, 4, 5, 6, 7, 8, 9, 10, 11]) (isR := []) (pm := [0, 1, 2, 3, 4, 5, 6, 7, 8, 9, 10, 11]) (As := [.ref c0, .int (nI i), .int (nI ll)]) (rest := []) F (c_Levels_isReady l D cI cL cB l0 l1 l2 l3 l4 gr2 oc2 g2 od2 wt2 pl2 c0 c1 c2 c3 c4 c5 c6 n k o q A B C nn i ll (by first | assumption | omega | (simp only [] at *; omega)) (by first | assumption | omega | (simp only [] at *; omega)) (by first | assumption | omega | (simp only [] at *; omega)) (by first | assumption | omega | (simp only [] at *; omega)) (by first | assumption | omega | (simp only [] at *; omega)) (by first | assumption | omega | (simp only [] at *; omega))) (cS_V 3 F.ts m_468 m_469 m_11 m_39 m_470 (by decide +kernel) ⟨Nat.le_of_ble_eq_true rfl, Nat.le_of_ble_eq_true rfl⟩) (ci := CI_Levels) (q0 := 0) rfl rfl rfl (Nat.le_of_ble_eq_true rfl) d_Levels_rankOneLevel_23 ⟨Nat.le_of_ble_eq_true rfl, Nat.le_of_ble_eq_true rfl⟩ ⟨rfl, rfl, rfl, rfl, rfl, fun _ => rfl, rfl⟩ (fun r23 uu23 q23_ => ?_) rfl
          subst q23_
          refine V_ifb_eq F 41 d_Levels_rankOneLevel_26 (by decide) (fun h26 => ?_) (fun h26 => ?_)
          · skip
            refine V_iinc F 3 (v := nI (i + 1)) (lv' := [(3, .int (nI (i + 1))), (0, .ref l0), (1, .ref c0), (2, .int (nI ll))]) d_Levels_rankOneLevel_41 rfl (nI_inc _) (by decide) rfl ?_
            refine V_goto F 2 d_Levels_rankOneLevel_44 (by decide) ?_
            refine V_lv [1, 2, 3, 0] rfl ?_
            exact ih2 (i + 1) g2 od2 gr2 wt2 pl2 oc2 (by omega) (by first | assumption | omega | (simp only [] at *; omega)) (by first | exact hI.skip (by omega) (Or.inl (by assumption)) | exact hI.skip (by omega) (Or.inr (not_ready (by assumption))) | exact e38 ▸ hI.place hw (by omega) hl1 hl2 (by assumption) (by assumption))
          · skip
            have hw8 := hI.w_pos (by omega) ho8 h16
            have hc8 := hI.oc_lt (by omega) h16
            refine V_aload_n F 0 d_Levels_rankOneLevel_29 rfl rfl ?_
            refine V_iload_n F 3 d_Levels_rankOneLevel_30 rfl rfl ?_
            refine V_aload_n F 1 d_Levels_rankOneLevel_31 rfl rfl ?_
            refine V_get F 5 CI_Cells 1 i_Cells rfl rfl (by decide) m_71 rfl rfl d_Levels_rankOneLevel_32 ?_
            refine V_iload_n F 3 d_Levels_rankOneLevel_35 rfl rfl ?_
            refine V_ialdnN F 7 0 (k := i) rfl rfl (by omega) (by decide) d_Levels_rankOneLevel_36 ?_
            refine V_iload_n F 2 d_Levels_rankOneLevel_37 rfl rfl ?_
            refine V_callV_v (w1 := fun (u_ : (Nat → Nat)) => [(l0, .inr (CI_Levels, [.ref l1, .ref l2, .int (nI ll), .ref l3, .ref l4, .int (nI (oc2 + 1))])), (l1, .inl (cI, 80, .inl (cN u_))), (l2, .inl (cI, 60, .inl (cN (up od2 oc2 i)))), (l3, .inl (cI, 80, .inl (cN (up wt2 (o i) (wt2 (o i) - 1))))), (l4, .inl (cB, 60, .inl (cT (up pl2 i True)))), (c0, .inr (CI_Cells, [.ref c1, .ref c2, .ref c3, .ref c4, .ref c5, .ref c6, .int (nI n)])), (c1, .inl (cI, 60, .inl (cN k))), (c2, .inl (cI, 60, .inl (cN o))), (c3, .inl (cI, 60, .inl A)), (c4, .inl (cI, 60, .inl B)), (c5, .inl (cI, 60, .inl C)), (c6, .inl (cI, 60, .inl (cN q)))]) (wr := [(c0, .inr (CI_Cells, [.ref c1, .ref c2, .ref c3, .ref c4, .ref c5, .ref c6, .int (nI n)])), (c1, .inl (cI, 60, .inl (cN k))), (c2, .inl (cI, 60, .inl (cN o))), (c3, .inl (cI, 60, .inl A)), (c4, .inl (cI, 60, .inl B)), (c5, .inl (cI, 60, .inl C)), (c6, .inl (cI, 60, .inl (cN q)))]) (isC := [0, 1, 2, 3, 4]) (isR := [5, 6, 7, 8, 9, 10, 11]) (pm := [7, 8, 9, 10, 11, 0, 1, 2, 3, 4, 5, 6]) (As := [.int (nI i), .int (nI (o i)), .int (nI ll)]) (rest := []) F (c_Levels_placeNext l D cI cL cB l0 l1 l2 l3 l4 gr2 oc2 g2 od2 wt2 pl2 i (o i) ll (by first | assumption | omega | (simp only [] at *; omega)) (by first | assumption | omega | (simp only [] at *; omega)) (by first | assumption | omega | (simp only [] at *; omega)) (by first | assumption | omega | (simp only [] at *; omega)) (by first | assumption | omega | (simp only [] at *; omega)) (by first | assumption | omega | (simp only [] at *; omega))) (cS_V 3 F.ts m_473 m_474 m_12 m_39 m_475 (by decide +kernel) ⟨Nat.le_of_ble_eq_true rfl, Nat.le_of_ble_eq_true rfl⟩) (ci := CI_Levels) (q0 := 0) rfl rfl rfl (Nat.le_of_ble_eq_true rfl) d_Levels_rankOneLevel_38 ⟨Nat.le_of_ble_eq_true rfl, Nat.le_of_ble_eq_true rfl⟩ ⟨rfl, rfl, rfl, rfl, rfl, fun _ => rfl, rfl⟩ (fun uu38 q38_ => ?_) rfl
            obtain ⟨g2_38, rfl⟩ : ∃ z, z = uu38 := ⟨_, rfl⟩
            have e38 : g2_38 = if wt2 (o i) - 1 = 0 then up g2 (o i) ll else g2 := q38_
            clear q38_
            refine V_iinc F 3 (v := nI (i + 1)) (lv' := [(3, .int (nI (i + 1))), (0, .ref l0), (1, .ref c0), (2, .int (nI ll))]) d_Levels_rankOneLevel_41 rfl (nI_inc _) (by decide) rfl ?_
            refine V_goto F 2 d_Levels_rankOneLevel_44 (by decide) ?_
            refine V_lv [1, 2, 3, 0] rfl ?_
            exact ih2 (i + 1) g2_38 (up od2 oc2 i) ll (up wt2 (o i) (wt2 (o i) - 1)) (up pl2 i True) (oc2 + 1) (by omega) (by first | assumption | omega | (simp only [] at *; omega)) (by first | exact hI.skip (by omega) (Or.inl (by assumption)) | exact hI.skip (by omega) (Or.inr (not_ready (by assumption))) | exact e38 ▸ hI.place hw (by omega) hl1 hl2 (by assumption) (by assumption))
  refine V_lv [1, 2, 3, 0] rfl ?_
  exact L2 ((n - 0) + 1) 0 g od gr wt pl oc (Nat.lt_succ_self _) (by first | assumption | omega | (simp only [] at *; omega)) (by first | assumption | omega | (simp only [] at *; omega))

set_option maxHeartbeats 4000000 in
set_option maxRecDepth 100000 in
theorem c_Levels_rank (l : Launch) (D : va_G) (cI cL cB : ClassId) (l0 : Nat) (l1 : Nat) (l2 : Nat) (l3 : Nat) (l4 : Nat) (gr : Nat) (oc : Nat) (g : Nat → Nat) (od : Nat → Nat) (wt : Nat → Nat) (pl : Nat → Prop) (c0 : Nat) (c1 : Nat) (c2 : Nat) (c3 : Nat) (c4 : Nat) (c5 : Nat) (c6 : Nat) (n : Nat) (k : Nat → Nat) (o : Nat → Nat) (q : Nat → Nat) (A : Nat → Int32) (B : Nat → Int32) (C : Nat → Int32) (nn : Nat) (hn : n ≤ 60) (hnn : nn ≤ 80) (hw : WfC nn n k o A B C) : Cti l y_Levels_rank (wK w_Levels_rank) ({ frames := 4, cells := 0, slots := 0, locals := 90 }) D classes (TY cI cL cB) [.ref l0, .ref c0, .int (nI nn)] [(l0, .inr (CI_Levels, [.ref l1, .ref l2, .int (nI gr), .ref l3, .ref l4, .int (nI oc)])), (l1, .inl (cI, 80, .inl (cN g))), (l2, .inl (cI, 60, .inl (cN od))), (l3, .inl (cI, 80, .inl (cN wt))), (l4, .inl (cB, 60, .inl (cT pl))), (c0, .inr (CI_Cells, [.ref c1, .ref c2, .ref c3, .ref c4, .ref c5, .ref c6, .int (nI n)])), (c1, .inl (cI, 60, .inl (cN k))), (c2, .inl (cI, 60, .inl (cN o))), (c3, .inl (cI, 60, .inl A)), (c4, .inl (cI, 60, .inl B)), (c5, .inl (cI, 60, .inl C)), (c6, .inl (cI, 60, .inl (cN q)))] (fun (r : Int32) (u_ : (Nat → Nat) × (Nat → Nat) × Nat × (Nat → Nat) × (Nat → Prop) × Nat) => r = bP (u_.2.2.2.2.2 = n) ∧ RI nn n k o A B C 31 0 u_.1 u_.2.2.2.1 u_.2.2.2.2.1 u_.2.1 u_.2.2.2.2.2 u_.2.2.1) (fun (u_ : (Nat → Nat) × (Nat → Nat) × Nat × (Nat → Nat) × (Nat → Prop) × Nat) => [(l0, .inr (CI_Levels, [.ref l1, .ref l2, .int (nI u_.2.2.1), .ref l3, .ref l4, .int (nI u_.2.2.2.2.2)])), (l1, .inl (cI, 80, .inl (cN u_.1))), (l2, .inl (cI, 60, .inl (cN u_.2.1))), (l3, .inl (cI, 80, .inl (cN u_.2.2.2.1))), (l4, .inl (cB, 60, .inl (cT u_.2.2.2.2.1))), (c0, .inr (CI_Cells, [.ref c1, .ref c2, .ref c3, .ref c4, .ref c5, .ref c6, .int (nI n)])), (c1, .inl (cI, 60, .inl (cN k))), (c2, .inl (cI, 60, .inl (cN o))), (c3, .inl (cI, 60, .inl A)), (c4, .inl (cI, 60, .inl B)), (c5, .inl (cI, 60, .inl C)), (c6, .inl (cI, 60, .inl (cN q)))]) 0 0 := by
  refine Ctg_of (cc := prog_4_method_2_code) (maxL := 4) (ret := (some .boolean)) "CircuitSimulator$Levels" [(0, .ref l0), (1, .ref c0), (2, .int (nI nn))] (by decide) rfl rfl (Nat.le_of_ble_eq_true rfl) rfl ?_
  intro p_ e_ s_ m_ args_ below_ meth_ c_ A_ F hr hin
  refine V_aload_n F 0 d_Levels_rank_0 rfl rfl ?_
  refine V_aload_n F 1 d_Levels_rank_1 rfl rfl ?_
  refine V_iload_n F 2 d_Levels_rank_2 rfl rfl ?_
  refine V_callV_v (w1 := fun (u_ : (Nat → Nat) × (Nat → Nat) × (Nat → Prop)) => [(l0, .inr (CI_Levels, [.ref l1, .ref l2, .int (nI 0), .ref l3, .ref l4, .int (nI 0)])), (l1, .inl (cI, 80, .inl (cN u_.1))), (l2, .inl (cI, 60, .inl (cN od))), (l3, .inl (cI, 80, .inl (cN u_.2.1))), (l4, .inl (cB, 60, .inl (cT u_.2.2))), (c0, .inr (CI_Cells, [.ref c1, .ref c2, .ref c3, .ref c4, .ref c5, .ref c6, .int (nI n)])), (c1, .inl (cI, 60, .inl (cN k))), (c2, .inl (cI, 60, .inl (cN o))), (c3, .inl (cI, 60, .inl A)), (c4, .inl (cI, 60, .inl B)), (c5, .inl (cI, 60, .inl C)), (c6, .inl (cI, 60, .inl (cN q)))]) (wr := []) (isC := [0, 1, 2, 3, 4, 5, 6, 7, 8, 9, 10, 11]) (isR := []) (pm := [0, 1, 2, 3, 4, 5, 6, 7, 8, 9, 10, 11]) (As := [.ref c0, .int (nI nn)]) (rest := []) F (c_Levels_begin l D cI cL cB l0 l1 l2 l3 l4 gr oc g od wt pl c0 c1 c2 c3 c4 c5 c6 n k o q A B C nn (by first | assumption | omega | (simp only [] at *; omega)) (by first | assumption | omega | (simp only [] at *; omega)) (fun i hi => (hw i hi).2.1)) (cS_V 2 F.ts m_462 m_463 m_9 m_39 m_464 (by decide +kernel) ⟨Nat.le_of_ble_eq_true rfl, Nat.le_of_ble_eq_true rfl⟩) (ci := CI_Levels) (q0 := 0) rfl rfl rfl (Nat.le_of_ble_eq_true rfl) d_Levels_rank_3 ⟨Nat.le_of_ble_eq_true rfl, Nat.le_of_ble_eq_true rfl⟩ ⟨rfl, rfl, rfl, rfl, rfl, fun _ => rfl, rfl⟩ (fun uu3 q3_ => ?_) rfl
  obtain ⟨g2_3, wt2_3, pl2_3⟩ := uu3
  have e3 : (∀ c, c < n → ¬ pl2_3 c) ∧ (∀ j, j < nn → wt2_3 j = cnt (fun c => o c = j) n) ∧ (∀ j, j < nn → g2_3 j = if wt2_3 j = 0 then 0 else 31) := q3_
  clear q3_
  refine V_cast (w' := [(l0, .inr (CI_Levels, [.ref l1, .ref l2, .int (nI 0), .ref l3, .ref l4, .int (nI 0)])), (l1, .inl (cI, 80, .inl (cN g2_3))), (l2, .inl (cI, 60, .inl (cN od))), (l3, .inl (cI, 80, .inl (cN wt2_3))), (l4, .inl (cB, 60, .inl (cT pl2_3))), (c0, .inr (CI_Cells, [.ref c1, .ref c2, .ref c3, .ref c4, .ref c5, .ref c6, .int (nI n)])), (c1, .inl (cI, 60, .inl (cN k))), (c2, .inl (cI, 60, .inl (cN o))), (c3, .inl (cI, 60, .inl A)), (c4, .inl (cI, 60, .inl B)), (c5, .inl (cI, 60, .inl C)), (c6, .inl (cI, 60, .inl (cN q)))]) rfl rfl rfl ?_
  refine V_iconst F (v := 1) d_Levels_rank_6 rfl ?_
  refine V_istore_n F (lv' := [(3, .int (nI 1)), (0, .ref l0), (1, .ref c0), (2, .int (nI nn))]) d_Levels_rank_7 rfl (by decide) rfl ?_
  have L8 : ∀ (f_ : Nat) (ll : Nat) (g2 : Nat → Nat) (od2 : Nat → Nat) (gr2 : Nat) (wt2 : Nat → Nat) (pl2 : Nat → Prop) (oc2 : Nat), 31 - ll < f_ → (1 ≤ ll) → (ll ≤ 31) → (RI nn n k o A B C ll 0 g2 wt2 pl2 od2 oc2 gr2) → V p_ l e_ ({ frames := 4, cells := 0, slots := 0, locals := 90 }) s_ m_ args_ below_ meth_ c_ A_ (MQ below_ (cQi D classes (fun (r : Int32) (u_ : (Nat → Nat) × (Nat → Nat) × Nat × (Nat → Nat) × (Nat → Prop) × Nat) => r = bP (u_.2.2.2.2.2 = n) ∧ RI nn n k o A B C 31 0 u_.1 u_.2.2.2.1 u_.2.2.2.2.1 u_.2.1 u_.2.2.2.2.2 u_.2.2.1) (fun (u_ : (Nat → Nat) × (Nat → Nat) × Nat × (Nat → Nat) × (Nat → Prop) × Nat) => [(l0, .inr (CI_Levels, [.ref l1, .ref l2, .int (nI u_.2.2.1), .ref l3, .ref l4, .int (nI u_.2.2.2.2.2)])), (l1, .inl (cI, 80, .inl (cN u_.1))), (l2, .inl (cI, 60, .inl (cN u_.2.1))), (l3, .inl (cI, 80, .inl (cN u_.2.2.2.1))), (l4, .inl (cB, 60, .inl (cT u_.2.2.2.2.1))), (c0, .inr (CI_Cells, [.ref c1, .ref c2, .ref c3, .ref c4, .ref c5, .ref c6, .int (nI n)])), (c1, .inl (cI, 60, .inl (cN k))), (c2, .inl (cI, 60, .inl (cN o))), (c3, .inl (cI, 60, .inl A)), (c4, .inl (cI, 60, .inl B)), (c5, .inl (cI, 60, .inl C)), (c6, .inl (cI, 60, .inl (cN q)))]) A_) args_ s_ 0 0 A_) D classes 4 0 0 [(l0, .inr (CI_Levels, [.ref l1, .ref l2, .int (nI gr2), .ref l3, .ref l4, .int (nI oc2)])), (l1, .inl (cI, 80, .inl (cN g2))), (l2, .inl (cI, 60, .inl (cN od2))), (l3, .inl (cI, 80, .inl (cN wt2))), (l4, .inl (cB, 60, .inl (cT pl2))), (c0, .inr (CI_Cells, [.ref c1, .ref c2, .ref c3, .ref c4, .ref c5, .ref c6, .int (nI n)])), (c1, .inl (cI, 60, .inl (cN k))), (c2, .inl (cI, 60, .inl (cN o))), (c3, .inl (cI, 60, .inl A)), (c4, .inl (cI, 60, .inl B)), (c5, .inl (cI, 60, .inl C)), (c6, .inl (cI, 60, .inl (cN q)))] 8 [(0, .ref l0), (1, .ref c0), (2, .int (nI nn)), (3, .int (nI ll))] [] := by
    intro f_
    induction f_ with
    | zero => intro ll g2 od2 gr2 wt2 pl2 oc2 hm_; exact absurd hm_ (Nat.not_lt_zero _)
    | succ f_ ih8 =>
      intro ll g2 od2 gr2 wt2 pl2 oc2 hm8 h1 h2 hI
      refine V_iload_n F 3 d_Levels_rank_8 rfl rfl ?_
      refine V_bipush F (v := 30) d_Levels_rank_9 rfl ?_
      refine V_icmpn_gt F 26 (a := ll) (b := 30) (by omega) (by omega) d_Levels_rank_11 (by decide) (fun h11 => ?_) (fun h11 => ?_)
      · skip
        have e11 : ll = 31 := by omega
        subst e11
        have hoc8 := hI.oc_le
        refine V_aload_n F 0 d_Levels_rank_26 rfl rfl ?_
        refine V_get F 0 CI_Levels 5 i_Levels rfl rfl (by decide) m_144 rfl rfl d_Levels_rank_27 ?_
        refine V_aload_n F 1 d_Levels_rank_30 rfl rfl ?_
        refine V_get F 5 CI_Cells 6 i_Cells rfl rfl (by decide) m_81 rfl rfl d_Levels_rank_31 ?_
        refine V_icmpn_ne F 41 (a := oc2) (b := n) (by omega) (by omega) d_Levels_rank_34 (by decide) (fun h34 => ?_) (fun h34 => ?_)
        · skip
          refine V_iconst F (v := 0) d_Levels_rank_41 rfl ?_
          exact V_zret F hr rfl (g2, od2, gr2, wt2, pl2, oc2) (show 0 = bP (oc2 = n) ∧ RI nn n k o A B C 31 0 g2 wt2 pl2 od2 oc2 gr2 from ⟨(bP_f (by assumption)).symm, hI⟩) [0, 1, 2, 3, 4, 5, 6, 7, 8, 9, 10, 11] rfl rfl (by decide) (by decide) d_Levels_rank_42
        · skip
          refine V_iconst F (v := 1) d_Levels_rank_37 rfl ?_
          refine V_goto F 42 d_Levels_rank_38 (by decide) ?_
          exact V_zret F hr rfl (g2, od2, gr2, wt2, pl2, oc2) (show 1 = bP (oc2 = n) ∧ RI nn n k o A B C 31 0 g2 wt2 pl2 od2 oc2 gr2 from ⟨(bP_t (by assumption)).symm, hI⟩) [0, 1, 2, 3, 4, 5, 6, 7, 8, 9, 10, 11] rfl rfl (by decide) (by decide) d_Levels_rank_42
      · skip
        refine V_aload_n F 0 d_Levels_rank_14 rfl rfl ?_
        refine V_aload_n F 1 d_Levels_rank_15 rfl rfl ?_
        refine V_iload_n F 3 d_Levels_rank_16 rfl rfl ?_
        refine V_callV_v (w1 := fun (u_ : (Nat → Nat) × (Nat → Nat) × Nat × (Nat → Nat) × (Nat → Prop) × Nat) => [(l0, .inr (CI_Levels, [.ref l1, .ref l2, .int (nI u_.2.2.1), .ref l3, .ref l4, .int (nI u_.2.2.2.2.2)])), (l1, .inl (cI, 80, .inl (cN u_.1))), (l2, .inl (cI, 60, .inl (cN u_.2.1))), (l3, .inl (cI, 80, .inl (cN u_.2.2.2.1))), (l4, .inl (cB, 60, .inl (cT u_.2.2.2.2.1))), (c0, .inr (CI_Cells, [.ref c1, .ref c2, .ref c3, .ref c4, .ref c5, .ref c6, .int (nI n)])), (c1, .inl (cI, 60, .inl (cN k))), (c2, .inl (cI, 60, .inl (cN o))), (c3, .inl (cI, 60, .inl A)), (c4, .inl (cI, 60, .inl B)), (c5, .inl (cI, 60, .inl C)), (c6, .inl (cI, 60, .inl (cN q)))]) (wr := []) (isC := [0, 1, 2, 3, 4, 5, 6, 7, 8, 9, 10, 11]) (isR := []) (pm := [0, 1, 2, 3, 4, 5, 6, 7, 8, 9, 10, 11]) (As := [.ref c0, .int (nI ll)]) (rest := []) F (c_Levels_rankOneLevel l D cI cL cB l0 l1 l2 l3 l4 gr2 oc2 g2 od2 wt2 pl2 c0 c1 c2 c3 c4 c5 c6 n k o q A B C nn ll (by first | assumption | omega | (simp only [] at *; omega)) (by first | assumption | omega | (simp only [] at *; omega)) (by first | assumption | omega | (simp only [] at *; omega)) (by first | assumption | omega | (simp only [] at *; omega)) (by first | assumption | omega | (simp only [] at *; omega)) (by first | assumption | omega | (simp only [] at *; omega))) (cS_V 2 F.ts m_465 m_466 m_10 m_39 m_467 (by decide +kernel) ⟨Nat.le_of_ble_eq_true rfl, Nat.le_of_ble_eq_true rfl⟩) (ci := CI_Levels) (q0 := 0) rfl rfl rfl (Nat.le_of_ble_eq_true rfl) d_Levels_rank_17 ⟨Nat.le_of_ble_eq_true rfl, Nat.le_of_ble_eq_true rfl⟩ ⟨rfl, rfl, rfl, rfl, rfl, fun _ => rfl, rfl⟩ (fun uu17 q17_ => ?_) rfl
        obtain ⟨g2_17, od2_17, gr2_17, wt2_17, pl2_17, oc2_17⟩ := uu17
        have e17 : RI nn n k o A B C (ll + 1) 0 g2_17 wt2_17 pl2_17 od2_17 oc2_17 gr2_17 := q17_
        clear q17_
        refine V_cast (w' := [(l0, .inr (CI_Levels, [.ref l1, .ref l2, .int (nI gr2_17), .ref l3, .ref l4, .int (nI oc2_17)])), (l1, .inl (cI, 80, .inl (cN g2_17))), (l2, .inl (cI, 60, .inl (cN od2_17))), (l3, .inl (cI, 80, .inl (cN wt2_17))), (l4, .inl (cB, 60, .inl (cT pl2_17))), (c0, .inr (CI_Cells, [.ref c1, .ref c2, .ref c3, .ref c4, .ref c5, .ref c6, .int (nI n)])), (c1, .inl (cI, 60, .inl (cN k))), (c2, .inl (cI, 60, .inl (cN o))), (c3, .inl (cI, 60, .inl A)), (c4, .inl (cI, 60, .inl B)), (c5, .inl (cI, 60, .inl C)), (c6, .inl (cI, 60, .inl (cN q)))]) rfl rfl rfl ?_
        refine V_iinc F 3 (v := nI (ll + 1)) (lv' := [(3, .int (nI (ll + 1))), (0, .ref l0), (1, .ref c0), (2, .int (nI nn))]) d_Levels_rank_20 rfl (nI_inc _) (by decide) rfl ?_
        refine V_goto F 8 d_Levels_rank_23 (by decide) ?_
        refine V_lv [1, 2, 3, 0] rfl ?_
        exact ih8 (ll + 1) g2_17 od2_17 gr2_17 wt2_17 pl2_17 oc2_17 (by omega) (by first | assumption | omega | (simp only [] at *; omega)) (by first | assumption | omega | (simp only [] at *; omega)) e17
  refine V_lv [1, 2, 3, 0] rfl ?_
  exact L8 ((31 - 1) + 1) 1 g2_3 od 0 wt2_3 pl2_3 0 (Nat.lt_succ_self _) (by first | assumption | omega | (simp only [] at *; omega)) (by first | assumption | omega | (simp only [] at *; omega)) (RI.start e3.1 e3.2.1 e3.2.2)
