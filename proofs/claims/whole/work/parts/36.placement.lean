set_option maxHeartbeats 4000000 in
set_option maxRecDepth 100000 in
theorem c_Placement_findNamed (l : Launch) (D : va_G) (cI cL cB : ClassId) (p0 : Nat) (p1 : Nat) (p2 : Nat) (nt : Nat) (no : Nat → Nat) (nm : Nat → Prop) (t0 : Nat) (t1 : Nat) (t2 : Nat) (t3 : Nat) (t4 : Nat) (t5 : Nat) (t6 : Nat) (n2 : Nat) (k2 : Nat → Nat) (o2 : Nat → Nat) (q2 : Nat → Nat) (A2 : Nat → Int32) (B2 : Nat → Int32) (C2 : Nat → Int32) (hn2 : n2 ≤ 10) (hw2 : WfC 10 n2 k2 o2 A2 B2 C2) : Ctv l y_Placement_findNamed (wK w_Placement_findNamed) ({ frames := 1, cells := 0, slots := 0, locals := 22 }) D classes (TY cI cL cB) [.ref p0, .ref t0] [(p0, .inr (CI_Placement, [.ref p1, .ref p2, .int (nI nt)])), (p1, .inl (cI, 10, .inl (cN no))), (p2, .inl (cB, 10, .inl (cT nm))), (t0, .inr (CI_Cells, [.ref t1, .ref t2, .ref t3, .ref t4, .ref t5, .ref t6, .int (nI n2)])), (t1, .inl (cI, 10, .inl (cN k2))), (t2, .inl (cI, 10, .inl (cN o2))), (t3, .inl (cI, 10, .inl A2)), (t4, .inl (cI, 10, .inl B2)), (t5, .inl (cI, 10, .inl C2)), (t6, .inl (cI, 10, .inl (cN q2)))] (fun (u_ : (Nat → Prop)) => ∀ l, l < 10 → (u_ l ↔ Nmd n2 k2 o2 A2 B2 C2 l)) (fun (u_ : (Nat → Prop)) => [(p0, .inr (CI_Placement, [.ref p1, .ref p2, .int (nI nt)])), (p1, .inl (cI, 10, .inl (cN no))), (p2, .inl (cB, 10, .inl (cT u_))), (t0, .inr (CI_Cells, [.ref t1, .ref t2, .ref t3, .ref t4, .ref t5, .ref t6, .int (nI n2)])), (t1, .inl (cI, 10, .inl (cN k2))), (t2, .inl (cI, 10, .inl (cN o2))), (t3, .inl (cI, 10, .inl A2)), (t4, .inl (cI, 10, .inl B2)), (t5, .inl (cI, 10, .inl C2)), (t6, .inl (cI, 10, .inl (cN q2)))]) 0 0 := by
  refine Ctg_of (cc := prog_7_method_3_code) (maxL := 5) (ret := none) "CircuitSimulator$Placement" [(0, .ref p0), (1, .ref t0)] (by decide) rfl rfl (Nat.le_of_ble_eq_true rfl) rfl ?_
  intro p_ e_ s_ m_ args_ below_ meth_ c_ A_ F hr hin
  refine V_iconst F (v := 0) d_Placement_findNamed_0 rfl ?_
  refine V_istore_n F (lv' := [(2, .int (nI 0)), (0, .ref p0), (1, .ref t0)]) d_Placement_findNamed_1 rfl (by decide) rfl ?_
  have L2 : ∀ (f_ : Nat) (i : Nat) (nm2 : Nat → Prop), 10 - i < f_ → (i ≤ 10) → (∀ l, l < i → ¬ nm2 l) → V p_ l e_ ({ frames := 1, cells := 0, slots := 0, locals := 22 }) s_ m_ args_ below_ meth_ c_ A_ (MQ below_ (cQv D classes (fun (u_ : (Nat → Prop)) => ∀ l, l < 10 → (u_ l ↔ Nmd n2 k2 o2 A2 B2 C2 l)) (fun (u_ : (Nat → Prop)) => [(p0, .inr (CI_Placement, [.ref p1, .ref p2, .int (nI nt)])), (p1, .inl (cI, 10, .inl (cN no))), (p2, .inl (cB, 10, .inl (cT u_))), (t0, .inr (CI_Cells, [.ref t1, .ref t2, .ref t3, .ref t4, .ref t5, .ref t6, .int (nI n2)])), (t1, .inl (cI, 10, .inl (cN k2))), (t2, .inl (cI, 10, .inl (cN o2))), (t3, .inl (cI, 10, .inl A2)), (t4, .inl (cI, 10, .inl B2)), (t5, .inl (cI, 10, .inl C2)), (t6, .inl (cI, 10, .inl (cN q2)))]) A_) args_ s_ 0 0 A_) D classes 5 0 0 [(p0, .inr (CI_Placement, [.ref p1, .ref p2, .int (nI nt)])), (p1, .inl (cI, 10, .inl (cN no))), (p2, .inl (cB, 10, .inl (cT nm2))), (t0, .inr (CI_Cells, [.ref t1, .ref t2, .ref t3, .ref t4, .ref t5, .ref t6, .int (nI n2)])), (t1, .inl (cI, 10, .inl (cN k2))), (t2, .inl (cI, 10, .inl (cN o2))), (t3, .inl (cI, 10, .inl A2)), (t4, .inl (cI, 10, .inl B2)), (t5, .inl (cI, 10, .inl C2)), (t6, .inl (cI, 10, .inl (cN q2)))] 2 [(0, .ref p0), (1, .ref t0), (2, .int (nI i))] [] := by
    intro f_
    induction f_ with
    | zero => intro i nm2 hm_; exact absurd hm_ (Nat.not_lt_zero _)
    | succ f_ ih2 =>
      intro i nm2 hm2 hi hI
      refine V_iload_n F 2 d_Placement_findNamed_2 rfl rfl ?_
      refine V_bipush F (v := 10) d_Placement_findNamed_3 rfl ?_
      refine V_icmpn_ge F 21 (a := i) (b := 10) (by omega) (by omega) d_Placement_findNamed_5 (by decide) (fun h5 => ?_) (fun h5 => ?_)
      · skip
        refine V_iconst F (v := 0) d_Placement_findNamed_21 rfl ?_
        refine V_istore_n F (lv' := [(2, .int (nI 0)), (0, .ref p0), (1, .ref t0)]) d_Placement_findNamed_22 rfl (by decide) rfl ?_
        have L23 : ∀ (f_ : Nat) (j : Nat) (nm3 : Nat → Prop), n2 - j < f_ → (j ≤ n2) → (∀ l, l < 10 → (nm3 l ↔ Nmd j k2 o2 A2 B2 C2 l)) → V p_ l e_ ({ frames := 1, cells := 0, slots := 0, locals := 22 }) s_ m_ args_ below_ meth_ c_ A_ (MQ below_ (cQv D classes (fun (u_ : (Nat → Prop)) => ∀ l, l < 10 → (u_ l ↔ Nmd n2 k2 o2 A2 B2 C2 l)) (fun (u_ : (Nat → Prop)) => [(p0, .inr (CI_Placement, [.ref p1, .ref p2, .int (nI nt)])), (p1, .inl (cI, 10, .inl (cN no))), (p2, .inl (cB, 10, .inl (cT u_))), (t0, .inr (CI_Cells, [.ref t1, .ref t2, .ref t3, .ref t4, .ref t5, .ref t6, .int (nI n2)])), (t1, .inl (cI, 10, .inl (cN k2))), (t2, .inl (cI, 10, .inl (cN o2))), (t3, .inl (cI, 10, .inl A2)), (t4, .inl (cI, 10, .inl B2)), (t5, .inl (cI, 10, .inl C2)), (t6, .inl (cI, 10, .inl (cN q2)))]) A_) args_ s_ 0 0 A_) D classes 5 0 0 [(p0, .inr (CI_Placement, [.ref p1, .ref p2, .int (nI nt)])), (p1, .inl (cI, 10, .inl (cN no))), (p2, .inl (cB, 10, .inl (cT nm3))), (t0, .inr (CI_Cells, [.ref t1, .ref t2, .ref t3, .ref t4, .ref t5, .ref t6, .int (nI n2)])), (t1, .inl (cI, 10, .inl (cN k2))), (t2, .inl (cI, 10, .inl (cN o2))), (t3, .inl (cI, 10, .inl A2)), (t4, .inl (cI, 10, .inl B2)), (t5, .inl (cI, 10, .inl C2)), (t6, .inl (cI, 10, .inl (cN q2)))] 23 [(0, .ref p0), (1, .ref t0), (2, .int (nI j))] [] := by
          intro f_
          induction f_ with
          | zero => intro j nm3 hm_; exact absurd hm_ (Nat.not_lt_zero _)
          | succ f_ ih23 =>
            intro j nm3 hm23 hj hJ
            refine V_iload_n F 2 d_Placement_findNamed_23 rfl rfl ?_
            refine V_aload_n F 1 d_Placement_findNamed_24 rfl rfl ?_
            refine V_get F 3 CI_Cells 6 i_Cells rfl rfl (by decide) m_84 rfl rfl d_Placement_findNamed_25 ?_
            refine V_icmpn_ge F 83 (a := j) (b := n2) (by omega) (by omega) d_Placement_findNamed_28 (by decide) (fun h28 => ?_) (fun h28 => ?_)
            · skip
              exact V_vret F hr nm3 (by have e : j = n2 := (by omega); subst e; exact hJ) [0, 1, 2, 3, 4, 5, 6, 7, 8, 9] rfl rfl (by decide) (by decide) d_Placement_findNamed_83
            · skip
              have hk8 := (hw2 j (by omega)).1
              have ho8 := (hw2 j (by omega)).2.1
              have hn8 := inpN_le (k2 j)
              refine V_aload_n F 0 d_Placement_findNamed_31 rfl rfl ?_
              refine V_get F 0 CI_Placement 1 i_Placement rfl rfl (by decide) m_178 rfl rfl d_Placement_findNamed_32 ?_
              refine V_aload_n F 1 d_Placement_findNamed_35 rfl rfl ?_
              refine V_get F 3 CI_Cells 1 i_Cells rfl rfl (by decide) m_69 rfl rfl d_Placement_findNamed_36 ?_
              refine V_iload_n F 2 d_Placement_findNamed_39 rfl rfl ?_
              refine V_ialdnN F 5 0 (k := j) rfl rfl (by omega) (by decide) d_Placement_findNamed_40 ?_
              refine V_iconst F (v := 1) d_Placement_findNamed_41 rfl ?_
              refine V_top (y := bP True) (bP_t trivial).symm ?_
              refine V_zastn F 2 2 (k := o2 j) (w' := [(p0, .inr (CI_Placement, [.ref p1, .ref p2, .int (nI nt)])), (p1, .inl (cI, 10, .inl (cN no))), (p2, .inl (cB, 10, .inl (cT (up nm3 (o2 j) True)))), (t0, .inr (CI_Cells, [.ref t1, .ref t2, .ref t3, .ref t4, .ref t5, .ref t6, .int (nI n2)])), (t1, .inl (cI, 10, .inl (cN k2))), (t2, .inl (cI, 10, .inl (cN o2))), (t3, .inl (cI, 10, .inl A2)), (t4, .inl (cI, 10, .inl B2)), (t5, .inl (cI, 10, .inl C2)), (t6, .inl (cI, 10, .inl (cN q2)))]) rfl rfl (by omega) (by decide) (bP_vnar _) (by rw [upd_cT] <;> rfl) d_Placement_findNamed_42 ?_
              refine V_aload_n F 1 d_Placement_findNamed_43 rfl rfl ?_
              refine V_iload_n F 2 d_Placement_findNamed_44 rfl rfl ?_
              refine V_callV_i (w1 := fun (u_ : Unit) => [(p0, .inr (CI_Placement, [.ref p1, .ref p2, .int (nI nt)])), (p1, .inl (cI, 10, .inl (cN no))), (p2, .inl (cB, 10, .inl (cT (up nm3 (o2 j) True)))), (t0, .inr (CI_Cells, [.ref t1, .ref t2, .ref t3, .ref t4, .ref t5, .ref t6, .int (nI n2)])), (t1, .inl (cI, 10, .inl (cN k2))), (t2, .inl (cI, 10, .inl (cN o2))), (t3, .inl (cI, 10, .inl A2)), (t4, .inl (cI, 10, .inl B2)), (t5, .inl (cI, 10, .inl C2)), (t6, .inl (cI, 10, .inl (cN q2)))]) (wr := [(p0, .inr (CI_Placement, [.ref p1, .ref p2, .int (nI nt)])), (p1, .inl (cI, 10, .inl (cN no))), (p2, .inl (cB, 10, .inl (cT (up nm3 (o2 j) True))))]) (isC := [3, 4, 5, 6, 7, 8, 9]) (isR := [0, 1, 2]) (pm := [0, 1, 2, 3, 4, 5, 6, 7, 8, 9]) (As := [.int (nI j)]) (rest := []) F (c_Cells_inputs l D cI cL cB t0 t1 t2 t3 t4 t5 t6 10 n2 k2 o2 q2 A2 B2 C2 j (by first | assumption | omega | (simp only [] at *; omega)) (by first | assumption | omega | (simp only [] at *; omega)) (by first | assumption | omega | (simp only [] at *; omega)) (by first | assumption | omega | (simp only [] at *; omega))) (cS_V 1 F.ts m_433 m_253 m_254 m_36 m_255 (by decide +kernel) ⟨Nat.le_of_ble_eq_true rfl, Nat.le_of_ble_eq_true rfl⟩) (ci := CI_Cells) (q0 := 0) rfl rfl rfl (Nat.le_of_ble_eq_true rfl) d_Placement_findNamed_45 ⟨Nat.le_of_ble_eq_true rfl, Nat.le_of_ble_eq_true rfl⟩ ⟨rfl, rfl, rfl, rfl, rfl, fun _ => rfl, rfl⟩ (fun r45 uu45 q45_ => ?_) rfl
              subst q45_
              refine V_istore_n F (lv' := [(3, .int (nI (inpN (k2 j)))), (0, .ref p0), (1, .ref t0), (2, .int (nI j))]) d_Placement_findNamed_48 rfl (by decide) rfl ?_
              refine V_iconst F (v := 0) d_Placement_findNamed_49 rfl ?_
              refine V_istore F (lv' := [(4, .int (nI 0)), (3, .int (nI (inpN (k2 j)))), (0, .ref p0), (1, .ref t0), (2, .int (nI j))]) d_Placement_findNamed_50 (by decide) rfl ?_
              have L52 : ∀ (f_ : Nat) (p : Nat) (nm4 : Nat → Prop), inpN (k2 j) - p < f_ → (p ≤ inpN (k2 j)) → (∀ l, l < 10 → (nm4 l ↔ NmI j p k2 o2 A2 B2 C2 l)) → V p_ l e_ ({ frames := 1, cells := 0, slots := 0, locals := 22 }) s_ m_ args_ below_ meth_ c_ A_ (MQ below_ (cQv D classes (fun (u_ : (Nat → Prop)) => ∀ l, l < 10 → (u_ l ↔ Nmd n2 k2 o2 A2 B2 C2 l)) (fun (u_ : (Nat → Prop)) => [(p0, .inr (CI_Placement, [.ref p1, .ref p2, .int (nI nt)])), (p1, .inl (cI, 10, .inl (cN no))), (p2, .inl (cB, 10, .inl (cT u_))), (t0, .inr (CI_Cells, [.ref t1, .ref t2, .ref t3, .ref t4, .ref t5, .ref t6, .int (nI n2)])), (t1, .inl (cI, 10, .inl (cN k2))), (t2, .inl (cI, 10, .inl (cN o2))), (t3, .inl (cI, 10, .inl A2)), (t4, .inl (cI, 10, .inl B2)), (t5, .inl (cI, 10, .inl C2)), (t6, .inl (cI, 10, .inl (cN q2)))]) A_) args_ s_ 0 0 A_) D classes 5 0 0 [(p0, .inr (CI_Placement, [.ref p1, .ref p2, .int (nI nt)])), (p1, .inl (cI, 10, .inl (cN no))), (p2, .inl (cB, 10, .inl (cT nm4))), (t0, .inr (CI_Cells, [.ref t1, .ref t2, .ref t3, .ref t4, .ref t5, .ref t6, .int (nI n2)])), (t1, .inl (cI, 10, .inl (cN k2))), (t2, .inl (cI, 10, .inl (cN o2))), (t3, .inl (cI, 10, .inl A2)), (t4, .inl (cI, 10, .inl B2)), (t5, .inl (cI, 10, .inl C2)), (t6, .inl (cI, 10, .inl (cN q2)))] 52 [(0, .ref p0), (1, .ref t0), (2, .int (nI j)), (3, .int (nI (inpN (k2 j)))), (4, .int (nI p))] [] := by
                intro f_
                induction f_ with
                | zero => intro p nm4 hm_; exact absurd hm_ (Nat.not_lt_zero _)
                | succ f_ ih52 =>
                  intro p nm4 hm52 hp hK
                  refine V_iload F 4 d_Placement_findNamed_52 rfl ?_
                  refine V_iload_n F 3 d_Placement_findNamed_54 rfl rfl ?_
                  refine V_icmpn_ge F 77 (a := p) (b := inpN (k2 j)) (by omega) (by omega) d_Placement_findNamed_55 (by decide) (fun h55 => ?_) (fun h55 => ?_)
                  · skip
                    refine V_iinc F 2 (v := nI (j + 1)) (lv' := [(2, .int (nI (j + 1))), (0, .ref p0), (1, .ref t0), (3, .int (nI (inpN (k2 j)))), (4, .int (nI p))]) d_Placement_findNamed_77 rfl (nI_inc _) (by decide) rfl ?_
                    refine V_goto F 23 d_Placement_findNamed_80 (by decide) ?_
                    refine V_lv [1, 2, 0] rfl ?_
                    exact ih23 (j + 1) nm4 (by omega) (by first | assumption | omega | (simp only [] at *; omega)) (fun l hl => (hK l hl).trans (NmI_end (by omega) l))
                  · skip
                    have hv8 : vp_in (inP A2 B2 C2 j p) 10 := (hw2 j (by omega)).2.2.1 p h55
                    have hi8 : iN A2 B2 C2 j p < 10 := vp_lt hv8
                    refine V_aload_n F 0 d_Placement_findNamed_58 rfl rfl ?_
                    refine V_get F 0 CI_Placement 1 i_Placement rfl rfl (by decide) m_178 rfl rfl d_Placement_findNamed_59 ?_
                    refine V_aload_n F 1 d_Placement_findNamed_62 rfl rfl ?_
                    refine V_iload_n F 2 d_Placement_findNamed_63 rfl rfl ?_
                    refine V_iload F 4 d_Placement_findNamed_64 rfl ?_
                    refine V_callV_i (w1 := fun (u_ : Unit) => [(p0, .inr (CI_Placement, [.ref p1, .ref p2, .int (nI nt)])), (p1, .inl (cI, 10, .inl (cN no))), (p2, .inl (cB, 10, .inl (cT nm4))), (t0, .inr (CI_Cells, [.ref t1, .ref t2, .ref t3, .ref t4, .ref t5, .ref t6, .int (nI n2)])), (t1, .inl (cI, 10, .inl (cN k2))), (t2, .inl (cI, 10, .inl (cN o2))), (t3, .inl (cI, 10, .inl A2)), (t4, .inl (cI, 10, .inl B2)), (t5, .inl (cI, 10, .inl C2)), (t6, .inl (cI, 10, .inl (cN q2)))]) (wr := [(p0, .inr (CI_Placement, [.ref p1, .ref p2, .int (nI nt)])), (p1, .inl (cI, 10, .inl (cN no))), (p2, .inl (cB, 10, .inl (cT nm4)))]) (isC := [3, 4, 5, 6, 7, 8, 9]) (isR := [0, 1, 2]) (pm := [0, 1, 2, 3, 4, 5, 6, 7, 8, 9]) (As := [.int (nI j), .int (nI p)]) (rest := [.ref p2]) F (c_Cells_input l D cI cL cB t0 t1 t2 t3 t4 t5 t6 10 n2 k2 o2 q2 A2 B2 C2 j p (by first | assumption | omega | (simp only [] at *; omega)) (by first | assumption | omega | (simp only [] at *; omega)) (by first | assumption | omega | (simp only [] at *; omega)) (by first | assumption | omega | (simp only [] at *; omega))) (cS_V 2 F.ts m_434 m_257 m_258 m_36 m_259 (by decide +kernel) ⟨Nat.le_of_ble_eq_true rfl, Nat.le_of_ble_eq_true rfl⟩) (ci := CI_Cells) (q0 := 0) rfl rfl rfl (Nat.le_of_ble_eq_true rfl) d_Placement_findNamed_66 ⟨Nat.le_of_ble_eq_true rfl, Nat.le_of_ble_eq_true rfl⟩ ⟨rfl, rfl, rfl, rfl, rfl, fun _ => rfl, rfl⟩ (fun r66 uu66 q66_ => ?_) rfl
                    subst q66_
                    refine V_top (y := nI (iN A2 B2 C2 j p)) (vin_nI hv8 (by decide)) ?_
                    refine V_iconst F (v := 1) d_Placement_findNamed_69 rfl ?_
                    refine V_top (y := bP True) (bP_t trivial).symm ?_
                    refine V_zastn F 2 2 (k := iN A2 B2 C2 j p) (w' := [(p0, .inr (CI_Placement, [.ref p1, .ref p2, .int (nI nt)])), (p1, .inl (cI, 10, .inl (cN no))), (p2, .inl (cB, 10, .inl (cT (up nm4 (iN A2 B2 C2 j p) True)))), (t0, .inr (CI_Cells, [.ref t1, .ref t2, .ref t3, .ref t4, .ref t5, .ref t6, .int (nI n2)])), (t1, .inl (cI, 10, .inl (cN k2))), (t2, .inl (cI, 10, .inl (cN o2))), (t3, .inl (cI, 10, .inl A2)), (t4, .inl (cI, 10, .inl B2)), (t5, .inl (cI, 10, .inl C2)), (t6, .inl (cI, 10, .inl (cN q2)))]) rfl rfl (by omega) (by decide) (bP_vnar _) (by rw [upd_cT] <;> rfl) d_Placement_findNamed_70 ?_
                    refine V_iinc F 4 (v := nI (p + 1)) (lv' := [(4, .int (nI (p + 1))), (0, .ref p0), (1, .ref t0), (2, .int (nI j)), (3, .int (nI (inpN (k2 j))))]) d_Placement_findNamed_71 rfl (nI_inc _) (by decide) rfl ?_
                    refine V_goto F 52 d_Placement_findNamed_74 (by decide) ?_
                    refine V_lv [1, 2, 3, 4, 0] rfl ?_
                    exact ih52 (p + 1) (up nm4 (iN A2 B2 C2 j p) True) (by omega) (by first | assumption | omega | (simp only [] at *; omega)) (Nm_up hK NmI_p)
              refine V_lv [2, 3, 4, 1, 0] rfl ?_
              exact L52 ((inpN (k2 j) - 0) + 1) 0 (up nm3 (o2 j) True) (Nat.lt_succ_self _) (by first | assumption | omega | (simp only [] at *; omega)) (Nm_up hJ NmI_0)
        refine V_lv [1, 2, 0] rfl ?_
        exact L23 ((n2 - 0) + 1) 0 nm2 (Nat.lt_succ_self _) (by first | assumption | omega | (simp only [] at *; omega)) (fun l hl => ⟨fun z => absurd z (hI l (by omega)), fun ⟨c, hc, _⟩ => absurd hc (Nat.not_lt_zero c)⟩)
      · skip
        refine V_aload_n F 0 d_Placement_findNamed_8 rfl rfl ?_
        refine V_get F 0 CI_Placement 1 i_Placement rfl rfl (by decide) m_178 rfl rfl d_Placement_findNamed_9 ?_
        refine V_iload_n F 2 d_Placement_findNamed_12 rfl rfl ?_
        refine V_iconst F (v := 0) d_Placement_findNamed_13 rfl ?_
        refine V_top (y := bP False) (bP_f id).symm ?_
        refine V_zastn F 2 2 (k := i) (w' := [(p0, .inr (CI_Placement, [.ref p1, .ref p2, .int (nI nt)])), (p1, .inl (cI, 10, .inl (cN no))), (p2, .inl (cB, 10, .inl (cT (up nm2 i False)))), (t0, .inr (CI_Cells, [.ref t1, .ref t2, .ref t3, .ref t4, .ref t5, .ref t6, .int (nI n2)])), (t1, .inl (cI, 10, .inl (cN k2))), (t2, .inl (cI, 10, .inl (cN o2))), (t3, .inl (cI, 10, .inl A2)), (t4, .inl (cI, 10, .inl B2)), (t5, .inl (cI, 10, .inl C2)), (t6, .inl (cI, 10, .inl (cN q2)))]) rfl rfl (by omega) (by decide) (bP_vnar _) (by rw [upd_cT] <;> rfl) d_Placement_findNamed_14 ?_
        refine V_iinc F 2 (v := nI (i + 1)) (lv' := [(2, .int (nI (i + 1))), (0, .ref p0), (1, .ref t0)]) d_Placement_findNamed_15 rfl (nI_inc _) (by decide) rfl ?_
        refine V_goto F 2 d_Placement_findNamed_18 (by decide) ?_
        refine V_lv [1, 2, 0] rfl ?_
        exact ih2 (i + 1) (up nm2 i False) (by omega) (by first | assumption | omega | (simp only [] at *; omega)) (up_allP hI id)
  refine V_lv [1, 2, 0] rfl ?_
  exact L2 ((10 - 0) + 1) 0 nm (Nat.lt_succ_self _) (by first | assumption | omega | (simp only [] at *; omega)) (fun t h => absurd h (Nat.not_lt_zero t))

set_option maxHeartbeats 4000000 in
set_option maxRecDepth 100000 in
theorem c_Placement_place (l : Launch) (D : va_G) (cI cL cB : ClassId) (p0 : Nat) (p1 : Nat) (p2 : Nat) (nt : Nat) (no : Nat → Nat) (nm : Nat → Prop) (t0 : Nat) (t1 : Nat) (t2 : Nat) (t3 : Nat) (t4 : Nat) (t5 : Nat) (t6 : Nat) (n2 : Nat) (k2 : Nat → Nat) (o2 : Nat → Nat) (q2 : Nat → Nat) (A2 : Nat → Int32) (B2 : Nat → Int32) (C2 : Nat → Int32) (x : Nat) (y : Nat) (nn : Nat) (hn2 : n2 ≤ 10) (hw2 : WfC 10 n2 k2 o2 A2 B2 C2) (hnn : nn ≤ 80) : Ctv l y_Placement_place (wK w_Placement_place) ({ frames := 2, cells := 0, slots := 0, locals := 46 }) D classes (TY cI cL cB) [.ref p0, .ref t0, .int (nI x), .int (nI y), .int (nI nn)] [(p0, .inr (CI_Placement, [.ref p1, .ref p2, .int (nI nt)])), (p1, .inl (cI, 10, .inl (cN no))), (p2, .inl (cB, 10, .inl (cT nm))), (t0, .inr (CI_Cells, [.ref t1, .ref t2, .ref t3, .ref t4, .ref t5, .ref t6, .int (nI n2)])), (t1, .inl (cI, 10, .inl (cN k2))), (t2, .inl (cI, 10, .inl (cN o2))), (t3, .inl (cI, 10, .inl A2)), (t4, .inl (cI, 10, .inl B2)), (t5, .inl (cI, 10, .inl C2)), (t6, .inl (cI, 10, .inl (cN q2)))] (fun (u_ : (Nat → Nat) × (Nat → Prop) × Nat) => (∀ l, l < 10 → (l < 2 ∨ Nmd n2 k2 o2 A2 B2 C2 l) → u_.1 l = locN x y nn (Nmd n2 k2 o2 A2 B2 C2) l) ∧ u_.2.2 = nn + cnt (fun t => 2 ≤ t ∧ Nmd n2 k2 o2 A2 B2 C2 t) 10) (fun (u_ : (Nat → Nat) × (Nat → Prop) × Nat) => [(p0, .inr (CI_Placement, [.ref p1, .ref p2, .int (nI u_.2.2)])), (p1, .inl (cI, 10, .inl (cN u_.1))), (p2, .inl (cB, 10, .inl (cT u_.2.1))), (t0, .inr (CI_Cells, [.ref t1, .ref t2, .ref t3, .ref t4, .ref t5, .ref t6, .int (nI n2)])), (t1, .inl (cI, 10, .inl (cN k2))), (t2, .inl (cI, 10, .inl (cN o2))), (t3, .inl (cI, 10, .inl A2)), (t4, .inl (cI, 10, .inl B2)), (t5, .inl (cI, 10, .inl C2)), (t6, .inl (cI, 10, .inl (cN q2)))]) 0 0 := by
  refine Ctg_of (cc := prog_7_method_2_code) (maxL := 6) (ret := none) "CircuitSimulator$Placement" [(0, .ref p0), (1, .ref t0), (2, .int (nI x)), (3, .int (nI y)), (4, .int (nI nn))] (by decide) rfl rfl (Nat.le_of_ble_eq_true rfl) rfl ?_
  intro p_ e_ s_ m_ args_ below_ meth_ c_ A_ F hr hin
  refine V_aload_n F 0 d_Placement_place_0 rfl rfl ?_
  refine V_aload_n F 1 d_Placement_place_1 rfl rfl ?_
  refine V_callV_v (w1 := fun (u_ : (Nat → Prop)) => [(p0, .inr (CI_Placement, [.ref p1, .ref p2, .int (nI nt)])), (p1, .inl (cI, 10, .inl (cN no))), (p2, .inl (cB, 10, .inl (cT u_))), (t0, .inr (CI_Cells, [.ref t1, .ref t2, .ref t3, .ref t4, .ref t5, .ref t6, .int (nI n2)])), (t1, .inl (cI, 10, .inl (cN k2))), (t2, .inl (cI, 10, .inl (cN o2))), (t3, .inl (cI, 10, .inl A2)), (t4, .inl (cI, 10, .inl B2)), (t5, .inl (cI, 10, .inl C2)), (t6, .inl (cI, 10, .inl (cN q2)))]) (wr := []) (isC := [0, 1, 2, 3, 4, 5, 6, 7, 8, 9]) (isR := []) (pm := [0, 1, 2, 3, 4, 5, 6, 7, 8, 9]) (As := [.ref t0]) (rest := []) F (c_Placement_findNamed l D cI cL cB p0 p1 p2 nt no nm t0 t1 t2 t3 t4 t5 t6 n2 k2 o2 q2 A2 B2 C2 (by first | assumption | omega | (simp only [] at *; omega)) (by first | assumption | omega | (simp only [] at *; omega))) (cS_V 1 F.ts m_430 m_431 m_6 m_41 m_432 (by decide +kernel) ⟨Nat.le_of_ble_eq_true rfl, Nat.le_of_ble_eq_true rfl⟩) (ci := CI_Placement) (q0 := 0) rfl rfl rfl (Nat.le_of_ble_eq_true rfl) d_Placement_place_2 ⟨Nat.le_of_ble_eq_true rfl, Nat.le_of_ble_eq_true rfl⟩ ⟨rfl, rfl, rfl, rfl, rfl, fun _ => rfl, rfl⟩ (fun uu2 q2_ => ?_) rfl
  obtain ⟨nm2_2, rfl⟩ : ∃ z, z = uu2 := ⟨_, rfl⟩
  have e2 : ∀ l, l < 10 → (nm2_2 l ↔ Nmd n2 k2 o2 A2 B2 C2 l) := q2_
  clear q2_
  refine V_aload_n F 0 d_Placement_place_5 rfl rfl ?_
  refine V_get F 0 CI_Placement 0 i_Placement rfl rfl (by decide) m_177 rfl rfl d_Placement_place_6 ?_
  refine V_iconst F (v := 0) d_Placement_place_9 rfl ?_
  refine V_iload_n F 2 d_Placement_place_10 rfl rfl ?_
  refine V_iastn F 1 0 (k := 0) (w' := [(p0, .inr (CI_Placement, [.ref p1, .ref p2, .int (nI nt)])), (p1, .inl (cI, 10, .inl (cN (up no 0 x)))), (p2, .inl (cB, 10, .inl (cT nm2_2))), (t0, .inr (CI_Cells, [.ref t1, .ref t2, .ref t3, .ref t4, .ref t5, .ref t6, .int (nI n2)])), (t1, .inl (cI, 10, .inl (cN k2))), (t2, .inl (cI, 10, .inl (cN o2))), (t3, .inl (cI, 10, .inl A2)), (t4, .inl (cI, 10, .inl B2)), (t5, .inl (cI, 10, .inl C2)), (t6, .inl (cI, 10, .inl (cN q2)))]) rfl rfl (by omega) (by decide) (by rw [upd_cN] <;> rfl) d_Placement_place_11 ?_
  refine V_aload_n F 0 d_Placement_place_12 rfl rfl ?_
  refine V_get F 0 CI_Placement 0 i_Placement rfl rfl (by decide) m_177 rfl rfl d_Placement_place_13 ?_
  refine V_iconst F (v := 1) d_Placement_place_16 rfl ?_
  refine V_iload_n F 3 d_Placement_place_17 rfl rfl ?_
  refine V_iastn F 1 0 (k := 1) (w' := [(p0, .inr (CI_Placement, [.ref p1, .ref p2, .int (nI nt)])), (p1, .inl (cI, 10, .inl (cN (up (up no 0 x) 1 y)))), (p2, .inl (cB, 10, .inl (cT nm2_2))), (t0, .inr (CI_Cells, [.ref t1, .ref t2, .ref t3, .ref t4, .ref t5, .ref t6, .int (nI n2)])), (t1, .inl (cI, 10, .inl (cN k2))), (t2, .inl (cI, 10, .inl (cN o2))), (t3, .inl (cI, 10, .inl A2)), (t4, .inl (cI, 10, .inl B2)), (t5, .inl (cI, 10, .inl C2)), (t6, .inl (cI, 10, .inl (cN q2)))]) rfl rfl (by omega) (by decide) (by rw [upd_cN] <;> rfl) d_Placement_place_18 ?_
  refine V_aload_n F 0 d_Placement_place_19 rfl rfl ?_
  refine V_iload F 4 d_Placement_place_20 rfl ?_
  refine V_put F 0 CI_Placement 2 (w' := [(p0, .inr (CI_Placement, [.ref p1, .ref p2, .int (nI nn)])), (p1, .inl (cI, 10, .inl (cN (up (up no 0 x) 1 y)))), (p2, .inl (cB, 10, .inl (cT nm2_2))), (t0, .inr (CI_Cells, [.ref t1, .ref t2, .ref t3, .ref t4, .ref t5, .ref t6, .int (nI n2)])), (t1, .inl (cI, 10, .inl (cN k2))), (t2, .inl (cI, 10, .inl (cN o2))), (t3, .inl (cI, 10, .inl A2)), (t4, .inl (cI, 10, .inl B2)), (t5, .inl (cI, 10, .inl C2)), (t6, .inl (cI, 10, .inl (cN q2)))]) t_Placement tk_Placement n_Placement i_Placement rfl rfl (by decide) m_179 rfl rfl rfl rfl (Nat.le_of_ble_eq_true rfl) rfl d_Placement_place_22 ?_
  refine V_iconst F (v := 2) d_Placement_place_25 rfl ?_
  refine V_istore F (lv' := [(5, .int (nI 2)), (0, .ref p0), (1, .ref t0), (2, .int (nI x)), (3, .int (nI y)), (4, .int (nI nn))]) d_Placement_place_26 (by decide) rfl ?_
  have L28 : ∀ (f_ : Nat) (i : Nat) (no3 : Nat → Nat) (nt3 : Nat), 10 - i < f_ → (2 ≤ i) → (i ≤ 10) → (∀ l, l < i → (l < 2 ∨ Nmd n2 k2 o2 A2 B2 C2 l) → no3 l = locN x y nn (Nmd n2 k2 o2 A2 B2 C2) l) → (nt3 = nn + cnt (fun t => 2 ≤ t ∧ Nmd n2 k2 o2 A2 B2 C2 t) i) → V p_ l e_ ({ frames := 2, cells := 0, slots := 0, locals := 46 }) s_ m_ args_ below_ meth_ c_ A_ (MQ below_ (cQv D classes (fun (u_ : (Nat → Nat) × (Nat → Prop) × Nat) => (∀ l, l < 10 → (l < 2 ∨ Nmd n2 k2 o2 A2 B2 C2 l) → u_.1 l = locN x y nn (Nmd n2 k2 o2 A2 B2 C2) l) ∧ u_.2.2 = nn + cnt (fun t => 2 ≤ t ∧ Nmd n2 k2 o2 A2 B2 C2 t) 10) (fun (u_ : (Nat → Nat) × (Nat → Prop) × Nat) => [(p0, .inr (CI_Placement, [.ref p1, .ref p2, .int (nI u_.2.2)])), (p1, .inl (cI, 10, .inl (cN u_.1))), (p2, .inl (cB, 10, .inl (cT u_.2.1))), (t0, .inr (CI_Cells, [.ref t1, .ref t2, .ref t3, .ref t4, .ref t5, .ref t6, .int (nI n2)])), (t1, .inl (cI, 10, .inl (cN k2))), (t2, .inl (cI, 10, .inl (cN o2))), (t3, .inl (cI, 10, .inl A2)), (t4, .inl (cI, 10, .inl B2)), (t5, .inl (cI, 10, .inl C2)), (t6, .inl (cI, 10, .inl (cN q2)))]) A_) args_ s_ 0 0 A_) D classes 6 0 0 [(p0, .inr (CI_Placement, [.ref p1, .ref p2, .int (nI nt3)])), (p1, .inl (cI, 10, .inl (cN no3))), (p2, .inl (cB, 10, .inl (cT nm2_2))), (t0, .inr (CI_Cells, [.ref t1, .ref t2, .ref t3, .ref t4, .ref t5, .ref t6, .int (nI n2)])), (t1, .inl (cI, 10, .inl (cN k2))), (t2, .inl (cI, 10, .inl (cN o2))), (t3, .inl (cI, 10, .inl A2)), (t4, .inl (cI, 10, .inl B2)), (t5, .inl (cI, 10, .inl C2)), (t6, .inl (cI, 10, .inl (cN q2)))] 28 [(0, .ref p0), (1, .ref t0), (5, .int (nI i))] [] := by
    intro f_
    induction f_ with
    | zero => intro i no3 nt3 hm_; exact absurd hm_ (Nat.not_lt_zero _)
    | succ f_ ih28 =>
      intro i no3 nt3 hm28 hi hi2 hI hT
      refine V_iload F 2 d_Placement_place_28 rfl ?_
      refine V_bipush F (v := 10) d_Placement_place_30 rfl ?_
      refine V_icmpn_ge F 72 (a := i) (b := 10) (by omega) (by omega) d_Placement_place_32 (by decide) (fun h32 => ?_) (fun h32 => ?_)
      · skip
        exact V_vret F hr (no3, nm2_2, nt3) (show (∀ l, l < 10 → (l < 2 ∨ Nmd n2 k2 o2 A2 B2 C2 l) → no3 l = locN x y nn (Nmd n2 k2 o2 A2 B2 C2) l) ∧ nt3 = nn + cnt (fun t => 2 ≤ t ∧ Nmd n2 k2 o2 A2 B2 C2 t) 10 from ⟨fun l hl => hI l (by omega), by rw [hT, show i = 10 by omega]⟩) [0, 1, 2, 3, 4, 5, 6, 7, 8, 9] rfl rfl (by decide) (by decide) d_Placement_place_72
      · skip
        refine V_aload_n F 0 d_Placement_place_35 rfl rfl ?_
        refine V_get F 0 CI_Placement 1 i_Placement rfl rfl (by decide) m_178 rfl rfl d_Placement_place_36 ?_
        refine V_iload F 2 d_Placement_place_39 rfl ?_
        refine V_zaldnT F 2 2 (k := i) rfl rfl (by omega) (by decide) d_Placement_place_41 ?_
        refine V_ifb_eq F 66 d_Placement_place_42 (by decide) (fun h42 => ?_) (fun h42 => ?_)
        · skip
          refine V_iinc F 2 (v := nI (i + 1)) (lv' := [(5, .int (nI (i + 1))), (0, .ref p0), (1, .ref t0)]) d_Placement_place_66 rfl (nI_inc _) (by decide) rfl ?_
          refine V_goto F 28 d_Placement_place_69 (by decide) ?_
          refine V_lv [1, 2, 0] rfl ?_
          exact ih28 (i + 1) no3 nt3 (by omega) (by first | assumption | omega | (simp only [] at *; omega)) (by first | assumption | omega | (simp only [] at *; omega)) (loc_skip hI hi (fun z => h42 ((e2 i (by omega)).mpr z))) (by rw [cnt_f (fun z => h42 ((e2 i (by omega)).mpr z.2))]; omega)
        · skip
          refine V_aload_n F 0 d_Placement_place_45 rfl rfl ?_
          refine V_get F 0 CI_Placement 0 i_Placement rfl rfl (by decide) m_177 rfl rfl d_Placement_place_46 ?_
          refine V_iload F 2 d_Placement_place_49 rfl ?_
          refine V_aload_n F 0 d_Placement_place_51 rfl rfl ?_
          refine V_get F 0 CI_Placement 2 i_Placement rfl rfl (by decide) m_179 rfl rfl d_Placement_place_52 ?_
          refine V_iastn F 1 0 (k := i) (w' := [(p0, .inr (CI_Placement, [.ref p1, .ref p2, .int (nI nt3)])), (p1, .inl (cI, 10, .inl (cN (up no3 i nt3)))), (p2, .inl (cB, 10, .inl (cT nm2_2))), (t0, .inr (CI_Cells, [.ref t1, .ref t2, .ref t3, .ref t4, .ref t5, .ref t6, .int (nI n2)])), (t1, .inl (cI, 10, .inl (cN k2))), (t2, .inl (cI, 10, .inl (cN o2))), (t3, .inl (cI, 10, .inl A2)), (t4, .inl (cI, 10, .inl B2)), (t5, .inl (cI, 10, .inl C2)), (t6, .inl (cI, 10, .inl (cN q2)))]) rfl rfl (by omega) (by decide) (by rw [upd_cN] <;> rfl) d_Placement_place_55 ?_
          refine V_aload_n F 0 d_Placement_place_56 rfl rfl ?_
          refine V_dup F d_Placement_place_57 rfl ?_
          refine V_get F 0 CI_Placement 2 i_Placement rfl rfl (by decide) m_179 rfl rfl d_Placement_place_58 ?_
          refine V_iconst F (v := 1) d_Placement_place_61 rfl ?_
          refine V_iadd F d_Placement_place_62 ?_
          refine V_top (y := nI (nt3 + 1)) (nI_add _ _) ?_
          refine V_put F 0 CI_Placement 2 (w' := [(p0, .inr (CI_Placement, [.ref p1, .ref p2, .int (nI (nt3 + 1))])), (p1, .inl (cI, 10, .inl (cN (up no3 i nt3)))), (p2, .inl (cB, 10, .inl (cT nm2_2))), (t0, .inr (CI_Cells, [.ref t1, .ref t2, .ref t3, .ref t4, .ref t5, .ref t6, .int (nI n2)])), (t1, .inl (cI, 10, .inl (cN k2))), (t2, .inl (cI, 10, .inl (cN o2))), (t3, .inl (cI, 10, .inl A2)), (t4, .inl (cI, 10, .inl B2)), (t5, .inl (cI, 10, .inl C2)), (t6, .inl (cI, 10, .inl (cN q2)))]) t_Placement tk_Placement n_Placement i_Placement rfl rfl (by decide) m_179 rfl rfl rfl rfl (Nat.le_of_ble_eq_true rfl) rfl d_Placement_place_63 ?_
          refine V_iinc F 2 (v := nI (i + 1)) (lv' := [(5, .int (nI (i + 1))), (0, .ref p0), (1, .ref t0)]) d_Placement_place_66 rfl (nI_inc _) (by decide) rfl ?_
          refine V_goto F 28 d_Placement_place_69 (by decide) ?_
          refine V_lv [1, 2, 0] rfl ?_
          exact ih28 (i + 1) (up no3 i nt3) (nt3 + 1) (by omega) (by first | assumption | omega | (simp only [] at *; omega)) (by first | assumption | omega | (simp only [] at *; omega)) (loc_step hI hi hT) (by rw [cnt_t ⟨hi, (e2 i (by omega)).mp h42⟩]; omega)
  refine V_lv [1, 2, 0] rfl ?_
  exact L28 ((10 - 2) + 1) 2 (up (up no 0 x) 1 y) nn (Nat.lt_succ_self _) (by first | assumption | omega | (simp only [] at *; omega)) (by first | assumption | omega | (simp only [] at *; omega)) (loc_start) (by rw [cnt_zero (fun t ht z => absurd z.1 (by omega))]; rfl)

set_option maxHeartbeats 4000000 in
set_option maxRecDepth 100000 in
theorem c_Placement_clashesWithEarlier (l : Launch) (D : va_G) (cI cL cB : ClassId) (p0 : Nat) (p1 : Nat) (p2 : Nat) (nt : Nat) (no : Nat → Nat) (nm : Nat → Prop) (t0 : Nat) (t1 : Nat) (t2 : Nat) (t3 : Nat) (t4 : Nat) (t5 : Nat) (t6 : Nat) (n2 : Nat) (k2 : Nat → Nat) (o2 : Nat → Nat) (q2 : Nat → Nat) (A2 : Nat → Int32) (B2 : Nat → Int32) (C2 : Nat → Int32) (i : Nat) (j : Nat) (hn2 : n2 ≤ 10) (hw2 : WfC 10 n2 k2 o2 A2 B2 C2) (hno : ∀ i, i < n2 → no (o2 i) < 100) (hi : i < n2) (hj : j < 100) : Cti l y_Placement_clashesWithEarlier (wK w_Placement_clashesWithEarlier) ({ frames := 0, cells := 0, slots := 0, locals := 0 }) D classes (TY cI cL cB) [.ref p0, .ref t0, .int (nI i), .int (nI j)] [(p0, .inr (CI_Placement, [.ref p1, .ref p2, .int (nI nt)])), (p1, .inl (cI, 10, .inl (cN no))), (p2, .inl (cB, 10, .inl (cT nm))), (t0, .inr (CI_Cells, [.ref t1, .ref t2, .ref t3, .ref t4, .ref t5, .ref t6, .int (nI n2)])), (t1, .inl (cI, 10, .inl (cN k2))), (t2, .inl (cI, 10, .inl (cN o2))), (t3, .inl (cI, 10, .inl A2)), (t4, .inl (cI, 10, .inl B2)), (t5, .inl (cI, 10, .inl C2)), (t6, .inl (cI, 10, .inl (cN q2)))] (fun (r : Int32) (u_ : Unit) => r = bP (Clash k2 o2 no i j)) (fun (u_ : Unit) => [(p0, .inr (CI_Placement, [.ref p1, .ref p2, .int (nI nt)])), (p1, .inl (cI, 10, .inl (cN no))), (p2, .inl (cB, 10, .inl (cT nm))), (t0, .inr (CI_Cells, [.ref t1, .ref t2, .ref t3, .ref t4, .ref t5, .ref t6, .int (nI n2)])), (t1, .inl (cI, 10, .inl (cN k2))), (t2, .inl (cI, 10, .inl (cN o2))), (t3, .inl (cI, 10, .inl A2)), (t4, .inl (cI, 10, .inl B2)), (t5, .inl (cI, 10, .inl C2)), (t6, .inl (cI, 10, .inl (cN q2)))]) 0 0 := by
  refine Ctg_of (cc := prog_7_method_5_code) (maxL := 6) (ret := (some .boolean)) "CircuitSimulator$Placement" [(0, .ref p0), (1, .ref t0), (2, .int (nI i)), (3, .int (nI j))] (by decide) rfl rfl (Nat.le_of_ble_eq_true rfl) rfl ?_
  intro p_ e_ s_ m_ args_ below_ meth_ c_ A_ F hr hin
  refine V_iconst F (v := 0) d_Placement_clashesWithEarlier_0 rfl ?_
  refine V_istore F (lv' := [(4, .int (nI 0)), (0, .ref p0), (1, .ref t0), (2, .int (nI i)), (3, .int (nI j))]) d_Placement_clashesWithEarlier_1 (by decide) rfl ?_
  have L3 : ∀ (f_ : Nat) (t : Nat), i - t < f_ → (t ≤ i) → (∀ x, x < t → ¬ (no (o2 x) = j ∧ ¬ (k2 x = 6 ∧ k2 i = 6))) → V p_ l e_ ({ frames := 0, cells := 0, slots := 0, locals := 0 }) s_ m_ args_ below_ meth_ c_ A_ (MQ below_ (cQi D classes (fun (r : Int32) (u_ : Unit) => r = bP (Clash k2 o2 no i j)) (fun (u_ : Unit) => [(p0, .inr (CI_Placement, [.ref p1, .ref p2, .int (nI nt)])), (p1, .inl (cI, 10, .inl (cN no))), (p2, .inl (cB, 10, .inl (cT nm))), (t0, .inr (CI_Cells, [.ref t1, .ref t2, .ref t3, .ref t4, .ref t5, .ref t6, .int (nI n2)])), (t1, .inl (cI, 10, .inl (cN k2))), (t2, .inl (cI, 10, .inl (cN o2))), (t3, .inl (cI, 10, .inl A2)), (t4, .inl (cI, 10, .inl B2)), (t5, .inl (cI, 10, .inl C2)), (t6, .inl (cI, 10, .inl (cN q2)))]) A_) args_ s_ 0 0 A_) D classes 6 0 0 [(p0, .inr (CI_Placement, [.ref p1, .ref p2, .int (nI nt)])), (p1, .inl (cI, 10, .inl (cN no))), (p2, .inl (cB, 10, .inl (cT nm))), (t0, .inr (CI_Cells, [.ref t1, .ref t2, .ref t3, .ref t4, .ref t5, .ref t6, .int (nI n2)])), (t1, .inl (cI, 10, .inl (cN k2))), (t2, .inl (cI, 10, .inl (cN o2))), (t3, .inl (cI, 10, .inl A2)), (t4, .inl (cI, 10, .inl B2)), (t5, .inl (cI, 10, .inl C2)), (t6, .inl (cI, 10, .inl (cN q2)))] 3 [(0, .ref p0), (1, .ref t0), (2, .int (nI i)), (3, .int (nI j)), (4, .int (nI t))] [] := by
    intro f_
    induction f_ with
    | zero => intro t hm_; exact absurd hm_ (Nat.not_lt_zero _)
    | succ f_ ih3 =>
      intro t hm3 ht hI
      refine V_iload F 4 d_Placement_clashesWithEarlier_3 rfl ?_
      refine V_iload_n F 2 d_Placement_clashesWithEarlier_5 rfl rfl ?_
      refine V_icmpn_ge F 68 (a := t) (b := i) (by omega) (by omega) d_Placement_clashesWithEarlier_6 (by decide) (fun h6 => ?_) (fun h6 => ?_)
      · skip
        refine V_iconst F (v := 0) d_Placement_clashesWithEarlier_68 rfl ?_
        exact V_zret F hr rfl () (bP_f (fun ⟨x, h1, h2, h3⟩ => hI x (by omega) ⟨h2, h3⟩)).symm [0, 1, 2, 3, 4, 5, 6, 7, 8, 9] rfl rfl (by decide) (by decide) d_Placement_clashesWithEarlier_69
      · skip
        have hk8 := (hw2 t (by omega)).1
        have hk9 := (hw2 i (by omega)).1
        have ho8 := (hw2 t (by omega)).2.1
        have hn8 := hno t (by omega)
        refine V_aload_n F 1 d_Placement_clashesWithEarlier_9 rfl rfl ?_
        refine V_get F 3 CI_Cells 0 i_Cells rfl rfl (by decide) m_66 rfl rfl d_Placement_clashesWithEarlier_10 ?_
        refine V_iload F 4 d_Placement_clashesWithEarlier_13 rfl ?_
        refine V_ialdnN F 4 0 (k := t) rfl rfl (by omega) (by decide) d_Placement_clashesWithEarlier_15 ?_
        refine V_bipush F (v := 6) d_Placement_clashesWithEarlier_16 rfl ?_
        refine V_icmpn_ne F 36 (a := k2 t) (b := 6) (by omega) (by omega) d_Placement_clashesWithEarlier_18 (by decide) (fun h18 => ?_) (fun h18 => ?_)
        · skip
          refine V_iconst F (v := 0) d_Placement_clashesWithEarlier_36 rfl ?_
          refine V_istore F (lv' := [(5, .int (nI 0)), (0, .ref p0), (1, .ref t0), (2, .int (nI i)), (3, .int (nI j)), (4, .int (nI t))]) d_Placement_clashesWithEarlier_37 (by decide) rfl ?_
          refine V_aload_n F 1 d_Placement_clashesWithEarlier_39 rfl rfl ?_
          refine V_get F 0 CI_Placement 0 i_Placement rfl rfl (by decide) m_177 rfl rfl d_Placement_clashesWithEarlier_40 ?_
          refine V_aload_n F 2 d_Placement_clashesWithEarlier_43 rfl rfl ?_
          refine V_get F 3 CI_Cells 1 i_Cells rfl rfl (by decide) m_69 rfl rfl d_Placement_clashesWithEarlier_44 ?_
          refine V_iload F 5 d_Placement_clashesWithEarlier_47 rfl ?_
          refine V_ialdnN F 5 0 (k := t) rfl rfl (by omega) (by decide) d_Placement_clashesWithEarlier_49 ?_
          refine V_ialdnN F 1 0 (k := o2 t) rfl rfl (by omega) (by decide) d_Placement_clashesWithEarlier_50 ?_
          refine V_iload_n F 4 d_Placement_clashesWithEarlier_51 rfl rfl ?_
          refine V_icmpn_ne F 62 (a := no (o2 t)) (b := j) (by omega) (by omega) d_Placement_clashesWithEarlier_52 (by decide) (fun h52 => ?_) (fun h52 => ?_)
          · skip
            refine V_iinc F 5 (v := nI (t + 1)) (lv' := [(4, .int (nI (t + 1))), (5, .int (nI 0)), (0, .ref p0), (1, .ref t0), (2, .int (nI i)), (3, .int (nI j))]) d_Placement_clashesWithEarlier_62 rfl (nI_inc _) (by decide) rfl ?_
            refine V_goto F 3 d_Placement_clashesWithEarlier_65 (by decide) ?_
            refine V_lv [2, 3, 4, 5, 0] rfl ?_
            exact ih3 (t + 1) (by omega) (by first | assumption | omega | (simp only [] at *; omega)) (lt_s hI (by omega))
          · skip
            refine V_iload F 0 d_Placement_clashesWithEarlier_55 rfl ?_
            refine V_ifn_ne F 62 (a := 0) (by omega) d_Placement_clashesWithEarlier_57 (by decide) (fun h57 => ?_) (fun h57 => ?_)
            · skip
              refine V_iinc F 5 (v := nI (t + 1)) (lv' := [(4, .int (nI (t + 1))), (5, .int (nI 0)), (0, .ref p0), (1, .ref t0), (2, .int (nI i)), (3, .int (nI j))]) d_Placement_clashesWithEarlier_62 rfl (nI_inc _) (by decide) rfl ?_
              refine V_goto F 3 d_Placement_clashesWithEarlier_65 (by decide) ?_
              refine V_lv [2, 3, 4, 5, 0] rfl ?_
              exact ih3 (t + 1) (by omega) (by first | assumption | omega | (simp only [] at *; omega)) (lt_s hI (by omega))
            · skip
              refine V_iconst F (v := 1) d_Placement_clashesWithEarlier_60 rfl ?_
              exact V_zret F hr rfl () (bP_t ⟨t, h6, h52, by omega⟩).symm [0, 1, 2, 3, 4, 5, 6, 7, 8, 9] rfl rfl (by decide) (by decide) d_Placement_clashesWithEarlier_61
        · skip
          refine V_aload_n F 1 d_Placement_clashesWithEarlier_21 rfl rfl ?_
          refine V_get F 3 CI_Cells 0 i_Cells rfl rfl (by decide) m_66 rfl rfl d_Placement_clashesWithEarlier_22 ?_
          refine V_iload_n F 2 d_Placement_clashesWithEarlier_25 rfl rfl ?_
          refine V_ialdnN F 4 0 (k := i) rfl rfl (by omega) (by decide) d_Placement_clashesWithEarlier_26 ?_
          refine V_bipush F (v := 6) d_Placement_clashesWithEarlier_27 rfl ?_
          refine V_icmpn_ne F 36 (a := k2 i) (b := 6) (by omega) (by omega) d_Placement_clashesWithEarlier_29 (by decide) (fun h29 => ?_) (fun h29 => ?_)
          · skip
            refine V_iconst F (v := 0) d_Placement_clashesWithEarlier_36 rfl ?_
            refine V_istore F (lv' := [(5, .int (nI 0)), (0, .ref p0), (1, .ref t0), (2, .int (nI i)), (3, .int (nI j)), (4, .int (nI t))]) d_Placement_clashesWithEarlier_37 (by decide) rfl ?_
            refine V_aload_n F 1 d_Placement_clashesWithEarlier_39 rfl rfl ?_
            refine V_get F 0 CI_Placement 0 i_Placement rfl rfl (by decide) m_177 rfl rfl d_Placement_clashesWithEarlier_40 ?_
            refine V_aload_n F 2 d_Placement_clashesWithEarlier_43 rfl rfl ?_
            refine V_get F 3 CI_Cells 1 i_Cells rfl rfl (by decide) m_69 rfl rfl d_Placement_clashesWithEarlier_44 ?_
            refine V_iload F 5 d_Placement_clashesWithEarlier_47 rfl ?_
            refine V_ialdnN F 5 0 (k := t) rfl rfl (by omega) (by decide) d_Placement_clashesWithEarlier_49 ?_
            refine V_ialdnN F 1 0 (k := o2 t) rfl rfl (by omega) (by decide) d_Placement_clashesWithEarlier_50 ?_
            refine V_iload_n F 4 d_Placement_clashesWithEarlier_51 rfl rfl ?_
            refine V_icmpn_ne F 62 (a := no (o2 t)) (b := j) (by omega) (by omega) d_Placement_clashesWithEarlier_52 (by decide) (fun h52 => ?_) (fun h52 => ?_)
            · skip
              refine V_iinc F 5 (v := nI (t + 1)) (lv' := [(4, .int (nI (t + 1))), (5, .int (nI 0)), (0, .ref p0), (1, .ref t0), (2, .int (nI i)), (3, .int (nI j))]) d_Placement_clashesWithEarlier_62 rfl (nI_inc _) (by decide) rfl ?_
              refine V_goto F 3 d_Placement_clashesWithEarlier_65 (by decide) ?_
              refine V_lv [2, 3, 4, 5, 0] rfl ?_
              exact ih3 (t + 1) (by omega) (by first | assumption | omega | (simp only [] at *; omega)) (lt_s hI (by omega))
            · skip
              refine V_iload F 0 d_Placement_clashesWithEarlier_55 rfl ?_
              refine V_ifn_ne F 62 (a := 0) (by omega) d_Placement_clashesWithEarlier_57 (by decide) (fun h57 => ?_) (fun h57 => ?_)
              · skip
                refine V_iinc F 5 (v := nI (t + 1)) (lv' := [(4, .int (nI (t + 1))), (5, .int (nI 0)), (0, .ref p0), (1, .ref t0), (2, .int (nI i)), (3, .int (nI j))]) d_Placement_clashesWithEarlier_62 rfl (nI_inc _) (by decide) rfl ?_
                refine V_goto F 3 d_Placement_clashesWithEarlier_65 (by decide) ?_
                refine V_lv [2, 3, 4, 5, 0] rfl ?_
                exact ih3 (t + 1) (by omega) (by first | assumption | omega | (simp only [] at *; omega)) (lt_s hI (by omega))
              · skip
                refine V_iconst F (v := 1) d_Placement_clashesWithEarlier_60 rfl ?_
                exact V_zret F hr rfl () (bP_t ⟨t, h6, h52, by omega⟩).symm [0, 1, 2, 3, 4, 5, 6, 7, 8, 9] rfl rfl (by decide) (by decide) d_Placement_clashesWithEarlier_61
          · skip
            refine V_iconst F (v := 1) d_Placement_clashesWithEarlier_32 rfl ?_
            refine V_goto F 37 d_Placement_clashesWithEarlier_33 (by decide) ?_
            refine V_istore F (lv' := [(5, .int (nI 1)), (0, .ref p0), (1, .ref t0), (2, .int (nI i)), (3, .int (nI j)), (4, .int (nI t))]) d_Placement_clashesWithEarlier_37 (by decide) rfl ?_
            refine V_aload_n F 1 d_Placement_clashesWithEarlier_39 rfl rfl ?_
            refine V_get F 0 CI_Placement 0 i_Placement rfl rfl (by decide) m_177 rfl rfl d_Placement_clashesWithEarlier_40 ?_
            refine V_aload_n F 2 d_Placement_clashesWithEarlier_43 rfl rfl ?_
            refine V_get F 3 CI_Cells 1 i_Cells rfl rfl (by decide) m_69 rfl rfl d_Placement_clashesWithEarlier_44 ?_
            refine V_iload F 5 d_Placement_clashesWithEarlier_47 rfl ?_
            refine V_ialdnN F 5 0 (k := t) rfl rfl (by omega) (by decide) d_Placement_clashesWithEarlier_49 ?_
            refine V_ialdnN F 1 0 (k := o2 t) rfl rfl (by omega) (by decide) d_Placement_clashesWithEarlier_50 ?_
            refine V_iload_n F 4 d_Placement_clashesWithEarlier_51 rfl rfl ?_
            refine V_icmpn_ne F 62 (a := no (o2 t)) (b := j) (by omega) (by omega) d_Placement_clashesWithEarlier_52 (by decide) (fun h52 => ?_) (fun h52 => ?_)
            · skip
              refine V_iinc F 5 (v := nI (t + 1)) (lv' := [(4, .int (nI (t + 1))), (5, .int (nI 1)), (0, .ref p0), (1, .ref t0), (2, .int (nI i)), (3, .int (nI j))]) d_Placement_clashesWithEarlier_62 rfl (nI_inc _) (by decide) rfl ?_
              refine V_goto F 3 d_Placement_clashesWithEarlier_65 (by decide) ?_
              refine V_lv [2, 3, 4, 5, 0] rfl ?_
              exact ih3 (t + 1) (by omega) (by first | assumption | omega | (simp only [] at *; omega)) (lt_s hI (by omega))
            · skip
              refine V_iload F 0 d_Placement_clashesWithEarlier_55 rfl ?_
              refine V_ifn_ne F 62 (a := 1) (by omega) d_Placement_clashesWithEarlier_57 (by decide) (fun h57 => ?_) (fun h57 => ?_)
              · skip
                refine V_iinc F 5 (v := nI (t + 1)) (lv' := [(4, .int (nI (t + 1))), (5, .int (nI 1)), (0, .ref p0), (1, .ref t0), (2, .int (nI i)), (3, .int (nI j))]) d_Placement_clashesWithEarlier_62 rfl (nI_inc _) (by decide) rfl ?_
                refine V_goto F 3 d_Placement_clashesWithEarlier_65 (by decide) ?_
                refine V_lv [2, 3, 4, 5, 0] rfl ?_
                exact ih3 (t + 1) (by omega) (by first | assumption | omega | (simp only [] at *; omega)) (lt_s hI (by omega))
              · skip
                refine V_iconst F (v := 1) d_Placement_clashesWithEarlier_60 rfl ?_
                exact V_zret F hr rfl () (bP_t ⟨t, h6, h52, by omega⟩).symm [0, 1, 2, 3, 4, 5, 6, 7, 8, 9] rfl rfl (by decide) (by decide) d_Placement_clashesWithEarlier_61
  refine V_lv [1, 2, 3, 4, 0] rfl ?_
  exact L3 ((i - 0) + 1) 0 (Nat.lt_succ_self _) (by first | assumption | omega | (simp only [] at *; omega)) (fun t h => absurd h (Nat.not_lt_zero t))

set_option maxHeartbeats 4000000 in
set_option maxRecDepth 100000 in
theorem c_Placement_mayDrive (l : Launch) (D : va_G) (cI cL cB : ClassId) (p0 : Nat) (p1 : Nat) (p2 : Nat) (nt : Nat) (no : Nat → Nat) (nm : Nat → Prop) (t0 : Nat) (t1 : Nat) (t2 : Nat) (t3 : Nat) (t4 : Nat) (t5 : Nat) (t6 : Nat) (n2 : Nat) (k2 : Nat → Nat) (o2 : Nat → Nat) (q2 : Nat → Nat) (A2 : Nat → Int32) (B2 : Nat → Int32) (C2 : Nat → Int32) (c0 : Nat) (c1 : Nat) (c2 : Nat) (c3 : Nat) (c4 : Nat) (c5 : Nat) (c6 : Nat) (n : Nat) (k : Nat → Nat) (o : Nat → Nat) (q : Nat → Nat) (A : Nat → Int32) (B : Nat → Int32) (C : Nat → Int32) (hn2 : n2 ≤ 10) (hw2 : WfC 10 n2 k2 o2 A2 B2 C2) (hno : ∀ i, i < n2 → no (o2 i) < 100) (hn : n ≤ 60) (hk : ∀ i, i < n → k i ≤ 8) (ho : ∀ i, i < n → o i < 100) : Cti l y_Placement_mayDrive (wK w_Placement_mayDrive) ({ frames := 1, cells := 0, slots := 0, locals := 25 }) D classes (TY cI cL cB) [.ref p0, .ref t0, .ref c0] [(p0, .inr (CI_Placement, [.ref p1, .ref p2, .int (nI nt)])), (p1, .inl (cI, 10, .inl (cN no))), (p2, .inl (cB, 10, .inl (cT nm))), (t0, .inr (CI_Cells, [.ref t1, .ref t2, .ref t3, .ref t4, .ref t5, .ref t6, .int (nI n2)])), (t1, .inl (cI, 10, .inl (cN k2))), (t2, .inl (cI, 10, .inl (cN o2))), (t3, .inl (cI, 10, .inl A2)), (t4, .inl (cI, 10, .inl B2)), (t5, .inl (cI, 10, .inl C2)), (t6, .inl (cI, 10, .inl (cN q2))), (c0, .inr (CI_Cells, [.ref c1, .ref c2, .ref c3, .ref c4, .ref c5, .ref c6, .int (nI n)])), (c1, .inl (cI, 60, .inl (cN k))), (c2, .inl (cI, 60, .inl (cN o))), (c3, .inl (cI, 60, .inl A)), (c4, .inl (cI, 60, .inl B)), (c5, .inl (cI, 60, .inl C)), (c6, .inl (cI, 60, .inl (cN q)))] (fun (r : Int32) (u_ : Unit) => r = bP (Stands n k o n2 k2 o2 no)) (fun (u_ : Unit) => [(p0, .inr (CI_Placement, [.ref p1, .ref p2, .int (nI nt)])), (p1, .inl (cI, 10, .inl (cN no))), (p2, .inl (cB, 10, .inl (cT nm))), (t0, .inr (CI_Cells, [.ref t1, .ref t2, .ref t3, .ref t4, .ref t5, .ref t6, .int (nI n2)])), (t1, .inl (cI, 10, .inl (cN k2))), (t2, .inl (cI, 10, .inl (cN o2))), (t3, .inl (cI, 10, .inl A2)), (t4, .inl (cI, 10, .inl B2)), (t5, .inl (cI, 10, .inl C2)), (t6, .inl (cI, 10, .inl (cN q2))), (c0, .inr (CI_Cells, [.ref c1, .ref c2, .ref c3, .ref c4, .ref c5, .ref c6, .int (nI n)])), (c1, .inl (cI, 60, .inl (cN k))), (c2, .inl (cI, 60, .inl (cN o))), (c3, .inl (cI, 60, .inl A)), (c4, .inl (cI, 60, .inl B)), (c5, .inl (cI, 60, .inl C)), (c6, .inl (cI, 60, .inl (cN q)))]) 0 0 := by
  refine Ctg_of (cc := prog_7_method_4_code) (maxL := 5) (ret := (some .boolean)) "CircuitSimulator$Placement" [(0, .ref p0), (1, .ref t0), (2, .ref c0)] (by decide) rfl rfl (Nat.le_of_ble_eq_true rfl) rfl ?_
  intro p_ e_ s_ m_ args_ below_ meth_ c_ A_ F hr hin
  refine V_iconst F (v := 0) d_Placement_mayDrive_0 rfl ?_
  refine V_istore_n F (lv' := [(3, .int (nI 0)), (0, .ref p0), (1, .ref t0), (2, .ref c0)]) d_Placement_mayDrive_1 rfl (by decide) rfl ?_
  have L2 : ∀ (f_ : Nat) (i : Nat), n2 - i < f_ → (i ≤ n2) → (∀ x, x < i → MayD n k o (no (o2 x)) (k2 x) ∧ ¬ Clash k2 o2 no x (no (o2 x))) → V p_ l e_ ({ frames := 1, cells := 0, slots := 0, locals := 25 }) s_ m_ args_ below_ meth_ c_ A_ (MQ below_ (cQi D classes (fun (r : Int32) (u_ : Unit) => r = bP (Stands n k o n2 k2 o2 no)) (fun (u_ : Unit) => [(p0, .inr (CI_Placement, [.ref p1, .ref p2, .int (nI nt)])), (p1, .inl (cI, 10, .inl (cN no))), (p2, .inl (cB, 10, .inl (cT nm))), (t0, .inr (CI_Cells, [.ref t1, .ref t2, .ref t3, .ref t4, .ref t5, .ref t6, .int (nI n2)])), (t1, .inl (cI, 10, .inl (cN k2))), (t2, .inl (cI, 10, .inl (cN o2))), (t3, .inl (cI, 10, .inl A2)), (t4, .inl (cI, 10, .inl B2)), (t5, .inl (cI, 10, .inl C2)), (t6, .inl (cI, 10, .inl (cN q2))), (c0, .inr (CI_Cells, [.ref c1, .ref c2, .ref c3, .ref c4, .ref c5, .ref c6, .int (nI n)])), (c1, .inl (cI, 60, .inl (cN k))), (c2, .inl (cI, 60, .inl (cN o))), (c3, .inl (cI, 60, .inl A)), (c4, .inl (cI, 60, .inl B)), (c5, .inl (cI, 60, .inl C)), (c6, .inl (cI, 60, .inl (cN q)))]) A_) args_ s_ 0 0 A_) D classes 5 0 0 [(p0, .inr (CI_Placement, [.ref p1, .ref p2, .int (nI nt)])), (p1, .inl (cI, 10, .inl (cN no))), (p2, .inl (cB, 10, .inl (cT nm))), (t0, .inr (CI_Cells, [.ref t1, .ref t2, .ref t3, .ref t4, .ref t5, .ref t6, .int (nI n2)])), (t1, .inl (cI, 10, .inl (cN k2))), (t2, .inl (cI, 10, .inl (cN o2))), (t3, .inl (cI, 10, .inl A2)), (t4, .inl (cI, 10, .inl B2)), (t5, .inl (cI, 10, .inl C2)), (t6, .inl (cI, 10, .inl (cN q2))), (c0, .inr (CI_Cells, [.ref c1, .ref c2, .ref c3, .ref c4, .ref c5, .ref c6, .int (nI n)])), (c1, .inl (cI, 60, .inl (cN k))), (c2, .inl (cI, 60, .inl (cN o))), (c3, .inl (cI, 60, .inl A)), (c4, .inl (cI, 60, .inl B)), (c5, .inl (cI, 60, .inl C)), (c6, .inl (cI, 60, .inl (cN q)))] 2 [(0, .ref p0), (1, .ref t0), (2, .ref c0), (3, .int (nI i))] [] := by
    intro f_
    induction f_ with
    | zero => intro i hm_; exact absurd hm_ (Nat.not_lt_zero _)
    | succ f_ ih2 =>
      intro i hm2 hi hI
      refine V_iload_n F 3 d_Placement_mayDrive_2 rfl rfl ?_
      refine V_aload_n F 1 d_Placement_mayDrive_3 rfl rfl ?_
      refine V_get F 3 CI_Cells 6 i_Cells rfl rfl (by decide) m_84 rfl rfl d_Placement_mayDrive_4 ?_
      refine V_icmpn_ge F 57 (a := i) (b := n2) (by omega) (by omega) d_Placement_mayDrive_7 (by decide) (fun h7 => ?_) (fun h7 => ?_)
      · skip
        refine V_iconst F (v := 1) d_Placement_mayDrive_57 rfl ?_
        exact V_zret F hr rfl () (bP_t (fun x hx => hI x (by omega))).symm [0, 1, 2, 3, 4, 5, 6, 7, 8, 9, 10, 11, 12, 13, 14, 15, 16] rfl rfl (by decide) (by decide) d_Placement_mayDrive_58
      · skip
        have hk8 := (hw2 i (by omega)).1
        have ho8 := (hw2 i (by omega)).2.1
        have hn8 := hno i (by omega)
        refine V_aload_n F 0 d_Placement_mayDrive_10 rfl rfl ?_
        refine V_get F 0 CI_Placement 0 i_Placement rfl rfl (by decide) m_177 rfl rfl d_Placement_mayDrive_11 ?_
        refine V_aload_n F 1 d_Placement_mayDrive_14 rfl rfl ?_
        refine V_get F 3 CI_Cells 1 i_Cells rfl rfl (by decide) m_69 rfl rfl d_Placement_mayDrive_15 ?_
        refine V_iload_n F 3 d_Placement_mayDrive_18 rfl rfl ?_
        refine V_ialdnN F 5 0 (k := i) rfl rfl (by omega) (by decide) d_Placement_mayDrive_19 ?_
        refine V_ialdnN F 1 0 (k := o2 i) rfl rfl (by omega) (by decide) d_Placement_mayDrive_20 ?_
        refine V_istore F (lv' := [(4, .int (nI (no (o2 i)))), (0, .ref p0), (1, .ref t0), (2, .ref c0), (3, .int (nI i))]) d_Placement_mayDrive_21 (by decide) rfl ?_
        refine V_aload_n F 3 d_Placement_mayDrive_23 rfl rfl ?_
        refine V_iload F 0 d_Placement_mayDrive_24 rfl ?_
        refine V_aload_n F 2 d_Placement_mayDrive_26 rfl rfl ?_
        refine V_get F 3 CI_Cells 0 i_Cells rfl rfl (by decide) m_66 rfl rfl d_Placement_mayDrive_27 ?_
        refine V_iload_n F 4 d_Placement_mayDrive_30 rfl rfl ?_
        refine V_ialdnN F 4 0 (k := i) rfl rfl (by omega) (by decide) d_Placement_mayDrive_31 ?_
        refine V_callV_i (w1 := fun (u_ : Unit) => [(p0, .inr (CI_Placement, [.ref p1, .ref p2, .int (nI nt)])), (p1, .inl (cI, 10, .inl (cN no))), (p2, .inl (cB, 10, .inl (cT nm))), (t0, .inr (CI_Cells, [.ref t1, .ref t2, .ref t3, .ref t4, .ref t5, .ref t6, .int (nI n2)])), (t1, .inl (cI, 10, .inl (cN k2))), (t2, .inl (cI, 10, .inl (cN o2))), (t3, .inl (cI, 10, .inl A2)), (t4, .inl (cI, 10, .inl B2)), (t5, .inl (cI, 10, .inl C2)), (t6, .inl (cI, 10, .inl (cN q2))), (c0, .inr (CI_Cells, [.ref c1, .ref c2, .ref c3, .ref c4, .ref c5, .ref c6, .int (nI n)])), (c1, .inl (cI, 60, .inl (cN k))), (c2, .inl (cI, 60, .inl (cN o))), (c3, .inl (cI, 60, .inl A)), (c4, .inl (cI, 60, .inl B)), (c5, .inl (cI, 60, .inl C)), (c6, .inl (cI, 60, .inl (cN q)))]) (wr := [(p0, .inr (CI_Placement, [.ref p1, .ref p2, .int (nI nt)])), (p1, .inl (cI, 10, .inl (cN no))), (p2, .inl (cB, 10, .inl (cT nm))), (t0, .inr (CI_Cells, [.ref t1, .ref t2, .ref t3, .ref t4, .ref t5, .ref t6, .int (nI n2)])), (t1, .inl (cI, 10, .inl (cN k2))), (t2, .inl (cI, 10, .inl (cN o2))), (t3, .inl (cI, 10, .inl A2)), (t4, .inl (cI, 10, .inl B2)), (t5, .inl (cI, 10, .inl C2)), (t6, .inl (cI, 10, .inl (cN q2)))]) (isC := [10, 11, 12, 13, 14, 15, 16]) (isR := [0, 1, 2, 3, 4, 5, 6, 7, 8, 9]) (pm := [0, 1, 2, 3, 4, 5, 6, 7, 8, 9, 10, 11, 12, 13, 14, 15, 16]) (As := [.int (nI (no (o2 i))), .int (nI (k2 i))]) (rest := []) F (c_Cells_mayDrive l D cI cL cB c0 c1 c2 c3 c4 c5 c6 60 n k o q A B C (no (o2 i)) (k2 i) (by first | assumption | omega | (simp only [] at *; omega)) (by first | assumption | omega | (simp only [] at *; omega)) (by first | assumption | omega | (simp only [] at *; omega)) (by first | assumption | omega | (simp only [] at *; omega)) (by first | assumption | omega | (simp only [] at *; omega)) (by first | assumption | omega | (simp only [] at *; omega))) (cS_V 2 F.ts m_439 m_374 m_375 m_36 m_376 (by decide +kernel) ⟨Nat.le_of_ble_eq_true rfl, Nat.le_of_ble_eq_true rfl⟩) (ci := CI_Cells) (q0 := 0) rfl rfl rfl (Nat.le_of_ble_eq_true rfl) d_Placement_mayDrive_32 ⟨Nat.le_of_ble_eq_true rfl, Nat.le_of_ble_eq_true rfl⟩ ⟨rfl, rfl, rfl, rfl, rfl, fun _ => rfl, rfl⟩ (fun r32 uu32 q32_ => ?_) rfl
        subst q32_
        refine V_ifb_eq F 49 d_Placement_mayDrive_35 (by decide) (fun h35 => ?_) (fun h35 => ?_)
        · skip
          refine V_iconst F (v := 0) d_Placement_mayDrive_49 rfl ?_
          exact V_zret F hr rfl () (bP_f (fun z => h35 (z i h7).1)).symm [0, 1, 2, 3, 4, 5, 6, 7, 8, 9, 10, 11, 12, 13, 14, 15, 16] rfl rfl (by decide) (by decide) d_Placement_mayDrive_50
        · skip
          refine V_aload_n F 1 d_Placement_mayDrive_38 rfl rfl ?_
          refine V_aload_n F 2 d_Placement_mayDrive_39 rfl rfl ?_
          refine V_iload_n F 4 d_Placement_mayDrive_40 rfl rfl ?_
          refine V_iload F 0 d_Placement_mayDrive_41 rfl ?_
          refine V_callV_i (w1 := fun (u_ : Unit) => [(p0, .inr (CI_Placement, [.ref p1, .ref p2, .int (nI nt)])), (p1, .inl (cI, 10, .inl (cN no))), (p2, .inl (cB, 10, .inl (cT nm))), (t0, .inr (CI_Cells, [.ref t1, .ref t2, .ref t3, .ref t4, .ref t5, .ref t6, .int (nI n2)])), (t1, .inl (cI, 10, .inl (cN k2))), (t2, .inl (cI, 10, .inl (cN o2))), (t3, .inl (cI, 10, .inl A2)), (t4, .inl (cI, 10, .inl B2)), (t5, .inl (cI, 10, .inl C2)), (t6, .inl (cI, 10, .inl (cN q2))), (c0, .inr (CI_Cells, [.ref c1, .ref c2, .ref c3, .ref c4, .ref c5, .ref c6, .int (nI n)])), (c1, .inl (cI, 60, .inl (cN k))), (c2, .inl (cI, 60, .inl (cN o))), (c3, .inl (cI, 60, .inl A)), (c4, .inl (cI, 60, .inl B)), (c5, .inl (cI, 60, .inl C)), (c6, .inl (cI, 60, .inl (cN q)))]) (wr := [(c0, .inr (CI_Cells, [.ref c1, .ref c2, .ref c3, .ref c4, .ref c5, .ref c6, .int (nI n)])), (c1, .inl (cI, 60, .inl (cN k))), (c2, .inl (cI, 60, .inl (cN o))), (c3, .inl (cI, 60, .inl A)), (c4, .inl (cI, 60, .inl B)), (c5, .inl (cI, 60, .inl C)), (c6, .inl (cI, 60, .inl (cN q)))]) (isC := [0, 1, 2, 3, 4, 5, 6, 7, 8, 9]) (isR := [10, 11, 12, 13, 14, 15, 16]) (pm := [7, 8, 9, 10, 11, 12, 13, 14, 15, 16, 0, 1, 2, 3, 4, 5, 6]) (As := [.ref t0, .int (nI i), .int (nI (no (o2 i)))]) (rest := []) F (c_Placement_clashesWithEarlier l D cI cL cB p0 p1 p2 nt no nm t0 t1 t2 t3 t4 t5 t6 n2 k2 o2 q2 A2 B2 C2 i (no (o2 i)) (by first | assumption | omega | (simp only [] at *; omega)) (by first | assumption | omega | (simp only [] at *; omega)) (by first | assumption | omega | (simp only [] at *; omega)) (by first | assumption | omega | (simp only [] at *; omega)) (by first | assumption | omega | (simp only [] at *; omega))) (cS_V 3 F.ts m_440 m_441 m_7 m_41 m_442 (by decide +kernel) ⟨Nat.le_of_ble_eq_true rfl, Nat.le_of_ble_eq_true rfl⟩) (ci := CI_Placement) (q0 := 0) rfl rfl rfl (Nat.le_of_ble_eq_true rfl) d_Placement_mayDrive_43 ⟨Nat.le_of_ble_eq_true rfl, Nat.le_of_ble_eq_true rfl⟩ ⟨rfl, rfl, rfl, rfl, rfl, fun _ => rfl, rfl⟩ (fun r43 uu43 q43_ => ?_) rfl
          subst q43_
          refine V_ifb_eq F 51 d_Placement_mayDrive_46 (by decide) (fun h46 => ?_) (fun h46 => ?_)
          · skip
            refine V_iinc F 4 (v := nI (i + 1)) (lv' := [(3, .int (nI (i + 1))), (4, .int (nI (no (o2 i)))), (0, .ref p0), (1, .ref t0), (2, .ref c0)]) d_Placement_mayDrive_51 rfl (nI_inc _) (by decide) rfl ?_
            refine V_goto F 2 d_Placement_mayDrive_54 (by decide) ?_
            refine V_lv [2, 3, 4, 0] rfl ?_
            exact ih2 (i + 1) (by omega) (by first | assumption | omega | (simp only [] at *; omega)) (lt_s hI ⟨h35, h46⟩)
          · skip
            refine V_iconst F (v := 0) d_Placement_mayDrive_49 rfl ?_
            exact V_zret F hr rfl () (bP_f (fun z => (z i h7).2 h46)).symm [0, 1, 2, 3, 4, 5, 6, 7, 8, 9, 10, 11, 12, 13, 14, 15, 16] rfl rfl (by decide) (by decide) d_Placement_mayDrive_50
  refine V_lv [1, 2, 3, 0] rfl ?_
  exact L2 ((n2 - 0) + 1) 0 (Nat.lt_succ_self _) (by first | assumption | omega | (simp only [] at *; omega)) (fun t h => absurd h (Nat.not_lt_zero t))

set_option maxHeartbeats 4000000 in
set_option maxRecDepth 100000 in
theorem c_Placement_placed (l : Launch) (D : va_G) (cI cL cB : ClassId) (p0 : Nat) (p1 : Nat) (p2 : Nat) (nt : Nat) (no : Nat → Nat) (nm : Nat → Prop) (t0 : Nat) (t1 : Nat) (t2 : Nat) (t3 : Nat) (t4 : Nat) (t5 : Nat) (t6 : Nat) (n2 : Nat) (k2 : Nat → Nat) (o2 : Nat → Nat) (q2 : Nat → Nat) (A2 : Nat → Int32) (B2 : Nat → Int32) (C2 : Nat → Int32) (i : Nat) (p : Nat) (hn2 : n2 ≤ 10) (hw2 : WfC 10 n2 k2 o2 A2 B2 C2) (hi : i < n2) (hp : p ≤ 2) : Cti l y_Placement_placed (wK w_Placement_placed) ({ frames := 1, cells := 0, slots := 0, locals := 22 }) D classes (TY cI cL cB) [.ref p0, .ref t0, .int (nI i), .int (nI p)] [(p0, .inr (CI_Placement, [.ref p1, .ref p2, .int (nI nt)])), (p1, .inl (cI, 10, .inl (cN no))), (p2, .inl (cB, 10, .inl (cT nm))), (t0, .inr (CI_Cells, [.ref t1, .ref t2, .ref t3, .ref t4, .ref t5, .ref t6, .int (nI n2)])), (t1, .inl (cI, 10, .inl (cN k2))), (t2, .inl (cI, 10, .inl (cN o2))), (t3, .inl (cI, 10, .inl A2)), (t4, .inl (cI, 10, .inl B2)), (t5, .inl (cI, 10, .inl C2)), (t6, .inl (cI, 10, .inl (cN q2)))] (fun (r : Int32) (u_ : Unit) => r = plc k2 A2 B2 C2 no i p) (fun (u_ : Unit) => [(p0, .inr (CI_Placement, [.ref p1, .ref p2, .int (nI nt)])), (p1, .inl (cI, 10, .inl (cN no))), (p2, .inl (cB, 10, .inl (cT nm))), (t0, .inr (CI_Cells, [.ref t1, .ref t2, .ref t3, .ref t4, .ref t5, .ref t6, .int (nI n2)])), (t1, .inl (cI, 10, .inl (cN k2))), (t2, .inl (cI, 10, .inl (cN o2))), (t3, .inl (cI, 10, .inl A2)), (t4, .inl (cI, 10, .inl B2)), (t5, .inl (cI, 10, .inl C2)), (t6, .inl (cI, 10, .inl (cN q2)))]) 0 0 := by
  refine Ctg_of (cc := prog_7_method_7_code) (maxL := 5) (ret := (some .int)) "CircuitSimulator$Placement" [(0, .ref p0), (1, .ref t0), (2, .int (nI i)), (3, .int (nI p))] (by decide) rfl rfl (Nat.le_of_ble_eq_true rfl) rfl ?_
  intro p_ e_ s_ m_ args_ below_ meth_ c_ A_ F hr hin
  have hk8 := (hw2 i hi).1
  have hn8 := inpN_le (k2 i)
  refine V_aload_n F 1 d_Placement_placed_0 rfl rfl ?_
  refine V_iload_n F 2 d_Placement_placed_1 rfl rfl ?_
  refine V_iload_n F 3 d_Placement_placed_2 rfl rfl ?_
  refine V_callV_i (w1 := fun (u_ : Unit) => [(p0, .inr (CI_Placement, [.ref p1, .ref p2, .int (nI nt)])), (p1, .inl (cI, 10, .inl (cN no))), (p2, .inl (cB, 10, .inl (cT nm))), (t0, .inr (CI_Cells, [.ref t1, .ref t2, .ref t3, .ref t4, .ref t5, .ref t6, .int (nI n2)])), (t1, .inl (cI, 10, .inl (cN k2))), (t2, .inl (cI, 10, .inl (cN o2))), (t3, .inl (cI, 10, .inl A2)), (t4, .inl (cI, 10, .inl B2)), (t5, .inl (cI, 10, .inl C2)), (t6, .inl (cI, 10, .inl (cN q2)))]) (wr := [(p0, .inr (CI_Placement, [.ref p1, .ref p2, .int (nI nt)])), (p1, .inl (cI, 10, .inl (cN no))), (p2, .inl (cB, 10, .inl (cT nm)))]) (isC := [3, 4, 5, 6, 7, 8, 9]) (isR := [0, 1, 2]) (pm := [0, 1, 2, 3, 4, 5, 6, 7, 8, 9]) (As := [.int (nI i), .int (nI p)]) (rest := []) F (c_Cells_input l D cI cL cB t0 t1 t2 t3 t4 t5 t6 10 n2 k2 o2 q2 A2 B2 C2 i p (by first | assumption | omega | (simp only [] at *; omega)) (by first | assumption | omega | (simp only [] at *; omega)) (by first | assumption | omega | (simp only [] at *; omega)) (by first | assumption | omega | (simp only [] at *; omega))) (cS_V 2 F.ts m_434 m_257 m_258 m_36 m_259 (by decide +kernel) ⟨Nat.le_of_ble_eq_true rfl, Nat.le_of_ble_eq_true rfl⟩) (ci := CI_Cells) (q0 := 0) rfl rfl rfl (Nat.le_of_ble_eq_true rfl) d_Placement_placed_3 ⟨Nat.le_of_ble_eq_true rfl, Nat.le_of_ble_eq_true rfl⟩ ⟨rfl, rfl, rfl, rfl, rfl, fun _ => rfl, rfl⟩ (fun r3 uu3 q3_ => ?_) rfl
  subst q3_
  refine V_istore F (lv' := [(4, .int (inP A2 B2 C2 i p)), (0, .ref p0), (1, .ref t0), (2, .int (nI i)), (3, .int (nI p))]) d_Placement_placed_6 (by decide) rfl ?_
  refine V_iload_n F 4 d_Placement_placed_8 rfl rfl ?_
  refine V_aload_n F 2 d_Placement_placed_9 rfl rfl ?_
  refine V_iload_n F 3 d_Placement_placed_10 rfl rfl ?_
  refine V_callV_i (w1 := fun (u_ : Unit) => [(p0, .inr (CI_Placement, [.ref p1, .ref p2, .int (nI nt)])), (p1, .inl (cI, 10, .inl (cN no))), (p2, .inl (cB, 10, .inl (cT nm))), (t0, .inr (CI_Cells, [.ref t1, .ref t2, .ref t3, .ref t4, .ref t5, .ref t6, .int (nI n2)])), (t1, .inl (cI, 10, .inl (cN k2))), (t2, .inl (cI, 10, .inl (cN o2))), (t3, .inl (cI, 10, .inl A2)), (t4, .inl (cI, 10, .inl B2)), (t5, .inl (cI, 10, .inl C2)), (t6, .inl (cI, 10, .inl (cN q2)))]) (wr := [(p0, .inr (CI_Placement, [.ref p1, .ref p2, .int (nI nt)])), (p1, .inl (cI, 10, .inl (cN no))), (p2, .inl (cB, 10, .inl (cT nm)))]) (isC := [3, 4, 5, 6, 7, 8, 9]) (isR := [0, 1, 2]) (pm := [0, 1, 2, 3, 4, 5, 6, 7, 8, 9]) (As := [.int (nI i)]) (rest := [.int (nI p)]) F (c_Cells_inputs l D cI cL cB t0 t1 t2 t3 t4 t5 t6 10 n2 k2 o2 q2 A2 B2 C2 i (by first | assumption | omega | (simp only [] at *; omega)) (by first | assumption | omega | (simp only [] at *; omega)) (by first | assumption | omega | (simp only [] at *; omega)) (by first | assumption | omega | (simp only [] at *; omega))) (cS_V 1 F.ts m_433 m_253 m_254 m_36 m_255 (by decide +kernel) ⟨Nat.le_of_ble_eq_true rfl, Nat.le_of_ble_eq_true rfl⟩) (ci := CI_Cells) (q0 := 0) rfl rfl rfl (Nat.le_of_ble_eq_true rfl) d_Placement_placed_11 ⟨Nat.le_of_ble_eq_true rfl, Nat.le_of_ble_eq_true rfl⟩ ⟨rfl, rfl, rfl, rfl, rfl, fun _ => rfl, rfl⟩ (fun r11 uu11 q11_ => ?_) rfl
  subst q11_
  refine V_icmpn_ge F 27 (a := p) (b := inpN (k2 i)) (by omega) (by omega) d_Placement_placed_14 (by decide) (fun h14 => ?_) (fun h14 => ?_)
  · skip
    refine V_iload F 0 d_Placement_placed_27 rfl ?_
    exact V_iret F hr () (by unfold plc; first | (rw [if_neg (by omega)]; done) | (rw [if_pos (by omega)]; rfl)) [0, 1, 2, 3, 4, 5, 6, 7, 8, 9] rfl rfl (by decide) (by decide) d_Placement_placed_29
  · skip
    have hv8 : vp_in (inP A2 B2 C2 i p) 10 := (hw2 i hi).2.2.1 p h14
    refine V_aload_n F 1 d_Placement_placed_17 rfl rfl ?_
    refine V_get F 0 CI_Placement 0 i_Placement rfl rfl (by decide) m_177 rfl rfl d_Placement_placed_18 ?_
    refine V_iload F 0 d_Placement_placed_21 rfl ?_
    refine V_ialdN F 1 0 rfl rfl hv8 d_Placement_placed_23 ?_
    refine V_goto F 29 d_Placement_placed_24 (by decide) ?_
    exact V_iret F hr () (by unfold plc; first | (rw [if_neg (by omega)]; done) | (rw [if_pos (by omega)]; rfl)) [0, 1, 2, 3, 4, 5, 6, 7, 8, 9] rfl rfl (by decide) (by decide) d_Placement_placed_29
