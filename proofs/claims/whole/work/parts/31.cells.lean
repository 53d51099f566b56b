set_option maxHeartbeats 4000000 in
set_option maxRecDepth 100000 in
theorem c_CS_within (l : Launch) (D : va_G) (cI cL cB : ClassId) (x : Int32) (m : Nat) (hm : m < 2 ^ 31) : Cti l y_CS_within (wK w_CS_within) ({ frames := 0, cells := 0, slots := 0, locals := 0 }) D classes (TY cI cL cB) [.int x, .int (nI m)] [] (fun (r : Int32) (u_ : Unit) => r = bP (vp_in x m)) (fun (u_ : Unit) => []) 0 0 := by
  refine Ctg_of (cc := prog_1_method_16_code) (maxL := 2) (ret := (some .boolean)) "CircuitSimulator" [(0, .int x), (1, .int (nI m))] (by decide) rfl rfl (Nat.le_of_ble_eq_true rfl) rfl ?_
  intro p_ e_ s_ m_ args_ below_ meth_ c_ A_ F hr hin
  refine V_iload_n F 0 d_CS_within_0 rfl rfl ?_
  refine V_if_lt F 13 d_CS_within_1 (by decide) (fun h1 => ?_) (fun h1 => ?_)
  · skip
    refine V_iconst F (v := 0) d_CS_within_13 rfl ?_
    exact V_zret F hr rfl () (by first | exact (bP_f (vin_n hm (Or.inl h1))).symm | exact (bP_f (vin_n hm (Or.inr h6))).symm) [] rfl rfl (by decide) (by decide) d_CS_within_14
  · skip
    refine V_iload_n F 0 d_CS_within_4 rfl rfl ?_
    refine V_iload_n F 1 d_CS_within_5 rfl rfl ?_
    refine V_icmp_ge F 13 d_CS_within_6 (by decide) (fun h6 => ?_) (fun h6 => ?_)
    · skip
      refine V_iconst F (v := 0) d_CS_within_13 rfl ?_
      exact V_zret F hr rfl () (by first | exact (bP_f (vin_n hm (Or.inl h1))).symm | exact (bP_f (vin_n hm (Or.inr h6))).symm) [] rfl rfl (by decide) (by decide) d_CS_within_14
    · skip
      refine V_iconst F (v := 1) d_CS_within_9 rfl ?_
      refine V_goto F 14 d_CS_within_10 (by decide) ?_
      exact V_zret F hr rfl () (bP_t (vin_of h1 h6 hm)).symm [] rfl rfl (by decide) (by decide) d_CS_within_14

set_option maxHeartbeats 4000000 in
set_option maxRecDepth 100000 in
theorem c_Arrays_fill_i (l : Launch) (D : va_G) (cI cL cB : ClassId) (a0 : Nat) (N : Nat) (f : Nat → Int32) (x : Int32) (hN : N < 2 ^ 31) : Ctv l y_Arrays_fill_i (wK w_Arrays_fill_i) ({ frames := 0, cells := 0, slots := 0, locals := 0 }) D classes (TY cI cL cB) [.ref a0, .int x] [(a0, .inl (cI, N, .inl f))] (fun (u_ : Unit) => True) (fun (u_ : Unit) => [(a0, .inl (cI, N, .inl (fun _ => x)))]) 0 0 := by
  refine Ctg_of (cc := prog_17_method_103_code) (maxL := 4) (ret := none) "java/util/Arrays" [(0, .ref a0), (1, .int x)] (by decide) rfl rfl (Nat.le_of_ble_eq_true rfl) rfl ?_
  intro p_ e_ s_ m_ args_ below_ meth_ c_ A_ F hr hin
  refine V_iconst F (v := 0) d_Arrays_fill_i_0 rfl ?_
  refine V_istore_n F (lv' := [(2, .int (nI 0)), (0, .ref a0), (1, .int x)]) d_Arrays_fill_i_1 rfl (by decide) rfl ?_
  refine V_aload_n F 1 d_Arrays_fill_i_2 rfl rfl ?_
  refine V_alen F 0 0 (v := nI N) rfl rfl rfl d_Arrays_fill_i_3 ?_
  refine V_istore_n F (lv' := [(3, .int (nI N)), (2, .int (nI 0)), (0, .ref a0), (1, .int x)]) d_Arrays_fill_i_4 rfl (by decide) rfl ?_
  have L5 : ∀ (f_ : Nat) (i : Nat) (f2 : Nat → Int32), N - i < f_ → (i ≤ N) → (∀ j, j < i → f2 j = x) → V p_ l e_ ({ frames := 0, cells := 0, slots := 0, locals := 0 }) s_ m_ args_ below_ meth_ c_ A_ (MQ below_ (cQv D classes (fun (u_ : Unit) => True) (fun (u_ : Unit) => [(a0, .inl (cI, N, .inl (fun _ => x)))]) A_) args_ s_ 0 0 A_) D classes 4 0 0 [(a0, .inl (cI, N, .inl f2))] 5 [(0, .ref a0), (1, .int x), (2, .int (nI i)), (3, .int (nI N))] [] := by
    intro f_
    induction f_ with
    | zero => intro i f2 hm_; exact absurd hm_ (Nat.not_lt_zero _)
    | succ f_ ih5 =>
      intro i f2 hm5 hi hI
      refine V_iload_n F 2 d_Arrays_fill_i_5 rfl rfl ?_
      refine V_iload_n F 3 d_Arrays_fill_i_6 rfl rfl ?_
      refine V_icmpn_ge F 20 (a := i) (b := N) (by omega) (by omega) d_Arrays_fill_i_7 (by decide) (fun h7 => ?_) (fun h7 => ?_)
      · skip
        refine V_ext 0 (g := fun _ => x) (w' := [(a0, .inl (cI, N, .inl (fun _ => x)))]) rfl (fun j hj => hI j (by omega)) rfl ?_
        exact V_vret F hr () trivial [0] rfl rfl (by decide) (by decide) d_Arrays_fill_i_20
      · skip
        refine V_aload_n F 0 d_Arrays_fill_i_10 rfl rfl ?_
        refine V_iload_n F 2 d_Arrays_fill_i_11 rfl rfl ?_
        refine V_iload_n F 1 d_Arrays_fill_i_12 rfl rfl ?_
        refine V_iastn F 0 0 (k := i) (w' := [(a0, .inl (cI, N, .inl (upd f2 i x)))]) rfl rfl (by omega) (by omega) rfl d_Arrays_fill_i_13 ?_
        refine V_iinc F 2 (v := nI (i + 1)) (lv' := [(2, .int (nI (i + 1))), (0, .ref a0), (1, .int x), (3, .int (nI N))]) d_Arrays_fill_i_14 rfl (nI_inc _) (by decide) rfl ?_
        refine V_goto F 5 d_Arrays_fill_i_17 (by decide) ?_
        refine V_lv [1, 2, 0, 3] rfl ?_
        exact ih5 (i + 1) (upd f2 i x) (by omega) (by first | assumption | omega | (simp only [] at *; omega)) (upd_all hI)
  refine V_lv [2, 3, 1, 0] rfl ?_
  exact L5 ((N - 0) + 1) 0 f (Nat.lt_succ_self _) (by first | assumption | omega | (simp only [] at *; omega)) (fun t h => absurd h (Nat.not_lt_zero t))

set_option maxHeartbeats 4000000 in
set_option maxRecDepth 100000 in
theorem c_Arrays_fill_l (l : Launch) (D : va_G) (cI cL cB : ClassId) (a0 : Nat) (N : Nat) (f : Nat → Int64) (x : Int64) (hN : N < 2 ^ 31) : Ctv l y_Arrays_fill_l (wK w_Arrays_fill_l) ({ frames := 0, cells := 0, slots := 0, locals := 0 }) D classes (TY cI cL cB) [.ref a0, .long x] [(a0, .inl (cL, N, .inr (.inl f)))] (fun (u_ : (Nat → Int64)) => ∀ j, j < N → u_ j = x) (fun (u_ : (Nat → Int64)) => [(a0, .inl (cL, N, .inr (.inl u_)))]) 0 0 := by
  refine Ctg_of (cc := prog_17_method_101_code) (maxL := 5) (ret := none) "java/util/Arrays" [(0, .ref a0), (1, .long x)] (by decide) rfl rfl (Nat.le_of_ble_eq_true rfl) rfl ?_
  intro p_ e_ s_ m_ args_ below_ meth_ c_ A_ F hr hin
  refine V_iconst F (v := 0) d_Arrays_fill_l_0 rfl ?_
  refine V_istore_n F (lv' := [(3, .int (nI 0)), (0, .ref a0), (1, .long x)]) d_Arrays_fill_l_1 rfl (by decide) rfl ?_
  refine V_aload_n F 1 d_Arrays_fill_l_2 rfl rfl ?_
  refine V_alen F 0 1 (v := nI N) rfl rfl rfl d_Arrays_fill_l_3 ?_
  refine V_istore F (lv' := [(4, .int (nI N)), (3, .int (nI 0)), (0, .ref a0), (1, .long x)]) d_Arrays_fill_l_4 (by decide) rfl ?_
  have L6 : ∀ (f_ : Nat) (i : Nat) (f2 : Nat → Int64), N - i < f_ → (i ≤ N) → (∀ j, j < i → f2 j = x) → V p_ l e_ ({ frames := 0, cells := 0, slots := 0, locals := 0 }) s_ m_ args_ below_ meth_ c_ A_ (MQ below_ (cQv D classes (fun (u_ : (Nat → Int64)) => ∀ j, j < N → u_ j = x) (fun (u_ : (Nat → Int64)) => [(a0, .inl (cL, N, .inr (.inl u_)))]) A_) args_ s_ 0 0 A_) D classes 5 0 0 [(a0, .inl (cL, N, .inr (.inl f2)))] 6 [(0, .ref a0), (1, .long x), (3, .int (nI i)), (4, .int (nI N))] [] := by
    intro f_
    induction f_ with
    | zero => intro i f2 hm_; exact absurd hm_ (Nat.not_lt_zero _)
    | succ f_ ih6 =>
      intro i f2 hm6 hi hI
      refine V_iload_n F 2 d_Arrays_fill_l_6 rfl rfl ?_
      refine V_iload F 3 d_Arrays_fill_l_7 rfl ?_
      refine V_icmpn_ge F 22 (a := i) (b := N) (by omega) (by omega) d_Arrays_fill_l_9 (by decide) (fun h9 => ?_) (fun h9 => ?_)
      · skip
        exact V_vret F hr f2 (fun j hj => hI j (by omega)) [0] rfl rfl (by decide) (by decide) d_Arrays_fill_l_22
      · skip
        refine V_aload_n F 0 d_Arrays_fill_l_12 rfl rfl ?_
        refine V_iload_n F 2 d_Arrays_fill_l_13 rfl rfl ?_
        refine V_lload_n F 1 d_Arrays_fill_l_14 rfl rfl ?_
        refine V_lastn F 0 1 (k := i) (w' := [(a0, .inl (cL, N, .inr (.inl (vp_updL f2 i x))))]) rfl rfl (by omega) (by omega) rfl d_Arrays_fill_l_15 ?_
        refine V_iinc F 2 (v := nI (i + 1)) (lv' := [(3, .int (nI (i + 1))), (0, .ref a0), (1, .long x), (4, .int (nI N))]) d_Arrays_fill_l_16 rfl (nI_inc _) (by decide) rfl ?_
        refine V_goto F 6 d_Arrays_fill_l_19 (by decide) ?_
        refine V_lv [1, 2, 0, 3] rfl ?_
        exact ih6 (i + 1) (vp_updL f2 i x) (by omega) (by first | assumption | omega | (simp only [] at *; omega)) (updL_all hI)
  refine V_lv [2, 3, 1, 0] rfl ?_
  exact L6 ((N - 0) + 1) 0 f (Nat.lt_succ_self _) (by first | assumption | omega | (simp only [] at *; omega)) (fun t h => absurd h (Nat.not_lt_zero t))

set_option maxHeartbeats 4000000 in
set_option maxRecDepth 100000 in
theorem c_Cells_add (l : Launch) (D : va_G) (cI cL cB : ClassId) (c0 : Nat) (c1 : Nat) (c2 : Nat) (c3 : Nat) (c4 : Nat) (c5 : Nat) (c6 : Nat) (N : Nat) (n : Nat) (k : Nat → Nat) (o : Nat → Nat) (q : Nat → Nat) (A : Nat → Int32) (B : Nat → Int32) (C : Nat → Int32) (kd : Nat) (ot : Nat) (hv : Nat) (a : Int32) (b : Int32) (c : Int32) (hnN : n < N) (hN : N ≤ 60) (hkd : kd ≤ 8) (hc : kd = 8 → c = nI hv) : Ctv l y_Cells_add (wK w_Cells_add) ({ frames := 0, cells := 0, slots := 0, locals := 0 }) D classes (TY cI cL cB) [.ref c0, .int (nI kd), .int (nI ot), .int a, .int b, .int c] [(c0, .inr (CI_Cells, [.ref c1, .ref c2, .ref c3, .ref c4, .ref c5, .ref c6, .int (nI n)])), (c1, .inl (cI, N, .inl (cN k))), (c2, .inl (cI, N, .inl (cN o))), (c3, .inl (cI, N, .inl A)), (c4, .inl (cI, N, .inl B)), (c5, .inl (cI, N, .inl C)), (c6, .inl (cI, N, .inl (cN q)))] (fun (u_ : (Nat → Nat)) => u_ = up q n (if kd = 8 then hv else 2)) (fun (u_ : (Nat → Nat)) => [(c0, .inr (CI_Cells, [.ref c1, .ref c2, .ref c3, .ref c4, .ref c5, .ref c6, .int (nI (n + 1))])), (c1, .inl (cI, N, .inl (cN (up k n kd)))), (c2, .inl (cI, N, .inl (cN (up o n ot)))), (c3, .inl (cI, N, .inl (upd A n a))), (c4, .inl (cI, N, .inl (upd B n b))), (c5, .inl (cI, N, .inl (upd C n c))), (c6, .inl (cI, N, .inl (cN u_)))]) 0 0 := by
  refine Ctg_of (cc := prog_2_method_2_code) (maxL := 6) (ret := none) "CircuitSimulator$Cells" [(0, .ref c0), (1, .int (nI kd)), (2, .int (nI ot)), (3, .int a), (4, .int b), (5, .int c)] (by decide) rfl rfl (Nat.le_of_ble_eq_true rfl) rfl ?_
  intro p_ e_ s_ m_ args_ below_ meth_ c_ A_ F hr hin
  refine V_aload_n F 0 d_Cells_add_0 rfl rfl ?_
  refine V_get F 0 CI_Cells 0 i_Cells rfl rfl (by decide) m_65 rfl rfl d_Cells_add_1 ?_
  refine V_aload_n F 0 d_Cells_add_4 rfl rfl ?_
  refine V_get F 0 CI_Cells 6 i_Cells rfl rfl (by decide) m_80 rfl rfl d_Cells_add_5 ?_
  refine V_iload_n F 1 d_Cells_add_8 rfl rfl ?_
  refine V_iastn F 1 0 (k := n) (w' := [(c0, .inr (CI_Cells, [.ref c1, .ref c2, .ref c3, .ref c4, .ref c5, .ref c6, .int (nI n)])), (c1, .inl (cI, N, .inl (cN (up k n kd)))), (c2, .inl (cI, N, .inl (cN o))), (c3, .inl (cI, N, .inl A)), (c4, .inl (cI, N, .inl B)), (c5, .inl (cI, N, .inl C)), (c6, .inl (cI, N, .inl (cN q)))]) rfl rfl (by omega) (by omega) (by rw [upd_cN] <;> rfl) d_Cells_add_9 ?_
  refine V_aload_n F 0 d_Cells_add_10 rfl rfl ?_
  refine V_get F 0 CI_Cells 1 i_Cells rfl rfl (by decide) m_68 rfl rfl d_Cells_add_11 ?_
  refine V_aload_n F 0 d_Cells_add_14 rfl rfl ?_
  refine V_get F 0 CI_Cells 6 i_Cells rfl rfl (by decide) m_80 rfl rfl d_Cells_add_15 ?_
  refine V_iload_n F 2 d_Cells_add_18 rfl rfl ?_
  refine V_iastn F 2 0 (k := n) (w' := [(c0, .inr (CI_Cells, [.ref c1, .ref c2, .ref c3, .ref c4, .ref c5, .ref c6, .int (nI n)])), (c1, .inl (cI, N, .inl (cN (up k n kd)))), (c2, .inl (cI, N, .inl (cN (up o n ot)))), (c3, .inl (cI, N, .inl A)), (c4, .inl (cI, N, .inl B)), (c5, .inl (cI, N, .inl C)), (c6, .inl (cI, N, .inl (cN q)))]) rfl rfl (by omega) (by omega) (by rw [upd_cN] <;> rfl) d_Cells_add_19 ?_
  refine V_aload_n F 0 d_Cells_add_20 rfl rfl ?_
  refine V_get F 0 CI_Cells 2 i_Cells rfl rfl (by decide) m_73 rfl rfl d_Cells_add_21 ?_
  refine V_aload_n F 0 d_Cells_add_24 rfl rfl ?_
  refine V_get F 0 CI_Cells 6 i_Cells rfl rfl (by decide) m_80 rfl rfl d_Cells_add_25 ?_
  refine V_iload_n F 3 d_Cells_add_28 rfl rfl ?_
  refine V_iastn F 3 0 (k := n) (w' := [(c0, .inr (CI_Cells, [.ref c1, .ref c2, .ref c3, .ref c4, .ref c5, .ref c6, .int (nI n)])), (c1, .inl (cI, N, .inl (cN (up k n kd)))), (c2, .inl (cI, N, .inl (cN (up o n ot)))), (c3, .inl (cI, N, .inl (upd A n a))), (c4, .inl (cI, N, .inl B)), (c5, .inl (cI, N, .inl C)), (c6, .inl (cI, N, .inl (cN q)))]) rfl rfl (by omega) (by omega) rfl d_Cells_add_29 ?_
  refine V_aload_n F 0 d_Cells_add_30 rfl rfl ?_
  refine V_get F 0 CI_Cells 3 i_Cells rfl rfl (by decide) m_75 rfl rfl d_Cells_add_31 ?_
  refine V_aload_n F 0 d_Cells_add_34 rfl rfl ?_
  refine V_get F 0 CI_Cells 6 i_Cells rfl rfl (by decide) m_80 rfl rfl d_Cells_add_35 ?_
  refine V_iload F 4 d_Cells_add_38 rfl ?_
  refine V_iastn F 4 0 (k := n) (w' := [(c0, .inr (CI_Cells, [.ref c1, .ref c2, .ref c3, .ref c4, .ref c5, .ref c6, .int (nI n)])), (c1, .inl (cI, N, .inl (cN (up k n kd)))), (c2, .inl (cI, N, .inl (cN (up o n ot)))), (c3, .inl (cI, N, .inl (upd A n a))), (c4, .inl (cI, N, .inl (upd B n b))), (c5, .inl (cI, N, .inl C)), (c6, .inl (cI, N, .inl (cN q)))]) rfl rfl (by omega) (by omega) rfl d_Cells_add_40 ?_
  refine V_aload_n F 0 d_Cells_add_41 rfl rfl ?_
  refine V_get F 0 CI_Cells 4 i_Cells rfl rfl (by decide) m_77 rfl rfl d_Cells_add_42 ?_
  refine V_aload_n F 0 d_Cells_add_45 rfl rfl ?_
  refine V_get F 0 CI_Cells 6 i_Cells rfl rfl (by decide) m_80 rfl rfl d_Cells_add_46 ?_
  refine V_iload F 5 d_Cells_add_49 rfl ?_
  refine V_iastn F 5 0 (k := n) (w' := [(c0, .inr (CI_Cells, [.ref c1, .ref c2, .ref c3, .ref c4, .ref c5, .ref c6, .int (nI n)])), (c1, .inl (cI, N, .inl (cN (up k n kd)))), (c2, .inl (cI, N, .inl (cN (up o n ot)))), (c3, .inl (cI, N, .inl (upd A n a))), (c4, .inl (cI, N, .inl (upd B n b))), (c5, .inl (cI, N, .inl (upd C n c))), (c6, .inl (cI, N, .inl (cN q)))]) rfl rfl (by omega) (by omega) rfl d_Cells_add_51 ?_
  refine V_aload_n F 0 d_Cells_add_52 rfl rfl ?_
  refine V_get F 0 CI_Cells 5 i_Cells rfl rfl (by decide) m_78 rfl rfl d_Cells_add_53 ?_
  refine V_aload_n F 0 d_Cells_add_56 rfl rfl ?_
  refine V_get F 0 CI_Cells 6 i_Cells rfl rfl (by decide) m_80 rfl rfl d_Cells_add_57 ?_
  refine V_iload_n F 1 d_Cells_add_60 rfl rfl ?_
  refine V_bipush F (v := 8) d_Cells_add_61 rfl ?_
  refine V_icmpn_ne F 71 (a := kd) (b := 8) (by omega) (by omega) d_Cells_add_63 (by decide) (fun h63 => ?_) (fun h63 => ?_)
  · skip
    refine V_iconst F (v := 2) d_Cells_add_71 rfl ?_
    refine V_top (y := nI 2) rfl ?_
    refine V_iastn F 6 0 (k := n) (w' := [(c0, .inr (CI_Cells, [.ref c1, .ref c2, .ref c3, .ref c4, .ref c5, .ref c6, .int (nI n)])), (c1, .inl (cI, N, .inl (cN (up k n kd)))), (c2, .inl (cI, N, .inl (cN (up o n ot)))), (c3, .inl (cI, N, .inl (upd A n a))), (c4, .inl (cI, N, .inl (upd B n b))), (c5, .inl (cI, N, .inl (upd C n c))), (c6, .inl (cI, N, .inl (cN (up q n 2))))]) rfl rfl (by omega) (by omega) (by rw [upd_cN] <;> rfl) d_Cells_add_72 ?_
    refine V_aload_n F 0 d_Cells_add_73 rfl rfl ?_
    refine V_dup F d_Cells_add_74 rfl ?_
    refine V_get F 0 CI_Cells 6 i_Cells rfl rfl (by decide) m_80 rfl rfl d_Cells_add_75 ?_
    refine V_iconst F (v := 1) d_Cells_add_78 rfl ?_
    refine V_iadd F d_Cells_add_79 ?_
    refine V_top (y := nI (n + 1)) (nI_add _ _) ?_
    refine V_put F 0 CI_Cells 6 (w' := [(c0, .inr (CI_Cells, [.ref c1, .ref c2, .ref c3, .ref c4, .ref c5, .ref c6, .int (nI (n + 1))])), (c1, .inl (cI, N, .inl (cN (up k n kd)))), (c2, .inl (cI, N, .inl (cN (up o n ot)))), (c3, .inl (cI, N, .inl (upd A n a))), (c4, .inl (cI, N, .inl (upd B n b))), (c5, .inl (cI, N, .inl (upd C n c))), (c6, .inl (cI, N, .inl (cN (up q n 2))))]) t_Cells tk_Cells n_Cells i_Cells rfl rfl (by decide) m_80 rfl rfl rfl rfl (Nat.le_of_ble_eq_true rfl) rfl d_Cells_add_80 ?_
    exact V_vret F hr (up q n 2) (by first | rw [if_pos (by assumption)] | rw [if_neg (by assumption)]) [0, 1, 2, 3, 4, 5, 6] rfl rfl (by decide) (by decide) d_Cells_add_83
  · skip
    refine V_iload F 5 d_Cells_add_66 rfl ?_
    refine V_goto F 72 d_Cells_add_68 (by decide) ?_
    refine V_top (y := nI hv) (hc h63) ?_
    refine V_iastn F 6 0 (k := n) (w' := [(c0, .inr (CI_Cells, [.ref c1, .ref c2, .ref c3, .ref c4, .ref c5, .ref c6, .int (nI n)])), (c1, .inl (cI, N, .inl (cN (up k n kd)))), (c2, .inl (cI, N, .inl (cN (up o n ot)))), (c3, .inl (cI, N, .inl (upd A n a))), (c4, .inl (cI, N, .inl (upd B n b))), (c5, .inl (cI, N, .inl (upd C n c))), (c6, .inl (cI, N, .inl (cN (up q n hv))))]) rfl rfl (by omega) (by omega) (by rw [upd_cN] <;> rfl) d_Cells_add_72 ?_
    refine V_aload_n F 0 d_Cells_add_73 rfl rfl ?_
    refine V_dup F d_Cells_add_74 rfl ?_
    refine V_get F 0 CI_Cells 6 i_Cells rfl rfl (by decide) m_80 rfl rfl d_Cells_add_75 ?_
    refine V_iconst F (v := 1) d_Cells_add_78 rfl ?_
    refine V_iadd F d_Cells_add_79 ?_
    refine V_top (y := nI (n + 1)) (nI_add _ _) ?_
    refine V_put F 0 CI_Cells 6 (w' := [(c0, .inr (CI_Cells, [.ref c1, .ref c2, .ref c3, .ref c4, .ref c5, .ref c6, .int (nI (n + 1))])), (c1, .inl (cI, N, .inl (cN (up k n kd)))), (c2, .inl (cI, N, .inl (cN (up o n ot)))), (c3, .inl (cI, N, .inl (upd A n a))), (c4, .inl (cI, N, .inl (upd B n b))), (c5, .inl (cI, N, .inl (upd C n c))), (c6, .inl (cI, N, .inl (cN (up q n hv))))]) t_Cells tk_Cells n_Cells i_Cells rfl rfl (by decide) m_80 rfl rfl rfl rfl (Nat.le_of_ble_eq_true rfl) rfl d_Cells_add_80 ?_
    exact V_vret F hr (up q n hv) (by first | rw [if_pos (by assumption)] | rw [if_neg (by assumption)]) [0, 1, 2, 3, 4, 5, 6] rfl rfl (by decide) (by decide) d_Cells_add_83

set_option maxHeartbeats 4000000 in
set_option maxRecDepth 100000 in
theorem c_Cells_isOfKind (l : Launch) (D : va_G) (cI cL cB : ClassId) (c0 : Nat) (c1 : Nat) (c2 : Nat) (c3 : Nat) (c4 : Nat) (c5 : Nat) (c6 : Nat) (N : Nat) (n : Nat) (k : Nat → Nat) (o : Nat → Nat) (q : Nat → Nat) (A : Nat → Int32) (B : Nat → Int32) (C : Nat → Int32) (x : Int32) (a : Nat) (hnN : n ≤ N) (hN : N ≤ 60) (hk : ∀ i, i < n → k i ≤ 8) (ha : a ≤ 8) : Cti l y_Cells_isOfKind (wK w_Cells_isOfKind) ({ frames := 1, cells := 0, slots := 0, locals := 21 }) D classes (TY cI cL cB) [.ref c0, .int x, .int (nI a)] [(c0, .inr (CI_Cells, [.ref c1, .ref c2, .ref c3, .ref c4, .ref c5, .ref c6, .int (nI n)])), (c1, .inl (cI, N, .inl (cN k))), (c2, .inl (cI, N, .inl (cN o))), (c3, .inl (cI, N, .inl A)), (c4, .inl (cI, N, .inl B)), (c5, .inl (cI, N, .inl C)), (c6, .inl (cI, N, .inl (cN q)))] (fun (r : Int32) (u_ : Unit) => r = bP (vp_in x n ∧ k x.toNatClampNeg = a)) (fun (u_ : Unit) => [(c0, .inr (CI_Cells, [.ref c1, .ref c2, .ref c3, .ref c4, .ref c5, .ref c6, .int (nI n)])), (c1, .inl (cI, N, .inl (cN k))), (c2, .inl (cI, N, .inl (cN o))), (c3, .inl (cI, N, .inl A)), (c4, .inl (cI, N, .inl B)), (c5, .inl (cI, N, .inl C)), (c6, .inl (cI, N, .inl (cN q)))]) 0 0 := by
  refine Ctg_of (cc := prog_2_method_3_code) (maxL := 3) (ret := (some .boolean)) "CircuitSimulator$Cells" [(0, .ref c0), (1, .int x), (2, .int (nI a))] (by decide) rfl rfl (Nat.le_of_ble_eq_true rfl) rfl ?_
  intro p_ e_ s_ m_ args_ below_ meth_ c_ A_ F hr hin
  refine V_iload_n F 1 d_Cells_isOfKind_0 rfl rfl ?_
  refine V_aload_n F 0 d_Cells_isOfKind_1 rfl rfl ?_
  refine V_get F 0 CI_Cells 6 i_Cells rfl rfl (by decide) m_80 rfl rfl d_Cells_isOfKind_2 ?_
  refine V_callSN_i (w1 := fun (u_ : Unit) => [(c0, .inr (CI_Cells, [.ref c1, .ref c2, .ref c3, .ref c4, .ref c5, .ref c6, .int (nI n)])), (c1, .inl (cI, N, .inl (cN k))), (c2, .inl (cI, N, .inl (cN o))), (c3, .inl (cI, N, .inl A)), (c4, .inl (cI, N, .inl B)), (c5, .inl (cI, N, .inl C)), (c6, .inl (cI, N, .inl (cN q)))]) (wr := [(c0, .inr (CI_Cells, [.ref c1, .ref c2, .ref c3, .ref c4, .ref c5, .ref c6, .int (nI n)])), (c1, .inl (cI, N, .inl (cN k))), (c2, .inl (cI, N, .inl (cN o))), (c3, .inl (cI, N, .inl A)), (c4, .inl (cI, N, .inl B)), (c5, .inl (cI, N, .inl C)), (c6, .inl (cI, N, .inl (cN q)))]) (isC := []) (isR := [0, 1, 2, 3, 4, 5, 6]) (pm := [0, 1, 2, 3, 4, 5, 6]) (As := [.int x, .int (nI n)]) (rest := []) F (c_CS_within l D cI cL cB x n (by first | assumption | omega | (simp only [] at *; omega))) (cS_SN 2 F.ts F.E.n4 m_312 m_35 m_313 (by decide +kernel) ⟨Nat.le_of_ble_eq_true rfl, Nat.le_of_ble_eq_true rfl⟩) rfl (Nat.le_of_ble_eq_true rfl) d_Cells_isOfKind_5 ⟨Nat.le_of_ble_eq_true rfl, Nat.le_of_ble_eq_true rfl⟩ ⟨rfl, rfl, rfl, rfl, rfl, fun _ => rfl, rfl⟩ (fun r5 uu5 q5_ => ?_) rfl
  subst q5_
  refine V_ifb_eq F 25 d_Cells_isOfKind_8 (by decide) (fun h8 => ?_) (fun h8 => ?_)
  · skip
    refine V_iconst F (v := 0) d_Cells_isOfKind_25 rfl ?_
    exact V_zret F hr rfl () (bP_f (fun z => h8 z.1)).symm [0, 1, 2, 3, 4, 5, 6] rfl rfl (by decide) (by decide) d_Cells_isOfKind_26
  · skip
    have hk8 := hk _ (vp_lt h8)
    refine V_aload_n F 0 d_Cells_isOfKind_11 rfl rfl ?_
    refine V_get F 0 CI_Cells 0 i_Cells rfl rfl (by decide) m_65 rfl rfl d_Cells_isOfKind_12 ?_
    refine V_iload_n F 1 d_Cells_isOfKind_15 rfl rfl ?_
    refine V_ialdN F 1 0 rfl rfl (vin_mono h8 hnN) d_Cells_isOfKind_16 ?_
    refine V_iload_n F 2 d_Cells_isOfKind_17 rfl rfl ?_
    refine V_icmpn_ne F 25 (a := k (x).toNatClampNeg) (b := a) (by omega) (by omega) d_Cells_isOfKind_18 (by decide) (fun h18 => ?_) (fun h18 => ?_)
    · skip
      refine V_iconst F (v := 0) d_Cells_isOfKind_25 rfl ?_
      exact V_zret F hr rfl () (bP_f (fun z => h18 z.2)).symm [0, 1, 2, 3, 4, 5, 6] rfl rfl (by decide) (by decide) d_Cells_isOfKind_26
    · skip
      refine V_iconst F (v := 1) d_Cells_isOfKind_21 rfl ?_
      refine V_goto F 26 d_Cells_isOfKind_22 (by decide) ?_
      exact V_zret F hr rfl () (bP_t ⟨h8, h18⟩).symm [0, 1, 2, 3, 4, 5, 6] rfl rfl (by decide) (by decide) d_Cells_isOfKind_26

set_option maxHeartbeats 4000000 in
set_option maxRecDepth 100000 in
theorem c_Cells_inputs (l : Launch) (D : va_G) (cI cL cB : ClassId) (c0 : Nat) (c1 : Nat) (c2 : Nat) (c3 : Nat) (c4 : Nat) (c5 : Nat) (c6 : Nat) (N : Nat) (n : Nat) (k : Nat → Nat) (o : Nat → Nat) (q : Nat → Nat) (A : Nat → Int32) (B : Nat → Int32) (C : Nat → Int32) (i : Nat) (hnN : n ≤ N) (hN : N ≤ 60) (hi : i < n) (hk : k i ≤ 8) : Cti l y_Cells_inputs (wK w_Cells_inputs) ({ frames := 0, cells := 0, slots := 0, locals := 0 }) D classes (TY cI cL cB) [.ref c0, .int (nI i)] [(c0, .inr (CI_Cells, [.ref c1, .ref c2, .ref c3, .ref c4, .ref c5, .ref c6, .int (nI n)])), (c1, .inl (cI, N, .inl (cN k))), (c2, .inl (cI, N, .inl (cN o))), (c3, .inl (cI, N, .inl A)), (c4, .inl (cI, N, .inl B)), (c5, .inl (cI, N, .inl C)), (c6, .inl (cI, N, .inl (cN q)))] (fun (r : Int32) (u_ : Unit) => r = nI (inpN (k i))) (fun (u_ : Unit) => [(c0, .inr (CI_Cells, [.ref c1, .ref c2, .ref c3, .ref c4, .ref c5, .ref c6, .int (nI n)])), (c1, .inl (cI, N, .inl (cN k))), (c2, .inl (cI, N, .inl (cN o))), (c3, .inl (cI, N, .inl A)), (c4, .inl (cI, N, .inl B)), (c5, .inl (cI, N, .inl C)), (c6, .inl (cI, N, .inl (cN q)))]) 0 0 := by
  refine Ctg_of (cc := prog_2_method_4_code) (maxL := 2) (ret := (some .int)) "CircuitSimulator$Cells" [(0, .ref c0), (1, .int (nI i))] (by decide) rfl rfl (Nat.le_of_ble_eq_true rfl) rfl ?_
  intro p_ e_ s_ m_ args_ below_ meth_ c_ A_ F hr hin
  obtain ⟨tI_, hZ_, hT_⟩ := F.E.tab
  refine V_getsN F hZ_ F.E.n3 d_Cells_inputs_0 ?_
  refine V_aload_n F 0 d_Cells_inputs_3 rfl rfl ?_
  refine V_get F 0 CI_Cells 0 i_Cells rfl rfl (by decide) m_65 rfl rfl d_Cells_inputs_4 ?_
  refine V_iload_n F 1 d_Cells_inputs_7 rfl rfl ?_
  refine V_ialdnN F 1 0 (k := i) rfl rfl (by omega) (by omega) d_Cells_inputs_8 ?_
  refine V_tald F (k := k i) hT_ (by omega) d_Cells_inputs_9 ?_
  exact V_iret F hr () rfl [0, 1, 2, 3, 4, 5, 6] rfl rfl (by decide) (by decide) d_Cells_inputs_10

set_option maxHeartbeats 4000000 in
set_option maxRecDepth 100000 in
theorem c_Cells_dependencies (l : Launch) (D : va_G) (cI cL cB : ClassId) (c0 : Nat) (c1 : Nat) (c2 : Nat) (c3 : Nat) (c4 : Nat) (c5 : Nat) (c6 : Nat) (N : Nat) (n : Nat) (k : Nat → Nat) (o : Nat → Nat) (q : Nat → Nat) (A : Nat → Int32) (B : Nat → Int32) (C : Nat → Int32) (i : Nat) (hnN : n ≤ N) (hN : N ≤ 60) (hi : i < n) (hk : k i ≤ 8) : Cti l y_Cells_dependencies (wK w_Cells_dependencies) ({ frames := 1, cells := 0, slots := 0, locals := 21 }) D classes (TY cI cL cB) [.ref c0, .int (nI i)] [(c0, .inr (CI_Cells, [.ref c1, .ref c2, .ref c3, .ref c4, .ref c5, .ref c6, .int (nI n)])), (c1, .inl (cI, N, .inl (cN k))), (c2, .inl (cI, N, .inl (cN o))), (c3, .inl (cI, N, .inl A)), (c4, .inl (cI, N, .inl B)), (c5, .inl (cI, N, .inl C)), (c6, .inl (cI, N, .inl (cN q)))] (fun (r : Int32) (u_ : Unit) => r = nI (depN (k i))) (fun (u_ : Unit) => [(c0, .inr (CI_Cells, [.ref c1, .ref c2, .ref c3, .ref c4, .ref c5, .ref c6, .int (nI n)])), (c1, .inl (cI, N, .inl (cN k))), (c2, .inl (cI, N, .inl (cN o))), (c3, .inl (cI, N, .inl A)), (c4, .inl (cI, N, .inl B)), (c5, .inl (cI, N, .inl C)), (c6, .inl (cI, N, .inl (cN q)))]) 0 0 := by
  refine Ctg_of (cc := prog_2_method_5_code) (maxL := 2) (ret := (some .int)) "CircuitSimulator$Cells" [(0, .ref c0), (1, .int (nI i))] (by decide) rfl rfl (Nat.le_of_ble_eq_true rfl) rfl ?_
  intro p_ e_ s_ m_ args_ below_ meth_ c_ A_ F hr hin
  refine V_aload_n F 0 d_Cells_dependencies_0 rfl rfl ?_
  refine V_get F 0 CI_Cells 0 i_Cells rfl rfl (by decide) m_65 rfl rfl d_Cells_dependencies_1 ?_
  refine V_iload_n F 1 d_Cells_dependencies_4 rfl rfl ?_
  refine V_ialdnN F 1 0 (k := i) rfl rfl (by omega) (by omega) d_Cells_dependencies_5 ?_
  refine V_bipush F (v := 8) d_Cells_dependencies_6 rfl ?_
  refine V_icmpn_ne F 15 (a := k i) (b := 8) (by omega) (by omega) d_Cells_dependencies_8 (by decide) (fun h8 => ?_) (fun h8 => ?_)
  · skip
    refine V_aload_n F 0 d_Cells_dependencies_15 rfl rfl ?_
    refine V_iload_n F 1 d_Cells_dependencies_16 rfl rfl ?_
    refine V_callV_i (w1 := fun (u_ : Unit) => [(c0, .inr (CI_Cells, [.ref c1, .ref c2, .ref c3, .ref c4, .ref c5, .ref c6, .int (nI n)])), (c1, .inl (cI, N, .inl (cN k))), (c2, .inl (cI, N, .inl (cN o))), (c3, .inl (cI, N, .inl A)), (c4, .inl (cI, N, .inl B)), (c5, .inl (cI, N, .inl C)), (c6, .inl (cI, N, .inl (cN q)))]) (wr := []) (isC := [0, 1, 2, 3, 4, 5, 6]) (isR := []) (pm := [0, 1, 2, 3, 4, 5, 6]) (As := [.int (nI i)]) (rest := []) F (c_Cells_inputs l D cI cL cB c0 c1 c2 c3 c4 c5 c6 N n k o q A B C i (by first | assumption | omega | (simp only [] at *; omega)) (by first | assumption | omega | (simp only [] at *; omega)) (by first | assumption | omega | (simp only [] at *; omega)) (by first | assumption | omega | (simp only [] at *; omega))) (cS_V 1 F.ts m_252 m_253 m_254 m_36 m_255 (by decide +kernel) ⟨Nat.le_of_ble_eq_true rfl, Nat.le_of_ble_eq_true rfl⟩) (ci := CI_Cells) (q0 := 0) rfl rfl rfl (Nat.le_of_ble_eq_true rfl) d_Cells_dependencies_17 ⟨Nat.le_of_ble_eq_true rfl, Nat.le_of_ble_eq_true rfl⟩ ⟨rfl, rfl, rfl, rfl, rfl, fun _ => rfl, rfl⟩ (fun r17 uu17 q17_ => ?_) rfl
    subst q17_
    exact V_iret F hr () (congrArg nI (by unfold depN; rw [if_neg (by omega)])) [0, 1, 2, 3, 4, 5, 6] rfl rfl (by decide) (by decide) d_Cells_dependencies_20
  · skip
    refine V_iconst F (v := 0) d_Cells_dependencies_11 rfl ?_
    refine V_goto F 20 d_Cells_dependencies_12 (by decide) ?_
    exact V_iret F hr () (congrArg nI (by unfold depN; rw [if_pos (by omega)])) [0, 1, 2, 3, 4, 5, 6] rfl rfl (by decide) (by decide) d_Cells_dependencies_20

set_option maxHeartbeats 4000000 in
set_option maxRecDepth 100000 in
theorem c_Cells_input (l : Launch) (D : va_G) (cI cL cB : ClassId) (c0 : Nat) (c1 : Nat) (c2 : Nat) (c3 : Nat) (c4 : Nat) (c5 : Nat) (c6 : Nat) (N : Nat) (n : Nat) (k : Nat → Nat) (o : Nat → Nat) (q : Nat → Nat) (A : Nat → Int32) (B : Nat → Int32) (C : Nat → Int32) (i : Nat) (p : Nat) (hnN : n ≤ N) (hN : N ≤ 60) (hi : i < n) (hp : p ≤ 3) : Cti l y_Cells_input (wK w_Cells_input) ({ frames := 0, cells := 0, slots := 0, locals := 0 }) D classes (TY cI cL cB) [.ref c0, .int (nI i), .int (nI p)] [(c0, .inr (CI_Cells, [.ref c1, .ref c2, .ref c3, .ref c4, .ref c5, .ref c6, .int (nI n)])), (c1, .inl (cI, N, .inl (cN k))), (c2, .inl (cI, N, .inl (cN o))), (c3, .inl (cI, N, .inl A)), (c4, .inl (cI, N, .inl B)), (c5, .inl (cI, N, .inl C)), (c6, .inl (cI, N, .inl (cN q)))] (fun (r : Int32) (u_ : Unit) => r = inP A B C i p) (fun (u_ : Unit) => [(c0, .inr (CI_Cells, [.ref c1, .ref c2, .ref c3, .ref c4, .ref c5, .ref c6, .int (nI n)])), (c1, .inl (cI, N, .inl (cN k))), (c2, .inl (cI, N, .inl (cN o))), (c3, .inl (cI, N, .inl A)), (c4, .inl (cI, N, .inl B)), (c5, .inl (cI, N, .inl C)), (c6, .inl (cI, N, .inl (cN q)))]) 0 0 := by
  refine Ctg_of (cc := prog_2_method_6_code) (maxL := 3) (ret := (some .int)) "CircuitSimulator$Cells" [(0, .ref c0), (1, .int (nI i)), (2, .int (nI p))] (by decide) rfl rfl (Nat.le_of_ble_eq_true rfl) rfl ?_
  intro p_ e_ s_ m_ args_ below_ meth_ c_ A_ F hr hin
  refine V_iload_n F 2 d_Cells_input_0 rfl rfl ?_
  refine V_ifn_ne F 11 (a := p) (by omega) d_Cells_input_1 (by decide) (fun h1 => ?_) (fun h1 => ?_)
  · skip
    refine V_iload_n F 2 d_Cells_input_11 rfl rfl ?_
    refine V_iconst F (v := 1) d_Cells_input_12 rfl ?_
    refine V_icmpn_ne F 25 (a := p) (b := 1) (by omega) (by omega) d_Cells_input_13 (by decide) (fun h13 => ?_) (fun h13 => ?_)
    · skip
      refine V_aload_n F 0 d_Cells_input_25 rfl rfl ?_
      refine V_get F 0 CI_Cells 4 i_Cells rfl rfl (by decide) m_77 rfl rfl d_Cells_input_26 ?_
      refine V_iload_n F 1 d_Cells_input_29 rfl rfl ?_
      refine V_ialdn F 5 0 (k := i) rfl rfl (by omega) (by omega) d_Cells_input_30 ?_
      exact V_iret F hr () (by unfold inP; (repeat' split) <;> first | rfl | omega) [0, 1, 2, 3, 4, 5, 6] rfl rfl (by decide) (by decide) d_Cells_input_31
    · skip
      refine V_aload_n F 0 d_Cells_input_16 rfl rfl ?_
      refine V_get F 0 CI_Cells 3 i_Cells rfl rfl (by decide) m_75 rfl rfl d_Cells_input_17 ?_
      refine V_iload_n F 1 d_Cells_input_20 rfl rfl ?_
      refine V_ialdn F 4 0 (k := i) rfl rfl (by omega) (by omega) d_Cells_input_21 ?_
      refine V_goto F 31 d_Cells_input_22 (by decide) ?_
      exact V_iret F hr () (by unfold inP; (repeat' split) <;> first | rfl | omega) [0, 1, 2, 3, 4, 5, 6] rfl rfl (by decide) (by decide) d_Cells_input_31
  · skip
    refine V_aload_n F 0 d_Cells_input_4 rfl rfl ?_
    refine V_get F 0 CI_Cells 2 i_Cells rfl rfl (by decide) m_73 rfl rfl d_Cells_input_5 ?_
    refine V_iload_n F 1 d_Cells_input_8 rfl rfl ?_
    refine V_ialdn F 3 0 (k := i) rfl rfl (by omega) (by omega) d_Cells_input_9 ?_
    exact V_iret F hr () (by unfold inP; (repeat' split) <;> first | rfl | omega) [0, 1, 2, 3, 4, 5, 6] rfl rfl (by decide) (by decide) d_Cells_input_10

set_option maxHeartbeats 4000000 in
set_option maxRecDepth 100000 in
theorem c_Cells_mayDrive (l : Launch) (D : va_G) (cI cL cB : ClassId) (c0 : Nat) (c1 : Nat) (c2 : Nat) (c3 : Nat) (c4 : Nat) (c5 : Nat) (c6 : Nat) (N : Nat) (n : Nat) (k : Nat → Nat) (o : Nat → Nat) (q : Nat → Nat) (A : Nat → Int32) (B : Nat → Int32) (C : Nat → Int32) (j : Nat) (d : Nat) (hnN : n ≤ N) (hN : N ≤ 60) (hk : ∀ i, i < n → k i ≤ 8) (ho : ∀ i, i < n → o i < 100) (hj : j < 100) (hd : d ≤ 8) : Cti l y_Cells_mayDrive (wK w_Cells_mayDrive) ({ frames := 0, cells := 0, slots := 0, locals := 0 }) D classes (TY cI cL cB) [.ref c0, .int (nI j), .int (nI d)] [(c0, .inr (CI_Cells, [.ref c1, .ref c2, .ref c3, .ref c4, .ref c5, .ref c6, .int (nI n)])), (c1, .inl (cI, N, .inl (cN k))), (c2, .inl (cI, N, .inl (cN o))), (c3, .inl (cI, N, .inl A)), (c4, .inl (cI, N, .inl B)), (c5, .inl (cI, N, .inl C)), (c6, .inl (cI, N, .inl (cN q)))] (fun (r : Int32) (u_ : Unit) => r = bP (∀ i, i < n → o i = j → k i = 6 ∧ d = 6)) (fun (u_ : Unit) => [(c0, .inr (CI_Cells, [.ref c1, .ref c2, .ref c3, .ref c4, .ref c5, .ref c6, .int (nI n)])), (c1, .inl (cI, N, .inl (cN k))), (c2, .inl (cI, N, .inl (cN o))), (c3, .inl (cI, N, .inl A)), (c4, .inl (cI, N, .inl B)), (c5, .inl (cI, N, .inl C)), (c6, .inl (cI, N, .inl (cN q)))]) 0 0 := by
  refine Ctg_of (cc := prog_2_method_7_code) (maxL := 4) (ret := (some .boolean)) "CircuitSimulator$Cells" [(0, .ref c0), (1, .int (nI j)), (2, .int (nI d))] (by decide) rfl rfl (Nat.le_of_ble_eq_true rfl) rfl ?_
  intro p_ e_ s_ m_ args_ below_ meth_ c_ A_ F hr hin
  refine V_iconst F (v := 0) d_Cells_mayDrive_0 rfl ?_
  refine V_istore_n F (lv' := [(3, .int (nI 0)), (0, .ref c0), (1, .int (nI j)), (2, .int (nI d))]) d_Cells_mayDrive_1 rfl (by decide) rfl ?_
  have L2 : ∀ (f_ : Nat) (i : Nat), n - i < f_ → (i ≤ n) → (∀ t, t < i → o t = j → k t = 6 ∧ d = 6) → V p_ l e_ ({ frames := 0, cells := 0, slots := 0, locals := 0 }) s_ m_ args_ below_ meth_ c_ A_ (MQ below_ (cQi D classes (fun (r : Int32) (u_ : Unit) => r = bP (∀ i, i < n → o i = j → k i = 6 ∧ d = 6)) (fun (u_ : Unit) => [(c0, .inr (CI_Cells, [.ref c1, .ref c2, .ref c3, .ref c4, .ref c5, .ref c6, .int (nI n)])), (c1, .inl (cI, N, .inl (cN k))), (c2, .inl (cI, N, .inl (cN o))), (c3, .inl (cI, N, .inl A)), (c4, .inl (cI, N, .inl B)), (c5, .inl (cI, N, .inl C)), (c6, .inl (cI, N, .inl (cN q)))]) A_) args_ s_ 0 0 A_) D classes 4 0 0 [(c0, .inr (CI_Cells, [.ref c1, .ref c2, .ref c3, .ref c4, .ref c5, .ref c6, .int (nI n)])), (c1, .inl (cI, N, .inl (cN k))), (c2, .inl (cI, N, .inl (cN o))), (c3, .inl (cI, N, .inl A)), (c4, .inl (cI, N, .inl B)), (c5, .inl (cI, N, .inl C)), (c6, .inl (cI, N, .inl (cN q)))] 2 [(0, .ref c0), (1, .int (nI j)), (2, .int (nI d)), (3, .int (nI i))] [] := by
    intro f_
    induction f_ with
    | zero => intro i hm_; exact absurd hm_ (Nat.not_lt_zero _)
    | succ f_ ih2 =>
      intro i hm2 hi hI
      refine V_iload_n F 3 d_Cells_mayDrive_2 rfl rfl ?_
      refine V_aload_n F 0 d_Cells_mayDrive_3 rfl rfl ?_
      refine V_get F 0 CI_Cells 6 i_Cells rfl rfl (by decide) m_80 rfl rfl d_Cells_mayDrive_4 ?_
      refine V_icmpn_ge F 45 (a := i) (b := n) (by omega) (by omega) d_Cells_mayDrive_7 (by decide) (fun h7 => ?_) (fun h7 => ?_)
      · skip
        refine V_iconst F (v := 1) d_Cells_mayDrive_45 rfl ?_
        exact V_zret F hr rfl () (bP_t (fun t h => hI t (by omega))).symm [0, 1, 2, 3, 4, 5, 6] rfl rfl (by decide) (by decide) d_Cells_mayDrive_46
      · skip
        have hk8 := hk i (by omega)
        have ho8 := ho i (by omega)
        refine V_aload_n F 0 d_Cells_mayDrive_10 rfl rfl ?_
        refine V_get F 0 CI_Cells 1 i_Cells rfl rfl (by decide) m_68 rfl rfl d_Cells_mayDrive_11 ?_
        refine V_iload_n F 3 d_Cells_mayDrive_14 rfl rfl ?_
        refine V_ialdnN F 2 0 (k := i) rfl rfl (by omega) (by omega) d_Cells_mayDrive_15 ?_
        refine V_iload_n F 1 d_Cells_mayDrive_16 rfl rfl ?_
        refine V_icmpn_ne F 39 (a := o i) (b := j) (by omega) (by omega) d_Cells_mayDrive_17 (by decide) (fun h17 => ?_) (fun h17 => ?_)
        · skip
          refine V_iinc F 3 (v := nI (i + 1)) (lv' := [(3, .int (nI (i + 1))), (0, .ref c0), (1, .int (nI j)), (2, .int (nI d))]) d_Cells_mayDrive_39 rfl (nI_inc _) (by decide) rfl ?_
          refine V_goto F 2 d_Cells_mayDrive_42 (by decide) ?_
          refine V_lv [1, 2, 3, 0] rfl ?_
          exact ih2 (i + 1) (by omega) (by first | assumption | omega | (simp only [] at *; omega)) (lt_s hI (by omega))
        · skip
          refine V_aload_n F 0 d_Cells_mayDrive_20 rfl rfl ?_
          refine V_get F 0 CI_Cells 0 i_Cells rfl rfl (by decide) m_65 rfl rfl d_Cells_mayDrive_21 ?_
          refine V_iload_n F 3 d_Cells_mayDrive_24 rfl rfl ?_
          refine V_ialdnN F 1 0 (k := i) rfl rfl (by omega) (by omega) d_Cells_mayDrive_25 ?_
          refine V_bipush F (v := 6) d_Cells_mayDrive_26 rfl ?_
          refine V_icmpn_ne F 37 (a := k i) (b := 6) (by omega) (by omega) d_Cells_mayDrive_28 (by decide) (fun h28 => ?_) (fun h28 => ?_)
          · skip
            refine V_iconst F (v := 0) d_Cells_mayDrive_37 rfl ?_
            exact V_zret F hr rfl () (bP_f (fun z => by have := z i (by omega) (by omega); omega)).symm [0, 1, 2, 3, 4, 5, 6] rfl rfl (by decide) (by decide) d_Cells_mayDrive_38
          · skip
            refine V_iload_n F 2 d_Cells_mayDrive_31 rfl rfl ?_
            refine V_bipush F (v := 6) d_Cells_mayDrive_32 rfl ?_
            refine V_icmpn_eq F 39 (a := d) (b := 6) (by omega) (by omega) d_Cells_mayDrive_34 (by decide) (fun h34 => ?_) (fun h34 => ?_)
            · skip
              refine V_iinc F 3 (v := nI (i + 1)) (lv' := [(3, .int (nI (i + 1))), (0, .ref c0), (1, .int (nI j)), (2, .int (nI d))]) d_Cells_mayDrive_39 rfl (nI_inc _) (by decide) rfl ?_
              refine V_goto F 2 d_Cells_mayDrive_42 (by decide) ?_
              refine V_lv [1, 2, 3, 0] rfl ?_
              exact ih2 (i + 1) (by omega) (by first | assumption | omega | (simp only [] at *; omega)) (lt_s hI (by omega))
            · skip
              refine V_iconst F (v := 0) d_Cells_mayDrive_37 rfl ?_
              exact V_zret F hr rfl () (bP_f (fun z => by have := z i (by omega) (by omega); omega)).symm [0, 1, 2, 3, 4, 5, 6] rfl rfl (by decide) (by decide) d_Cells_mayDrive_38
  refine V_lv [1, 2, 3, 0] rfl ?_
  exact L2 ((n - 0) + 1) 0 (Nat.lt_succ_self _) (by first | assumption | omega | (simp only [] at *; omega)) (fun t h => absurd h (Nat.not_lt_zero t))

set_option maxHeartbeats 4000000 in
set_option maxRecDepth 100000 in
theorem c_Cells_registers (l : Launch) (D : va_G) (cI cL cB : ClassId) (c0 : Nat) (c1 : Nat) (c2 : Nat) (c3 : Nat) (c4 : Nat) (c5 : Nat) (c6 : Nat) (N : Nat) (n : Nat) (k : Nat → Nat) (o : Nat → Nat) (q : Nat → Nat) (A : Nat → Int32) (B : Nat → Int32) (C : Nat → Int32) (hnN : n ≤ N) (hN : N ≤ 60) (hk : ∀ i, i < n → k i ≤ 8) : Cti l y_Cells_registers (wK w_Cells_registers) ({ frames := 0, cells := 0, slots := 0, locals := 0 }) D classes (TY cI cL cB) [.ref c0] [(c0, .inr (CI_Cells, [.ref c1, .ref c2, .ref c3, .ref c4, .ref c5, .ref c6, .int (nI n)])), (c1, .inl (cI, N, .inl (cN k))), (c2, .inl (cI, N, .inl (cN o))), (c3, .inl (cI, N, .inl A)), (c4, .inl (cI, N, .inl B)), (c5, .inl (cI, N, .inl C)), (c6, .inl (cI, N, .inl (cN q)))] (fun (r : Int32) (u_ : Unit) => r = nI (cnt (fun i => k i = 8) n)) (fun (u_ : Unit) => [(c0, .inr (CI_Cells, [.ref c1, .ref c2, .ref c3, .ref c4, .ref c5, .ref c6, .int (nI n)])), (c1, .inl (cI, N, .inl (cN k))), (c2, .inl (cI, N, .inl (cN o))), (c3, .inl (cI, N, .inl A)), (c4, .inl (cI, N, .inl B)), (c5, .inl (cI, N, .inl C)), (c6, .inl (cI, N, .inl (cN q)))]) 0 0 := by
  refine Ctg_of (cc := prog_2_method_8_code) (maxL := 3) (ret := (some .int)) "CircuitSimulator$Cells" [(0, .ref c0)] (by decide) rfl rfl (Nat.le_of_ble_eq_true rfl) rfl ?_
  intro p_ e_ s_ m_ args_ below_ meth_ c_ A_ F hr hin
  refine V_iconst F (v := 0) d_Cells_registers_0 rfl ?_
  refine V_istore_n F (lv' := [(1, .int (nI 0)), (0, .ref c0)]) d_Cells_registers_1 rfl (by decide) rfl ?_
  refine V_iconst F (v := 0) d_Cells_registers_2 rfl ?_
  refine V_istore_n F (lv' := [(2, .int (nI 0)), (1, .int (nI 0)), (0, .ref c0)]) d_Cells_registers_3 rfl (by decide) rfl ?_
  have L4 : ∀ (f_ : Nat) (i : Nat) (s : Nat), n - i < f_ → (i ≤ n) → (s = cnt (fun i => k i = 8) i) → V p_ l e_ ({ frames := 0, cells := 0, slots := 0, locals := 0 }) s_ m_ args_ below_ meth_ c_ A_ (MQ below_ (cQi D classes (fun (r : Int32) (u_ : Unit) => r = nI (cnt (fun i => k i = 8) n)) (fun (u_ : Unit) => [(c0, .inr (CI_Cells, [.ref c1, .ref c2, .ref c3, .ref c4, .ref c5, .ref c6, .int (nI n)])), (c1, .inl (cI, N, .inl (cN k))), (c2, .inl (cI, N, .inl (cN o))), (c3, .inl (cI, N, .inl A)), (c4, .inl (cI, N, .inl B)), (c5, .inl (cI, N, .inl C)), (c6, .inl (cI, N, .inl (cN q)))]) A_) args_ s_ 0 0 A_) D classes 3 0 0 [(c0, .inr (CI_Cells, [.ref c1, .ref c2, .ref c3, .ref c4, .ref c5, .ref c6, .int (nI n)])), (c1, .inl (cI, N, .inl (cN k))), (c2, .inl (cI, N, .inl (cN o))), (c3, .inl (cI, N, .inl A)), (c4, .inl (cI, N, .inl B)), (c5, .inl (cI, N, .inl C)), (c6, .inl (cI, N, .inl (cN q)))] 4 [(0, .ref c0), (1, .int (nI s)), (2, .int (nI i))] [] := by
    intro f_
    induction f_ with
    | zero => intro i s hm_; exact absurd hm_ (Nat.not_lt_zero _)
    | succ f_ ih4 =>
      intro i s hm4 hi hI
      refine V_iload_n F 2 d_Cells_registers_4 rfl rfl ?_
      refine V_aload_n F 0 d_Cells_registers_5 rfl rfl ?_
      refine V_get F 0 CI_Cells 6 i_Cells rfl rfl (by decide) m_80 rfl rfl d_Cells_registers_6 ?_
      refine V_icmpn_ge F 32 (a := i) (b := n) (by omega) (by omega) d_Cells_registers_9 (by decide) (fun h9 => ?_) (fun h9 => ?_)
      · skip
        refine V_iload_n F 1 d_Cells_registers_32 rfl rfl ?_
        exact V_iret F hr () (by rw [hI, show i = n by omega]) [0, 1, 2, 3, 4, 5, 6] rfl rfl (by decide) (by decide) d_Cells_registers_33
      · skip
        have hk8 := hk i (by omega)
        refine V_aload_n F 0 d_Cells_registers_12 rfl rfl ?_
        refine V_get F 0 CI_Cells 0 i_Cells rfl rfl (by decide) m_65 rfl rfl d_Cells_registers_13 ?_
        refine V_iload_n F 2 d_Cells_registers_16 rfl rfl ?_
        refine V_ialdnN F 1 0 (k := i) rfl rfl (by omega) (by omega) d_Cells_registers_17 ?_
        refine V_bipush F (v := 8) d_Cells_registers_18 rfl ?_
        refine V_icmpn_ne F 26 (a := k i) (b := 8) (by omega) (by omega) d_Cells_registers_20 (by decide) (fun h20 => ?_) (fun h20 => ?_)
        · skip
          refine V_iinc F 2 (v := nI (i + 1)) (lv' := [(2, .int (nI (i + 1))), (0, .ref c0), (1, .int (nI s))]) d_Cells_registers_26 rfl (nI_inc _) (by decide) rfl ?_
          refine V_goto F 4 d_Cells_registers_29 (by decide) ?_
          refine V_lv [1, 2, 0] rfl ?_
          exact ih4 (i + 1) s (by omega) (by first | assumption | omega | (simp only [] at *; omega)) (by first | rw [cnt_t (by assumption), hI] | rw [cnt_f (by assumption), hI])
        · skip
          refine V_iinc F 1 (v := nI (s + 1)) (lv' := [(1, .int (nI (s + 1))), (0, .ref c0), (2, .int (nI i))]) d_Cells_registers_23 rfl (nI_inc _) (by decide) rfl ?_
          refine V_iinc F 2 (v := nI (i + 1)) (lv' := [(2, .int (nI (i + 1))), (1, .int (nI (s + 1))), (0, .ref c0)]) d_Cells_registers_26 rfl (nI_inc _) (by decide) rfl ?_
          refine V_goto F 4 d_Cells_registers_29 (by decide) ?_
          refine V_lv [2, 1, 0] rfl ?_
          exact ih4 (i + 1) (s + 1) (by omega) (by first | assumption | omega | (simp only [] at *; omega)) (by first | rw [cnt_t (by assumption), hI] | rw [cnt_f (by assumption), hI])
  refine V_lv [2, 1, 0] rfl ?_
  exact L4 ((n - 0) + 1) 0 0 (Nat.lt_succ_self _) (by first | assumption | omega | (simp only [] at *; omega)) rfl

set_option maxHeartbeats 4000000 in
set_option maxRecDepth 100000 in
theorem c_Cells_holdAsAtFirst (l : Launch) (D : va_G) (cI cL cB : ClassId) (c0 : Nat) (c1 : Nat) (c2 : Nat) (c3 : Nat) (c4 : Nat) (c5 : Nat) (c6 : Nat) (N : Nat) (n : Nat) (k : Nat → Nat) (o : Nat → Nat) (q : Nat → Nat) (A : Nat → Int32) (B : Nat → Int32) (C : Nat → Int32) (hnN : n ≤ N) (hN : N ≤ 60) (hk : ∀ i, i < n → k i ≤ 8) (hC : ∀ i, i < n → k i = 8 → vp_in (C i) 3) : Ctv l y_Cells_holdAsAtFirst (wK w_Cells_holdAsAtFirst) ({ frames := 0, cells := 0, slots := 0, locals := 0 }) D classes (TY cI cL cB) [.ref c0] [(c0, .inr (CI_Cells, [.ref c1, .ref c2, .ref c3, .ref c4, .ref c5, .ref c6, .int (nI n)])), (c1, .inl (cI, N, .inl (cN k))), (c2, .inl (cI, N, .inl (cN o))), (c3, .inl (cI, N, .inl A)), (c4, .inl (cI, N, .inl B)), (c5, .inl (cI, N, .inl C)), (c6, .inl (cI, N, .inl (cN q)))] (fun (u_ : (Nat → Nat)) => ∀ i, i < n → u_ i = if k i = 8 then (C i).toNatClampNeg else if k i = 7 then 2 else q i) (fun (u_ : (Nat → Nat)) => [(c0, .inr (CI_Cells, [.ref c1, .ref c2, .ref c3, .ref c4, .ref c5, .ref c6, .int (nI n)])), (c1, .inl (cI, N, .inl (cN k))), (c2, .inl (cI, N, .inl (cN o))), (c3, .inl (cI, N, .inl A)), (c4, .inl (cI, N, .inl B)), (c5, .inl (cI, N, .inl C)), (c6, .inl (cI, N, .inl (cN u_)))]) 0 0 := by
  refine Ctg_of (cc := prog_2_method_9_code) (maxL := 2) (ret := none) "CircuitSimulator$Cells" [(0, .ref c0)] (by decide) rfl rfl (Nat.le_of_ble_eq_true rfl) rfl ?_
  intro p_ e_ s_ m_ args_ below_ meth_ c_ A_ F hr hin
  refine V_iconst F (v := 0) d_Cells_holdAsAtFirst_0 rfl ?_
  refine V_istore_n F (lv' := [(1, .int (nI 0)), (0, .ref c0)]) d_Cells_holdAsAtFirst_1 rfl (by decide) rfl ?_
  have L2 : ∀ (f_ : Nat) (i : Nat) (q2 : Nat → Nat), n - i < f_ → (i ≤ n) → (∀ t, t < n → q2 t = if t < i then (if k t = 8 then (C t).toNatClampNeg else if k t = 7 then 2 else q t) else q t) → V p_ l e_ ({ frames := 0, cells := 0, slots := 0, locals := 0 }) s_ m_ args_ below_ meth_ c_ A_ (MQ below_ (cQv D classes (fun (u_ : (Nat → Nat)) => ∀ i, i < n → u_ i = if k i = 8 then (C i).toNatClampNeg else if k i = 7 then 2 else q i) (fun (u_ : (Nat → Nat)) => [(c0, .inr (CI_Cells, [.ref c1, .ref c2, .ref c3, .ref c4, .ref c5, .ref c6, .int (nI n)])), (c1, .inl (cI, N, .inl (cN k))), (c2, .inl (cI, N, .inl (cN o))), (c3, .inl (cI, N, .inl A)), (c4, .inl (cI, N, .inl B)), (c5, .inl (cI, N, .inl C)), (c6, .inl (cI, N, .inl (cN u_)))]) A_) args_ s_ 0 0 A_) D classes 2 0 0 [(c0, .inr (CI_Cells, [.ref c1, .ref c2, .ref c3, .ref c4, .ref c5, .ref c6, .int (nI n)])), (c1, .inl (cI, N, .inl (cN k))), (c2, .inl (cI, N, .inl (cN o))), (c3, .inl (cI, N, .inl A)), (c4, .inl (cI, N, .inl B)), (c5, .inl (cI, N, .inl C)), (c6, .inl (cI, N, .inl (cN q2)))] 2 [(0, .ref c0), (1, .int (nI i))] [] := by
    intro f_
    induction f_ with
    | zero => intro i q2 hm_; exact absurd hm_ (Nat.not_lt_zero _)
    | succ f_ ih2 =>
      intro i q2 hm2 hi hI
      refine V_iload_n F 1 d_Cells_holdAsAtFirst_2 rfl rfl ?_
      refine V_aload_n F 0 d_Cells_holdAsAtFirst_3 rfl rfl ?_
      refine V_get F 0 CI_Cells 6 i_Cells rfl rfl (by decide) m_80 rfl rfl d_Cells_holdAsAtFirst_4 ?_
      refine V_icmpn_ge F 60 (a := i) (b := n) (by omega) (by omega) d_Cells_holdAsAtFirst_7 (by decide) (fun h7 => ?_) (fun h7 => ?_)
      · skip
        exact V_vret F hr q2 (fun t ht => by rw [hI t ht, if_pos (by omega)]) [0, 1, 2, 3, 4, 5, 6] rfl rfl (by decide) (by decide) d_Cells_holdAsAtFirst_60
      · skip
        have hk8 := hk i (by omega)
        refine V_aload_n F 0 d_Cells_holdAsAtFirst_10 rfl rfl ?_
        refine V_get F 0 CI_Cells 0 i_Cells rfl rfl (by decide) m_65 rfl rfl d_Cells_holdAsAtFirst_11 ?_
        refine V_iload_n F 1 d_Cells_holdAsAtFirst_14 rfl rfl ?_
        refine V_ialdnN F 1 0 (k := i) rfl rfl (by omega) (by omega) d_Cells_holdAsAtFirst_15 ?_
        refine V_bipush F (v := 8) d_Cells_holdAsAtFirst_16 rfl ?_
        refine V_icmpn_ne F 36 (a := k i) (b := 8) (by omega) (by omega) d_Cells_holdAsAtFirst_18 (by decide) (fun h18 => ?_) (fun h18 => ?_)
        · skip
          refine V_aload_n F 0 d_Cells_holdAsAtFirst_36 rfl rfl ?_
          refine V_get F 0 CI_Cells 0 i_Cells rfl rfl (by decide) m_65 rfl rfl d_Cells_holdAsAtFirst_37 ?_
          refine V_iload_n F 1 d_Cells_holdAsAtFirst_40 rfl rfl ?_
          refine V_ialdnN F 1 0 (k := i) rfl rfl (by omega) (by omega) d_Cells_holdAsAtFirst_41 ?_
          refine V_bipush F (v := 7) d_Cells_holdAsAtFirst_42 rfl ?_
          refine V_icmpn_ne F 54 (a := k i) (b := 7) (by omega) (by omega) d_Cells_holdAsAtFirst_44 (by decide) (fun h44 => ?_) (fun h44 => ?_)
          · skip
            refine V_iinc F 1 (v := nI (i + 1)) (lv' := [(1, .int (nI (i + 1))), (0, .ref c0)]) d_Cells_holdAsAtFirst_54 rfl (nI_inc _) (by decide) rfl ?_
            refine V_goto F 2 d_Cells_holdAsAtFirst_57 (by decide) ?_
            refine V_lv [1, 0] rfl ?_
            exact ih2 (i + 1) q2 (by omega) (by first | assumption | omega | (simp only [] at *; omega)) (by first | exact hold_step hI (by omega) (by rw [if_pos (by assumption)]) | exact hold_step hI (by omega) (by rw [if_neg (by assumption), if_pos (by assumption)]) | exact hold_same hI (by rw [if_neg (by assumption), if_neg (by assumption)]))
          · skip
            refine V_aload_n F 0 d_Cells_holdAsAtFirst_47 rfl rfl ?_
            refine V_get F 0 CI_Cells 5 i_Cells rfl rfl (by decide) m_78 rfl rfl d_Cells_holdAsAtFirst_48 ?_
            refine V_iload_n F 1 d_Cells_holdAsAtFirst_51 rfl rfl ?_
            refine V_iconst F (v := 2) d_Cells_holdAsAtFirst_52 rfl ?_
            refine V_top (y := nI 2) rfl ?_
            refine V_iastn F 6 0 (k := i) (w' := [(c0, .inr (CI_Cells, [.ref c1, .ref c2, .ref c3, .ref c4, .ref c5, .ref c6, .int (nI n)])), (c1, .inl (cI, N, .inl (cN k))), (c2, .inl (cI, N, .inl (cN o))), (c3, .inl (cI, N, .inl A)), (c4, .inl (cI, N, .inl B)), (c5, .inl (cI, N, .inl C)), (c6, .inl (cI, N, .inl (cN (up q2 i 2))))]) rfl rfl (by omega) (by omega) (by rw [upd_cN] <;> rfl) d_Cells_holdAsAtFirst_53 ?_
            refine V_iinc F 1 (v := nI (i + 1)) (lv' := [(1, .int (nI (i + 1))), (0, .ref c0)]) d_Cells_holdAsAtFirst_54 rfl (nI_inc _) (by decide) rfl ?_
            refine V_goto F 2 d_Cells_holdAsAtFirst_57 (by decide) ?_
            refine V_lv [1, 0] rfl ?_
            exact ih2 (i + 1) (up q2 i 2) (by omega) (by first | assumption | omega | (simp only [] at *; omega)) (by first | exact hold_step hI (by omega) (by rw [if_pos (by assumption)]) | exact hold_step hI (by omega) (by rw [if_neg (by assumption), if_pos (by assumption)]) | exact hold_same hI (by rw [if_neg (by assumption), if_neg (by assumption)]))
        · skip
          refine V_aload_n F 0 d_Cells_holdAsAtFirst_21 rfl rfl ?_
          refine V_get F 0 CI_Cells 5 i_Cells rfl rfl (by decide) m_78 rfl rfl d_Cells_holdAsAtFirst_22 ?_
          refine V_iload_n F 1 d_Cells_holdAsAtFirst_25 rfl rfl ?_
          refine V_aload_n F 0 d_Cells_holdAsAtFirst_26 rfl rfl ?_
          refine V_get F 0 CI_Cells 4 i_Cells rfl rfl (by decide) m_77 rfl rfl d_Cells_holdAsAtFirst_27 ?_
          refine V_iload_n F 1 d_Cells_holdAsAtFirst_30 rfl rfl ?_
          refine V_ialdn F 5 0 (k := i) rfl rfl (by omega) (by omega) d_Cells_holdAsAtFirst_31 ?_
          refine V_top (y := nI ((C i).toNatClampNeg)) (vin_nI (hC i (by omega) (by omega)) (by decide)) ?_
          refine V_iastn F 6 0 (k := i) (w' := [(c0, .inr (CI_Cells, [.ref c1, .ref c2, .ref c3, .ref c4, .ref c5, .ref c6, .int (nI n)])), (c1, .inl (cI, N, .inl (cN k))), (c2, .inl (cI, N, .inl (cN o))), (c3, .inl (cI, N, .inl A)), (c4, .inl (cI, N, .inl B)), (c5, .inl (cI, N, .inl C)), (c6, .inl (cI, N, .inl (cN (up q2 i ((C i).toNatClampNeg)))))]) rfl rfl (by omega) (by omega) (by rw [upd_cN] <;> rfl) d_Cells_holdAsAtFirst_32 ?_
          refine V_goto F 54 d_Cells_holdAsAtFirst_33 (by decide) ?_
          refine V_iinc F 1 (v := nI (i + 1)) (lv' := [(1, .int (nI (i + 1))), (0, .ref c0)]) d_Cells_holdAsAtFirst_54 rfl (nI_inc _) (by decide) rfl ?_
          refine V_goto F 2 d_Cells_holdAsAtFirst_57 (by decide) ?_
          refine V_lv [1, 0] rfl ?_
          exact ih2 (i + 1) (up q2 i ((C i).toNatClampNeg)) (by omega) (by first | assumption | omega | (simp only [] at *; omega)) (by first | exact hold_step hI (by omega) (by rw [if_pos (by assumption)]) | exact hold_step hI (by omega) (by rw [if_neg (by assumption), if_pos (by assumption)]) | exact hold_same hI (by rw [if_neg (by assumption), if_neg (by assumption)]))
  refine V_lv [1, 0] rfl ?_
  exact L2 ((n - 0) + 1) 0 q (Nat.lt_succ_self _) (by first | assumption | omega | (simp only [] at *; omega)) (fun t _ => by rw [if_neg (Nat.not_lt_zero t)])
