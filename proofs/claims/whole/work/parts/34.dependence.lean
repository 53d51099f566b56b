set_option maxHeartbeats 4000000 in
set_option maxRecDepth 100000 in
theorem c_Dependence_note (l : Launch) (D : va_G) (cI cL cB : ClassId) (d0 : Nat) (d1 : Nat) (d2 : Nat) (X : Nat → Int64) (Y : Nat → Int64) (R : Nat → Nat → Prop) (a : Nat) (b : Nat) (ha : a < 80) (hb : b < 80) (hB : Bits 40 X Y R) : Ctv l y_Dependence_note (wK w_Dependence_note) ({ frames := 0, cells := 0, slots := 0, locals := 0 }) D classes (TY cI cL cB) [.ref d0, .int (nI a), .int (nI b)] [(d0, .inr (CI_Dependence, [.ref d1, .ref d2])), (d1, .inl (cL, 80, .inr (.inl X))), (d2, .inl (cL, 80, .inr (.inl Y)))] (fun (u_ : (Nat → Int64) × (Nat → Int64)) => Bits 40 u_.1 u_.2 (fun x y => R x y ∨ (x = a ∧ y = b))) (fun (u_ : (Nat → Int64) × (Nat → Int64)) => [(d0, .inr (CI_Dependence, [.ref d1, .ref d2])), (d1, .inl (cL, 80, .inr (.inl u_.1))), (d2, .inl (cL, 80, .inr (.inl u_.2)))]) 0 0 := by
  refine Ctg_of (cc := prog_3_method_4_code) (maxL := 3) (ret := none) "CircuitSimulator$Dependence" [(0, .ref d0), (1, .int (nI a)), (2, .int (nI b))] (by decide) rfl rfl (Nat.le_of_ble_eq_true rfl) rfl ?_
  intro p_ e_ s_ m_ args_ below_ meth_ c_ A_ F hr hin
  refine V_iload_n F 2 d_Dependence_note_0 rfl rfl ?_
  refine V_bipush F (v := 40) d_Dependence_note_1 rfl ?_
  refine V_icmpn_ge F 21 (a := b) (b := 40) (by omega) (by omega) d_Dependence_note_3 (by decide) (fun h3 => ?_) (fun h3 => ?_)
  · skip
    refine V_aload_n F 0 d_Dependence_note_21 rfl rfl ?_
    refine V_get F 0 CI_Dependence 1 i_Dependence rfl rfl (by decide) m_165 rfl rfl d_Dependence_note_22 ?_
    refine V_iload_n F 1 d_Dependence_note_25 rfl rfl ?_
    refine V_dup2 F d_Dependence_note_26 rfl rfl ?_
    refine V_laldn F 2 1 (k := a) rfl rfl (by omega) (by decide) d_Dependence_note_27 ?_
    refine V_lconst F (v := 1) d_Dependence_note_28 rfl ?_
    refine V_iload_n F 2 d_Dependence_note_29 rfl rfl ?_
    refine V_bipush F (v := 40) d_Dependence_note_30 rfl ?_
    refine V_isub F d_Dependence_note_32 ?_
    refine V_top (y := nI (b - 40)) (pk_sub (a := b) (b := 40) (by omega)) ?_
    refine V_lshl F d_Dependence_note_33 rfl ?_
    refine V_lor F d_Dependence_note_34 ?_
    refine V_lastn F 2 1 (k := a) (w' := [(d0, .inr (CI_Dependence, [.ref d1, .ref d2])), (d1, .inl (cL, 80, .inr (.inl X))), (d2, .inl (cL, 80, .inr (.inl (vp_updL Y a ((Y a) ||| (1 <<< ((nI (b - 40)).toInt64 &&& 63)))))))]) rfl rfl (by omega) (by decide) rfl d_Dependence_note_35 ?_
    exact V_vret F hr (X, vp_updL Y a ((Y a) ||| (1 <<< ((nI (b - 40)).toInt64 &&& 63)))) (show Bits 40 X (vp_updL Y a ((Y a) ||| (1 <<< ((nI (b - 40)).toInt64 &&& 63)))) (fun x y => R x y ∨ (x = a ∧ y = b)) from (by first | exact hB.note1 (by decide) (by omega) | exact hB.note2 (by decide) (by omega) hb)) [0, 1, 2] rfl rfl (by decide) (by decide) d_Dependence_note_36
  · skip
    refine V_aload_n F 0 d_Dependence_note_6 rfl rfl ?_
    refine V_get F 0 CI_Dependence 0 i_Dependence rfl rfl (by decide) m_164 rfl rfl d_Dependence_note_7 ?_
    refine V_iload_n F 1 d_Dependence_note_10 rfl rfl ?_
    refine V_dup2 F d_Dependence_note_11 rfl rfl ?_
    refine V_laldn F 1 1 (k := a) rfl rfl (by omega) (by decide) d_Dependence_note_12 ?_
    refine V_lconst F (v := 1) d_Dependence_note_13 rfl ?_
    refine V_iload_n F 2 d_Dependence_note_14 rfl rfl ?_
    refine V_lshl F d_Dependence_note_15 rfl ?_
    refine V_lor F d_Dependence_note_16 ?_
    refine V_lastn F 1 1 (k := a) (w' := [(d0, .inr (CI_Dependence, [.ref d1, .ref d2])), (d1, .inl (cL, 80, .inr (.inl (vp_updL X a ((X a) ||| (1 <<< ((nI b).toInt64 &&& 63))))))), (d2, .inl (cL, 80, .inr (.inl Y)))]) rfl rfl (by omega) (by decide) rfl d_Dependence_note_17 ?_
    refine V_goto F 36 d_Dependence_note_18 (by decide) ?_
    exact V_vret F hr (vp_updL X a ((X a) ||| (1 <<< ((nI b).toInt64 &&& 63))), Y) (show Bits 40 (vp_updL X a ((X a) ||| (1 <<< ((nI b).toInt64 &&& 63)))) Y (fun x y => R x y ∨ (x = a ∧ y = b)) from (by first | exact hB.note1 (by decide) (by omega) | exact hB.note2 (by decide) (by omega) hb)) [0, 1, 2] rfl rfl (by decide) (by decide) d_Dependence_note_36

set_option maxHeartbeats 4000000 in
set_option maxRecDepth 100000 in
theorem c_Dependence_isOn (l : Launch) (D : va_G) (cI cL cB : ClassId) (d0 : Nat) (d1 : Nat) (d2 : Nat) (X : Nat → Int64) (Y : Nat → Int64) (R : Nat → Nat → Prop) (a : Nat) (b : Nat) (ha : a < 80) (hb : b < 80) (hB : Bits 40 X Y R) : Cti l y_Dependence_isOn (wK w_Dependence_isOn) ({ frames := 0, cells := 0, slots := 0, locals := 0 }) D classes (TY cI cL cB) [.ref d0, .int (nI a), .int (nI b)] [(d0, .inr (CI_Dependence, [.ref d1, .ref d2])), (d1, .inl (cL, 80, .inr (.inl X))), (d2, .inl (cL, 80, .inr (.inl Y)))] (fun (r : Int32) (u_ : Unit) => r = bP (R a b)) (fun (u_ : Unit) => [(d0, .inr (CI_Dependence, [.ref d1, .ref d2])), (d1, .inl (cL, 80, .inr (.inl X))), (d2, .inl (cL, 80, .inr (.inl Y)))]) 0 0 := by
  refine Ctg_of (cc := prog_3_method_5_code) (maxL := 3) (ret := (some .boolean)) "CircuitSimulator$Dependence" [(0, .ref d0), (1, .int (nI a)), (2, .int (nI b))] (by decide) rfl rfl (Nat.le_of_ble_eq_true rfl) rfl ?_
  intro p_ e_ s_ m_ args_ below_ meth_ c_ A_ F hr hin
  refine V_iload_n F 2 d_Dependence_isOn_0 rfl rfl ?_
  refine V_bipush F (v := 40) d_Dependence_isOn_1 rfl ?_
  refine V_icmpn_ge F 27 (a := b) (b := 40) (by omega) (by omega) d_Dependence_isOn_3 (by decide) (fun h3 => ?_) (fun h3 => ?_)
  · skip
    refine V_aload_n F 0 d_Dependence_isOn_27 rfl rfl ?_
    refine V_get F 0 CI_Dependence 1 i_Dependence rfl rfl (by decide) m_165 rfl rfl d_Dependence_isOn_28 ?_
    refine V_iload_n F 1 d_Dependence_isOn_31 rfl rfl ?_
    refine V_laldn F 2 1 (k := a) rfl rfl (by omega) (by decide) d_Dependence_isOn_32 ?_
    refine V_lconst F (v := 1) d_Dependence_isOn_33 rfl ?_
    refine V_iload_n F 2 d_Dependence_isOn_34 rfl rfl ?_
    refine V_bipush F (v := 40) d_Dependence_isOn_35 rfl ?_
    refine V_isub F d_Dependence_isOn_37 ?_
    refine V_top (y := nI (b - 40)) (pk_sub (a := b) (b := 40) (by omega)) ?_
    refine V_lshl F d_Dependence_isOn_38 rfl ?_
    refine V_land F d_Dependence_isOn_39 ?_
    refine V_lconst F (v := 0) d_Dependence_isOn_40 rfl ?_
    refine V_lcmp F d_Dependence_isOn_41 ?_
    refine V_if_eq F 49 d_Dependence_isOn_42 (by decide) (fun h42 => ?_) (fun h42 => ?_)
    · skip
      refine V_iconst F (v := 0) d_Dependence_isOn_49 rfl ?_
      exact V_zret F hr rfl () (bP_f (fun z => (and_bit (by omega)).mp (lg_cmp0.mp h42) (((hB a ha).2 b (by omega) hb).mp z))).symm [0, 1, 2] rfl rfl (by decide) (by decide) d_Dependence_isOn_50
    · skip
      refine V_iconst F (v := 1) d_Dependence_isOn_45 rfl ?_
      refine V_goto F 50 d_Dependence_isOn_46 (by decide) ?_
      exact V_zret F hr rfl () (bP_t (Classical.byContradiction fun z => h42 (lg_cmp0.mpr ((and_bit (by omega)).mpr (fun y => z (((hB a ha).2 b (by omega) hb).mpr y)))))).symm [0, 1, 2] rfl rfl (by decide) (by decide) d_Dependence_isOn_50
  · skip
    refine V_aload_n F 0 d_Dependence_isOn_6 rfl rfl ?_
    refine V_get F 0 CI_Dependence 0 i_Dependence rfl rfl (by decide) m_164 rfl rfl d_Dependence_isOn_7 ?_
    refine V_iload_n F 1 d_Dependence_isOn_10 rfl rfl ?_
    refine V_laldn F 1 1 (k := a) rfl rfl (by omega) (by decide) d_Dependence_isOn_11 ?_
    refine V_lconst F (v := 1) d_Dependence_isOn_12 rfl ?_
    refine V_iload_n F 2 d_Dependence_isOn_13 rfl rfl ?_
    refine V_lshl F d_Dependence_isOn_14 rfl ?_
    refine V_land F d_Dependence_isOn_15 ?_
    refine V_lconst F (v := 0) d_Dependence_isOn_16 rfl ?_
    refine V_lcmp F d_Dependence_isOn_17 ?_
    refine V_if_eq F 25 d_Dependence_isOn_18 (by decide) (fun h18 => ?_) (fun h18 => ?_)
    · skip
      refine V_iconst F (v := 0) d_Dependence_isOn_25 rfl ?_
      exact V_zret F hr rfl () (bP_f (fun z => (and_bit (by omega)).mp (lg_cmp0.mp h18) (((hB a ha).1 b (by omega)).mp z))).symm [0, 1, 2] rfl rfl (by decide) (by decide) d_Dependence_isOn_26
    · skip
      refine V_iconst F (v := 1) d_Dependence_isOn_21 rfl ?_
      refine V_goto F 26 d_Dependence_isOn_22 (by decide) ?_
      exact V_zret F hr rfl () (bP_t (Classical.byContradiction fun z => h18 (lg_cmp0.mpr ((and_bit (by omega)).mpr (fun y => z (((hB a ha).1 b (by omega)).mpr y)))))).symm [0, 1, 2] rfl rfl (by decide) (by decide) d_Dependence_isOn_26

set_option maxHeartbeats 4000000 in
set_option maxRecDepth 100000 in
theorem c_Dependence_goThrough (l : Launch) (D : va_G) (cI cL cB : ClassId) (d0 : Nat) (d1 : Nat) (d2 : Nat) (X : Nat → Int64) (Y : Nat → Int64) (R : Nat → Nat → Prop) (mm : Nat) (nn : Nat) (hm : mm < 80) (hnn : nn ≤ 80) (hB : Bits 40 X Y R) : Ctv l y_Dependence_goThrough (wK w_Dependence_goThrough) ({ frames := 1, cells := 0, slots := 0, locals := 22 }) D classes (TY cI cL cB) [.ref d0, .int (nI mm), .int (nI nn)] [(d0, .inr (CI_Dependence, [.ref d1, .ref d2])), (d1, .inl (cL, 80, .inr (.inl X))), (d2, .inl (cL, 80, .inr (.inl Y)))] (fun (u_ : (Nat → Int64) × (Nat → Int64)) => Bits 40 u_.1 u_.2 (wIn R mm nn)) (fun (u_ : (Nat → Int64) × (Nat → Int64)) => [(d0, .inr (CI_Dependence, [.ref d1, .ref d2])), (d1, .inl (cL, 80, .inr (.inl u_.1))), (d2, .inl (cL, 80, .inr (.inl u_.2)))]) 0 0 := by
  refine Ctg_of (cc := prog_3_method_6_code) (maxL := 4) (ret := none) "CircuitSimulator$Dependence" [(0, .ref d0), (1, .int (nI mm)), (2, .int (nI nn))] (by decide) rfl rfl (Nat.le_of_ble_eq_true rfl) rfl ?_
  intro p_ e_ s_ m_ args_ below_ meth_ c_ A_ F hr hin
  refine V_iconst F (v := 0) d_Dependence_goThrough_0 rfl ?_
  refine V_istore_n F (lv' := [(3, .int (nI 0)), (0, .ref d0), (1, .int (nI mm)), (2, .int (nI nn))]) d_Dependence_goThrough_1 rfl (by decide) rfl ?_
  have L2 : ∀ (f_ : Nat) (i : Nat) (X2 : Nat → Int64) (Y2 : Nat → Int64), nn - i < f_ → (i ≤ nn) → (Bits 40 X2 Y2 (wIn R mm i)) → V p_ l e_ ({ frames := 1, cells := 0, slots := 0, locals := 22 }) s_ m_ args_ below_ meth_ c_ A_ (MQ below_ (cQv D classes (fun (u_ : (Nat → Int64) × (Nat → Int64)) => Bits 40 u_.1 u_.2 (wIn R mm nn)) (fun (u_ : (Nat → Int64) × (Nat → Int64)) => [(d0, .inr (CI_Dependence, [.ref d1, .ref d2])), (d1, .inl (cL, 80, .inr (.inl u_.1))), (d2, .inl (cL, 80, .inr (.inl u_.2)))]) A_) args_ s_ 0 0 A_) D classes 4 0 0 [(d0, .inr (CI_Dependence, [.ref d1, .ref d2])), (d1, .inl (cL, 80, .inr (.inl X2))), (d2, .inl (cL, 80, .inr (.inl Y2)))] 2 [(0, .ref d0), (1, .int (nI mm)), (2, .int (nI nn)), (3, .int (nI i))] [] := by
    intro f_
    induction f_ with
    | zero => intro i X2 Y2 hm_; exact absurd hm_ (Nat.not_lt_zero _)
    | succ f_ ih2 =>
      intro i X2 Y2 hm2 hi hI
      refine V_iload_n F 3 d_Dependence_goThrough_2 rfl rfl ?_
      refine V_iload_n F 2 d_Dependence_goThrough_3 rfl rfl ?_
      refine V_icmpn_ge F 52 (a := i) (b := nn) (by omega) (by omega) d_Dependence_goThrough_4 (by decide) (fun h4 => ?_) (fun h4 => ?_)
      · skip
        exact V_vret F hr (X2, Y2) (show Bits 40 X2 Y2 (wIn R mm nn) from (by have e : i = nn := (by omega); subst e; exact hI)) [0, 1, 2] rfl rfl (by decide) (by decide) d_Dependence_goThrough_52
      · skip
        refine V_aload_n F 0 d_Dependence_goThrough_7 rfl rfl ?_
        refine V_iload_n F 3 d_Dependence_goThrough_8 rfl rfl ?_
        refine V_iload_n F 1 d_Dependence_goThrough_9 rfl rfl ?_
        refine V_callV_i (w1 := fun (u_ : Unit) => [(d0, .inr (CI_Dependence, [.ref d1, .ref d2])), (d1, .inl (cL, 80, .inr (.inl X2))), (d2, .inl (cL, 80, .inr (.inl Y2)))]) (wr := []) (isC := [0, 1, 2]) (isR := []) (pm := [0, 1, 2]) (As := [.int (nI i), .int (nI mm)]) (rest := []) F (c_Dependence_isOn l D cI cL cB d0 d1 d2 X2 Y2 (wIn R mm i) i mm (by first | assumption | omega | (simp only [] at *; omega)) (by first | assumption | omega | (simp only [] at *; omega)) (by first | assumption | omega | (simp only [] at *; omega))) (cS_V 2 F.ts m_502 m_503 m_16 m_40 m_504 (by decide +kernel) ⟨Nat.le_of_ble_eq_true rfl, Nat.le_of_ble_eq_true rfl⟩) (ci := CI_Dependence) (q0 := 0) rfl rfl rfl (Nat.le_of_ble_eq_true rfl) d_Dependence_goThrough_10 ⟨Nat.le_of_ble_eq_true rfl, Nat.le_of_ble_eq_true rfl⟩ ⟨rfl, rfl, rfl, rfl, rfl, fun _ => rfl, rfl⟩ (fun r10 uu10 q10_ => ?_) rfl
        subst q10_
        refine V_ifb_eq F 46 d_Dependence_goThrough_13 (by decide) (fun h13 => ?_) (fun h13 => ?_)
        · skip
          refine V_iinc F 3 (v := nI (i + 1)) (lv' := [(3, .int (nI (i + 1))), (0, .ref d0), (1, .int (nI mm)), (2, .int (nI nn))]) d_Dependence_goThrough_46 rfl (nI_inc _) (by decide) rfl ?_
          refine V_goto F 2 d_Dependence_goThrough_49 (by decide) ?_
          refine V_lv [1, 2, 3, 0] rfl ?_
          exact ih2 (i + 1) X2 Y2 (by omega) (by first | assumption | omega | (simp only [] at *; omega)) (by first | exact hI.row hm (by assumption) | exact hI.norow (by assumption))
        · skip
          refine V_aload_n F 0 d_Dependence_goThrough_16 rfl rfl ?_
          refine V_get F 0 CI_Dependence 0 i_Dependence rfl rfl (by decide) m_164 rfl rfl d_Dependence_goThrough_17 ?_
          refine V_iload_n F 3 d_Dependence_goThrough_20 rfl rfl ?_
          refine V_dup2 F d_Dependence_goThrough_21 rfl rfl ?_
          refine V_laldn F 1 1 (k := i) rfl rfl (by omega) (by decide) d_Dependence_goThrough_22 ?_
          refine V_aload_n F 0 d_Dependence_goThrough_23 rfl rfl ?_
          refine V_get F 0 CI_Dependence 0 i_Dependence rfl rfl (by decide) m_164 rfl rfl d_Dependence_goThrough_24 ?_
          refine V_iload_n F 1 d_Dependence_goThrough_27 rfl rfl ?_
          refine V_laldn F 1 1 (k := mm) rfl rfl (by omega) (by decide) d_Dependence_goThrough_28 ?_
          refine V_lor F d_Dependence_goThrough_29 ?_
          refine V_lastn F 1 1 (k := i) (w' := [(d0, .inr (CI_Dependence, [.ref d1, .ref d2])), (d1, .inl (cL, 80, .inr (.inl (vp_updL X2 i ((X2 i) ||| (X2 mm)))))), (d2, .inl (cL, 80, .inr (.inl Y2)))]) rfl rfl (by omega) (by decide) rfl d_Dependence_goThrough_30 ?_
          refine V_aload_n F 0 d_Dependence_goThrough_31 rfl rfl ?_
          refine V_get F 0 CI_Dependence 1 i_Dependence rfl rfl (by decide) m_165 rfl rfl d_Dependence_goThrough_32 ?_
          refine V_iload_n F 3 d_Dependence_goThrough_35 rfl rfl ?_
          refine V_dup2 F d_Dependence_goThrough_36 rfl rfl ?_
          refine V_laldn F 2 1 (k := i) rfl rfl (by omega) (by decide) d_Dependence_goThrough_37 ?_
          refine V_aload_n F 0 d_Dependence_goThrough_38 rfl rfl ?_
          refine V_get F 0 CI_Dependence 1 i_Dependence rfl rfl (by decide) m_165 rfl rfl d_Dependence_goThrough_39 ?_
          refine V_iload_n F 1 d_Dependence_goThrough_42 rfl rfl ?_
          refine V_laldn F 2 1 (k := mm) rfl rfl (by omega) (by decide) d_Dependence_goThrough_43 ?_
          refine V_lor F d_Dependence_goThrough_44 ?_
          refine V_lastn F 2 1 (k := i) (w' := [(d0, .inr (CI_Dependence, [.ref d1, .ref d2])), (d1, .inl (cL, 80, .inr (.inl (vp_updL X2 i ((X2 i) ||| (X2 mm)))))), (d2, .inl (cL, 80, .inr (.inl (vp_updL Y2 i ((Y2 i) ||| (Y2 mm))))))]) rfl rfl (by omega) (by decide) rfl d_Dependence_goThrough_45 ?_
          refine V_iinc F 3 (v := nI (i + 1)) (lv' := [(3, .int (nI (i + 1))), (0, .ref d0), (1, .int (nI mm)), (2, .int (nI nn))]) d_Dependence_goThrough_46 rfl (nI_inc _) (by decide) rfl ?_
          refine V_goto F 2 d_Dependence_goThrough_49 (by decide) ?_
          refine V_lv [1, 2, 3, 0] rfl ?_
          exact ih2 (i + 1) (vp_updL X2 i ((X2 i) ||| (X2 mm))) (vp_updL Y2 i ((Y2 i) ||| (Y2 mm))) (by omega) (by first | assumption | omega | (simp only [] at *; omega)) (by first | exact hI.row hm (by assumption) | exact hI.norow (by assumption))
  refine V_lv [1, 2, 3, 0] rfl ?_
  exact L2 ((nn - 0) + 1) 0 X Y (Nat.lt_succ_self _) (by first | assumption | omega | (simp only [] at *; omega)) hB

set_option maxHeartbeats 4000000 in
set_option maxRecDepth 100000 in
theorem c_Dependence_begin (l : Launch) (D : va_G) (cI cL cB : ClassId) (d0 : Nat) (d1 : Nat) (d2 : Nat) (X : Nat → Int64) (Y : Nat → Int64) (c0 : Nat) (c1 : Nat) (c2 : Nat) (c3 : Nat) (c4 : Nat) (c5 : Nat) (c6 : Nat) (n : Nat) (k : Nat → Nat) (o : Nat → Nat) (q : Nat → Nat) (A : Nat → Int32) (B : Nat → Int32) (C : Nat → Int32) (nn : Nat) (hn : n ≤ 60) (hnn : nn ≤ 80) (hw : WfC nn n k o A B C) : Ctv l y_Dependence_begin (wK w_Dependence_begin) ({ frames := 2, cells := 0, slots := 0, locals := 42 }) D classes (TY cI cL cB) [.ref d0, .ref c0] [(d0, .inr (CI_Dependence, [.ref d1, .ref d2])), (d1, .inl (cL, 80, .inr (.inl X))), (d2, .inl (cL, 80, .inr (.inl Y))), (c0, .inr (CI_Cells, [.ref c1, .ref c2, .ref c3, .ref c4, .ref c5, .ref c6, .int (nI n)])), (c1, .inl (cI, 60, .inl (cN k))), (c2, .inl (cI, 60, .inl (cN o))), (c3, .inl (cI, 60, .inl A)), (c4, .inl (cI, 60, .inl B)), (c5, .inl (cI, 60, .inl C)), (c6, .inl (cI, 60, .inl (cN q)))] (fun (u_ : (Nat → Int64) × (Nat → Int64)) => Bits 40 u_.1 u_.2 (R0 n k o A B C)) (fun (u_ : (Nat → Int64) × (Nat → Int64)) => [(d0, .inr (CI_Dependence, [.ref d1, .ref d2])), (d1, .inl (cL, 80, .inr (.inl u_.1))), (d2, .inl (cL, 80, .inr (.inl u_.2))), (c0, .inr (CI_Cells, [.ref c1, .ref c2, .ref c3, .ref c4, .ref c5, .ref c6, .int (nI n)])), (c1, .inl (cI, 60, .inl (cN k))), (c2, .inl (cI, 60, .inl (cN o))), (c3, .inl (cI, 60, .inl A)), (c4, .inl (cI, 60, .inl B)), (c5, .inl (cI, 60, .inl C)), (c6, .inl (cI, 60, .inl (cN q)))]) 0 0 := by
  refine Ctg_of (cc := prog_3_method_3_code) (maxL := 5) (ret := none) "CircuitSimulator$Dependence" [(0, .ref d0), (1, .ref c0)] (by decide) rfl rfl (Nat.le_of_ble_eq_true rfl) rfl ?_
  intro p_ e_ s_ m_ args_ below_ meth_ c_ A_ F hr hin
  refine V_aload_n F 0 d_Dependence_begin_0 rfl rfl ?_
  refine V_get F 0 CI_Dependence 0 i_Dependence rfl rfl (by decide) m_164 rfl rfl d_Dependence_begin_1 ?_
  refine V_lconst F (v := 0) d_Dependence_begin_4 rfl ?_
  refine V_callS_v (w1 := fun (u_ : (Nat → Int64)) => [(d0, .inr (CI_Dependence, [.ref d1, .ref d2])), (d1, .inl (cL, 80, .inr (.inl u_))), (d2, .inl (cL, 80, .inr (.inl Y))), (c0, .inr (CI_Cells, [.ref c1, .ref c2, .ref c3, .ref c4, .ref c5, .ref c6, .int (nI n)])), (c1, .inl (cI, 60, .inl (cN k))), (c2, .inl (cI, 60, .inl (cN o))), (c3, .inl (cI, 60, .inl A)), (c4, .inl (cI, 60, .inl B)), (c5, .inl (cI, 60, .inl C)), (c6, .inl (cI, 60, .inl (cN q)))]) (wr := [(d0, .inr (CI_Dependence, [.ref d1, .ref d2])), (d2, .inl (cL, 80, .inr (.inl Y))), (c0, .inr (CI_Cells, [.ref c1, .ref c2, .ref c3, .ref c4, .ref c5, .ref c6, .int (nI n)])), (c1, .inl (cI, 60, .inl (cN k))), (c2, .inl (cI, 60, .inl (cN o))), (c3, .inl (cI, 60, .inl A)), (c4, .inl (cI, 60, .inl B)), (c5, .inl (cI, 60, .inl C)), (c6, .inl (cI, 60, .inl (cN q)))]) (isC := [1]) (isR := [0, 2, 3, 4, 5, 6, 7, 8, 9]) (pm := [0, 9, 1, 2, 3, 4, 5, 6, 7, 8]) (As := [.ref d1, .long 0]) (rest := []) F (c_Arrays_fill_l l D cI cL cB d1 80 X 0 (by first | assumption | omega | (simp only [] at *; omega))) (cS_S 2 F.ts m_491 m_492 m_38 m_493 (by decide +kernel) ⟨Nat.le_of_ble_eq_true rfl, Nat.le_of_ble_eq_true rfl⟩) rfl (Nat.le_of_ble_eq_true rfl) d_Dependence_begin_5 ⟨Nat.le_of_ble_eq_true rfl, Nat.le_of_ble_eq_true rfl⟩ ⟨rfl, rfl, rfl, rfl, rfl, fun _ => rfl, rfl⟩ (fun uu5 q5_ => ?_) rfl
  obtain ⟨f3_5, rfl⟩ : ∃ z, z = uu5 := ⟨_, rfl⟩
  have e5 : ∀ j, j < 80 → f3_5 j = 0 := q5_
  clear q5_
  refine V_aload_n F 0 d_Dependence_begin_8 rfl rfl ?_
  refine V_get F 0 CI_Dependence 1 i_Dependence rfl rfl (by decide) m_165 rfl rfl d_Dependence_begin_9 ?_
  refine V_lconst F (v := 0) d_Dependence_begin_12 rfl ?_
  refine V_callS_v (w1 := fun (u_ : (Nat → Int64)) => [(d0, .inr (CI_Dependence, [.ref d1, .ref d2])), (d1, .inl (cL, 80, .inr (.inl f3_5))), (d2, .inl (cL, 80, .inr (.inl u_))), (c0, .inr (CI_Cells, [.ref c1, .ref c2, .ref c3, .ref c4, .ref c5, .ref c6, .int (nI n)])), (c1, .inl (cI, 60, .inl (cN k))), (c2, .inl (cI, 60, .inl (cN o))), (c3, .inl (cI, 60, .inl A)), (c4, .inl (cI, 60, .inl B)), (c5, .inl (cI, 60, .inl C)), (c6, .inl (cI, 60, .inl (cN q)))]) (wr := [(d0, .inr (CI_Dependence, [.ref d1, .ref d2])), (d1, .inl (cL, 80, .inr (.inl f3_5))), (c0, .inr (CI_Cells, [.ref c1, .ref c2, .ref c3, .ref c4, .ref c5, .ref c6, .int (nI n)])), (c1, .inl (cI, 60, .inl (cN k))), (c2, .inl (cI, 60, .inl (cN o))), (c3, .inl (cI, 60, .inl A)), (c4, .inl (cI, 60, .inl B)), (c5, .inl (cI, 60, .inl C)), (c6, .inl (cI, 60, .inl (cN q)))]) (isC := [2]) (isR := [0, 1, 3, 4, 5, 6, 7, 8, 9]) (pm := [0, 1, 9, 2, 3, 4, 5, 6, 7, 8]) (As := [.ref d2, .long 0]) (rest := []) F (c_Arrays_fill_l l D cI cL cB d2 80 Y 0 (by first | assumption | omega | (simp only [] at *; omega))) (cS_S 2 F.ts m_491 m_492 m_38 m_493 (by decide +kernel) ⟨Nat.le_of_ble_eq_true rfl, Nat.le_of_ble_eq_true rfl⟩) rfl (Nat.le_of_ble_eq_true rfl) d_Dependence_begin_13 ⟨Nat.le_of_ble_eq_true rfl, Nat.le_of_ble_eq_true rfl⟩ ⟨rfl, rfl, rfl, rfl, rfl, fun _ => rfl, rfl⟩ (fun uu13 q13_ => ?_) rfl
  obtain ⟨f3_13, rfl⟩ : ∃ z, z = uu13 := ⟨_, rfl⟩
  have e13 : ∀ j, j < 80 → f3_13 j = 0 := q13_
  clear q13_
  refine V_iconst F (v := 0) d_Dependence_begin_16 rfl ?_
  refine V_istore_n F (lv' := [(2, .int (nI 0)), (0, .ref d0), (1, .ref c0)]) d_Dependence_begin_17 rfl (by decide) rfl ?_
  have L18 : ∀ (f_ : Nat) (i : Nat) (X2 : Nat → Int64) (Y2 : Nat → Int64), n - i < f_ → (i ≤ n) → (Bits 40 X2 Y2 (R0 i k o A B C)) → V p_ l e_ ({ frames := 2, cells := 0, slots := 0, locals := 42 }) s_ m_ args_ below_ meth_ c_ A_ (MQ below_ (cQv D classes (fun (u_ : (Nat → Int64) × (Nat → Int64)) => Bits 40 u_.1 u_.2 (R0 n k o A B C)) (fun (u_ : (Nat → Int64) × (Nat → Int64)) => [(d0, .inr (CI_Dependence, [.ref d1, .ref d2])), (d1, .inl (cL, 80, .inr (.inl u_.1))), (d2, .inl (cL, 80, .inr (.inl u_.2))), (c0, .inr (CI_Cells, [.ref c1, .ref c2, .ref c3, .ref c4, .ref c5, .ref c6, .int (nI n)])), (c1, .inl (cI, 60, .inl (cN k))), (c2, .inl (cI, 60, .inl (cN o))), (c3, .inl (cI, 60, .inl A)), (c4, .inl (cI, 60, .inl B)), (c5, .inl (cI, 60, .inl C)), (c6, .inl (cI, 60, .inl (cN q)))]) A_) args_ s_ 0 0 A_) D classes 5 0 0 [(d0, .inr (CI_Dependence, [.ref d1, .ref d2])), (d1, .inl (cL, 80, .inr (.inl X2))), (d2, .inl (cL, 80, .inr (.inl Y2))), (c0, .inr (CI_Cells, [.ref c1, .ref c2, .ref c3, .ref c4, .ref c5, .ref c6, .int (nI n)])), (c1, .inl (cI, 60, .inl (cN k))), (c2, .inl (cI, 60, .inl (cN o))), (c3, .inl (cI, 60, .inl A)), (c4, .inl (cI, 60, .inl B)), (c5, .inl (cI, 60, .inl C)), (c6, .inl (cI, 60, .inl (cN q)))] 18 [(0, .ref d0), (1, .ref c0), (2, .int (nI i))] [] := by
    intro f_
    induction f_ with
    | zero => intro i X2 Y2 hm_; exact absurd hm_ (Nat.not_lt_zero _)
    | succ f_ ih18 =>
      intro i X2 Y2 hm18 hi hI
      refine V_iload_n F 2 d_Dependence_begin_18 rfl rfl ?_
      refine V_aload_n F 1 d_Dependence_begin_19 rfl rfl ?_
      refine V_get F 3 CI_Cells 6 i_Cells rfl rfl (by decide) m_83 rfl rfl d_Dependence_begin_20 ?_
      refine V_icmpn_ge F 70 (a := i) (b := n) (by omega) (by omega) d_Dependence_begin_23 (by decide) (fun h23 => ?_) (fun h23 => ?_)
      · skip
        exact V_vret F hr (X2, Y2) (show Bits 40 X2 Y2 (R0 n k o A B C) from (by have e : i = n := (by omega); subst e; exact hI)) [0, 1, 2, 3, 4, 5, 6, 7, 8, 9] rfl rfl (by decide) (by decide) d_Dependence_begin_70
      · skip
        have hk8 := (hw i (by omega)).1
        have ho8 := (hw i (by omega)).2.1
        have hd8 := dep3 (k i)
        refine V_aload_n F 1 d_Dependence_begin_26 rfl rfl ?_
        refine V_iload_n F 2 d_Dependence_begin_27 rfl rfl ?_
        refine V_callV_i (w1 := fun (u_ : Unit) => [(d0, .inr (CI_Dependence, [.ref d1, .ref d2])), (d1, .inl (cL, 80, .inr (.inl X2))), (d2, .inl (cL, 80, .inr (.inl Y2))), (c0, .inr (CI_Cells, [.ref c1, .ref c2, .ref c3, .ref c4, .ref c5, .ref c6, .int (nI n)])), (c1, .inl (cI, 60, .inl (cN k))), (c2, .inl (cI, 60, .inl (cN o))), (c3, .inl (cI, 60, .inl A)), (c4, .inl (cI, 60, .inl B)), (c5, .inl (cI, 60, .inl C)), (c6, .inl (cI, 60, .inl (cN q)))]) (wr := [(d0, .inr (CI_Dependence, [.ref d1, .ref d2])), (d1, .inl (cL, 80, .inr (.inl X2))), (d2, .inl (cL, 80, .inr (.inl Y2)))]) (isC := [3, 4, 5, 6, 7, 8, 9]) (isR := [0, 1, 2]) (pm := [0, 1, 2, 3, 4, 5, 6, 7, 8, 9]) (As := [.int (nI i)]) (rest := []) F (c_Cells_dependencies l D cI cL cB c0 c1 c2 c3 c4 c5 c6 60 n k o q A B C i (by first | assumption | omega | (simp only [] at *; omega)) (by first | assumption | omega | (simp only [] at *; omega)) (by first | assumption | omega | (simp only [] at *; omega)) (by first | assumption | omega | (simp only [] at *; omega))) (cS_V 1 F.ts m_494 m_249 m_250 m_36 m_251 (by decide +kernel) ⟨Nat.le_of_ble_eq_true rfl, Nat.le_of_ble_eq_true rfl⟩) (ci := CI_Cells) (q0 := 0) rfl rfl rfl (Nat.le_of_ble_eq_true rfl) d_Dependence_begin_28 ⟨Nat.le_of_ble_eq_true rfl, Nat.le_of_ble_eq_true rfl⟩ ⟨rfl, rfl, rfl, rfl, rfl, fun _ => rfl, rfl⟩ (fun r28 uu28 q28_ => ?_) rfl
        subst q28_
        refine V_istore_n F (lv' := [(3, .int (nI (depN (k i)))), (0, .ref d0), (1, .ref c0), (2, .int (nI i))]) d_Dependence_begin_31 rfl (by decide) rfl ?_
        refine V_iconst F (v := 0) d_Dependence_begin_32 rfl ?_
        refine V_istore F (lv' := [(4, .int (nI 0)), (3, .int (nI (depN (k i)))), (0, .ref d0), (1, .ref c0), (2, .int (nI i))]) d_Dependence_begin_33 (by decide) rfl ?_
        have L35 : ∀ (f_ : Nat) (p : Nat) (X3 : Nat → Int64) (Y3 : Nat → Int64), depN (k i) - p < f_ → (p ≤ depN (k i)) → (Bits 40 X3 Y3 (fun a b => R0 i k o A B C a b ∨ (o i = a ∧ ∃ t, t < p ∧ iN A B C i t = b))) → V p_ l e_ ({ frames := 2, cells := 0, slots := 0, locals := 42 }) s_ m_ args_ below_ meth_ c_ A_ (MQ below_ (cQv D classes (fun (u_ : (Nat → Int64) × (Nat → Int64)) => Bits 40 u_.1 u_.2 (R0 n k o A B C)) (fun (u_ : (Nat → Int64) × (Nat → Int64)) => [(d0, .inr (CI_Dependence, [.ref d1, .ref d2])), (d1, .inl (cL, 80, .inr (.inl u_.1))), (d2, .inl (cL, 80, .inr (.inl u_.2))), (c0, .inr (CI_Cells, [.ref c1, .ref c2, .ref c3, .ref c4, .ref c5, .ref c6, .int (nI n)])), (c1, .inl (cI, 60, .inl (cN k))), (c2, .inl (cI, 60, .inl (cN o))), (c3, .inl (cI, 60, .inl A)), (c4, .inl (cI, 60, .inl B)), (c5, .inl (cI, 60, .inl C)), (c6, .inl (cI, 60, .inl (cN q)))]) A_) args_ s_ 0 0 A_) D classes 5 0 0 [(d0, .inr (CI_Dependence, [.ref d1, .ref d2])), (d1, .inl (cL, 80, .inr (.inl X3))), (d2, .inl (cL, 80, .inr (.inl Y3))), (c0, .inr (CI_Cells, [.ref c1, .ref c2, .ref c3, .ref c4, .ref c5, .ref c6, .int (nI n)])), (c1, .inl (cI, 60, .inl (cN k))), (c2, .inl (cI, 60, .inl (cN o))), (c3, .inl (cI, 60, .inl A)), (c4, .inl (cI, 60, .inl B)), (c5, .inl (cI, 60, .inl C)), (c6, .inl (cI, 60, .inl (cN q)))] 35 [(0, .ref d0), (1, .ref c0), (2, .int (nI i)), (3, .int (nI (depN (k i)))), (4, .int (nI p))] [] := by
          intro f_
          induction f_ with
          | zero => intro p X3 Y3 hm_; exact absurd hm_ (Nat.not_lt_zero _)
          | succ f_ ih35 =>
            intro p X3 Y3 hm35 hp hJ
            refine V_iload F 4 d_Dependence_begin_35 rfl ?_
            refine V_iload_n F 3 d_Dependence_begin_37 rfl rfl ?_
            refine V_icmpn_ge F 64 (a := p) (b := depN (k i)) (by omega) (by omega) d_Dependence_begin_38 (by decide) (fun h38 => ?_) (fun h38 => ?_)
            · skip
              refine V_iinc F 2 (v := nI (i + 1)) (lv' := [(2, .int (nI (i + 1))), (0, .ref d0), (1, .ref c0), (3, .int (nI (depN (k i)))), (4, .int (nI p))]) d_Dependence_begin_64 rfl (nI_inc _) (by decide) rfl ?_
              refine V_goto F 18 d_Dependence_begin_67 (by decide) ?_
              refine V_lv [1, 2, 0] rfl ?_
              exact ih18 (i + 1) X3 Y3 (by omega) (by first | assumption | omega | (simp only [] at *; omega)) (hJ.congr (R0_next (by omega)))
            · skip
              have hv8 : vp_in (inP A B C i p) nn := (hw i (by omega)).2.2.1 p (Nat.lt_of_lt_of_le h38 (depN_le _))
              have hi8 : iN A B C i p < 80 := Nat.lt_of_lt_of_le (vp_lt hv8) hnn
              refine V_aload_n F 0 d_Dependence_begin_41 rfl rfl ?_
              refine V_aload_n F 1 d_Dependence_begin_42 rfl rfl ?_
              refine V_get F 3 CI_Cells 1 i_Cells rfl rfl (by decide) m_70 rfl rfl d_Dependence_begin_43 ?_
              refine V_iload_n F 2 d_Dependence_begin_46 rfl rfl ?_
              refine V_ialdnN F 5 0 (k := i) rfl rfl (by omega) (by decide) d_Dependence_begin_47 ?_
              refine V_aload_n F 1 d_Dependence_begin_48 rfl rfl ?_
              refine V_iload_n F 2 d_Dependence_begin_49 rfl rfl ?_
              refine V_iload F 4 d_Dependence_begin_50 rfl ?_
              refine V_callV_i (w1 := fun (u_ : Unit) => [(d0, .inr (CI_Dependence, [.ref d1, .ref d2])), (d1, .inl (cL, 80, .inr (.inl X3))), (d2, .inl (cL, 80, .inr (.inl Y3))), (c0, .inr (CI_Cells, [.ref c1, .ref c2, .ref c3, .ref c4, .ref c5, .ref c6, .int (nI n)])), (c1, .inl (cI, 60, .inl (cN k))), (c2, .inl (cI, 60, .inl (cN o))), (c3, .inl (cI, 60, .inl A)), (c4, .inl (cI, 60, .inl B)), (c5, .inl (cI, 60, .inl C)), (c6, .inl (cI, 60, .inl (cN q)))]) (wr := [(d0, .inr (CI_Dependence, [.ref d1, .ref d2])), (d1, .inl (cL, 80, .inr (.inl X3))), (d2, .inl (cL, 80, .inr (.inl Y3)))]) (isC := [3, 4, 5, 6, 7, 8, 9]) (isR := [0, 1, 2]) (pm := [0, 1, 2, 3, 4, 5, 6, 7, 8, 9]) (As := [.int (nI i), .int (nI p)]) (rest := [.int (nI (o i)), .ref d0]) F (c_Cells_input l D cI cL cB c0 c1 c2 c3 c4 c5 c6 60 n k o q A B C i p (by first | assumption | omega | (simp only [] at *; omega)) (by first | assumption | omega | (simp only [] at *; omega)) (by first | assumption | omega | (simp only [] at *; omega)) (by first | assumption | omega | (simp only [] at *; omega))) (cS_V 2 F.ts m_495 m_257 m_258 m_36 m_259 (by decide +kernel) ⟨Nat.le_of_ble_eq_true rfl, Nat.le_of_ble_eq_true rfl⟩) (ci := CI_Cells) (q0 := 0) rfl rfl rfl (Nat.le_of_ble_eq_true rfl) d_Dependence_begin_52 ⟨Nat.le_of_ble_eq_true rfl, Nat.le_of_ble_eq_true rfl⟩ ⟨rfl, rfl, rfl, rfl, rfl, fun _ => rfl, rfl⟩ (fun r52 uu52 q52_ => ?_) rfl
              subst q52_
              refine V_top (y := nI (iN A B C i p)) (vin_nI hv8 (by omega)) ?_
              refine V_callV_v (w1 := fun (u_ : (Nat → Int64) × (Nat → Int64)) => [(d0, .inr (CI_Dependence, [.ref d1, .ref d2])), (d1, .inl (cL, 80, .inr (.inl u_.1))), (d2, .inl (cL, 80, .inr (.inl u_.2))), (c0, .inr (CI_Cells, [.ref c1, .ref c2, .ref c3, .ref c4, .ref c5, .ref c6, .int (nI n)])), (c1, .inl (cI, 60, .inl (cN k))), (c2, .inl (cI, 60, .inl (cN o))), (c3, .inl (cI, 60, .inl A)), (c4, .inl (cI, 60, .inl B)), (c5, .inl (cI, 60, .inl C)), (c6, .inl (cI, 60, .inl (cN q)))]) (wr := [(c0, .inr (CI_Cells, [.ref c1, .ref c2, .ref c3, .ref c4, .ref c5, .ref c6, .int (nI n)])), (c1, .inl (cI, 60, .inl (cN k))), (c2, .inl (cI, 60, .inl (cN o))), (c3, .inl (cI, 60, .inl A)), (c4, .inl (cI, 60, .inl B)), (c5, .inl (cI, 60, .inl C)), (c6, .inl (cI, 60, .inl (cN q)))]) (isC := [0, 1, 2]) (isR := [3, 4, 5, 6, 7, 8, 9]) (pm := [7, 8, 9, 0, 1, 2, 3, 4, 5, 6]) (As := [.int (nI (o i)), .int (nI (iN A B C i p))]) (rest := []) F (c_Dependence_note l D cI cL cB d0 d1 d2 X3 Y3 (fun a b => R0 i k o A B C a b ∨ (o i = a ∧ ∃ t, t < p ∧ iN A B C i t = b)) (o i) (iN A B C i p) (by first | assumption | omega | (simp only [] at *; omega)) (by first | assumption | omega | (simp only [] at *; omega)) (by first | assumption | omega | (simp only [] at *; omega))) (cS_V 2 F.ts m_496 m_497 m_14 m_40 m_498 (by decide +kernel) ⟨Nat.le_of_ble_eq_true rfl, Nat.le_of_ble_eq_true rfl⟩) (ci := CI_Dependence) (q0 := 0) rfl rfl rfl (Nat.le_of_ble_eq_true rfl) d_Dependence_begin_55 ⟨Nat.le_of_ble_eq_true rfl, Nat.le_of_ble_eq_true rfl⟩ ⟨rfl, rfl, rfl, rfl, rfl, fun _ => rfl, rfl⟩ (fun uu55 q55_ => ?_) rfl
              obtain ⟨X2_55, Y2_55⟩ := uu55
              have e55 : Bits 40 X2_55 Y2_55 (fun x y => (fun a b => R0 i k o A B C a b ∨ (o i = a ∧ ∃ t, t < p ∧ iN A B C i t = b)) x y ∨ (x = (o i) ∧ y = (iN A B C i p))) := q55_
              clear q55_
              refine V_cast (w' := [(d0, .inr (CI_Dependence, [.ref d1, .ref d2])), (d1, .inl (cL, 80, .inr (.inl X2_55))), (d2, .inl (cL, 80, .inr (.inl Y2_55))), (c0, .inr (CI_Cells, [.ref c1, .ref c2, .ref c3, .ref c4, .ref c5, .ref c6, .int (nI n)])), (c1, .inl (cI, 60, .inl (cN k))), (c2, .inl (cI, 60, .inl (cN o))), (c3, .inl (cI, 60, .inl A)), (c4, .inl (cI, 60, .inl B)), (c5, .inl (cI, 60, .inl C)), (c6, .inl (cI, 60, .inl (cN q)))]) rfl rfl rfl ?_
              refine V_iinc F 4 (v := nI (p + 1)) (lv' := [(4, .int (nI (p + 1))), (0, .ref d0), (1, .ref c0), (2, .int (nI i)), (3, .int (nI (depN (k i))))]) d_Dependence_begin_58 rfl (nI_inc _) (by decide) rfl ?_
              refine V_goto F 35 d_Dependence_begin_61 (by decide) ?_
              refine V_lv [1, 2, 3, 4, 0] rfl ?_
              exact ih35 (p + 1) X2_55 Y2_55 (by omega) (by first | assumption | omega | (simp only [] at *; omega)) (e55.congr (R0_p))
        refine V_lv [2, 3, 4, 1, 0] rfl ?_
        exact L35 ((depN (k i) - 0) + 1) 0 X2 Y2 (Nat.lt_succ_self _) (by first | assumption | omega | (simp only [] at *; omega)) (hI.congr (R0_0))
  refine V_lv [1, 2, 0] rfl ?_
  exact L18 ((n - 0) + 1) 0 f3_5 f3_13 (Nat.lt_succ_self _) (by first | assumption | omega | (simp only [] at *; omega)) (Bits.zero 40 e5 e13 (fun a b z => by obtain ⟨c, hc, -⟩ := z; omega))

set_option maxHeartbeats 4000000 in
set_option maxRecDepth 100000 in
theorem c_Dependence_leastLoop (l : Launch) (D : va_G) (cI cL cB : ClassId) (d0 : Nat) (d1 : Nat) (d2 : Nat) (X : Nat → Int64) (Y : Nat → Int64) (c0 : Nat) (c1 : Nat) (c2 : Nat) (c3 : Nat) (c4 : Nat) (c5 : Nat) (c6 : Nat) (n : Nat) (k : Nat → Nat) (o : Nat → Nat) (q : Nat → Nat) (A : Nat → Int32) (B : Nat → Int32) (C : Nat → Int32) (nn : Nat) (hn : n ≤ 60) (hnn : nn ≤ 80) (hw : WfC nn n k o A B C) : Cti l y_Dependence_leastLoop (wK w_Dependence_leastLoop) ({ frames := 3, cells := 0, slots := 0, locals := 66 }) D classes (TY cI cL cB) [.ref d0, .ref c0, .int (nI nn)] [(d0, .inr (CI_Dependence, [.ref d1, .ref d2])), (d1, .inl (cL, 80, .inr (.inl X))), (d2, .inl (cL, 80, .inr (.inl Y))), (c0, .inr (CI_Cells, [.ref c1, .ref c2, .ref c3, .ref c4, .ref c5, .ref c6, .int (nI n)])), (c1, .inl (cI, 60, .inl (cN k))), (c2, .inl (cI, 60, .inl (cN o))), (c3, .inl (cI, 60, .inl A)), (c4, .inl (cI, 60, .inl B)), (c5, .inl (cI, 60, .inl C)), (c6, .inl (cI, 60, .inl (cN q)))] (fun (r : Int32) (u_ : (Nat → Int64) × (Nat → Int64)) => LD (wOut (R0 n k o A B C) nn nn) nn r) (fun (u_ : (Nat → Int64) × (Nat → Int64)) => [(d0, .inr (CI_Dependence, [.ref d1, .ref d2])), (d1, .inl (cL, 80, .inr (.inl u_.1))), (d2, .inl (cL, 80, .inr (.inl u_.2))), (c0, .inr (CI_Cells, [.ref c1, .ref c2, .ref c3, .ref c4, .ref c5, .ref c6, .int (nI n)])), (c1, .inl (cI, 60, .inl (cN k))), (c2, .inl (cI, 60, .inl (cN o))), (c3, .inl (cI, 60, .inl A)), (c4, .inl (cI, 60, .inl B)), (c5, .inl (cI, 60, .inl C)), (c6, .inl (cI, 60, .inl (cN q)))]) 0 0 := by
  refine Ctg_of (cc := prog_3_method_2_code) (maxL := 4) (ret := (some .int)) "CircuitSimulator$Dependence" [(0, .ref d0), (1, .ref c0), (2, .int (nI nn))] (by decide) rfl rfl (Nat.le_of_ble_eq_true rfl) rfl ?_
  intro p_ e_ s_ m_ args_ below_ meth_ c_ A_ F hr hin
  refine V_aload_n F 0 d_Dependence_leastLoop_0 rfl rfl ?_
  refine V_aload_n F 1 d_Dependence_leastLoop_1 rfl rfl ?_
  refine V_callV_v (w1 := fun (u_ : (Nat → Int64) × (Nat → Int64)) => [(d0, .inr (CI_Dependence, [.ref d1, .ref d2])), (d1, .inl (cL, 80, .inr (.inl u_.1))), (d2, .inl (cL, 80, .inr (.inl u_.2))), (c0, .inr (CI_Cells, [.ref c1, .ref c2, .ref c3, .ref c4, .ref c5, .ref c6, .int (nI n)])), (c1, .inl (cI, 60, .inl (cN k))), (c2, .inl (cI, 60, .inl (cN o))), (c3, .inl (cI, 60, .inl A)), (c4, .inl (cI, 60, .inl B)), (c5, .inl (cI, 60, .inl C)), (c6, .inl (cI, 60, .inl (cN q)))]) (wr := []) (isC := [0, 1, 2, 3, 4, 5, 6, 7, 8, 9]) (isR := []) (pm := [0, 1, 2, 3, 4, 5, 6, 7, 8, 9]) (As := [.ref c0]) (rest := []) F (c_Dependence_begin l D cI cL cB d0 d1 d2 X Y c0 c1 c2 c3 c4 c5 c6 n k o q A B C nn (by first | assumption | omega | (simp only [] at *; omega)) (by first | assumption | omega | (simp only [] at *; omega)) (by first | assumption | omega | (simp only [] at *; omega))) (cS_V 1 F.ts m_488 m_489 m_13 m_40 m_490 (by decide +kernel) ⟨Nat.le_of_ble_eq_true rfl, Nat.le_of_ble_eq_true rfl⟩) (ci := CI_Dependence) (q0 := 0) rfl rfl rfl (Nat.le_of_ble_eq_true rfl) d_Dependence_leastLoop_2 ⟨Nat.le_of_ble_eq_true rfl, Nat.le_of_ble_eq_true rfl⟩ ⟨rfl, rfl, rfl, rfl, rfl, fun _ => rfl, rfl⟩ (fun uu2 q2_ => ?_) rfl
  obtain ⟨X2_2, Y2_2⟩ := uu2
  have e2 : Bits 40 X2_2 Y2_2 (R0 n k o A B C) := q2_
  clear q2_
  refine V_cast (w' := [(d0, .inr (CI_Dependence, [.ref d1, .ref d2])), (d1, .inl (cL, 80, .inr (.inl X2_2))), (d2, .inl (cL, 80, .inr (.inl Y2_2))), (c0, .inr (CI_Cells, [.ref c1, .ref c2, .ref c3, .ref c4, .ref c5, .ref c6, .int (nI n)])), (c1, .inl (cI, 60, .inl (cN k))), (c2, .inl (cI, 60, .inl (cN o))), (c3, .inl (cI, 60, .inl A)), (c4, .inl (cI, 60, .inl B)), (c5, .inl (cI, 60, .inl C)), (c6, .inl (cI, 60, .inl (cN q)))]) rfl rfl rfl ?_
  refine V_iconst F (v := 0) d_Dependence_leastLoop_5 rfl ?_
  refine V_istore_n F (lv' := [(3, .int (nI 0)), (0, .ref d0), (1, .ref c0), (2, .int (nI nn))]) d_Dependence_leastLoop_6 rfl (by decide) rfl ?_
  have L7 : ∀ (f_ : Nat) (i : Nat) (X2 : Nat → Int64) (Y2 : Nat → Int64), nn - i < f_ → (i ≤ nn) → (Bits 40 X2 Y2 (wOut (R0 n k o A B C) nn i)) → V p_ l e_ ({ frames := 3, cells := 0, slots := 0, locals := 66 }) s_ m_ args_ below_ meth_ c_ A_ (MQ below_ (cQi D classes (fun (r : Int32) (u_ : (Nat → Int64) × (Nat → Int64)) => LD (wOut (R0 n k o A B C) nn nn) nn r) (fun (u_ : (Nat → Int64) × (Nat → Int64)) => [(d0, .inr (CI_Dependence, [.ref d1, .ref d2])), (d1, .inl (cL, 80, .inr (.inl u_.1))), (d2, .inl (cL, 80, .inr (.inl u_.2))), (c0, .inr (CI_Cells, [.ref c1, .ref c2, .ref c3, .ref c4, .ref c5, .ref c6, .int (nI n)])), (c1, .inl (cI, 60, .inl (cN k))), (c2, .inl (cI, 60, .inl (cN o))), (c3, .inl (cI, 60, .inl A)), (c4, .inl (cI, 60, .inl B)), (c5, .inl (cI, 60, .inl C)), (c6, .inl (cI, 60, .inl (cN q)))]) A_) args_ s_ 0 0 A_) D classes 4 0 0 [(d0, .inr (CI_Dependence, [.ref d1, .ref d2])), (d1, .inl (cL, 80, .inr (.inl X2))), (d2, .inl (cL, 80, .inr (.inl Y2))), (c0, .inr (CI_Cells, [.ref c1, .ref c2, .ref c3, .ref c4, .ref c5, .ref c6, .int (nI n)])), (c1, .inl (cI, 60, .inl (cN k))), (c2, .inl (cI, 60, .inl (cN o))), (c3, .inl (cI, 60, .inl A)), (c4, .inl (cI, 60, .inl B)), (c5, .inl (cI, 60, .inl C)), (c6, .inl (cI, 60, .inl (cN q)))] 7 [(0, .ref d0), (1, .ref c0), (2, .int (nI nn)), (3, .int (nI i))] [] := by
    intro f_
    induction f_ with
    | zero => intro i X2 Y2 hm_; exact absurd hm_ (Nat.not_lt_zero _)
    | succ f_ ih7 =>
      intro i X2 Y2 hm7 hi hI
      refine V_iload_n F 3 d_Dependence_leastLoop_7 rfl rfl ?_
      refine V_iload_n F 2 d_Dependence_leastLoop_8 rfl rfl ?_
      refine V_icmpn_ge F 24 (a := i) (b := nn) (by omega) (by omega) d_Dependence_leastLoop_9 (by decide) (fun h9 => ?_) (fun h9 => ?_)
      · skip
        have e9 : i = nn := by omega
        rw [e9] at hI
        refine V_iconst F (v := 0) d_Dependence_leastLoop_24 rfl ?_
        refine V_istore_n F (lv' := [(3, .int (nI 0)), (0, .ref d0), (1, .ref c0), (2, .int (nI nn))]) d_Dependence_leastLoop_25 rfl (by decide) rfl ?_
        have L26 : ∀ (f_ : Nat) (j : Nat), nn - j < f_ → (j ≤ nn) → (∀ t, t < j → ¬ wOut (R0 n k o A B C) nn nn t t) → V p_ l e_ ({ frames := 3, cells := 0, slots := 0, locals := 66 }) s_ m_ args_ below_ meth_ c_ A_ (MQ below_ (cQi D classes (fun (r : Int32) (u_ : (Nat → Int64) × (Nat → Int64)) => LD (wOut (R0 n k o A B C) nn nn) nn r) (fun (u_ : (Nat → Int64) × (Nat → Int64)) => [(d0, .inr (CI_Dependence, [.ref d1, .ref d2])), (d1, .inl (cL, 80, .inr (.inl u_.1))), (d2, .inl (cL, 80, .inr (.inl u_.2))), (c0, .inr (CI_Cells, [.ref c1, .ref c2, .ref c3, .ref c4, .ref c5, .ref c6, .int (nI n)])), (c1, .inl (cI, 60, .inl (cN k))), (c2, .inl (cI, 60, .inl (cN o))), (c3, .inl (cI, 60, .inl A)), (c4, .inl (cI, 60, .inl B)), (c5, .inl (cI, 60, .inl C)), (c6, .inl (cI, 60, .inl (cN q)))]) A_) args_ s_ 0 0 A_) D classes 4 0 0 [(d0, .inr (CI_Dependence, [.ref d1, .ref d2])), (d1, .inl (cL, 80, .inr (.inl X2))), (d2, .inl (cL, 80, .inr (.inl Y2))), (c0, .inr (CI_Cells, [.ref c1, .ref c2, .ref c3, .ref c4, .ref c5, .ref c6, .int (nI n)])), (c1, .inl (cI, 60, .inl (cN k))), (c2, .inl (cI, 60, .inl (cN o))), (c3, .inl (cI, 60, .inl A)), (c4, .inl (cI, 60, .inl B)), (c5, .inl (cI, 60, .inl C)), (c6, .inl (cI, 60, .inl (cN q)))] 26 [(0, .ref d0), (1, .ref c0), (2, .int (nI nn)), (3, .int (nI j))] [] := by
          intro f_
          induction f_ with
          | zero => intro j hm_; exact absurd hm_ (Nat.not_lt_zero _)
          | succ f_ ih26 =>
            intro j hm26 hj hJ
            refine V_iload_n F 3 d_Dependence_leastLoop_26 rfl rfl ?_
            refine V_iload_n F 2 d_Dependence_leastLoop_27 rfl rfl ?_
            refine V_icmpn_ge F 48 (a := j) (b := nn) (by omega) (by omega) d_Dependence_leastLoop_28 (by decide) (fun h28 => ?_) (fun h28 => ?_)
            · skip
              refine V_iconst F (v := (-1)) d_Dependence_leastLoop_48 rfl ?_
              exact V_iret F hr (X2, Y2) (show LD (wOut (R0 n k o A B C) nn nn) nn (-1) from (Or.inl ⟨rfl, fun t ht => hJ t (by omega)⟩)) [0, 1, 2, 3, 4, 5, 6, 7, 8, 9] rfl rfl (by decide) (by decide) d_Dependence_leastLoop_49
            · skip
              refine V_aload_n F 0 d_Dependence_leastLoop_31 rfl rfl ?_
              refine V_iload_n F 3 d_Dependence_leastLoop_32 rfl rfl ?_
              refine V_iload_n F 3 d_Dependence_leastLoop_33 rfl rfl ?_
              refine V_callV_i (w1 := fun (u_ : Unit) => [(d0, .inr (CI_Dependence, [.ref d1, .ref d2])), (d1, .inl (cL, 80, .inr (.inl X2))), (d2, .inl (cL, 80, .inr (.inl Y2))), (c0, .inr (CI_Cells, [.ref c1, .ref c2, .ref c3, .ref c4, .ref c5, .ref c6, .int (nI n)])), (c1, .inl (cI, 60, .inl (cN k))), (c2, .inl (cI, 60, .inl (cN o))), (c3, .inl (cI, 60, .inl A)), (c4, .inl (cI, 60, .inl B)), (c5, .inl (cI, 60, .inl C)), (c6, .inl (cI, 60, .inl (cN q)))]) (wr := [(c0, .inr (CI_Cells, [.ref c1, .ref c2, .ref c3, .ref c4, .ref c5, .ref c6, .int (nI n)])), (c1, .inl (cI, 60, .inl (cN k))), (c2, .inl (cI, 60, .inl (cN o))), (c3, .inl (cI, 60, .inl A)), (c4, .inl (cI, 60, .inl B)), (c5, .inl (cI, 60, .inl C)), (c6, .inl (cI, 60, .inl (cN q)))]) (isC := [0, 1, 2]) (isR := [3, 4, 5, 6, 7, 8, 9]) (pm := [7, 8, 9, 0, 1, 2, 3, 4, 5, 6]) (As := [.int (nI j), .int (nI j)]) (rest := []) F (c_Dependence_isOn l D cI cL cB d0 d1 d2 X2 Y2 (wOut (R0 n k o A B C) nn nn) j j (by first | assumption | omega | (simp only [] at *; omega)) (by first | assumption | omega | (simp only [] at *; omega)) (by first | assumption | omega | (simp only [] at *; omega))) (cS_V 2 F.ts m_502 m_503 m_16 m_40 m_504 (by decide +kernel) ⟨Nat.le_of_ble_eq_true rfl, Nat.le_of_ble_eq_true rfl⟩) (ci := CI_Dependence) (q0 := 0) rfl rfl rfl (Nat.le_of_ble_eq_true rfl) d_Dependence_leastLoop_34 ⟨Nat.le_of_ble_eq_true rfl, Nat.le_of_ble_eq_true rfl⟩ ⟨rfl, rfl, rfl, rfl, rfl, fun _ => rfl, rfl⟩ (fun r34 uu34 q34_ => ?_) rfl
              subst q34_
              refine V_ifb_eq F 42 d_Dependence_leastLoop_37 (by decide) (fun h37 => ?_) (fun h37 => ?_)
              · skip
                refine V_iinc F 3 (v := nI (j + 1)) (lv' := [(3, .int (nI (j + 1))), (0, .ref d0), (1, .ref c0), (2, .int (nI nn))]) d_Dependence_leastLoop_42 rfl (nI_inc _) (by decide) rfl ?_
                refine V_goto F 26 d_Dependence_leastLoop_45 (by decide) ?_
                refine V_lv [1, 2, 3, 0] rfl ?_
                exact ih26 (j + 1) (by omega) (by first | assumption | omega | (simp only [] at *; omega)) (lt_s hJ h37)
              · skip
                refine V_iload_n F 3 d_Dependence_leastLoop_40 rfl rfl ?_
                exact V_iret F hr (X2, Y2) (show LD (wOut (R0 n k o A B C) nn nn) nn (nI j) from (Or.inr ⟨j, by omega, rfl, h37, hJ⟩)) [0, 1, 2, 3, 4, 5, 6, 7, 8, 9] rfl rfl (by decide) (by decide) d_Dependence_leastLoop_41
        refine V_lv [1, 2, 3, 0] rfl ?_
        exact L26 ((nn - 0) + 1) 0 (Nat.lt_succ_self _) (by first | assumption | omega | (simp only [] at *; omega)) (fun t h => absurd h (Nat.not_lt_zero t))
      · skip
        refine V_aload_n F 0 d_Dependence_leastLoop_12 rfl rfl ?_
        refine V_iload_n F 3 d_Dependence_leastLoop_13 rfl rfl ?_
        refine V_iload_n F 2 d_Dependence_leastLoop_14 rfl rfl ?_
        refine V_callV_v (w1 := fun (u_ : (Nat → Int64) × (Nat → Int64)) => [(d0, .inr (CI_Dependence, [.ref d1, .ref d2])), (d1, .inl (cL, 80, .inr (.inl u_.1))), (d2, .inl (cL, 80, .inr (.inl u_.2))), (c0, .inr (CI_Cells, [.ref c1, .ref c2, .ref c3, .ref c4, .ref c5, .ref c6, .int (nI n)])), (c1, .inl (cI, 60, .inl (cN k))), (c2, .inl (cI, 60, .inl (cN o))), (c3, .inl (cI, 60, .inl A)), (c4, .inl (cI, 60, .inl B)), (c5, .inl (cI, 60, .inl C)), (c6, .inl (cI, 60, .inl (cN q)))]) (wr := [(c0, .inr (CI_Cells, [.ref c1, .ref c2, .ref c3, .ref c4, .ref c5, .ref c6, .int (nI n)])), (c1, .inl (cI, 60, .inl (cN k))), (c2, .inl (cI, 60, .inl (cN o))), (c3, .inl (cI, 60, .inl A)), (c4, .inl (cI, 60, .inl B)), (c5, .inl (cI, 60, .inl C)), (c6, .inl (cI, 60, .inl (cN q)))]) (isC := [0, 1, 2]) (isR := [3, 4, 5, 6, 7, 8, 9]) (pm := [7, 8, 9, 0, 1, 2, 3, 4, 5, 6]) (As := [.int (nI i), .int (nI nn)]) (rest := []) F (c_Dependence_goThrough l D cI cL cB d0 d1 d2 X2 Y2 (wOut (R0 n k o A B C) nn i) i nn (by first | assumption | omega | (simp only [] at *; omega)) (by first | assumption | omega | (simp only [] at *; omega)) (by first | assumption | omega | (simp only [] at *; omega))) (cS_V 2 F.ts m_499 m_500 m_15 m_40 m_501 (by decide +kernel) ⟨Nat.le_of_ble_eq_true rfl, Nat.le_of_ble_eq_true rfl⟩) (ci := CI_Dependence) (q0 := 0) rfl rfl rfl (Nat.le_of_ble_eq_true rfl) d_Dependence_leastLoop_15 ⟨Nat.le_of_ble_eq_true rfl, Nat.le_of_ble_eq_true rfl⟩ ⟨rfl, rfl, rfl, rfl, rfl, fun _ => rfl, rfl⟩ (fun uu15 q15_ => ?_) rfl
        obtain ⟨X2_15, Y2_15⟩ := uu15
        have e15 : Bits 40 X2_15 Y2_15 (wIn (wOut (R0 n k o A B C) nn i) i nn) := q15_
        clear q15_
        refine V_cast (w' := [(d0, .inr (CI_Dependence, [.ref d1, .ref d2])), (d1, .inl (cL, 80, .inr (.inl X2_15))), (d2, .inl (cL, 80, .inr (.inl Y2_15))), (c0, .inr (CI_Cells, [.ref c1, .ref c2, .ref c3, .ref c4, .ref c5, .ref c6, .int (nI n)])), (c1, .inl (cI, 60, .inl (cN k))), (c2, .inl (cI, 60, .inl (cN o))), (c3, .inl (cI, 60, .inl A)), (c4, .inl (cI, 60, .inl B)), (c5, .inl (cI, 60, .inl C)), (c6, .inl (cI, 60, .inl (cN q)))]) rfl rfl rfl ?_
        refine V_iinc F 3 (v := nI (i + 1)) (lv' := [(3, .int (nI (i + 1))), (0, .ref d0), (1, .ref c0), (2, .int (nI nn))]) d_Dependence_leastLoop_18 rfl (nI_inc _) (by decide) rfl ?_
        refine V_goto F 7 d_Dependence_leastLoop_21 (by decide) ?_
        refine V_lv [1, 2, 3, 0] rfl ?_
        exact ih7 (i + 1) X2_15 Y2_15 (by omega) (by first | assumption | omega | (simp only [] at *; omega)) e15
  refine V_lv [1, 2, 3, 0] rfl ?_
  exact L7 ((nn - 0) + 1) 0 X2_2 Y2_2 (Nat.lt_succ_self _) (by first | assumption | omega | (simp only [] at *; omega)) e2
