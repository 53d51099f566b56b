set_option maxHeartbeats 4000000 in
set_option maxRecDepth 100000 in
theorem c_Model_names (l : Launch) (D : va_G) (cI cL cB : ClassId) (x0 : Nat) (x1 : Nat) (x2 : Nat) (x3 : Nat) (x4 : Nat) (x5 : Nat) (x6 : Nat) (x7 : Nat) (x8 : Nat) (x9 : Nat) (x10 : Nat) (x11 : Nat) (x12 : Nat) (x13 : Nat) (x14 : Nat) (x15 : Nat) (x16 : Nat) (x17 : Nat) (x18 : Nat) (x19 : Nat) (x20 : Nat) (th : Nat) (nn : Nat) (n : Nat) (sg : Nat) (bt : Prop) (tk : Nat → Nat) (to : Nat → Nat) (tA : Nat → Int32) (tB : Nat → Int32) (tC : Nat → Int32) (ix : Nat) (l_ : Nat) (hix : ix < 20) (hk : tk ix ≤ 8) (ho : to ix < 10) (hl : l_ < 10) (hv : ∀ p, p < inpN (tk ix) → vp_in (inP tA tB tC ix p) 10) : Cti l y_Model_names (wK w_Model_names) ({ frames := 1, cells := 0, slots := 0, locals := 20 }) D classes (TY cI cL cB) [.ref x0, .int (nI ix), .int (nI l_)] [(x0, .inr (CI_Model, [.int (nI th), .int (nI nn), .ref x1, .ref x2, .ref x3, .ref x4, .ref x5, .ref x6, .ref x7, .ref x8, .ref x9, .ref x10, .ref x11, .int (nI n), .ref x12, .ref x13, .ref x14, .ref x15, .ref x16, .ref x17, .ref x18, .ref x19, .ref x20, .int (bP bt), .int (nI sg)])), (x12, .inl (cI, 20, .inl (cN tk))), (x13, .inl (cI, 20, .inl (cN to))), (x14, .inl (cI, 20, .inl tA)), (x15, .inl (cI, 20, .inl tB)), (x16, .inl (cI, 20, .inl tC))] (fun (r : Int32) (u_ : Unit) => r = bP (to ix = l_ ∨ ∃ p, p < inpN (tk ix) ∧ iN tA tB tC ix p = l_)) (fun (u_ : Unit) => [(x0, .inr (CI_Model, [.int (nI th), .int (nI nn), .ref x1, .ref x2, .ref x3, .ref x4, .ref x5, .ref x6, .ref x7, .ref x8, .ref x9, .ref x10, .ref x11, .int (nI n), .ref x12, .ref x13, .ref x14, .ref x15, .ref x16, .ref x17, .ref x18, .ref x19, .ref x20, .int (bP bt), .int (nI sg)])), (x12, .inl (cI, 20, .inl (cN tk))), (x13, .inl (cI, 20, .inl (cN to))), (x14, .inl (cI, 20, .inl tA)), (x15, .inl (cI, 20, .inl tB)), (x16, .inl (cI, 20, .inl tC))]) 0 0 := by
  refine Ctg_of (cc := prog_9_method_11_code) (maxL := 4) (ret := (some .boolean)) "CircuitSimulatorModel" [(0, .ref x0), (1, .int (nI ix)), (2, .int (nI l_))] (by decide) rfl rfl (Nat.le_of_ble_eq_true rfl) rfl ?_
  intro p_ e_ s_ m_ args_ below_ meth_ c_ A_ F hr hin
  have hn3 := inpN_le (tk ix)
  refine V_aload_n F 0 d_Model_names_0 rfl rfl ?_
  refine V_get F 0 CI_Model 14 i_Model rfl rfl (by decide) m_610 rfl rfl d_Model_names_1 ?_
  refine V_iload_n F 1 d_Model_names_4 rfl rfl ?_
  refine V_ialdnN F 1 0 (k := ix) rfl rfl (by omega) (by decide) d_Model_names_5 ?_
  refine V_callS_i (w1 := fun (u_ : Unit) => [(x0, .inr (CI_Model, [.int (nI th), .int (nI nn), .ref x1, .ref x2, .ref x3, .ref x4, .ref x5, .ref x6, .ref x7, .ref x8, .ref x9, .ref x10, .ref x11, .int (nI n), .ref x12, .ref x13, .ref x14, .ref x15, .ref x16, .ref x17, .ref x18, .ref x19, .ref x20, .int (bP bt), .int (nI sg)])), (x12, .inl (cI, 20, .inl (cN tk))), (x13, .inl (cI, 20, .inl (cN to))), (x14, .inl (cI, 20, .inl tA)), (x15, .inl (cI, 20, .inl tB)), (x16, .inl (cI, 20, .inl tC))]) (wr := [(x0, .inr (CI_Model, [.int (nI th), .int (nI nn), .ref x1, .ref x2, .ref x3, .ref x4, .ref x5, .ref x6, .ref x7, .ref x8, .ref x9, .ref x10, .ref x11, .int (nI n), .ref x12, .ref x13, .ref x14, .ref x15, .ref x16, .ref x17, .ref x18, .ref x19, .ref x20, .int (bP bt), .int (nI sg)])), (x12, .inl (cI, 20, .inl (cN tk))), (x13, .inl (cI, 20, .inl (cN to))), (x14, .inl (cI, 20, .inl tA)), (x15, .inl (cI, 20, .inl tB)), (x16, .inl (cI, 20, .inl tC))]) (isC := []) (isR := [0, 1, 2, 3, 4, 5]) (pm := [0, 1, 2, 3, 4, 5]) (As := [.int (nI (tk ix))]) (rest := []) F (c_Model_inputs l D cI cL cB (tk ix) (by first | assumption | omega | (simp only [] at *; omega))) (cS_S 1 F.ts m_686 m_687 m_42 m_688 (by decide +kernel) ⟨Nat.le_of_ble_eq_true rfl, Nat.le_of_ble_eq_true rfl⟩) rfl (Nat.le_of_ble_eq_true rfl) d_Model_names_6 ⟨Nat.le_of_ble_eq_true rfl, Nat.le_of_ble_eq_true rfl⟩ ⟨rfl, rfl, rfl, rfl, rfl, fun _ => rfl, rfl⟩ (fun r6 uu6 q6_ => ?_) rfl
  subst q6_
  refine V_istore_n F (lv' := [(3, .int (nI (inpN (tk ix)))), (0, .ref x0), (1, .int (nI ix)), (2, .int (nI l_))]) d_Model_names_9 rfl (by decide) rfl ?_
  refine V_aload_n F 1 d_Model_names_10 rfl rfl ?_
  refine V_get F 0 CI_Model 15 i_Model rfl rfl (by decide) m_611 rfl rfl d_Model_names_11 ?_
  refine V_iload_n F 2 d_Model_names_14 rfl rfl ?_
  refine V_ialdnN F 2 0 (k := ix) rfl rfl (by omega) (by decide) d_Model_names_15 ?_
  refine V_iload_n F 3 d_Model_names_16 rfl rfl ?_
  refine V_icmpn_eq F 64 (a := to ix) (b := l_) (by omega) (by omega) d_Model_names_17 (by decide) (fun h17 => ?_) (fun h17 => ?_)
  · skip
    refine V_iconst F (v := 1) d_Model_names_64 rfl ?_
    refine V_goto F 69 d_Model_names_65 (by decide) ?_
    exact V_zret F hr rfl () (bP_t (Or.inl h17)).symm [0, 1, 2, 3, 4, 5] rfl rfl (by decide) (by decide) d_Model_names_69
  · skip
    refine V_iload_n F 0 d_Model_names_20 rfl rfl ?_
    refine V_ifn_le F 34 (a := inpN (tk ix)) (by omega) d_Model_names_21 (by decide) (fun h21 => ?_) (fun h21 => ?_)
    · skip
      refine V_iload_n F 0 d_Model_names_34 rfl rfl ?_
      refine V_iconst F (v := 1) d_Model_names_35 rfl ?_
      refine V_icmpn_le F 49 (a := inpN (tk ix)) (b := 1) (by omega) (by omega) d_Model_names_36 (by decide) (fun h36 => ?_) (fun h36 => ?_)
      · skip
        refine V_iload_n F 0 d_Model_names_49 rfl rfl ?_
        refine V_iconst F (v := 2) d_Model_names_50 rfl ?_
        refine V_icmpn_le F 68 (a := inpN (tk ix)) (b := 2) (by omega) (by omega) d_Model_names_51 (by decide) (fun h51 => ?_) (fun h51 => ?_)
        · skip
          refine V_iconst F (v := 0) d_Model_names_68 rfl ?_
          exact V_zret F hr rfl () (bP_f (fun z => z.elim h17 (fun ⟨p, hp, e⟩ => by rcases (show p = 0 ∨ p = 1 ∨ p = 2 by omega) with rfl | rfl | rfl <;> omega))).symm [0, 1, 2, 3, 4, 5] rfl rfl (by decide) (by decide) d_Model_names_69
        · skip
          have hv2 : vp_in (tC ix) 10 := hv 2 (by omega)
          have hl2 : iN tA tB tC ix 2 < 10 := vp_lt hv2
          refine V_aload_n F 1 d_Model_names_54 rfl rfl ?_
          refine V_get F 0 CI_Model 18 i_Model rfl rfl (by decide) m_614 rfl rfl d_Model_names_55 ?_
          refine V_iload_n F 2 d_Model_names_58 rfl rfl ?_
          refine V_ialdn F 5 0 (k := ix) rfl rfl (by omega) (by decide) d_Model_names_59 ?_
          refine V_top (y := nI (iN tA tB tC ix 2)) (vin_nI hv2 (by decide)) ?_
          refine V_iload_n F 3 d_Model_names_60 rfl rfl ?_
          refine V_icmpn_ne F 68 (a := iN tA tB tC ix 2) (b := l_) (by omega) (by omega) d_Model_names_61 (by decide) (fun h61 => ?_) (fun h61 => ?_)
          · skip
            refine V_iconst F (v := 0) d_Model_names_68 rfl ?_
            exact V_zret F hr rfl () (bP_f (fun z => z.elim h17 (fun ⟨p, hp, e⟩ => by rcases (show p = 0 ∨ p = 1 ∨ p = 2 by omega) with rfl | rfl | rfl <;> omega))).symm [0, 1, 2, 3, 4, 5] rfl rfl (by decide) (by decide) d_Model_names_69
          · skip
            refine V_iconst F (v := 1) d_Model_names_64 rfl ?_
            refine V_goto F 69 d_Model_names_65 (by decide) ?_
            exact V_zret F hr rfl () (bP_t (Or.inr ⟨2, h51, h61⟩)).symm [0, 1, 2, 3, 4, 5] rfl rfl (by decide) (by decide) d_Model_names_69
      · skip
        have hv1 : vp_in (tB ix) 10 := hv 1 (by omega)
        have hl1 : iN tA tB tC ix 1 < 10 := vp_lt hv1
        refine V_aload_n F 1 d_Model_names_39 rfl rfl ?_
        refine V_get F 0 CI_Model 17 i_Model rfl rfl (by decide) m_613 rfl rfl d_Model_names_40 ?_
        refine V_iload_n F 2 d_Model_names_43 rfl rfl ?_
        refine V_ialdn F 4 0 (k := ix) rfl rfl (by omega) (by decide) d_Model_names_44 ?_
        refine V_top (y := nI (iN tA tB tC ix 1)) (vin_nI hv1 (by decide)) ?_
        refine V_iload_n F 3 d_Model_names_45 rfl rfl ?_
        refine V_icmpn_eq F 64 (a := iN tA tB tC ix 1) (b := l_) (by omega) (by omega) d_Model_names_46 (by decide) (fun h46 => ?_) (fun h46 => ?_)
        · skip
          refine V_iconst F (v := 1) d_Model_names_64 rfl ?_
          refine V_goto F 69 d_Model_names_65 (by decide) ?_
          exact V_zret F hr rfl () (bP_t (Or.inr ⟨1, h36, h46⟩)).symm [0, 1, 2, 3, 4, 5] rfl rfl (by decide) (by decide) d_Model_names_69
        · skip
          refine V_iload_n F 0 d_Model_names_49 rfl rfl ?_
          refine V_iconst F (v := 2) d_Model_names_50 rfl ?_
          refine V_icmpn_le F 68 (a := inpN (tk ix)) (b := 2) (by omega) (by omega) d_Model_names_51 (by decide) (fun h51 => ?_) (fun h51 => ?_)
          · skip
            refine V_iconst F (v := 0) d_Model_names_68 rfl ?_
            exact V_zret F hr rfl () (bP_f (fun z => z.elim h17 (fun ⟨p, hp, e⟩ => by rcases (show p = 0 ∨ p = 1 ∨ p = 2 by omega) with rfl | rfl | rfl <;> omega))).symm [0, 1, 2, 3, 4, 5] rfl rfl (by decide) (by decide) d_Model_names_69
          · skip
            have hv2 : vp_in (tC ix) 10 := hv 2 (by omega)
            have hl2 : iN tA tB tC ix 2 < 10 := vp_lt hv2
            refine V_aload_n F 1 d_Model_names_54 rfl rfl ?_
            refine V_get F 0 CI_Model 18 i_Model rfl rfl (by decide) m_614 rfl rfl d_Model_names_55 ?_
            refine V_iload_n F 2 d_Model_names_58 rfl rfl ?_
            refine V_ialdn F 5 0 (k := ix) rfl rfl (by omega) (by decide) d_Model_names_59 ?_
            refine V_top (y := nI (iN tA tB tC ix 2)) (vin_nI hv2 (by decide)) ?_
            refine V_iload_n F 3 d_Model_names_60 rfl rfl ?_
            refine V_icmpn_ne F 68 (a := iN tA tB tC ix 2) (b := l_) (by omega) (by omega) d_Model_names_61 (by decide) (fun h61 => ?_) (fun h61 => ?_)
            · skip
              refine V_iconst F (v := 0) d_Model_names_68 rfl ?_
              exact V_zret F hr rfl () (bP_f (fun z => z.elim h17 (fun ⟨p, hp, e⟩ => by rcases (show p = 0 ∨ p = 1 ∨ p = 2 by omega) with rfl | rfl | rfl <;> omega))).symm [0, 1, 2, 3, 4, 5] rfl rfl (by decide) (by decide) d_Model_names_69
            · skip
              refine V_iconst F (v := 1) d_Model_names_64 rfl ?_
              refine V_goto F 69 d_Model_names_65 (by decide) ?_
              exact V_zret F hr rfl () (bP_t (Or.inr ⟨2, h51, h61⟩)).symm [0, 1, 2, 3, 4, 5] rfl rfl (by decide) (by decide) d_Model_names_69
    · skip
      have hv0 : vp_in (tA ix) 10 := hv 0 (by omega)
      have hl0 : iN tA tB tC ix 0 < 10 := vp_lt hv0
      refine V_aload_n F 1 d_Model_names_24 rfl rfl ?_
      refine V_get F 0 CI_Model 16 i_Model rfl rfl (by decide) m_612 rfl rfl d_Model_names_25 ?_
      refine V_iload_n F 2 d_Model_names_28 rfl rfl ?_
      refine V_ialdn F 3 0 (k := ix) rfl rfl (by omega) (by decide) d_Model_names_29 ?_
      refine V_top (y := nI (iN tA tB tC ix 0)) (vin_nI hv0 (by decide)) ?_
      refine V_iload_n F 3 d_Model_names_30 rfl rfl ?_
      refine V_icmpn_eq F 64 (a := iN tA tB tC ix 0) (b := l_) (by omega) (by omega) d_Model_names_31 (by decide) (fun h31 => ?_) (fun h31 => ?_)
      · skip
        refine V_iconst F (v := 1) d_Model_names_64 rfl ?_
        refine V_goto F 69 d_Model_names_65 (by decide) ?_
        exact V_zret F hr rfl () (bP_t (Or.inr ⟨0, h21, h31⟩)).symm [0, 1, 2, 3, 4, 5] rfl rfl (by decide) (by decide) d_Model_names_69
      · skip
        refine V_iload_n F 0 d_Model_names_34 rfl rfl ?_
        refine V_iconst F (v := 1) d_Model_names_35 rfl ?_
        refine V_icmpn_le F 49 (a := inpN (tk ix)) (b := 1) (by omega) (by omega) d_Model_names_36 (by decide) (fun h36 => ?_) (fun h36 => ?_)
        · skip
          refine V_iload_n F 0 d_Model_names_49 rfl rfl ?_
          refine V_iconst F (v := 2) d_Model_names_50 rfl ?_
          refine V_icmpn_le F 68 (a := inpN (tk ix)) (b := 2) (by omega) (by omega) d_Model_names_51 (by decide) (fun h51 => ?_) (fun h51 => ?_)
          · skip
            refine V_iconst F (v := 0) d_Model_names_68 rfl ?_
            exact V_zret F hr rfl () (bP_f (fun z => z.elim h17 (fun ⟨p, hp, e⟩ => by rcases (show p = 0 ∨ p = 1 ∨ p = 2 by omega) with rfl | rfl | rfl <;> omega))).symm [0, 1, 2, 3, 4, 5] rfl rfl (by decide) (by decide) d_Model_names_69
          · skip
            have hv2 : vp_in (tC ix) 10 := hv 2 (by omega)
            have hl2 : iN tA tB tC ix 2 < 10 := vp_lt hv2
            refine V_aload_n F 1 d_Model_names_54 rfl rfl ?_
            refine V_get F 0 CI_Model 18 i_Model rfl rfl (by decide) m_614 rfl rfl d_Model_names_55 ?_
            refine V_iload_n F 2 d_Model_names_58 rfl rfl ?_
            refine V_ialdn F 5 0 (k := ix) rfl rfl (by omega) (by decide) d_Model_names_59 ?_
            refine V_top (y := nI (iN tA tB tC ix 2)) (vin_nI hv2 (by decide)) ?_
            refine V_iload_n F 3 d_Model_names_60 rfl rfl ?_
            refine V_icmpn_ne F 68 (a := iN tA tB tC ix 2) (b := l_) (by omega) (by omega) d_Model_names_61 (by decide) (fun h61 => ?_) (fun h61 => ?_)
            · skip
              refine V_iconst F (v := 0) d_Model_names_68 rfl ?_
              exact V_zret F hr rfl () (bP_f (fun z => z.elim h17 (fun ⟨p, hp, e⟩ => by rcases (show p = 0 ∨ p = 1 ∨ p = 2 by omega) with rfl | rfl | rfl <;> omega))).symm [0, 1, 2, 3, 4, 5] rfl rfl (by decide) (by decide) d_Model_names_69
            · skip
              refine V_iconst F (v := 1) d_Model_names_64 rfl ?_
              refine V_goto F 69 d_Model_names_65 (by decide) ?_
              exact V_zret F hr rfl () (bP_t (Or.inr ⟨2, h51, h61⟩)).symm [0, 1, 2, 3, 4, 5] rfl rfl (by decide) (by decide) d_Model_names_69
        · skip
          have hv1 : vp_in (tB ix) 10 := hv 1 (by omega)
          have hl1 : iN tA tB tC ix 1 < 10 := vp_lt hv1
          refine V_aload_n F 1 d_Model_names_39 rfl rfl ?_
          refine V_get F 0 CI_Model 17 i_Model rfl rfl (by decide) m_613 rfl rfl d_Model_names_40 ?_
          refine V_iload_n F 2 d_Model_names_43 rfl rfl ?_
          refine V_ialdn F 4 0 (k := ix) rfl rfl (by omega) (by decide) d_Model_names_44 ?_
          refine V_top (y := nI (iN tA tB tC ix 1)) (vin_nI hv1 (by decide)) ?_
          refine V_iload_n F 3 d_Model_names_45 rfl rfl ?_
          refine V_icmpn_eq F 64 (a := iN tA tB tC ix 1) (b := l_) (by omega) (by omega) d_Model_names_46 (by decide) (fun h46 => ?_) (fun h46 => ?_)
          · skip
            refine V_iconst F (v := 1) d_Model_names_64 rfl ?_
            refine V_goto F 69 d_Model_names_65 (by decide) ?_
            exact V_zret F hr rfl () (bP_t (Or.inr ⟨1, h36, h46⟩)).symm [0, 1, 2, 3, 4, 5] rfl rfl (by decide) (by decide) d_Model_names_69
          · skip
            refine V_iload_n F 0 d_Model_names_49 rfl rfl ?_
            refine V_iconst F (v := 2) d_Model_names_50 rfl ?_
            refine V_icmpn_le F 68 (a := inpN (tk ix)) (b := 2) (by omega) (by omega) d_Model_names_51 (by decide) (fun h51 => ?_) (fun h51 => ?_)
            · skip
              refine V_iconst F (v := 0) d_Model_names_68 rfl ?_
              exact V_zret F hr rfl () (bP_f (fun z => z.elim h17 (fun ⟨p, hp, e⟩ => by rcases (show p = 0 ∨ p = 1 ∨ p = 2 by omega) with rfl | rfl | rfl <;> omega))).symm [0, 1, 2, 3, 4, 5] rfl rfl (by decide) (by decide) d_Model_names_69
            · skip
              have hv2 : vp_in (tC ix) 10 := hv 2 (by omega)
              have hl2 : iN tA tB tC ix 2 < 10 := vp_lt hv2
              refine V_aload_n F 1 d_Model_names_54 rfl rfl ?_
              refine V_get F 0 CI_Model 18 i_Model rfl rfl (by decide) m_614 rfl rfl d_Model_names_55 ?_
              refine V_iload_n F 2 d_Model_names_58 rfl rfl ?_
              refine V_ialdn F 5 0 (k := ix) rfl rfl (by omega) (by decide) d_Model_names_59 ?_
              refine V_top (y := nI (iN tA tB tC ix 2)) (vin_nI hv2 (by decide)) ?_
              refine V_iload_n F 3 d_Model_names_60 rfl rfl ?_
              refine V_icmpn_ne F 68 (a := iN tA tB tC ix 2) (b := l_) (by omega) (by omega) d_Model_names_61 (by decide) (fun h61 => ?_) (fun h61 => ?_)
              · skip
                refine V_iconst F (v := 0) d_Model_names_68 rfl ?_
                exact V_zret F hr rfl () (bP_f (fun z => z.elim h17 (fun ⟨p, hp, e⟩ => by rcases (show p = 0 ∨ p = 1 ∨ p = 2 by omega) with rfl | rfl | rfl <;> omega))).symm [0, 1, 2, 3, 4, 5] rfl rfl (by decide) (by decide) d_Model_names_69
              · skip
                refine V_iconst F (v := 1) d_Model_names_64 rfl ?_
                refine V_goto F 69 d_Model_names_65 (by decide) ?_
                exact V_zret F hr rfl () (bP_t (Or.inr ⟨2, h51, h61⟩)).symm [0, 1, 2, 3, 4, 5] rfl rfl (by decide) (by decide) d_Model_names_69

set_option maxHeartbeats 4000000 in
set_option maxRecDepth 100000 in
theorem c_Model_number (l : Launch) (D : va_G) (cI cL cB : ClassId) (x0 : Nat) (x1 : Nat) (x2 : Nat) (x3 : Nat) (x4 : Nat) (x5 : Nat) (x6 : Nat) (x7 : Nat) (x8 : Nat) (x9 : Nat) (x10 : Nat) (x11 : Nat) (x12 : Nat) (x13 : Nat) (x14 : Nat) (x15 : Nat) (x16 : Nat) (x17 : Nat) (x18 : Nat) (x19 : Nat) (x20 : Nat) (th : Nat) (nn : Nat) (n : Nat) (sg : Nat) (bt : Prop) (tk : Nat → Nat) (to : Nat → Nat) (tA : Nat → Int32) (tB : Nat → Int32) (tC : Nat → Int32) (pa : Nat → Nat) (lo : Nat → Nat) (tm : Nat) (x : Nat) (y : Nat) (htm : tm < 2) (hpa : pa tm ≤ 10) (hw2 : WfC 10 (pa tm) (sh tm tk) (sh tm to) (sh tm tA) (sh tm tB) (sh tm tC)) (hnn : nn ≤ 80) (hx : x < 80) (hy : y < 80) : Cti l y_Model_number (wK w_Model_number) ({ frames := 2, cells := 0, slots := 0, locals := 43 }) D classes (TY cI cL cB) [.ref x0, .int (nI tm), .int (nI x), .int (nI y)] [(x0, .inr (CI_Model, [.int (nI th), .int (nI nn), .ref x1, .ref x2, .ref x3, .ref x4, .ref x5, .ref x6, .ref x7, .ref x8, .ref x9, .ref x10, .ref x11, .int (nI n), .ref x12, .ref x13, .ref x14, .ref x15, .ref x16, .ref x17, .ref x18, .ref x19, .ref x20, .int (bP bt), .int (nI sg)])), (x12, .inl (cI, 20, .inl (cN tk))), (x13, .inl (cI, 20, .inl (cN to))), (x14, .inl (cI, 20, .inl tA)), (x15, .inl (cI, 20, .inl tB)), (x16, .inl (cI, 20, .inl tC)), (x17, .inl (cI, 2, .inl (cN pa))), (x18, .inl (cI, 10, .inl (cN lo)))] (fun (r : Int32) (u_ : (Nat → Nat)) => r = nI (nn + cnt (fun t => 2 ≤ t ∧ Nmd (pa tm) (sh tm tk) (sh tm to) (sh tm tA) (sh tm tB) (sh tm tC) t) 10) ∧ (∀ l, l < 10 → u_ l = locN x y nn (Nmd (pa tm) (sh tm tk) (sh tm to) (sh tm tA) (sh tm tB) (sh tm tC)) l)) (fun (u_ : (Nat → Nat)) => [(x0, .inr (CI_Model, [.int (nI th), .int (nI nn), .ref x1, .ref x2, .ref x3, .ref x4, .ref x5, .ref x6, .ref x7, .ref x8, .ref x9, .ref x10, .ref x11, .int (nI n), .ref x12, .ref x13, .ref x14, .ref x15, .ref x16, .ref x17, .ref x18, .ref x19, .ref x20, .int (bP bt), .int (nI sg)])), (x12, .inl (cI, 20, .inl (cN tk))), (x13, .inl (cI, 20, .inl (cN to))), (x14, .inl (cI, 20, .inl tA)), (x15, .inl (cI, 20, .inl tB)), (x16, .inl (cI, 20, .inl tC)), (x17, .inl (cI, 2, .inl (cN pa))), (x18, .inl (cI, 10, .inl (cN u_)))]) 0 0 := by
  refine Ctg_of (cc := prog_9_method_12_code) (maxL := 8) (ret := (some .int)) "CircuitSimulatorModel" [(0, .ref x0), (1, .int (nI tm)), (2, .int (nI x)), (3, .int (nI y))] (by decide) rfl rfl (Nat.le_of_ble_eq_true rfl) rfl ?_
  intro p_ e_ s_ m_ args_ below_ meth_ c_ A_ F hr hin
  refine V_aload_n F 0 d_Model_number_0 rfl rfl ?_
  refine V_get F 0 CI_Model 1 i_Model rfl rfl (by decide) m_597 rfl rfl d_Model_number_1 ?_
  refine V_istore F (lv' := [(4, .int (nI nn)), (0, .ref x0), (1, .int (nI tm)), (2, .int (nI x)), (3, .int (nI y))]) d_Model_number_4 (by decide) rfl ?_
  refine V_iconst F (v := 0) d_Model_number_6 rfl ?_
  refine V_istore F (lv' := [(5, .int (nI 0)), (4, .int (nI nn)), (0, .ref x0), (1, .int (nI tm)), (2, .int (nI x)), (3, .int (nI y))]) d_Model_number_7 (by decide) rfl ?_
  have L9 : ∀ (f_ : Nat) (l_ : Nat) (n4 : Nat) (lo2 : Nat → Nat), 10 - l_ < f_ → (l_ ≤ 10) → (∀ t, t < l_ → lo2 t = locN x y nn (Nmd (pa tm) (sh tm tk) (sh tm to) (sh tm tA) (sh tm tB) (sh tm tC)) t) → (n4 = nn + cnt (fun t => 2 ≤ t ∧ Nmd (pa tm) (sh tm tk) (sh tm to) (sh tm tA) (sh tm tB) (sh tm tC) t) l_) → V p_ l e_ ({ frames := 2, cells := 0, slots := 0, locals := 43 }) s_ m_ args_ below_ meth_ c_ A_ (MQ below_ (cQi D classes (fun (r : Int32) (u_ : (Nat → Nat)) => r = nI (nn + cnt (fun t => 2 ≤ t ∧ Nmd (pa tm) (sh tm tk) (sh tm to) (sh tm tA) (sh tm tB) (sh tm tC) t) 10) ∧ (∀ l, l < 10 → u_ l = locN x y nn (Nmd (pa tm) (sh tm tk) (sh tm to) (sh tm tA) (sh tm tB) (sh tm tC)) l)) (fun (u_ : (Nat → Nat)) => [(x0, .inr (CI_Model, [.int (nI th), .int (nI nn), .ref x1, .ref x2, .ref x3, .ref x4, .ref x5, .ref x6, .ref x7, .ref x8, .ref x9, .ref x10, .ref x11, .int (nI n), .ref x12, .ref x13, .ref x14, .ref x15, .ref x16, .ref x17, .ref x18, .ref x19, .ref x20, .int (bP bt), .int (nI sg)])), (x12, .inl (cI, 20, .inl (cN tk))), (x13, .inl (cI, 20, .inl (cN to))), (x14, .inl (cI, 20, .inl tA)), (x15, .inl (cI, 20, .inl tB)), (x16, .inl (cI, 20, .inl tC)), (x17, .inl (cI, 2, .inl (cN pa))), (x18, .inl (cI, 10, .inl (cN u_)))]) A_) args_ s_ 0 0 A_) D classes 8 0 0 [(x0, .inr (CI_Model, [.int (nI th), .int (nI nn), .ref x1, .ref x2, .ref x3, .ref x4, .ref x5, .ref x6, .ref x7, .ref x8, .ref x9, .ref x10, .ref x11, .int (nI n), .ref x12, .ref x13, .ref x14, .ref x15, .ref x16, .ref x17, .ref x18, .ref x19, .ref x20, .int (bP bt), .int (nI sg)])), (x12, .inl (cI, 20, .inl (cN tk))), (x13, .inl (cI, 20, .inl (cN to))), (x14, .inl (cI, 20, .inl tA)), (x15, .inl (cI, 20, .inl tB)), (x16, .inl (cI, 20, .inl tC)), (x17, .inl (cI, 2, .inl (cN pa))), (x18, .inl (cI, 10, .inl (cN lo2)))] 9 [(0, .ref x0), (1, .int (nI tm)), (2, .int (nI x)), (3, .int (nI y)), (4, .int (nI n4)), (5, .int (nI l_))] [] := by
    intro f_
    induction f_ with
    | zero => intro l_ n4 lo2 hm_; exact absurd hm_ (Nat.not_lt_zero _)
    | succ f_ ih9 =>
      intro l_ n4 lo2 hm9 hl hI hN
      refine V_iload F 5 d_Model_number_9 rfl ?_
      refine V_bipush F (v := 10) d_Model_number_11 rfl ?_
      refine V_icmpn_ge F 106 (a := l_) (b := 10) (by omega) (by omega) d_Model_number_13 (by decide) (fun h13 => ?_) (fun h13 => ?_)
      · skip
        refine V_iload F 4 d_Model_number_106 rfl ?_
        exact V_iret F hr lo2 ⟨by rw [hN, show l_ = 10 by omega], fun l h => hI l (by omega)⟩ [0, 1, 2, 3, 4, 5, 6, 7] rfl rfl (by decide) (by decide) d_Model_number_108
      · skip
        have hc8 := cnt_le (fun t => 2 ≤ t ∧ Nmd (pa tm) (sh tm tk) (sh tm to) (sh tm tA) (sh tm tB) (sh tm tC) t) l_
        refine V_iconst F (v := 0) d_Model_number_16 rfl ?_
        refine V_istore F (lv' := [(6, .int (nI 0)), (0, .ref x0), (1, .int (nI tm)), (2, .int (nI x)), (3, .int (nI y)), (4, .int (nI n4)), (5, .int (nI l_))]) d_Model_number_17 (by decide) rfl ?_
        refine V_iconst F (v := 0) d_Model_number_19 rfl ?_
        refine V_istore F (lv' := [(7, .int (nI 0)), (6, .int (nI 0)), (0, .ref x0), (1, .int (nI tm)), (2, .int (nI x)), (3, .int (nI y)), (4, .int (nI n4)), (5, .int (nI l_))]) d_Model_number_20 (by decide) rfl ?_
        have L22 : ∀ (f_ : Nat) (p : Nat) (nv : Nat), pa tm - p < f_ → (p ≤ pa tm) → (nv ≤ 1) → (nv = 1 ↔ Nmd p (sh tm tk) (sh tm to) (sh tm tA) (sh tm tB) (sh tm tC) l_) → V p_ l e_ ({ frames := 2, cells := 0, slots := 0, locals := 43 }) s_ m_ args_ below_ meth_ c_ A_ (MQ below_ (cQi D classes (fun (r : Int32) (u_ : (Nat → Nat)) => r = nI (nn + cnt (fun t => 2 ≤ t ∧ Nmd (pa tm) (sh tm tk) (sh tm to) (sh tm tA) (sh tm tB) (sh tm tC) t) 10) ∧ (∀ l, l < 10 → u_ l = locN x y nn (Nmd (pa tm) (sh tm tk) (sh tm to) (sh tm tA) (sh tm tB) (sh tm tC)) l)) (fun (u_ : (Nat → Nat)) => [(x0, .inr (CI_Model, [.int (nI th), .int (nI nn), .ref x1, .ref x2, .ref x3, .ref x4, .ref x5, .ref x6, .ref x7, .ref x8, .ref x9, .ref x10, .ref x11, .int (nI n), .ref x12, .ref x13, .ref x14, .ref x15, .ref x16, .ref x17, .ref x18, .ref x19, .ref x20, .int (bP bt), .int (nI sg)])), (x12, .inl (cI, 20, .inl (cN tk))), (x13, .inl (cI, 20, .inl (cN to))), (x14, .inl (cI, 20, .inl tA)), (x15, .inl (cI, 20, .inl tB)), (x16, .inl (cI, 20, .inl tC)), (x17, .inl (cI, 2, .inl (cN pa))), (x18, .inl (cI, 10, .inl (cN u_)))]) A_) args_ s_ 0 0 A_) D classes 8 0 0 [(x0, .inr (CI_Model, [.int (nI th), .int (nI nn), .ref x1, .ref x2, .ref x3, .ref x4, .ref x5, .ref x6, .ref x7, .ref x8, .ref x9, .ref x10, .ref x11, .int (nI n), .ref x12, .ref x13, .ref x14, .ref x15, .ref x16, .ref x17, .ref x18, .ref x19, .ref x20, .int (bP bt), .int (nI sg)])), (x12, .inl (cI, 20, .inl (cN tk))), (x13, .inl (cI, 20, .inl (cN to))), (x14, .inl (cI, 20, .inl tA)), (x15, .inl (cI, 20, .inl tB)), (x16, .inl (cI, 20, .inl tC)), (x17, .inl (cI, 2, .inl (cN pa))), (x18, .inl (cI, 10, .inl (cN lo2)))] 22 [(0, .ref x0), (1, .int (nI tm)), (2, .int (nI x)), (3, .int (nI y)), (4, .int (nI n4)), (5, .int (nI l_)), (6, .int (nI nv)), (7, .int (nI p))] [] := by
          intro f_
          induction f_ with
          | zero => intro p nv hm_; exact absurd hm_ (Nat.not_lt_zero _)
          | succ f_ ih22 =>
            intro p nv hm22 hp hv1 hM
            refine V_iload F 7 d_Model_number_22 rfl ?_
            refine V_aload_n F 0 d_Model_number_24 rfl rfl ?_
            refine V_get F 0 CI_Model 19 i_Model rfl rfl (by decide) m_615 rfl rfl d_Model_number_25 ?_
            refine V_iload_n F 1 d_Model_number_28 rfl rfl ?_
            refine V_ialdnN F 6 0 (k := tm) rfl rfl (by omega) (by decide) d_Model_number_29 ?_
            refine V_icmpn_ge F 58 (a := p) (b := pa tm) (by omega) (by omega) d_Model_number_30 (by decide) (fun h30 => ?_) (fun h30 => ?_)
            · skip
              have e30 : p = pa tm := by omega
              rw [e30] at hM
              refine V_aload_n F 0 d_Model_number_58 rfl rfl ?_
              refine V_get F 0 CI_Model 20 i_Model rfl rfl (by decide) m_616 rfl rfl d_Model_number_59 ?_
              refine V_iload F 5 d_Model_number_62 rfl ?_
              refine V_iload F 5 d_Model_number_64 rfl ?_
              refine V_ifn_ne F 73 (a := l_) (by omega) d_Model_number_66 (by decide) (fun h66 => ?_) (fun h66 => ?_)
              · skip
                refine V_iload F 5 d_Model_number_73 rfl ?_
                refine V_iconst F (v := 1) d_Model_number_75 rfl ?_
                refine V_icmpn_ne F 83 (a := l_) (b := 1) (by omega) (by omega) d_Model_number_76 (by decide) (fun h76 => ?_) (fun h76 => ?_)
                · skip
                  refine V_iload F 4 d_Model_number_83 rfl ?_
                  refine V_iastn F 7 0 (k := l_) (w' := [(x0, .inr (CI_Model, [.int (nI th), .int (nI nn), .ref x1, .ref x2, .ref x3, .ref x4, .ref x5, .ref x6, .ref x7, .ref x8, .ref x9, .ref x10, .ref x11, .int (nI n), .ref x12, .ref x13, .ref x14, .ref x15, .ref x16, .ref x17, .ref x18, .ref x19, .ref x20, .int (bP bt), .int (nI sg)])), (x12, .inl (cI, 20, .inl (cN tk))), (x13, .inl (cI, 20, .inl (cN to))), (x14, .inl (cI, 20, .inl tA)), (x15, .inl (cI, 20, .inl tB)), (x16, .inl (cI, 20, .inl tC)), (x17, .inl (cI, 2, .inl (cN pa))), (x18, .inl (cI, 10, .inl (cN (up lo2 l_ n4))))]) rfl rfl (by omega) (by decide) (by rw [upd_cN] <;> rfl) d_Model_number_85 ?_
                  refine V_iload F 5 d_Model_number_86 rfl ?_
                  refine V_iconst F (v := 1) d_Model_number_88 rfl ?_
                  refine V_icmpn_le F 100 (a := l_) (b := 1) (by omega) (by omega) d_Model_number_89 (by decide) (fun h89 => ?_) (fun h89 => ?_)
                  · skip
                    refine V_iinc F 5 (v := nI (l_ + 1)) (lv' := [(5, .int (nI (l_ + 1))), (0, .ref x0), (1, .int (nI tm)), (2, .int (nI x)), (3, .int (nI y)), (4, .int (nI n4)), (6, .int (nI nv)), (7, .int (nI p))]) d_Model_number_100 rfl (nI_inc _) (by decide) rfl ?_
                    refine V_goto F 9 d_Model_number_103 (by decide) ?_
                    refine V_lv [1, 2, 3, 4, 5, 0] rfl ?_
                    exact ih9 (l_ + 1) n4 (up lo2 l_ n4) (by omega) (by first | assumption | omega | (simp only [] at *; omega)) (loc_all hI (loc2 h66 h76 hN)) (by rw [cnt_f (fun z => absurd z.1 (by omega))]; exact hN)
                  · skip
                    refine V_iload F 6 d_Model_number_92 rfl ?_
                    refine V_ifn_eq F 100 (a := nv) (by omega) d_Model_number_94 (by decide) (fun h94 => ?_) (fun h94 => ?_)
                    · skip
                      refine V_iinc F 5 (v := nI (l_ + 1)) (lv' := [(5, .int (nI (l_ + 1))), (0, .ref x0), (1, .int (nI tm)), (2, .int (nI x)), (3, .int (nI y)), (4, .int (nI n4)), (6, .int (nI nv)), (7, .int (nI p))]) d_Model_number_100 rfl (nI_inc _) (by decide) rfl ?_
                      refine V_goto F 9 d_Model_number_103 (by decide) ?_
                      refine V_lv [1, 2, 3, 4, 5, 0] rfl ?_
                      exact ih9 (l_ + 1) n4 (up lo2 l_ n4) (by omega) (by first | assumption | omega | (simp only [] at *; omega)) (loc_all hI (loc2 h66 h76 hN)) (by rw [cnt_f (fun z => absurd (hM.mpr z.2) (by omega))]; exact hN)
                    · skip
                      refine V_iinc F 4 (v := nI (n4 + 1)) (lv' := [(4, .int (nI (n4 + 1))), (0, .ref x0), (1, .int (nI tm)), (2, .int (nI x)), (3, .int (nI y)), (5, .int (nI l_)), (6, .int (nI nv)), (7, .int (nI p))]) d_Model_number_97 rfl (nI_inc _) (by decide) rfl ?_
                      refine V_iinc F 5 (v := nI (l_ + 1)) (lv' := [(5, .int (nI (l_ + 1))), (4, .int (nI (n4 + 1))), (0, .ref x0), (1, .int (nI tm)), (2, .int (nI x)), (3, .int (nI y)), (6, .int (nI nv)), (7, .int (nI p))]) d_Model_number_100 rfl (nI_inc _) (by decide) rfl ?_
                      refine V_goto F 9 d_Model_number_103 (by decide) ?_
                      refine V_lv [2, 3, 4, 5, 1, 0] rfl ?_
                      exact ih9 (l_ + 1) (n4 + 1) (up lo2 l_ n4) (by omega) (by first | assumption | omega | (simp only [] at *; omega)) (loc_all hI (loc2 h66 h76 hN)) (by rw [cnt_t ⟨h89, hM.mp (by omega)⟩]; omega)
                · skip
                  refine V_iload_n F 3 d_Model_number_79 rfl rfl ?_
                  refine V_goto F 85 d_Model_number_80 (by decide) ?_
                  refine V_iastn F 7 0 (k := l_) (w' := [(x0, .inr (CI_Model, [.int (nI th), .int (nI nn), .ref x1, .ref x2, .ref x3, .ref x4, .ref x5, .ref x6, .ref x7, .ref x8, .ref x9, .ref x10, .ref x11, .int (nI n), .ref x12, .ref x13, .ref x14, .ref x15, .ref x16, .ref x17, .ref x18, .ref x19, .ref x20, .int (bP bt), .int (nI sg)])), (x12, .inl (cI, 20, .inl (cN tk))), (x13, .inl (cI, 20, .inl (cN to))), (x14, .inl (cI, 20, .inl tA)), (x15, .inl (cI, 20, .inl tB)), (x16, .inl (cI, 20, .inl tC)), (x17, .inl (cI, 2, .inl (cN pa))), (x18, .inl (cI, 10, .inl (cN (up lo2 l_ y))))]) rfl rfl (by omega) (by decide) (by rw [upd_cN] <;> rfl) d_Model_number_85 ?_
                  refine V_iload F 5 d_Model_number_86 rfl ?_
                  refine V_iconst F (v := 1) d_Model_number_88 rfl ?_
                  refine V_icmpn_le F 100 (a := l_) (b := 1) (by omega) (by omega) d_Model_number_89 (by decide) (fun h89 => ?_) (fun h89 => ?_)
                  · skip
                    refine V_iinc F 5 (v := nI (l_ + 1)) (lv' := [(5, .int (nI (l_ + 1))), (0, .ref x0), (1, .int (nI tm)), (2, .int (nI x)), (3, .int (nI y)), (4, .int (nI n4)), (6, .int (nI nv)), (7, .int (nI p))]) d_Model_number_100 rfl (nI_inc _) (by decide) rfl ?_
                    refine V_goto F 9 d_Model_number_103 (by decide) ?_
                    refine V_lv [1, 2, 3, 4, 5, 0] rfl ?_
                    exact ih9 (l_ + 1) n4 (up lo2 l_ y) (by omega) (by first | assumption | omega | (simp only [] at *; omega)) (loc_all hI (loc1 h76)) (by rw [cnt_f (fun z => absurd z.1 (by omega))]; exact hN)
                  · skip
                    refine V_iload F 6 d_Model_number_92 rfl ?_
                    refine V_ifn_eq F 100 (a := nv) (by omega) d_Model_number_94 (by decide) (fun h94 => ?_) (fun h94 => ?_)
                    · skip
                      refine V_iinc F 5 (v := nI (l_ + 1)) (lv' := [(5, .int (nI (l_ + 1))), (0, .ref x0), (1, .int (nI tm)), (2, .int (nI x)), (3, .int (nI y)), (4, .int (nI n4)), (6, .int (nI nv)), (7, .int (nI p))]) d_Model_number_100 rfl (nI_inc _) (by decide) rfl ?_
                      refine V_goto F 9 d_Model_number_103 (by decide) ?_
                      refine V_lv [1, 2, 3, 4, 5, 0] rfl ?_
                      exact ih9 (l_ + 1) n4 (up lo2 l_ y) (by omega) (by first | assumption | omega | (simp only [] at *; omega)) (loc_all hI (loc1 h76)) (by rw [cnt_f (fun z => absurd (hM.mpr z.2) (by omega))]; exact hN)
                    · skip
                      refine V_iinc F 4 (v := nI (n4 + 1)) (lv' := [(4, .int (nI (n4 + 1))), (0, .ref x0), (1, .int (nI tm)), (2, .int (nI x)), (3, .int (nI y)), (5, .int (nI l_)), (6, .int (nI nv)), (7, .int (nI p))]) d_Model_number_97 rfl (nI_inc _) (by decide) rfl ?_
                      refine V_iinc F 5 (v := nI (l_ + 1)) (lv' := [(5, .int (nI (l_ + 1))), (4, .int (nI (n4 + 1))), (0, .ref x0), (1, .int (nI tm)), (2, .int (nI x)), (3, .int (nI y)), (6, .int (nI nv)), (7, .int (nI p))]) d_Model_number_100 rfl (nI_inc _) (by decide) rfl ?_
                      refine V_goto F 9 d_Model_number_103 (by decide) ?_
                      refine V_lv [2, 3, 4, 5, 1, 0] rfl ?_
                      exact ih9 (l_ + 1) (n4 + 1) (up lo2 l_ y) (by omega) (by first | assumption | omega | (simp only [] at *; omega)) (loc_all hI (loc1 h76)) (by rw [cnt_t ⟨h89, hM.mp (by omega)⟩]; omega)
              · skip
                refine V_iload_n F 2 d_Model_number_69 rfl rfl ?_
                refine V_goto F 85 d_Model_number_70 (by decide) ?_
                refine V_iastn F 7 0 (k := l_) (w' := [(x0, .inr (CI_Model, [.int (nI th), .int (nI nn), .ref x1, .ref x2, .ref x3, .ref x4, .ref x5, .ref x6, .ref x7, .ref x8, .ref x9, .ref x10, .ref x11, .int (nI n), .ref x12, .ref x13, .ref x14, .ref x15, .ref x16, .ref x17, .ref x18, .ref x19, .ref x20, .int (bP bt), .int (nI sg)])), (x12, .inl (cI, 20, .inl (cN tk))), (x13, .inl (cI, 20, .inl (cN to))), (x14, .inl (cI, 20, .inl tA)), (x15, .inl (cI, 20, .inl tB)), (x16, .inl (cI, 20, .inl tC)), (x17, .inl (cI, 2, .inl (cN pa))), (x18, .inl (cI, 10, .inl (cN (up lo2 l_ x))))]) rfl rfl (by omega) (by decide) (by rw [upd_cN] <;> rfl) d_Model_number_85 ?_
                refine V_iload F 5 d_Model_number_86 rfl ?_
                refine V_iconst F (v := 1) d_Model_number_88 rfl ?_
                refine V_icmpn_le F 100 (a := l_) (b := 1) (by omega) (by omega) d_Model_number_89 (by decide) (fun h89 => ?_) (fun h89 => ?_)
                · skip
                  refine V_iinc F 5 (v := nI (l_ + 1)) (lv' := [(5, .int (nI (l_ + 1))), (0, .ref x0), (1, .int (nI tm)), (2, .int (nI x)), (3, .int (nI y)), (4, .int (nI n4)), (6, .int (nI nv)), (7, .int (nI p))]) d_Model_number_100 rfl (nI_inc _) (by decide) rfl ?_
                  refine V_goto F 9 d_Model_number_103 (by decide) ?_
                  refine V_lv [1, 2, 3, 4, 5, 0] rfl ?_
                  exact ih9 (l_ + 1) n4 (up lo2 l_ x) (by omega) (by first | assumption | omega | (simp only [] at *; omega)) (loc_all hI (loc0 h66)) (by rw [cnt_f (fun z => absurd z.1 (by omega))]; exact hN)
                · skip
                  refine V_iload F 6 d_Model_number_92 rfl ?_
                  refine V_ifn_eq F 100 (a := nv) (by omega) d_Model_number_94 (by decide) (fun h94 => ?_) (fun h94 => ?_)
                  · skip
                    refine V_iinc F 5 (v := nI (l_ + 1)) (lv' := [(5, .int (nI (l_ + 1))), (0, .ref x0), (1, .int (nI tm)), (2, .int (nI x)), (3, .int (nI y)), (4, .int (nI n4)), (6, .int (nI nv)), (7, .int (nI p))]) d_Model_number_100 rfl (nI_inc _) (by decide) rfl ?_
                    refine V_goto F 9 d_Model_number_103 (by decide) ?_
                    refine V_lv [1, 2, 3, 4, 5, 0] rfl ?_
                    exact ih9 (l_ + 1) n4 (up lo2 l_ x) (by omega) (by first | assumption | omega | (simp only [] at *; omega)) (loc_all hI (loc0 h66)) (by rw [cnt_f (fun z => absurd (hM.mpr z.2) (by omega))]; exact hN)
                  · skip
                    refine V_iinc F 4 (v := nI (n4 + 1)) (lv' := [(4, .int (nI (n4 + 1))), (0, .ref x0), (1, .int (nI tm)), (2, .int (nI x)), (3, .int (nI y)), (5, .int (nI l_)), (6, .int (nI nv)), (7, .int (nI p))]) d_Model_number_97 rfl (nI_inc _) (by decide) rfl ?_
                    refine V_iinc F 5 (v := nI (l_ + 1)) (lv' := [(5, .int (nI (l_ + 1))), (4, .int (nI (n4 + 1))), (0, .ref x0), (1, .int (nI tm)), (2, .int (nI x)), (3, .int (nI y)), (6, .int (nI nv)), (7, .int (nI p))]) d_Model_number_100 rfl (nI_inc _) (by decide) rfl ?_
                    refine V_goto F 9 d_Model_number_103 (by decide) ?_
                    refine V_lv [2, 3, 4, 5, 1, 0] rfl ?_
                    exact ih9 (l_ + 1) (n4 + 1) (up lo2 l_ x) (by omega) (by first | assumption | omega | (simp only [] at *; omega)) (loc_all hI (loc0 h66)) (by rw [cnt_t ⟨h89, hM.mp (by omega)⟩]; omega)
            · skip
              have hw8 := hw2 p (by omega)
              have hw81 : tk (10 * tm + p) ≤ 8 := hw8.1
              have hw82 : to (10 * tm + p) < 10 := hw8.2.1
              refine V_aload_n F 0 d_Model_number_33 rfl rfl ?_
              refine V_bipush F (v := 10) d_Model_number_34 rfl ?_
              refine V_iload_n F 1 d_Model_number_36 rfl rfl ?_
              refine V_imul F d_Model_number_37 ?_
              refine V_top (y := nI (10 * tm)) (pk_mul _ _) ?_
              refine V_iload F 7 d_Model_number_38 rfl ?_
              refine V_iadd F d_Model_number_40 ?_
              refine V_top (y := nI ((10 * tm) + p)) (nI_add _ _) ?_
              refine V_iload F 5 d_Model_number_41 rfl ?_
              refine V_callV_i (w1 := fun (u_ : Unit) => [(x0, .inr (CI_Model, [.int (nI th), .int (nI nn), .ref x1, .ref x2, .ref x3, .ref x4, .ref x5, .ref x6, .ref x7, .ref x8, .ref x9, .ref x10, .ref x11, .int (nI n), .ref x12, .ref x13, .ref x14, .ref x15, .ref x16, .ref x17, .ref x18, .ref x19, .ref x20, .int (bP bt), .int (nI sg)])), (x12, .inl (cI, 20, .inl (cN tk))), (x13, .inl (cI, 20, .inl (cN to))), (x14, .inl (cI, 20, .inl tA)), (x15, .inl (cI, 20, .inl tB)), (x16, .inl (cI, 20, .inl tC)), (x17, .inl (cI, 2, .inl (cN pa))), (x18, .inl (cI, 10, .inl (cN lo2)))]) (wr := [(x17, .inl (cI, 2, .inl (cN pa))), (x18, .inl (cI, 10, .inl (cN lo2)))]) (isC := [0, 1, 2, 3, 4, 5]) (isR := [6, 7]) (pm := [2, 3, 4, 5, 6, 7, 0, 1]) (As := [.int (nI ((10 * tm) + p)), .int (nI l_)]) (rest := []) F (c_Model_names l D cI cL cB x0 x1 x2 x3 x4 x5 x6 x7 x8 x9 x10 x11 x12 x13 x14 x15 x16 x17 x18 x19 x20 th nn n sg bt tk to tA tB tC ((10 * tm) + p) l_ (by first | assumption | omega | (simp only [] at *; omega)) hw81 hw82 (by first | assumption | omega | (simp only [] at *; omega)) hw8.2.2.1) (cS_V 2 F.ts m_709 m_710 m_22 m_42 m_711 (by decide +kernel) ⟨Nat.le_of_ble_eq_true rfl, Nat.le_of_ble_eq_true rfl⟩) (ci := CI_Model) (q0 := 0) rfl rfl rfl (Nat.le_of_ble_eq_true rfl) d_Model_number_43 ⟨Nat.le_of_ble_eq_true rfl, Nat.le_of_ble_eq_true rfl⟩ ⟨rfl, rfl, rfl, rfl, rfl, fun _ => rfl, rfl⟩ (fun r43 uu43 q43_ => ?_) rfl
              subst q43_
              refine V_ifb_eq F 52 d_Model_number_46 (by decide) (fun h46 => ?_) (fun h46 => ?_)
              · skip
                refine V_iinc F 7 (v := nI (p + 1)) (lv' := [(7, .int (nI (p + 1))), (0, .ref x0), (1, .int (nI tm)), (2, .int (nI x)), (3, .int (nI y)), (4, .int (nI n4)), (5, .int (nI l_)), (6, .int (nI nv))]) d_Model_number_52 rfl (nI_inc _) (by decide) rfl ?_
                refine V_goto F 22 d_Model_number_55 (by decide) ?_
                refine V_lv [1, 2, 3, 4, 5, 6, 7, 0] rfl ?_
                exact ih22 (p + 1) nv (by omega) (by first | assumption | omega | (simp only [] at *; omega)) (by first | assumption | omega | (simp only [] at *; omega)) ((nm_step hM (Iff.rfl)).symm.trans ⟨fun z => z.elim id (fun y => absurd y h46), Or.inl⟩).symm
              · skip
                refine V_iconst F (v := 1) d_Model_number_49 rfl ?_
                refine V_istore F (lv' := [(6, .int (nI 1)), (0, .ref x0), (1, .int (nI tm)), (2, .int (nI x)), (3, .int (nI y)), (4, .int (nI n4)), (5, .int (nI l_)), (7, .int (nI p))]) d_Model_number_50 (by decide) rfl ?_
                refine V_iinc F 7 (v := nI (p + 1)) (lv' := [(7, .int (nI (p + 1))), (6, .int (nI 1)), (0, .ref x0), (1, .int (nI tm)), (2, .int (nI x)), (3, .int (nI y)), (4, .int (nI n4)), (5, .int (nI l_))]) d_Model_number_52 rfl (nI_inc _) (by decide) rfl ?_
                refine V_goto F 22 d_Model_number_55 (by decide) ?_
                refine V_lv [2, 3, 4, 5, 6, 7, 1, 0] rfl ?_
                exact ih22 (p + 1) 1 (by omega) (by first | assumption | omega | (simp only [] at *; omega)) (by first | assumption | omega | (simp only [] at *; omega)) ((nm_step hM (Iff.rfl)).symm.trans ⟨fun _ => rfl, fun _ => Or.inr h46⟩).symm
        refine V_lv [2, 3, 4, 5, 6, 7, 1, 0] rfl ?_
        exact L22 ((pa tm - 0) + 1) 0 0 (Nat.lt_succ_self _) (by first | assumption | omega | (simp only [] at *; omega)) (by first | assumption | omega | (simp only [] at *; omega)) ⟨fun z => absurd z (by decide), fun ⟨c, hc, _⟩ => absurd hc (Nat.not_lt_zero c)⟩
  refine V_lv [2, 3, 4, 5, 1, 0] rfl ?_
  exact L9 ((10 - 0) + 1) 0 nn lo (Nat.lt_succ_self _) (by first | assumption | omega | (simp only [] at *; omega)) (fun t h => absurd h (Nat.not_lt_zero t)) rfl

set_option maxHeartbeats 4000000 in
set_option maxRecDepth 100000 in
theorem c_Model_mayStand (l : Launch) (D : va_G) (cI cL cB : ClassId) (x0 : Nat) (x1 : Nat) (x2 : Nat) (x3 : Nat) (x4 : Nat) (x5 : Nat) (x6 : Nat) (x7 : Nat) (x8 : Nat) (x9 : Nat) (x10 : Nat) (x11 : Nat) (x12 : Nat) (x13 : Nat) (x14 : Nat) (x15 : Nat) (x16 : Nat) (x17 : Nat) (x18 : Nat) (x19 : Nat) (x20 : Nat) (th : Nat) (nn : Nat) (n : Nat) (sg : Nat) (bt : Prop) (k : Nat → Nat) (o : Nat → Nat) (tk : Nat → Nat) (to : Nat → Nat) (pa : Nat → Nat) (lo : Nat → Nat) (tA : Nat → Int32) (tB : Nat → Int32) (tC : Nat → Int32) (tm : Nat) (htm : tm < 2) (hpa : pa tm ≤ 10) (hw2 : WfC 10 (pa tm) (sh tm tk) (sh tm to) (sh tm tA) (sh tm tB) (sh tm tC)) (hn : n ≤ 60) (hk : ∀ i, i < n → k i ≤ 8) (ho : ∀ i, i < n → o i < 100) (hlo : ∀ i, i < pa tm → lo (to (10 * tm + i)) < 100) : Cti l y_Model_mayStand (wK w_Model_mayStand) ({ frames := 1, cells := 0, slots := 0, locals := 23 }) D classes (TY cI cL cB) [.ref x0, .int (nI tm)] [(x0, .inr (CI_Model, [.int (nI th), .int (nI nn), .ref x1, .ref x2, .ref x3, .ref x4, .ref x5, .ref x6, .ref x7, .ref x8, .ref x9, .ref x10, .ref x11, .int (nI n), .ref x12, .ref x13, .ref x14, .ref x15, .ref x16, .ref x17, .ref x18, .ref x19, .ref x20, .int (bP bt), .int (nI sg)])), (x5, .inl (cI, 60, .inl (cN k))), (x6, .inl (cI, 60, .inl (cN o))), (x12, .inl (cI, 20, .inl (cN tk))), (x13, .inl (cI, 20, .inl (cN to))), (x17, .inl (cI, 2, .inl (cN pa))), (x18, .inl (cI, 10, .inl (cN lo)))] (fun (r : Int32) (u_ : Unit) => r = bP (Stands n k o (pa tm) (sh tm tk) (sh tm to) lo)) (fun (u_ : Unit) => [(x0, .inr (CI_Model, [.int (nI th), .int (nI nn), .ref x1, .ref x2, .ref x3, .ref x4, .ref x5, .ref x6, .ref x7, .ref x8, .ref x9, .ref x10, .ref x11, .int (nI n), .ref x12, .ref x13, .ref x14, .ref x15, .ref x16, .ref x17, .ref x18, .ref x19, .ref x20, .int (bP bt), .int (nI sg)])), (x5, .inl (cI, 60, .inl (cN k))), (x6, .inl (cI, 60, .inl (cN o))), (x12, .inl (cI, 20, .inl (cN tk))), (x13, .inl (cI, 20, .inl (cN to))), (x17, .inl (cI, 2, .inl (cN pa))), (x18, .inl (cI, 10, .inl (cN lo)))]) 0 0 := by
  refine Ctg_of (cc := prog_9_method_13_code) (maxL := 4) (ret := (some .boolean)) "CircuitSimulatorModel" [(0, .ref x0), (1, .int (nI tm))] (by decide) rfl rfl (Nat.le_of_ble_eq_true rfl) rfl ?_
  intro p_ e_ s_ m_ args_ below_ meth_ c_ A_ F hr hin
  refine V_bipush F (v := 10) d_Model_mayStand_0 rfl ?_
  refine V_iload_n F 1 d_Model_mayStand_2 rfl rfl ?_
  refine V_imul F d_Model_mayStand_3 ?_
  refine V_top (y := nI (10 * tm)) (pk_mul _ _) ?_
  refine V_istore_n F (lv' := [(2, .int (nI (10 * tm))), (0, .ref x0), (1, .int (nI tm))]) d_Model_mayStand_4 rfl (by decide) rfl ?_
  have L5 : ∀ (f_ : Nat) (i : Nat) (s : Nat), pa tm - i < f_ → (i ≤ pa tm) → (s = 10 * tm + i) → (∀ x, x < i → MayD n k o (lo (sh tm to x)) (sh tm tk x) ∧ ¬ Clash (sh tm tk) (sh tm to) lo x (lo (sh tm to x))) → V p_ l e_ ({ frames := 1, cells := 0, slots := 0, locals := 23 }) s_ m_ args_ below_ meth_ c_ A_ (MQ below_ (cQi D classes (fun (r : Int32) (u_ : Unit) => r = bP (Stands n k o (pa tm) (sh tm tk) (sh tm to) lo)) (fun (u_ : Unit) => [(x0, .inr (CI_Model, [.int (nI th), .int (nI nn), .ref x1, .ref x2, .ref x3, .ref x4, .ref x5, .ref x6, .ref x7, .ref x8, .ref x9, .ref x10, .ref x11, .int (nI n), .ref x12, .ref x13, .ref x14, .ref x15, .ref x16, .ref x17, .ref x18, .ref x19, .ref x20, .int (bP bt), .int (nI sg)])), (x5, .inl (cI, 60, .inl (cN k))), (x6, .inl (cI, 60, .inl (cN o))), (x12, .inl (cI, 20, .inl (cN tk))), (x13, .inl (cI, 20, .inl (cN to))), (x17, .inl (cI, 2, .inl (cN pa))), (x18, .inl (cI, 10, .inl (cN lo)))]) A_) args_ s_ 0 0 A_) D classes 4 0 0 [(x0, .inr (CI_Model, [.int (nI th), .int (nI nn), .ref x1, .ref x2, .ref x3, .ref x4, .ref x5, .ref x6, .ref x7, .ref x8, .ref x9, .ref x10, .ref x11, .int (nI n), .ref x12, .ref x13, .ref x14, .ref x15, .ref x16, .ref x17, .ref x18, .ref x19, .ref x20, .int (bP bt), .int (nI sg)])), (x5, .inl (cI, 60, .inl (cN k))), (x6, .inl (cI, 60, .inl (cN o))), (x12, .inl (cI, 20, .inl (cN tk))), (x13, .inl (cI, 20, .inl (cN to))), (x17, .inl (cI, 2, .inl (cN pa))), (x18, .inl (cI, 10, .inl (cN lo)))] 5 [(0, .ref x0), (1, .int (nI tm)), (2, .int (nI s))] [] := by
    intro f_
    induction f_ with
    | zero => intro i s hm_; exact absurd hm_ (Nat.not_lt_zero _)
    | succ f_ ih5 =>
      intro i s hm5 hi hs hI
      refine V_iload_n F 2 d_Model_mayStand_5 rfl rfl ?_
      refine V_bipush F (v := 10) d_Model_mayStand_6 rfl ?_
      refine V_iload_n F 1 d_Model_mayStand_8 rfl rfl ?_
      refine V_imul F d_Model_mayStand_9 ?_
      refine V_top (y := nI (10 * tm)) (pk_mul _ _) ?_
      refine V_aload_n F 0 d_Model_mayStand_10 rfl rfl ?_
      refine V_get F 0 CI_Model 19 i_Model rfl rfl (by decide) m_615 rfl rfl d_Model_mayStand_11 ?_
      refine V_iload_n F 1 d_Model_mayStand_14 rfl rfl ?_
      refine V_ialdnN F 5 0 (k := tm) rfl rfl (by omega) (by decide) d_Model_mayStand_15 ?_
      refine V_iadd F d_Model_mayStand_16 ?_
      refine V_top (y := nI ((10 * tm) + (pa tm))) (nI_add _ _) ?_
      refine V_icmpn_ge F 117 (a := s) (b := (10 * tm) + (pa tm)) (by omega) (by omega) d_Model_mayStand_17 (by decide) (fun h17 => ?_) (fun h17 => ?_)
      · skip
        refine V_iconst F (v := 1) d_Model_mayStand_117 rfl ?_
        exact V_zret F hr rfl () (bP_t (fun x hx => hI x (by omega))).symm [0, 1, 2, 3, 4, 5, 6] rfl rfl (by decide) (by decide) d_Model_mayStand_118
      · skip
        have hw8 := hw2 i (by omega)
        have hw81 : tk s ≤ 8 := by rw [hs]; exact hw8.1
        have hw82 : to s < 10 := by rw [hs]; exact hw8.2.1
        have hl8 : lo (to s) < 100 := by rw [hs]; exact hlo i (by omega)
        have hsS : s = 10 * tm + i := hs
        refine V_aload_n F 0 d_Model_mayStand_20 rfl rfl ?_
        refine V_aload_n F 0 d_Model_mayStand_21 rfl rfl ?_
        refine V_get F 0 CI_Model 14 i_Model rfl rfl (by decide) m_610 rfl rfl d_Model_mayStand_22 ?_
        refine V_iload_n F 2 d_Model_mayStand_25 rfl rfl ?_
        refine V_ialdnN F 3 0 (k := s) rfl rfl (by omega) (by decide) d_Model_mayStand_26 ?_
        refine V_aload_n F 0 d_Model_mayStand_27 rfl rfl ?_
        refine V_get F 0 CI_Model 20 i_Model rfl rfl (by decide) m_616 rfl rfl d_Model_mayStand_28 ?_
        refine V_aload_n F 0 d_Model_mayStand_31 rfl rfl ?_
        refine V_get F 0 CI_Model 15 i_Model rfl rfl (by decide) m_611 rfl rfl d_Model_mayStand_32 ?_
        refine V_iload_n F 2 d_Model_mayStand_35 rfl rfl ?_
        refine V_ialdnN F 4 0 (k := s) rfl rfl (by omega) (by decide) d_Model_mayStand_36 ?_
        refine V_ialdnN F 6 0 (k := to s) rfl rfl (by omega) (by decide) d_Model_mayStand_37 ?_
        refine V_callV_i (w1 := fun (u_ : Unit) => [(x0, .inr (CI_Model, [.int (nI th), .int (nI nn), .ref x1, .ref x2, .ref x3, .ref x4, .ref x5, .ref x6, .ref x7, .ref x8, .ref x9, .ref x10, .ref x11, .int (nI n), .ref x12, .ref x13, .ref x14, .ref x15, .ref x16, .ref x17, .ref x18, .ref x19, .ref x20, .int (bP bt), .int (nI sg)])), (x5, .inl (cI, 60, .inl (cN k))), (x6, .inl (cI, 60, .inl (cN o))), (x12, .inl (cI, 20, .inl (cN tk))), (x13, .inl (cI, 20, .inl (cN to))), (x17, .inl (cI, 2, .inl (cN pa))), (x18, .inl (cI, 10, .inl (cN lo)))]) (wr := [(x12, .inl (cI, 20, .inl (cN tk))), (x13, .inl (cI, 20, .inl (cN to))), (x17, .inl (cI, 2, .inl (cN pa))), (x18, .inl (cI, 10, .inl (cN lo)))]) (isC := [0, 1, 2]) (isR := [3, 4, 5, 6]) (pm := [4, 5, 6, 0, 1, 2, 3]) (As := [.int (nI (tk s)), .int (nI (lo (to s)))]) (rest := []) F (c_Model_mayDrive l D cI cL cB x0 x1 x2 x3 x4 x5 x6 x7 x8 x9 x10 x11 x12 x13 x14 x15 x16 x17 x18 x19 x20 th nn n sg bt k o (tk s) (lo (to s)) (by first | assumption | omega | (simp only [] at *; omega)) (by first | assumption | omega | (simp only [] at *; omega)) (by first | assumption | omega | (simp only [] at *; omega)) hl8 hw81) (cS_V 2 F.ts m_692 m_693 m_19 m_42 m_694 (by decide +kernel) ⟨Nat.le_of_ble_eq_true rfl, Nat.le_of_ble_eq_true rfl⟩) (ci := CI_Model) (q0 := 0) rfl rfl rfl (Nat.le_of_ble_eq_true rfl) d_Model_mayStand_38 ⟨Nat.le_of_ble_eq_true rfl, Nat.le_of_ble_eq_true rfl⟩ ⟨rfl, rfl, rfl, rfl, rfl, fun _ => rfl, rfl⟩ (fun r38 uu38 q38_ => ?_) rfl
        subst q38_
        refine V_ifb_ne F 46 d_Model_mayStand_41 (by decide) (fun h41 => ?_) (fun h41 => ?_)
        · skip
          refine V_bipush F (v := 10) d_Model_mayStand_46 rfl ?_
          refine V_iload_n F 1 d_Model_mayStand_48 rfl rfl ?_
          refine V_imul F d_Model_mayStand_49 ?_
          refine V_top (y := nI (10 * tm)) (pk_mul _ _) ?_
          refine V_istore_n F (lv' := [(3, .int (nI (10 * tm))), (0, .ref x0), (1, .int (nI tm)), (2, .int (nI s))]) d_Model_mayStand_50 rfl (by decide) rfl ?_
          have L51 : ∀ (f_ : Nat) (t : Nat) (s2 : Nat), i - t < f_ → (t ≤ i) → (s2 = 10 * tm + t) → (∀ x, x < t → ¬ (lo (sh tm to x) = lo (sh tm to i) ∧ ¬ (sh tm tk x = 6 ∧ sh tm tk i = 6))) → V p_ l e_ ({ frames := 1, cells := 0, slots := 0, locals := 23 }) s_ m_ args_ below_ meth_ c_ A_ (MQ below_ (cQi D classes (fun (r : Int32) (u_ : Unit) => r = bP (Stands n k o (pa tm) (sh tm tk) (sh tm to) lo)) (fun (u_ : Unit) => [(x0, .inr (CI_Model, [.int (nI th), .int (nI nn), .ref x1, .ref x2, .ref x3, .ref x4, .ref x5, .ref x6, .ref x7, .ref x8, .ref x9, .ref x10, .ref x11, .int (nI n), .ref x12, .ref x13, .ref x14, .ref x15, .ref x16, .ref x17, .ref x18, .ref x19, .ref x20, .int (bP bt), .int (nI sg)])), (x5, .inl (cI, 60, .inl (cN k))), (x6, .inl (cI, 60, .inl (cN o))), (x12, .inl (cI, 20, .inl (cN tk))), (x13, .inl (cI, 20, .inl (cN to))), (x17, .inl (cI, 2, .inl (cN pa))), (x18, .inl (cI, 10, .inl (cN lo)))]) A_) args_ s_ 0 0 A_) D classes 4 0 0 [(x0, .inr (CI_Model, [.int (nI th), .int (nI nn), .ref x1, .ref x2, .ref x3, .ref x4, .ref x5, .ref x6, .ref x7, .ref x8, .ref x9, .ref x10, .ref x11, .int (nI n), .ref x12, .ref x13, .ref x14, .ref x15, .ref x16, .ref x17, .ref x18, .ref x19, .ref x20, .int (bP bt), .int (nI sg)])), (x5, .inl (cI, 60, .inl (cN k))), (x6, .inl (cI, 60, .inl (cN o))), (x12, .inl (cI, 20, .inl (cN tk))), (x13, .inl (cI, 20, .inl (cN to))), (x17, .inl (cI, 2, .inl (cN pa))), (x18, .inl (cI, 10, .inl (cN lo)))] 51 [(0, .ref x0), (1, .int (nI tm)), (2, .int (nI s)), (3, .int (nI s2))] [] := by
            intro f_
            induction f_ with
            | zero => intro t s2 hm_; exact absurd hm_ (Nat.not_lt_zero _)
            | succ f_ ih51 =>
              intro t s2 hm51 ht hs2 hJ
              refine V_iload_n F 3 d_Model_mayStand_51 rfl rfl ?_
              refine V_iload_n F 2 d_Model_mayStand_52 rfl rfl ?_
              refine V_icmpn_ge F 111 (a := s2) (b := s) (by omega) (by omega) d_Model_mayStand_53 (by decide) (fun h53 => ?_) (fun h53 => ?_)
              · skip
                refine V_iinc F 2 (v := nI (s + 1)) (lv' := [(2, .int (nI (s + 1))), (0, .ref x0), (1, .int (nI tm)), (3, .int (nI s2))]) d_Model_mayStand_111 rfl (nI_inc _) (by decide) rfl ?_
                refine V_goto F 5 d_Model_mayStand_114 (by decide) ?_
                refine V_lv [1, 2, 0] rfl ?_
                exact ih5 (i + 1) (s + 1) (by omega) (by first | assumption | omega | (simp only [] at *; omega)) (by omega) (lt_s hI ⟨by rw [hsS] at h41; exact h41, fun ⟨x, h1, h2, h3⟩ => hJ x (by omega) ⟨h2, h3⟩⟩)
              · skip
                have hw9 := hw2 t (by omega)
                have hw91 : tk s2 ≤ 8 := by rw [hs2]; exact hw9.1
                have hw92 : to s2 < 10 := by rw [hs2]; exact hw9.2.1
                have hl9 : lo (to s2) < 100 := by rw [hs2]; exact hlo t (by omega)
                refine V_aload_n F 0 d_Model_mayStand_56 rfl rfl ?_
                refine V_get F 0 CI_Model 20 i_Model rfl rfl (by decide) m_616 rfl rfl d_Model_mayStand_57 ?_
                refine V_aload_n F 0 d_Model_mayStand_60 rfl rfl ?_
                refine V_get F 0 CI_Model 15 i_Model rfl rfl (by decide) m_611 rfl rfl d_Model_mayStand_61 ?_
                refine V_iload_n F 3 d_Model_mayStand_64 rfl rfl ?_
                refine V_ialdnN F 4 0 (k := s2) rfl rfl (by omega) (by decide) d_Model_mayStand_65 ?_
                refine V_ialdnN F 6 0 (k := to s2) rfl rfl (by omega) (by decide) d_Model_mayStand_66 ?_
                refine V_aload_n F 0 d_Model_mayStand_67 rfl rfl ?_
                refine V_get F 0 CI_Model 20 i_Model rfl rfl (by decide) m_616 rfl rfl d_Model_mayStand_68 ?_
                refine V_aload_n F 0 d_Model_mayStand_71 rfl rfl ?_
                refine V_get F 0 CI_Model 15 i_Model rfl rfl (by decide) m_611 rfl rfl d_Model_mayStand_72 ?_
                refine V_iload_n F 2 d_Model_mayStand_75 rfl rfl ?_
                refine V_ialdnN F 4 0 (k := s) rfl rfl (by omega) (by decide) d_Model_mayStand_76 ?_
                refine V_ialdnN F 6 0 (k := to s) rfl rfl (by omega) (by decide) d_Model_mayStand_77 ?_
                refine V_icmpn_ne F 105 (a := lo (to s2)) (b := lo (to s)) (by omega) (by omega) d_Model_mayStand_78 (by decide) (fun h78 => ?_) (fun h78 => ?_)
                · skip
                  refine V_iinc F 3 (v := nI (s2 + 1)) (lv' := [(3, .int (nI (s2 + 1))), (0, .ref x0), (1, .int (nI tm)), (2, .int (nI s))]) d_Model_mayStand_105 rfl (nI_inc _) (by decide) rfl ?_
                  refine V_goto F 51 d_Model_mayStand_108 (by decide) ?_
                  refine V_lv [1, 2, 3, 0] rfl ?_
                  exact ih51 (t + 1) (s2 + 1) (by omega) (by first | assumption | omega | (simp only [] at *; omega)) (by omega) (lt_s hJ (fun z => by have z1 := z.1; have z2 := z.2; unfold sh at z1 z2; rw [← hs, ← hs2] at z1 z2; omega))
                · skip
                  refine V_aload_n F 0 d_Model_mayStand_81 rfl rfl ?_
                  refine V_get F 0 CI_Model 14 i_Model rfl rfl (by decide) m_610 rfl rfl d_Model_mayStand_82 ?_
                  refine V_iload_n F 2 d_Model_mayStand_85 rfl rfl ?_
                  refine V_ialdnN F 3 0 (k := s) rfl rfl (by omega) (by decide) d_Model_mayStand_86 ?_
                  refine V_bipush F (v := 6) d_Model_mayStand_87 rfl ?_
                  refine V_icmpn_ne F 103 (a := tk s) (b := 6) (by omega) (by omega) d_Model_mayStand_89 (by decide) (fun h89 => ?_) (fun h89 => ?_)
                  · skip
                    refine V_iconst F (v := 0) d_Model_mayStand_103 rfl ?_
                    exact V_zret F hr rfl () (bP_f (fun z => (z i (by omega)).2 ⟨t, by omega, by unfold sh; rw [← hs, ← hs2]; exact h78, by unfold sh; rw [← hs, ← hs2]; omega⟩)).symm [0, 1, 2, 3, 4, 5, 6] rfl rfl (by decide) (by decide) d_Model_mayStand_104
                  · skip
                    refine V_aload_n F 0 d_Model_mayStand_92 rfl rfl ?_
                    refine V_get F 0 CI_Model 14 i_Model rfl rfl (by decide) m_610 rfl rfl d_Model_mayStand_93 ?_
                    refine V_iload_n F 3 d_Model_mayStand_96 rfl rfl ?_
                    refine V_ialdnN F 3 0 (k := s2) rfl rfl (by omega) (by decide) d_Model_mayStand_97 ?_
                    refine V_bipush F (v := 6) d_Model_mayStand_98 rfl ?_
                    refine V_icmpn_eq F 105 (a := tk s2) (b := 6) (by omega) (by omega) d_Model_mayStand_100 (by decide) (fun h100 => ?_) (fun h100 => ?_)
                    · skip
                      refine V_iinc F 3 (v := nI (s2 + 1)) (lv' := [(3, .int (nI (s2 + 1))), (0, .ref x0), (1, .int (nI tm)), (2, .int (nI s))]) d_Model_mayStand_105 rfl (nI_inc _) (by decide) rfl ?_
                      refine V_goto F 51 d_Model_mayStand_108 (by decide) ?_
                      refine V_lv [1, 2, 3, 0] rfl ?_
                      exact ih51 (t + 1) (s2 + 1) (by omega) (by first | assumption | omega | (simp only [] at *; omega)) (by omega) (lt_s hJ (fun z => by have z1 := z.1; have z2 := z.2; unfold sh at z1 z2; rw [← hs, ← hs2] at z1 z2; omega))
                    · skip
                      refine V_iconst F (v := 0) d_Model_mayStand_103 rfl ?_
                      exact V_zret F hr rfl () (bP_f (fun z => (z i (by omega)).2 ⟨t, by omega, by unfold sh; rw [← hs, ← hs2]; exact h78, by unfold sh; rw [← hs, ← hs2]; omega⟩)).symm [0, 1, 2, 3, 4, 5, 6] rfl rfl (by decide) (by decide) d_Model_mayStand_104
          refine V_lv [1, 2, 3, 0] rfl ?_
          exact L51 ((i - 0) + 1) 0 (10 * tm) (Nat.lt_succ_self _) (by first | assumption | omega | (simp only [] at *; omega)) rfl (fun t h => absurd h (Nat.not_lt_zero t))
        · skip
          refine V_iconst F (v := 0) d_Model_mayStand_44 rfl ?_
          exact V_zret F hr rfl () (bP_f (fun z => h41 (by rw [hs]; exact (z i (by omega)).1))).symm [0, 1, 2, 3, 4, 5, 6] rfl rfl (by decide) (by decide) d_Model_mayStand_45
  refine V_lv [1, 2, 0] rfl ?_
  exact L5 ((pa tm - 0) + 1) 0 (10 * tm) (Nat.lt_succ_self _) (by first | assumption | omega | (simp only [] at *; omega)) rfl (fun t h => absurd h (Nat.not_lt_zero t))
