set_option maxHeartbeats 4000000 in
set_option maxRecDepth 100000 in
theorem c_Nets_beginSettling (l : Launch) (D : va_G) (cI cL cB : ClassId) (m0 : Nat) (m1 : Nat) (m2 : Nat) (m3 : Nat) (m4 : Nat) (nn : Nat) (v : Nat → Nat) (cm : Nat → Nat) (sk : Nat → Nat) (tn : Nat → Nat) (hnn : nn ≤ 80) (hsk : ∀ j, j < nn → sk j ≤ 3) : Ctv l y_Nets_beginSettling (wK w_Nets_beginSettling) ({ frames := 0, cells := 0, slots := 0, locals := 0 }) D classes (TY cI cL cB) [.ref m0] [(m0, .inr (CI_Nets, [.ref m1, .ref m2, .ref m3, .ref m4, .int (nI nn)])), (m1, .inl (cI, 80, .inl (cN v))), (m2, .inl (cI, 80, .inl (cN cm))), (m3, .inl (cI, 80, .inl (cS sk))), (m4, .inl (cI, 80, .inl (cN tn)))] (fun (u_ : (Nat → Nat)) => ∀ j, j < nn → u_ j = if sk j = 0 then 3 else sk j - 1) (fun (u_ : (Nat → Nat)) => [(m0, .inr (CI_Nets, [.ref m1, .ref m2, .ref m3, .ref m4, .int (nI nn)])), (m1, .inl (cI, 80, .inl (cN v))), (m2, .inl (cI, 80, .inl (cN u_))), (m3, .inl (cI, 80, .inl (cS sk))), (m4, .inl (cI, 80, .inl (cN tn)))]) 0 0 := by
  refine Ctg_of (cc := prog_6_method_2_code) (maxL := 2) (ret := none) "CircuitSimulator$Nets" [(0, .ref m0)] (by decide) rfl rfl (Nat.le_of_ble_eq_true rfl) rfl ?_
  intro p_ e_ s_ m_ args_ below_ meth_ c_ A_ F hr hin
  refine V_iconst F (v := 0) d_Nets_beginSettling_0 rfl ?_
  refine V_istore_n F (lv' := [(1, .int (nI 0)), (0, .ref m0)]) d_Nets_beginSettling_1 rfl (by decide) rfl ?_
  have L2 : ∀ (f_ : Nat) (i : Nat) (cm2 : Nat → Nat), nn - i < f_ → (i ≤ nn) → (∀ j, j < i → cm2 j = if sk j = 0 then 3 else sk j - 1) → V p_ l e_ ({ frames := 0, cells := 0, slots := 0, locals := 0 }) s_ m_ args_ below_ meth_ c_ A_ (MQ below_ (cQv D classes (fun (u_ : (Nat → Nat)) => ∀ j, j < nn → u_ j = if sk j = 0 then 3 else sk j - 1) (fun (u_ : (Nat → Nat)) => [(m0, .inr (CI_Nets, [.ref m1, .ref m2, .ref m3, .ref m4, .int (nI nn)])), (m1, .inl (cI, 80, .inl (cN v))), (m2, .inl (cI, 80, .inl (cN u_))), (m3, .inl (cI, 80, .inl (cS sk))), (m4, .inl (cI, 80, .inl (cN tn)))]) A_) args_ s_ 0 0 A_) D classes 2 0 0 [(m0, .inr (CI_Nets, [.ref m1, .ref m2, .ref m3, .ref m4, .int (nI nn)])), (m1, .inl (cI, 80, .inl (cN v))), (m2, .inl (cI, 80, .inl (cN cm2))), (m3, .inl (cI, 80, .inl (cS sk))), (m4, .inl (cI, 80, .inl (cN tn)))] 2 [(0, .ref m0), (1, .int (nI i))] [] := by
    intro f_
    induction f_ with
    | zero => intro i cm2 hm_; exact absurd hm_ (Nat.not_lt_zero _)
    | succ f_ ih2 =>
      intro i cm2 hm2 hi hI
      refine V_iload_n F 1 d_Nets_beginSettling_2 rfl rfl ?_
      refine V_aload_n F 0 d_Nets_beginSettling_3 rfl rfl ?_
      refine V_get F 0 CI_Nets 4 i_Nets rfl rfl (by decide) m_118 rfl rfl d_Nets_beginSettling_4 ?_
      refine V_icmpn_ge F 42 (a := i) (b := nn) (by omega) (by omega) d_Nets_beginSettling_7 (by decide) (fun h7 => ?_) (fun h7 => ?_)
      · skip
        exact V_vret F hr cm2 (fun j hj => hI j (by omega)) [0, 1, 2, 3, 4] rfl rfl (by decide) (by decide) d_Nets_beginSettling_42
      · skip
        have hs8 := hsk i (by omega)
        refine V_aload_n F 0 d_Nets_beginSettling_10 rfl rfl ?_
        refine V_get F 0 CI_Nets 1 i_Nets rfl rfl (by decide) m_112 rfl rfl d_Nets_beginSettling_11 ?_
        refine V_iload_n F 1 d_Nets_beginSettling_14 rfl rfl ?_
        refine V_aload_n F 0 d_Nets_beginSettling_15 rfl rfl ?_
        refine V_get F 0 CI_Nets 2 i_Nets rfl rfl (by decide) m_114 rfl rfl d_Nets_beginSettling_16 ?_
        refine V_iload_n F 1 d_Nets_beginSettling_19 rfl rfl ?_
        refine V_ialdnS F 3 0 (k := i) rfl rfl (by omega) (by decide) d_Nets_beginSettling_20 ?_
        refine V_iconst F (v := (-1)) d_Nets_beginSettling_21 rfl ?_
        refine V_icmps_ne F 29 (a := sk i) (by omega) d_Nets_beginSettling_22 (by decide) (fun h22 => ?_) (fun h22 => ?_)
        · skip
          refine V_aload_n F 0 d_Nets_beginSettling_29 rfl rfl ?_
          refine V_get F 0 CI_Nets 2 i_Nets rfl rfl (by decide) m_114 rfl rfl d_Nets_beginSettling_30 ?_
          refine V_iload_n F 1 d_Nets_beginSettling_33 rfl rfl ?_
          refine V_ialdnS F 3 0 (k := i) rfl rfl (by omega) (by decide) d_Nets_beginSettling_34 ?_
          refine V_top (y := nI (sk i - 1)) (st_sub (by omega)) ?_
          refine V_iastn F 2 0 (k := i) (w' := [(m0, .inr (CI_Nets, [.ref m1, .ref m2, .ref m3, .ref m4, .int (nI nn)])), (m1, .inl (cI, 80, .inl (cN v))), (m2, .inl (cI, 80, .inl (cN (up cm2 i (sk i - 1))))), (m3, .inl (cI, 80, .inl (cS sk))), (m4, .inl (cI, 80, .inl (cN tn)))]) rfl rfl (by omega) (by decide) (by rw [upd_cN] <;> rfl) d_Nets_beginSettling_35 ?_
          refine V_iinc F 1 (v := nI (i + 1)) (lv' := [(1, .int (nI (i + 1))), (0, .ref m0)]) d_Nets_beginSettling_36 rfl (nI_inc _) (by decide) rfl ?_
          refine V_goto F 2 d_Nets_beginSettling_39 (by decide) ?_
          refine V_lv [1, 0] rfl ?_
          exact ih2 (i + 1) (up cm2 i (sk i - 1)) (by omega) (by first | assumption | omega | (simp only [] at *; omega)) (up_all hI (by first | (rw [if_pos (by assumption)]; done) | (rw [if_neg (by assumption)]; done)))
        · skip
          refine V_iconst F (v := 3) d_Nets_beginSettling_25 rfl ?_
          refine V_goto F 35 d_Nets_beginSettling_26 (by decide) ?_
          refine V_top (y := nI 3) rfl ?_
          refine V_iastn F 2 0 (k := i) (w' := [(m0, .inr (CI_Nets, [.ref m1, .ref m2, .ref m3, .ref m4, .int (nI nn)])), (m1, .inl (cI, 80, .inl (cN v))), (m2, .inl (cI, 80, .inl (cN (up cm2 i 3)))), (m3, .inl (cI, 80, .inl (cS sk))), (m4, .inl (cI, 80, .inl (cN tn)))]) rfl rfl (by omega) (by decide) (by rw [upd_cN] <;> rfl) d_Nets_beginSettling_35 ?_
          refine V_iinc F 1 (v := nI (i + 1)) (lv' := [(1, .int (nI (i + 1))), (0, .ref m0)]) d_Nets_beginSettling_36 rfl (nI_inc _) (by decide) rfl ?_
          refine V_goto F 2 d_Nets_beginSettling_39 (by decide) ?_
          refine V_lv [1, 0] rfl ?_
          exact ih2 (i + 1) (up cm2 i 3) (by omega) (by first | assumption | omega | (simp only [] at *; omega)) (up_all hI (by first | (rw [if_pos (by assumption)]; done) | (rw [if_neg (by assumption)]; done)))
  refine V_lv [1, 0] rfl ?_
  exact L2 ((nn - 0) + 1) 0 cm (Nat.lt_succ_self _) (by first | assumption | omega | (simp only [] at *; omega)) (fun t h => absurd h (Nat.not_lt_zero t))

set_option maxHeartbeats 4000000 in
set_option maxRecDepth 100000 in
theorem c_Nets_drive (l : Launch) (D : va_G) (cI cL cB : ClassId) (m0 : Nat) (m1 : Nat) (m2 : Nat) (m3 : Nat) (m4 : Nat) (nn : Nat) (v : Nat → Nat) (cm : Nat → Nat) (sk : Nat → Nat) (tn : Nat → Nat) (j : Nat) (d : Nat) (hnn : nn ≤ 80) (hj : j < 80) (hsk : sk j ≤ 3) (hc : cm j ≤ 3) (hd : d ≤ 3) : Ctv l y_Nets_drive (wK w_Nets_drive) ({ frames := 1, cells := 0, slots := 0, locals := 21 }) D classes (TY cI cL cB) [.ref m0, .int (nI j), .int (nI d)] [(m0, .inr (CI_Nets, [.ref m1, .ref m2, .ref m3, .ref m4, .int (nI nn)])), (m1, .inl (cI, 80, .inl (cN v))), (m2, .inl (cI, 80, .inl (cN cm))), (m3, .inl (cI, 80, .inl (cS sk))), (m4, .inl (cI, 80, .inl (cN tn)))] (fun (u_ : (Nat → Nat)) => u_ = if sk j = 0 then up cm j (jn (cm j) d) else cm) (fun (u_ : (Nat → Nat)) => [(m0, .inr (CI_Nets, [.ref m1, .ref m2, .ref m3, .ref m4, .int (nI nn)])), (m1, .inl (cI, 80, .inl (cN v))), (m2, .inl (cI, 80, .inl (cN u_))), (m3, .inl (cI, 80, .inl (cS sk))), (m4, .inl (cI, 80, .inl (cN tn)))]) 0 0 := by
  refine Ctg_of (cc := prog_6_method_3_code) (maxL := 3) (ret := none) "CircuitSimulator$Nets" [(0, .ref m0), (1, .int (nI j)), (2, .int (nI d))] (by decide) rfl rfl (Nat.le_of_ble_eq_true rfl) rfl ?_
  intro p_ e_ s_ m_ args_ below_ meth_ c_ A_ F hr hin
  refine V_aload_n F 0 d_Nets_drive_0 rfl rfl ?_
  refine V_get F 0 CI_Nets 2 i_Nets rfl rfl (by decide) m_114 rfl rfl d_Nets_drive_1 ?_
  refine V_iload_n F 1 d_Nets_drive_4 rfl rfl ?_
  refine V_ialdnS F 3 0 (k := j) rfl rfl (by omega) (by decide) d_Nets_drive_5 ?_
  refine V_iconst F (v := (-1)) d_Nets_drive_6 rfl ?_
  refine V_icmps_ne F 26 (a := sk j) (by omega) d_Nets_drive_7 (by decide) (fun h7 => ?_) (fun h7 => ?_)
  · skip
    exact V_vret F hr cm (by first | rw [if_pos (by assumption)] | rw [if_neg (by assumption)]) [0, 1, 2, 3, 4] rfl rfl (by decide) (by decide) d_Nets_drive_26
  · skip
    refine V_aload_n F 0 d_Nets_drive_10 rfl rfl ?_
    refine V_get F 0 CI_Nets 1 i_Nets rfl rfl (by decide) m_112 rfl rfl d_Nets_drive_11 ?_
    refine V_iload_n F 1 d_Nets_drive_14 rfl rfl ?_
    refine V_aload_n F 0 d_Nets_drive_15 rfl rfl ?_
    refine V_get F 0 CI_Nets 1 i_Nets rfl rfl (by decide) m_112 rfl rfl d_Nets_drive_16 ?_
    refine V_iload_n F 1 d_Nets_drive_19 rfl rfl ?_
    refine V_ialdnN F 2 0 (k := j) rfl rfl (by omega) (by decide) d_Nets_drive_20 ?_
    refine V_iload_n F 2 d_Nets_drive_21 rfl rfl ?_
    refine V_callS_i (w1 := fun (u_ : Unit) => [(m0, .inr (CI_Nets, [.ref m1, .ref m2, .ref m3, .ref m4, .int (nI nn)])), (m1, .inl (cI, 80, .inl (cN v))), (m2, .inl (cI, 80, .inl (cN cm))), (m3, .inl (cI, 80, .inl (cS sk))), (m4, .inl (cI, 80, .inl (cN tn)))]) (wr := [(m0, .inr (CI_Nets, [.ref m1, .ref m2, .ref m3, .ref m4, .int (nI nn)])), (m1, .inl (cI, 80, .inl (cN v))), (m2, .inl (cI, 80, .inl (cN cm))), (m3, .inl (cI, 80, .inl (cS sk))), (m4, .inl (cI, 80, .inl (cN tn)))]) (isC := []) (isR := [0, 1, 2, 3, 4]) (pm := [0, 1, 2, 3, 4]) (As := [.int (nI (cm j)), .int (nI d)]) (rest := [.int (nI j), .ref m2]) F (c_Logic_together l D cI cL cB (cm j) d (by first | assumption | omega | (simp only [] at *; omega)) (by first | assumption | omega | (simp only [] at *; omega))) (cS_S 2 F.ts m_288 m_289 m_49 m_290 (by decide +kernel) ⟨Nat.le_of_ble_eq_true rfl, Nat.le_of_ble_eq_true rfl⟩) rfl (Nat.le_of_ble_eq_true rfl) d_Nets_drive_22 ⟨Nat.le_of_ble_eq_true rfl, Nat.le_of_ble_eq_true rfl⟩ ⟨rfl, rfl, rfl, rfl, rfl, fun _ => rfl, rfl⟩ (fun r22 uu22 q22_ => ?_) rfl
    subst q22_
    refine V_iastn F 2 0 (k := j) (w' := [(m0, .inr (CI_Nets, [.ref m1, .ref m2, .ref m3, .ref m4, .int (nI nn)])), (m1, .inl (cI, 80, .inl (cN v))), (m2, .inl (cI, 80, .inl (cN (up cm j (jn (cm j) d))))), (m3, .inl (cI, 80, .inl (cS sk))), (m4, .inl (cI, 80, .inl (cN tn)))]) rfl rfl (by omega) (by decide) (by rw [upd_cN] <;> rfl) d_Nets_drive_25 ?_
    exact V_vret F hr (up cm j (jn (cm j) d)) (by first | rw [if_pos (by assumption)] | rw [if_neg (by assumption)]) [0, 1, 2, 3, 4] rfl rfl (by decide) (by decide) d_Nets_drive_26

set_option maxHeartbeats 4000000 in
set_option maxRecDepth 100000 in
theorem c_Nets_endSettling (l : Launch) (D : va_G) (cI cL cB : ClassId) (m0 : Nat) (m1 : Nat) (m2 : Nat) (m3 : Nat) (m4 : Nat) (nn : Nat) (v : Nat → Nat) (cm : Nat → Nat) (sk : Nat → Nat) (tn : Nat → Nat) (hnn : nn ≤ 80) (hv : ∀ j, j < nn → v j ≤ 3) (hc : ∀ j, j < nn → cm j ≤ 3) : Ctv l y_Nets_endSettling (wK w_Nets_endSettling) ({ frames := 1, cells := 0, slots := 0, locals := 21 }) D classes (TY cI cL cB) [.ref m0] [(m0, .inr (CI_Nets, [.ref m1, .ref m2, .ref m3, .ref m4, .int (nI nn)])), (m1, .inl (cI, 80, .inl (cN v))), (m2, .inl (cI, 80, .inl (cN cm))), (m3, .inl (cI, 80, .inl (cS sk))), (m4, .inl (cI, 80, .inl (cN tn)))] (fun (u_ : (Nat → Nat) × (Nat → Nat)) => (∀ j, u_.1 j = if j < nn then cm j else v j) ∧ (∀ j, u_.2 j = if j < nn then tn j + tnF (v j) (cm j) else tn j)) (fun (u_ : (Nat → Nat) × (Nat → Nat)) => [(m0, .inr (CI_Nets, [.ref m1, .ref m2, .ref m3, .ref m4, .int (nI nn)])), (m1, .inl (cI, 80, .inl (cN u_.1))), (m2, .inl (cI, 80, .inl (cN cm))), (m3, .inl (cI, 80, .inl (cS sk))), (m4, .inl (cI, 80, .inl (cN u_.2)))]) 0 0 := by
  refine Ctg_of (cc := prog_6_method_4_code) (maxL := 2) (ret := none) "CircuitSimulator$Nets" [(0, .ref m0)] (by decide) rfl rfl (Nat.le_of_ble_eq_true rfl) rfl ?_
  intro p_ e_ s_ m_ args_ below_ meth_ c_ A_ F hr hin
  refine V_iconst F (v := 0) d_Nets_endSettling_0 rfl ?_
  refine V_istore_n F (lv' := [(1, .int (nI 0)), (0, .ref m0)]) d_Nets_endSettling_1 rfl (by decide) rfl ?_
  have L2 : ∀ (f_ : Nat) (i : Nat) (v2 : Nat → Nat) (tn2 : Nat → Nat), nn - i < f_ → (i ≤ nn) → (∀ j, v2 j = if j < i then cm j else v j) → (∀ j, tn2 j = if j < i then tn j + tnF (v j) (cm j) else tn j) → V p_ l e_ ({ frames := 1, cells := 0, slots := 0, locals := 21 }) s_ m_ args_ below_ meth_ c_ A_ (MQ below_ (cQv D classes (fun (u_ : (Nat → Nat) × (Nat → Nat)) => (∀ j, u_.1 j = if j < nn then cm j else v j) ∧ (∀ j, u_.2 j = if j < nn then tn j + tnF (v j) (cm j) else tn j)) (fun (u_ : (Nat → Nat) × (Nat → Nat)) => [(m0, .inr (CI_Nets, [.ref m1, .ref m2, .ref m3, .ref m4, .int (nI nn)])), (m1, .inl (cI, 80, .inl (cN u_.1))), (m2, .inl (cI, 80, .inl (cN cm))), (m3, .inl (cI, 80, .inl (cS sk))), (m4, .inl (cI, 80, .inl (cN u_.2)))]) A_) args_ s_ 0 0 A_) D classes 2 0 0 [(m0, .inr (CI_Nets, [.ref m1, .ref m2, .ref m3, .ref m4, .int (nI nn)])), (m1, .inl (cI, 80, .inl (cN v2))), (m2, .inl (cI, 80, .inl (cN cm))), (m3, .inl (cI, 80, .inl (cS sk))), (m4, .inl (cI, 80, .inl (cN tn2)))] 2 [(0, .ref m0), (1, .int (nI i))] [] := by
    intro f_
    induction f_ with
    | zero => intro i v2 tn2 hm_; exact absurd hm_ (Nat.not_lt_zero _)
    | succ f_ ih2 =>
      intro i v2 tn2 hm2 hi hI hT
      refine V_iload_n F 1 d_Nets_endSettling_2 rfl rfl ?_
      refine V_aload_n F 0 d_Nets_endSettling_3 rfl rfl ?_
      refine V_get F 0 CI_Nets 4 i_Nets rfl rfl (by decide) m_118 rfl rfl d_Nets_endSettling_4 ?_
      refine V_icmpn_ge F 56 (a := i) (b := nn) (by omega) (by omega) d_Nets_endSettling_7 (by decide) (fun h7 => ?_) (fun h7 => ?_)
      · skip
        exact V_vret F hr (v2, tn2) (show (∀ j, v2 j = if j < nn then cm j else v j) ∧ (∀ j, tn2 j = if j < nn then tn j + tnF (v j) (cm j) else tn j) from ⟨fun j => by rw [hI j, show i = nn by omega], fun j => by rw [hT j, show i = nn by omega]⟩) [0, 1, 2, 3, 4] rfl rfl (by decide) (by decide) d_Nets_endSettling_56
      · skip
        have hv8 : v2 i = v i := by rw [hI i, if_neg (Nat.lt_irrefl i)]
        have ht8 : tn2 i = tn i := by rw [hT i, if_neg (Nat.lt_irrefl i)]
        have hv9 := hv i (by omega)
        have hc9 := hc i (by omega)
        rw [← hv8] at hv9
        refine V_aload_n F 0 d_Nets_endSettling_10 rfl rfl ?_
        refine V_get F 0 CI_Nets 0 i_Nets rfl rfl (by decide) m_110 rfl rfl d_Nets_endSettling_11 ?_
        refine V_iload_n F 1 d_Nets_endSettling_14 rfl rfl ?_
        refine V_ialdnN F 1 0 (k := i) rfl rfl (by omega) (by decide) d_Nets_endSettling_15 ?_
        refine V_aload_n F 0 d_Nets_endSettling_16 rfl rfl ?_
        refine V_get F 0 CI_Nets 1 i_Nets rfl rfl (by decide) m_112 rfl rfl d_Nets_endSettling_17 ?_
        refine V_iload_n F 1 d_Nets_endSettling_20 rfl rfl ?_
        refine V_ialdnN F 2 0 (k := i) rfl rfl (by omega) (by decide) d_Nets_endSettling_21 ?_
        refine V_callS_i (w1 := fun (u_ : Unit) => [(m0, .inr (CI_Nets, [.ref m1, .ref m2, .ref m3, .ref m4, .int (nI nn)])), (m1, .inl (cI, 80, .inl (cN v2))), (m2, .inl (cI, 80, .inl (cN cm))), (m3, .inl (cI, 80, .inl (cS sk))), (m4, .inl (cI, 80, .inl (cN tn2)))]) (wr := [(m0, .inr (CI_Nets, [.ref m1, .ref m2, .ref m3, .ref m4, .int (nI nn)])), (m1, .inl (cI, 80, .inl (cN v2))), (m2, .inl (cI, 80, .inl (cN cm))), (m3, .inl (cI, 80, .inl (cS sk))), (m4, .inl (cI, 80, .inl (cN tn2)))]) (isC := []) (isR := [0, 1, 2, 3, 4]) (pm := [0, 1, 2, 3, 4]) (As := [.int (nI (v2 i)), .int (nI (cm i))]) (rest := []) F (c_Logic_turns l D cI cL cB (v2 i) (cm i) (by omega) (by omega)) (cS_S 2 F.ts m_295 m_296 m_49 m_297 (by decide +kernel) ⟨Nat.le_of_ble_eq_true rfl, Nat.le_of_ble_eq_true rfl⟩) rfl (Nat.le_of_ble_eq_true rfl) d_Nets_endSettling_22 ⟨Nat.le_of_ble_eq_true rfl, Nat.le_of_ble_eq_true rfl⟩ ⟨rfl, rfl, rfl, rfl, rfl, fun _ => rfl, rfl⟩ (fun r22 uu22 q22_ => ?_) rfl
        subst q22_
        refine V_ifb_eq F 38 d_Nets_endSettling_25 (by decide) (fun h25 => ?_) (fun h25 => ?_)
        · skip
          refine V_aload_n F 0 d_Nets_endSettling_38 rfl rfl ?_
          refine V_get F 0 CI_Nets 0 i_Nets rfl rfl (by decide) m_110 rfl rfl d_Nets_endSettling_39 ?_
          refine V_iload_n F 1 d_Nets_endSettling_42 rfl rfl ?_
          refine V_aload_n F 0 d_Nets_endSettling_43 rfl rfl ?_
          refine V_get F 0 CI_Nets 1 i_Nets rfl rfl (by decide) m_112 rfl rfl d_Nets_endSettling_44 ?_
          refine V_iload_n F 1 d_Nets_endSettling_47 rfl rfl ?_
          refine V_ialdnN F 2 0 (k := i) rfl rfl (by omega) (by decide) d_Nets_endSettling_48 ?_
          refine V_iastn F 1 0 (k := i) (w' := [(m0, .inr (CI_Nets, [.ref m1, .ref m2, .ref m3, .ref m4, .int (nI nn)])), (m1, .inl (cI, 80, .inl (cN (up v2 i (cm i))))), (m2, .inl (cI, 80, .inl (cN cm))), (m3, .inl (cI, 80, .inl (cS sk))), (m4, .inl (cI, 80, .inl (cN tn2)))]) rfl rfl (by omega) (by decide) (by rw [upd_cN] <;> rfl) d_Nets_endSettling_49 ?_
          refine V_iinc F 1 (v := nI (i + 1)) (lv' := [(1, .int (nI (i + 1))), (0, .ref m0)]) d_Nets_endSettling_50 rfl (nI_inc _) (by decide) rfl ?_
          refine V_goto F 2 d_Nets_endSettling_53 (by decide) ?_
          refine V_lv [1, 0] rfl ?_
          exact ih2 (i + 1) (up v2 i (cm i)) tn2 (by omega) (by first | assumption | omega | (simp only [] at *; omega)) (up_if hI) (up_if3 hT (by rw [tnF_f (hv8 ▸ h25)]; rfl))
        · skip
          refine V_aload_n F 0 d_Nets_endSettling_28 rfl rfl ?_
          refine V_get F 0 CI_Nets 3 i_Nets rfl rfl (by decide) m_116 rfl rfl d_Nets_endSettling_29 ?_
          refine V_iload_n F 1 d_Nets_endSettling_32 rfl rfl ?_
          refine V_dup2 F d_Nets_endSettling_33 rfl rfl ?_
          refine V_ialdnN F 4 0 (k := i) rfl rfl (by omega) (by decide) d_Nets_endSettling_34 ?_
          refine V_iconst F (v := 1) d_Nets_endSettling_35 rfl ?_
          refine V_iadd F d_Nets_endSettling_36 ?_
          refine V_top (y := nI ((tn2 i) + 1)) (nI_add _ _) ?_
          refine V_iastn F 4 0 (k := i) (w' := [(m0, .inr (CI_Nets, [.ref m1, .ref m2, .ref m3, .ref m4, .int (nI nn)])), (m1, .inl (cI, 80, .inl (cN v2))), (m2, .inl (cI, 80, .inl (cN cm))), (m3, .inl (cI, 80, .inl (cS sk))), (m4, .inl (cI, 80, .inl (cN (up tn2 i ((tn2 i) + 1)))))]) rfl rfl (by omega) (by decide) (by rw [upd_cN] <;> rfl) d_Nets_endSettling_37 ?_
          refine V_aload_n F 0 d_Nets_endSettling_38 rfl rfl ?_
          refine V_get F 0 CI_Nets 0 i_Nets rfl rfl (by decide) m_110 rfl rfl d_Nets_endSettling_39 ?_
          refine V_iload_n F 1 d_Nets_endSettling_42 rfl rfl ?_
          refine V_aload_n F 0 d_Nets_endSettling_43 rfl rfl ?_
          refine V_get F 0 CI_Nets 1 i_Nets rfl rfl (by decide) m_112 rfl rfl d_Nets_endSettling_44 ?_
          refine V_iload_n F 1 d_Nets_endSettling_47 rfl rfl ?_
          refine V_ialdnN F 2 0 (k := i) rfl rfl (by omega) (by decide) d_Nets_endSettling_48 ?_
          refine V_iastn F 1 0 (k := i) (w' := [(m0, .inr (CI_Nets, [.ref m1, .ref m2, .ref m3, .ref m4, .int (nI nn)])), (m1, .inl (cI, 80, .inl (cN (up v2 i (cm i))))), (m2, .inl (cI, 80, .inl (cN cm))), (m3, .inl (cI, 80, .inl (cS sk))), (m4, .inl (cI, 80, .inl (cN (up tn2 i ((tn2 i) + 1)))))]) rfl rfl (by omega) (by decide) (by rw [upd_cN] <;> rfl) d_Nets_endSettling_49 ?_
          refine V_iinc F 1 (v := nI (i + 1)) (lv' := [(1, .int (nI (i + 1))), (0, .ref m0)]) d_Nets_endSettling_50 rfl (nI_inc _) (by decide) rfl ?_
          refine V_goto F 2 d_Nets_endSettling_53 (by decide) ?_
          refine V_lv [1, 0] rfl ?_
          exact ih2 (i + 1) (up v2 i (cm i)) (up tn2 i ((tn2 i) + 1)) (by omega) (by first | assumption | omega | (simp only [] at *; omega)) (up_if hI) (up_if2 hT (by rw [ht8, tnF_t (hv8 ▸ h25)]))
  refine V_lv [1, 0] rfl ?_
  exact L2 ((nn - 0) + 1) 0 v tn (Nat.lt_succ_self _) (by first | assumption | omega | (simp only [] at *; omega)) (fun j => by rw [if_neg (Nat.not_lt_zero j)]) (fun j => by rw [if_neg (Nat.not_lt_zero j)])

set_option maxHeartbeats 4000000 in
set_option maxRecDepth 100000 in
theorem c_Nets_withValue (l : Launch) (D : va_G) (cI cL cB : ClassId) (m0 : Nat) (m1 : Nat) (m2 : Nat) (m3 : Nat) (m4 : Nat) (nn : Nat) (v : Nat → Nat) (cm : Nat → Nat) (sk : Nat → Nat) (tn : Nat → Nat) (x : Nat) (hnn : nn ≤ 80) (hv : ∀ j, j < nn → v j ≤ 3) (hx : x ≤ 3) : Cti l y_Nets_withValue (wK w_Nets_withValue) ({ frames := 0, cells := 0, slots := 0, locals := 0 }) D classes (TY cI cL cB) [.ref m0, .int (nI x)] [(m0, .inr (CI_Nets, [.ref m1, .ref m2, .ref m3, .ref m4, .int (nI nn)])), (m1, .inl (cI, 80, .inl (cN v))), (m2, .inl (cI, 80, .inl (cN cm))), (m3, .inl (cI, 80, .inl (cS sk))), (m4, .inl (cI, 80, .inl (cN tn)))] (fun (r : Int32) (u_ : Unit) => r = nI (cnt (fun j => v j = x) nn)) (fun (u_ : Unit) => [(m0, .inr (CI_Nets, [.ref m1, .ref m2, .ref m3, .ref m4, .int (nI nn)])), (m1, .inl (cI, 80, .inl (cN v))), (m2, .inl (cI, 80, .inl (cN cm))), (m3, .inl (cI, 80, .inl (cS sk))), (m4, .inl (cI, 80, .inl (cN tn)))]) 0 0 := by
  refine Ctg_of (cc := prog_6_method_5_code) (maxL := 4) (ret := (some .int)) "CircuitSimulator$Nets" [(0, .ref m0), (1, .int (nI x))] (by decide) rfl rfl (Nat.le_of_ble_eq_true rfl) rfl ?_
  intro p_ e_ s_ m_ args_ below_ meth_ c_ A_ F hr hin
  refine V_iconst F (v := 0) d_Nets_withValue_0 rfl ?_
  refine V_istore_n F (lv' := [(2, .int (nI 0)), (0, .ref m0), (1, .int (nI x))]) d_Nets_withValue_1 rfl (by decide) rfl ?_
  refine V_iconst F (v := 0) d_Nets_withValue_2 rfl ?_
  refine V_istore_n F (lv' := [(3, .int (nI 0)), (2, .int (nI 0)), (0, .ref m0), (1, .int (nI x))]) d_Nets_withValue_3 rfl (by decide) rfl ?_
  have L4 : ∀ (f_ : Nat) (i : Nat) (s : Nat), nn - i < f_ → (i ≤ nn) → (s = cnt (fun j => v j = x) i) → V p_ l e_ ({ frames := 0, cells := 0, slots := 0, locals := 0 }) s_ m_ args_ below_ meth_ c_ A_ (MQ below_ (cQi D classes (fun (r : Int32) (u_ : Unit) => r = nI (cnt (fun j => v j = x) nn)) (fun (u_ : Unit) => [(m0, .inr (CI_Nets, [.ref m1, .ref m2, .ref m3, .ref m4, .int (nI nn)])), (m1, .inl (cI, 80, .inl (cN v))), (m2, .inl (cI, 80, .inl (cN cm))), (m3, .inl (cI, 80, .inl (cS sk))), (m4, .inl (cI, 80, .inl (cN tn)))]) A_) args_ s_ 0 0 A_) D classes 4 0 0 [(m0, .inr (CI_Nets, [.ref m1, .ref m2, .ref m3, .ref m4, .int (nI nn)])), (m1, .inl (cI, 80, .inl (cN v))), (m2, .inl (cI, 80, .inl (cN cm))), (m3, .inl (cI, 80, .inl (cS sk))), (m4, .inl (cI, 80, .inl (cN tn)))] 4 [(0, .ref m0), (1, .int (nI x)), (2, .int (nI s)), (3, .int (nI i))] [] := by
    intro f_
    induction f_ with
    | zero => intro i s hm_; exact absurd hm_ (Nat.not_lt_zero _)
    | succ f_ ih4 =>
      intro i s hm4 hi hI
      refine V_iload_n F 3 d_Nets_withValue_4 rfl rfl ?_
      refine V_aload_n F 0 d_Nets_withValue_5 rfl rfl ?_
      refine V_get F 0 CI_Nets 4 i_Nets rfl rfl (by decide) m_118 rfl rfl d_Nets_withValue_6 ?_
      refine V_icmpn_ge F 31 (a := i) (b := nn) (by omega) (by omega) d_Nets_withValue_9 (by decide) (fun h9 => ?_) (fun h9 => ?_)
      · skip
        refine V_iload_n F 2 d_Nets_withValue_31 rfl rfl ?_
        exact V_iret F hr () (by rw [hI, show i = nn by omega]) [0, 1, 2, 3, 4] rfl rfl (by decide) (by decide) d_Nets_withValue_32
      · skip
        have hv8 := hv i (by omega)
        refine V_aload_n F 0 d_Nets_withValue_12 rfl rfl ?_
        refine V_get F 0 CI_Nets 0 i_Nets rfl rfl (by decide) m_110 rfl rfl d_Nets_withValue_13 ?_
        refine V_iload_n F 3 d_Nets_withValue_16 rfl rfl ?_
        refine V_ialdnN F 1 0 (k := i) rfl rfl (by omega) (by decide) d_Nets_withValue_17 ?_
        refine V_iload_n F 1 d_Nets_withValue_18 rfl rfl ?_
        refine V_icmpn_ne F 25 (a := v i) (b := x) (by omega) (by omega) d_Nets_withValue_19 (by decide) (fun h19 => ?_) (fun h19 => ?_)
        · skip
          refine V_iinc F 3 (v := nI (i + 1)) (lv' := [(3, .int (nI (i + 1))), (0, .ref m0), (1, .int (nI x)), (2, .int (nI s))]) d_Nets_withValue_25 rfl (nI_inc _) (by decide) rfl ?_
          refine V_goto F 4 d_Nets_withValue_28 (by decide) ?_
          refine V_lv [1, 2, 3, 0] rfl ?_
          exact ih4 (i + 1) s (by omega) (by first | assumption | omega | (simp only [] at *; omega)) (by first | rw [cnt_t (by assumption), hI] | rw [cnt_f (by assumption), hI])
        · skip
          refine V_iinc F 2 (v := nI (s + 1)) (lv' := [(2, .int (nI (s + 1))), (0, .ref m0), (1, .int (nI x)), (3, .int (nI i))]) d_Nets_withValue_22 rfl (nI_inc _) (by decide) rfl ?_
          refine V_iinc F 3 (v := nI (i + 1)) (lv' := [(3, .int (nI (i + 1))), (2, .int (nI (s + 1))), (0, .ref m0), (1, .int (nI x))]) d_Nets_withValue_25 rfl (nI_inc _) (by decide) rfl ?_
          refine V_goto F 4 d_Nets_withValue_28 (by decide) ?_
          refine V_lv [2, 3, 1, 0] rfl ?_
          exact ih4 (i + 1) (s + 1) (by omega) (by first | assumption | omega | (simp only [] at *; omega)) (by first | rw [cnt_t (by assumption), hI] | rw [cnt_f (by assumption), hI])
  refine V_lv [2, 3, 1, 0] rfl ?_
  exact L4 ((nn - 0) + 1) 0 0 (Nat.lt_succ_self _) (by first | assumption | omega | (simp only [] at *; omega)) rfl

set_option maxHeartbeats 4000000 in
set_option maxRecDepth 100000 in
theorem c_Nets_allTurns (l : Launch) (D : va_G) (cI cL cB : ClassId) (m0 : Nat) (m1 : Nat) (m2 : Nat) (m3 : Nat) (m4 : Nat) (nn : Nat) (v : Nat → Nat) (cm : Nat → Nat) (sk : Nat → Nat) (tn : Nat → Nat) (hnn : nn ≤ 80) : Cti l y_Nets_allTurns (wK w_Nets_allTurns) ({ frames := 0, cells := 0, slots := 0, locals := 0 }) D classes (TY cI cL cB) [.ref m0] [(m0, .inr (CI_Nets, [.ref m1, .ref m2, .ref m3, .ref m4, .int (nI nn)])), (m1, .inl (cI, 80, .inl (cN v))), (m2, .inl (cI, 80, .inl (cN cm))), (m3, .inl (cI, 80, .inl (cS sk))), (m4, .inl (cI, 80, .inl (cN tn)))] (fun (r : Int32) (u_ : Unit) => r = nI (sm tn nn)) (fun (u_ : Unit) => [(m0, .inr (CI_Nets, [.ref m1, .ref m2, .ref m3, .ref m4, .int (nI nn)])), (m1, .inl (cI, 80, .inl (cN v))), (m2, .inl (cI, 80, .inl (cN cm))), (m3, .inl (cI, 80, .inl (cS sk))), (m4, .inl (cI, 80, .inl (cN tn)))]) 0 0 := by
  refine Ctg_of (cc := prog_6_method_6_code) (maxL := 3) (ret := (some .int)) "CircuitSimulator$Nets" [(0, .ref m0)] (by decide) rfl rfl (Nat.le_of_ble_eq_true rfl) rfl ?_
  intro p_ e_ s_ m_ args_ below_ meth_ c_ A_ F hr hin
  refine V_iconst F (v := 0) d_Nets_allTurns_0 rfl ?_
  refine V_istore_n F (lv' := [(1, .int (nI 0)), (0, .ref m0)]) d_Nets_allTurns_1 rfl (by decide) rfl ?_
  refine V_iconst F (v := 0) d_Nets_allTurns_2 rfl ?_
  refine V_istore_n F (lv' := [(2, .int (nI 0)), (1, .int (nI 0)), (0, .ref m0)]) d_Nets_allTurns_3 rfl (by decide) rfl ?_
  have L4 : ∀ (f_ : Nat) (i : Nat) (s : Nat), nn - i < f_ → (i ≤ nn) → (s = sm tn i) → V p_ l e_ ({ frames := 0, cells := 0, slots := 0, locals := 0 }) s_ m_ args_ below_ meth_ c_ A_ (MQ below_ (cQi D classes (fun (r : Int32) (u_ : Unit) => r = nI (sm tn nn)) (fun (u_ : Unit) => [(m0, .inr (CI_Nets, [.ref m1, .ref m2, .ref m3, .ref m4, .int (nI nn)])), (m1, .inl (cI, 80, .inl (cN v))), (m2, .inl (cI, 80, .inl (cN cm))), (m3, .inl (cI, 80, .inl (cS sk))), (m4, .inl (cI, 80, .inl (cN tn)))]) A_) args_ s_ 0 0 A_) D classes 3 0 0 [(m0, .inr (CI_Nets, [.ref m1, .ref m2, .ref m3, .ref m4, .int (nI nn)])), (m1, .inl (cI, 80, .inl (cN v))), (m2, .inl (cI, 80, .inl (cN cm))), (m3, .inl (cI, 80, .inl (cS sk))), (m4, .inl (cI, 80, .inl (cN tn)))] 4 [(0, .ref m0), (1, .int (nI s)), (2, .int (nI i))] [] := by
    intro f_
    induction f_ with
    | zero => intro i s hm_; exact absurd hm_ (Nat.not_lt_zero _)
    | succ f_ ih4 =>
      intro i s hm4 hi hI
      refine V_iload_n F 2 d_Nets_allTurns_4 rfl rfl ?_
      refine V_aload_n F 0 d_Nets_allTurns_5 rfl rfl ?_
      refine V_get F 0 CI_Nets 4 i_Nets rfl rfl (by decide) m_118 rfl rfl d_Nets_allTurns_6 ?_
      refine V_icmpn_ge F 27 (a := i) (b := nn) (by omega) (by omega) d_Nets_allTurns_9 (by decide) (fun h9 => ?_) (fun h9 => ?_)
      · skip
        refine V_iload_n F 1 d_Nets_allTurns_27 rfl rfl ?_
        exact V_iret F hr () (by rw [hI, show i = nn by omega]) [0, 1, 2, 3, 4] rfl rfl (by decide) (by decide) d_Nets_allTurns_28
      · skip
        refine V_iload_n F 1 d_Nets_allTurns_12 rfl rfl ?_
        refine V_aload_n F 0 d_Nets_allTurns_13 rfl rfl ?_
        refine V_get F 0 CI_Nets 3 i_Nets rfl rfl (by decide) m_116 rfl rfl d_Nets_allTurns_14 ?_
        refine V_iload_n F 2 d_Nets_allTurns_17 rfl rfl ?_
        refine V_ialdnN F 4 0 (k := i) rfl rfl (by omega) (by decide) d_Nets_allTurns_18 ?_
        refine V_iadd F d_Nets_allTurns_19 ?_
        refine V_top (y := nI (s + (tn i))) (nI_add _ _) ?_
        refine V_istore_n F (lv' := [(1, .int (nI (s + (tn i)))), (0, .ref m0), (2, .int (nI i))]) d_Nets_allTurns_20 rfl (by decide) rfl ?_
        refine V_iinc F 2 (v := nI (i + 1)) (lv' := [(2, .int (nI (i + 1))), (1, .int (nI (s + (tn i)))), (0, .ref m0)]) d_Nets_allTurns_21 rfl (nI_inc _) (by decide) rfl ?_
        refine V_goto F 4 d_Nets_allTurns_24 (by decide) ?_
        refine V_lv [2, 1, 0] rfl ?_
        exact ih4 (i + 1) (s + (tn i)) (by omega) (by first | assumption | omega | (simp only [] at *; omega)) (by rw [hI]; rfl)
  refine V_lv [2, 1, 0] rfl ?_
  exact L4 ((nn - 0) + 1) 0 0 (Nat.lt_succ_self _) (by first | assumption | omega | (simp only [] at *; omega)) rfl
