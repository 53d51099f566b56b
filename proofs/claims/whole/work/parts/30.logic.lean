set_option maxHeartbeats 4000000 in
set_option maxRecDepth 100000 in
theorem c_Logic_asInput (l : Launch) (D : va_G) (cI cL cB : ClassId) (a : Nat) (ha : a ≤ 3) : Cti l y_Logic_asInput (wK w_Logic_asInput) ({ frames := 0, cells := 0, slots := 0, locals := 0 }) D classes (TY cI cL cB) [.int (nI a)] [] (fun (r : Int32) (u_ : Unit) => r = nI (asI a)) (fun (u_ : Unit) => []) 0 0 := by
  refine Ctg_of (cc := prog_5_method_2_code) (maxL := 1) (ret := (some .int)) "CircuitSimulator$Logic" [(0, .int (nI a))] (by decide) rfl rfl (Nat.le_of_ble_eq_true rfl) rfl ?_
  intro p_ e_ s_ m_ args_ below_ meth_ c_ A_ F hr hin
  refine V_iload_n F 0 d_Logic_asInput_0 rfl rfl ?_
  refine V_iconst F (v := 3) d_Logic_asInput_1 rfl ?_
  refine V_icmpn_ne F 9 (a := a) (b := 3) (by omega) (by omega) d_Logic_asInput_2 (by decide) (fun h2 => ?_) (fun h2 => ?_)
  · skip
    refine V_iload_n F 0 d_Logic_asInput_9 rfl rfl ?_
    exact V_iret F hr () (congrArg nI (by unfold asI; (repeat' split) <;> omega)) [] rfl rfl (by decide) (by decide) d_Logic_asInput_10
  · skip
    refine V_iconst F (v := 2) d_Logic_asInput_5 rfl ?_
    refine V_goto F 10 d_Logic_asInput_6 (by decide) ?_
    exact V_iret F hr () (congrArg nI (by unfold asI; (repeat' split) <;> omega)) [] rfl rfl (by decide) (by decide) d_Logic_asInput_10

set_option maxHeartbeats 4000000 in
set_option maxRecDepth 100000 in
theorem c_Logic_not (l : Launch) (D : va_G) (cI cL cB : ClassId) (a : Nat) (ha : a ≤ 2) : Cti l y_Logic_not (wK w_Logic_not) ({ frames := 0, cells := 0, slots := 0, locals := 0 }) D classes (TY cI cL cB) [.int (nI a)] [] (fun (r : Int32) (u_ : Unit) => r = nI (ev1 a)) (fun (u_ : Unit) => []) 0 0 := by
  refine Ctg_of (cc := prog_5_method_3_code) (maxL := 1) (ret := (some .int)) "CircuitSimulator$Logic" [(0, .int (nI a))] (by decide) rfl rfl (Nat.le_of_ble_eq_true rfl) rfl ?_
  intro p_ e_ s_ m_ args_ below_ meth_ c_ A_ F hr hin
  refine V_iload_n F 0 d_Logic_not_0 rfl rfl ?_
  refine V_iconst F (v := 2) d_Logic_not_1 rfl ?_
  refine V_icmpn_ne F 9 (a := a) (b := 2) (by omega) (by omega) d_Logic_not_2 (by decide) (fun h2 => ?_) (fun h2 => ?_)
  · skip
    refine V_iconst F (v := 1) d_Logic_not_9 rfl ?_
    refine V_iload_n F 0 d_Logic_not_10 rfl rfl ?_
    refine V_isub F d_Logic_not_11 ?_
    refine V_top (y := nI (1 - a)) (pk_sub (a := 1) (b := a) (by omega)) ?_
    exact V_iret F hr () (congrArg nI (by unfold ev1; (repeat' split) <;> omega)) [] rfl rfl (by decide) (by decide) d_Logic_not_12
  · skip
    refine V_iconst F (v := 2) d_Logic_not_5 rfl ?_
    refine V_goto F 12 d_Logic_not_6 (by decide) ?_
    exact V_iret F hr () (congrArg nI (by unfold ev1; (repeat' split) <;> omega)) [] rfl rfl (by decide) (by decide) d_Logic_not_12

set_option maxHeartbeats 4000000 in
set_option maxRecDepth 100000 in
theorem c_Logic_and (l : Launch) (D : va_G) (cI cL cB : ClassId) (a : Nat) (b : Nat) (ha : a ≤ 3) (hb : b ≤ 3) : Cti l y_Logic_and (wK w_Logic_and) ({ frames := 0, cells := 0, slots := 0, locals := 0 }) D classes (TY cI cL cB) [.int (nI a), .int (nI b)] [] (fun (r : Int32) (u_ : Unit) => r = nI (ev2 a b)) (fun (u_ : Unit) => []) 0 0 := by
  refine Ctg_of (cc := prog_5_method_4_code) (maxL := 2) (ret := (some .int)) "CircuitSimulator$Logic" [(0, .int (nI a)), (1, .int (nI b))] (by decide) rfl rfl (Nat.le_of_ble_eq_true rfl) rfl ?_
  intro p_ e_ s_ m_ args_ below_ meth_ c_ A_ F hr hin
  refine V_iload_n F 0 d_Logic_and_0 rfl rfl ?_
  refine V_ifn_eq F 8 (a := a) (by omega) d_Logic_and_1 (by decide) (fun h1 => ?_) (fun h1 => ?_)
  · skip
    refine V_iconst F (v := 0) d_Logic_and_8 rfl ?_
    exact V_iret F hr () (congrArg nI (by unfold ev2; (repeat' split) <;> omega)) [] rfl rfl (by decide) (by decide) d_Logic_and_9
  · skip
    refine V_iload_n F 1 d_Logic_and_4 rfl rfl ?_
    refine V_ifn_ne F 10 (a := b) (by omega) d_Logic_and_5 (by decide) (fun h5 => ?_) (fun h5 => ?_)
    · skip
      refine V_iload_n F 0 d_Logic_and_10 rfl rfl ?_
      refine V_iconst F (v := 1) d_Logic_and_11 rfl ?_
      refine V_icmpn_ne F 24 (a := a) (b := 1) (by omega) (by omega) d_Logic_and_12 (by decide) (fun h12 => ?_) (fun h12 => ?_)
      · skip
        refine V_iconst F (v := 2) d_Logic_and_24 rfl ?_
        exact V_iret F hr () (congrArg nI (by unfold ev2; (repeat' split) <;> omega)) [] rfl rfl (by decide) (by decide) d_Logic_and_25
      · skip
        refine V_iload_n F 1 d_Logic_and_15 rfl rfl ?_
        refine V_iconst F (v := 1) d_Logic_and_16 rfl ?_
        refine V_icmpn_ne F 24 (a := b) (b := 1) (by omega) (by omega) d_Logic_and_17 (by decide) (fun h17 => ?_) (fun h17 => ?_)
        · skip
          refine V_iconst F (v := 2) d_Logic_and_24 rfl ?_
          exact V_iret F hr () (congrArg nI (by unfold ev2; (repeat' split) <;> omega)) [] rfl rfl (by decide) (by decide) d_Logic_and_25
        · skip
          refine V_iconst F (v := 1) d_Logic_and_20 rfl ?_
          refine V_goto F 25 d_Logic_and_21 (by decide) ?_
          exact V_iret F hr () (congrArg nI (by unfold ev2; (repeat' split) <;> omega)) [] rfl rfl (by decide) (by decide) d_Logic_and_25
    · skip
      refine V_iconst F (v := 0) d_Logic_and_8 rfl ?_
      exact V_iret F hr () (congrArg nI (by unfold ev2; (repeat' split) <;> omega)) [] rfl rfl (by decide) (by decide) d_Logic_and_9

set_option maxHeartbeats 4000000 in
set_option maxRecDepth 100000 in
theorem c_Logic_or (l : Launch) (D : va_G) (cI cL cB : ClassId) (a : Nat) (b : Nat) (ha : a ≤ 3) (hb : b ≤ 3) : Cti l y_Logic_or (wK w_Logic_or) ({ frames := 0, cells := 0, slots := 0, locals := 0 }) D classes (TY cI cL cB) [.int (nI a), .int (nI b)] [] (fun (r : Int32) (u_ : Unit) => r = nI (ev3 a b)) (fun (u_ : Unit) => []) 0 0 := by
  refine Ctg_of (cc := prog_5_method_5_code) (maxL := 2) (ret := (some .int)) "CircuitSimulator$Logic" [(0, .int (nI a)), (1, .int (nI b))] (by decide) rfl rfl (Nat.le_of_ble_eq_true rfl) rfl ?_
  intro p_ e_ s_ m_ args_ below_ meth_ c_ A_ F hr hin
  refine V_iload_n F 0 d_Logic_or_0 rfl rfl ?_
  refine V_iconst F (v := 1) d_Logic_or_1 rfl ?_
  refine V_icmpn_eq F 10 (a := a) (b := 1) (by omega) (by omega) d_Logic_or_2 (by decide) (fun h2 => ?_) (fun h2 => ?_)
  · skip
    refine V_iconst F (v := 1) d_Logic_or_10 rfl ?_
    exact V_iret F hr () (congrArg nI (by unfold ev3; (repeat' split) <;> omega)) [] rfl rfl (by decide) (by decide) d_Logic_or_11
  · skip
    refine V_iload_n F 1 d_Logic_or_5 rfl rfl ?_
    refine V_iconst F (v := 1) d_Logic_or_6 rfl ?_
    refine V_icmpn_ne F 12 (a := b) (b := 1) (by omega) (by omega) d_Logic_or_7 (by decide) (fun h7 => ?_) (fun h7 => ?_)
    · skip
      refine V_iload_n F 0 d_Logic_or_12 rfl rfl ?_
      refine V_ifn_ne F 24 (a := a) (by omega) d_Logic_or_13 (by decide) (fun h13 => ?_) (fun h13 => ?_)
      · skip
        refine V_iconst F (v := 2) d_Logic_or_24 rfl ?_
        exact V_iret F hr () (congrArg nI (by unfold ev3; (repeat' split) <;> omega)) [] rfl rfl (by decide) (by decide) d_Logic_or_25
      · skip
        refine V_iload_n F 1 d_Logic_or_16 rfl rfl ?_
        refine V_ifn_ne F 24 (a := b) (by omega) d_Logic_or_17 (by decide) (fun h17 => ?_) (fun h17 => ?_)
        · skip
          refine V_iconst F (v := 2) d_Logic_or_24 rfl ?_
          exact V_iret F hr () (congrArg nI (by unfold ev3; (repeat' split) <;> omega)) [] rfl rfl (by decide) (by decide) d_Logic_or_25
        · skip
          refine V_iconst F (v := 0) d_Logic_or_20 rfl ?_
          refine V_goto F 25 d_Logic_or_21 (by decide) ?_
          exact V_iret F hr () (congrArg nI (by unfold ev3; (repeat' split) <;> omega)) [] rfl rfl (by decide) (by decide) d_Logic_or_25
    · skip
      refine V_iconst F (v := 1) d_Logic_or_10 rfl ?_
      exact V_iret F hr () (congrArg nI (by unfold ev3; (repeat' split) <;> omega)) [] rfl rfl (by decide) (by decide) d_Logic_or_11

set_option maxHeartbeats 4000000 in
set_option maxRecDepth 100000 in
theorem c_Logic_xor (l : Launch) (D : va_G) (cI cL cB : ClassId) (a : Nat) (b : Nat) (ha : a ≤ 3) (hb : b ≤ 3) : Cti l y_Logic_xor (wK w_Logic_xor) ({ frames := 0, cells := 0, slots := 0, locals := 0 }) D classes (TY cI cL cB) [.int (nI a), .int (nI b)] [] (fun (r : Int32) (u_ : Unit) => r = nI (ev4 a b)) (fun (u_ : Unit) => []) 0 0 := by
  refine Ctg_of (cc := prog_5_method_6_code) (maxL := 2) (ret := (some .int)) "CircuitSimulator$Logic" [(0, .int (nI a)), (1, .int (nI b))] (by decide) rfl rfl (Nat.le_of_ble_eq_true rfl) rfl ?_
  intro p_ e_ s_ m_ args_ below_ meth_ c_ A_ F hr hin
  refine V_iload_n F 0 d_Logic_xor_0 rfl rfl ?_
  refine V_iconst F (v := 2) d_Logic_xor_1 rfl ?_
  refine V_icmpn_eq F 10 (a := a) (b := 2) (by omega) (by omega) d_Logic_xor_2 (by decide) (fun h2 => ?_) (fun h2 => ?_)
  · skip
    refine V_iconst F (v := 2) d_Logic_xor_10 rfl ?_
    exact V_iret F hr () (congrArg nI (by unfold ev4; (repeat' split) <;> omega)) [] rfl rfl (by decide) (by decide) d_Logic_xor_11
  · skip
    refine V_iload_n F 1 d_Logic_xor_5 rfl rfl ?_
    refine V_iconst F (v := 2) d_Logic_xor_6 rfl ?_
    refine V_icmpn_ne F 12 (a := b) (b := 2) (by omega) (by omega) d_Logic_xor_7 (by decide) (fun h7 => ?_) (fun h7 => ?_)
    · skip
      refine V_iload_n F 0 d_Logic_xor_12 rfl rfl ?_
      refine V_iload_n F 1 d_Logic_xor_13 rfl rfl ?_
      refine V_icmpn_ne F 21 (a := a) (b := b) (by omega) (by omega) d_Logic_xor_14 (by decide) (fun h14 => ?_) (fun h14 => ?_)
      · skip
        refine V_iconst F (v := 1) d_Logic_xor_21 rfl ?_
        exact V_iret F hr () (congrArg nI (by unfold ev4; (repeat' split) <;> omega)) [] rfl rfl (by decide) (by decide) d_Logic_xor_22
      · skip
        refine V_iconst F (v := 0) d_Logic_xor_17 rfl ?_
        refine V_goto F 22 d_Logic_xor_18 (by decide) ?_
        exact V_iret F hr () (congrArg nI (by unfold ev4; (repeat' split) <;> omega)) [] rfl rfl (by decide) (by decide) d_Logic_xor_22
    · skip
      refine V_iconst F (v := 2) d_Logic_xor_10 rfl ?_
      exact V_iret F hr () (congrArg nI (by unfold ev4; (repeat' split) <;> omega)) [] rfl rfl (by decide) (by decide) d_Logic_xor_11

set_option maxHeartbeats 4000000 in
set_option maxRecDepth 100000 in
theorem c_Logic_mux (l : Launch) (D : va_G) (cI cL cB : ClassId) (a : Nat) (b : Nat) (c : Nat) (ha : a ≤ 3) (hb : b ≤ 3) (hc : c ≤ 3) : Cti l y_Logic_mux (wK w_Logic_mux) ({ frames := 0, cells := 0, slots := 0, locals := 0 }) D classes (TY cI cL cB) [.int (nI a), .int (nI b), .int (nI c)] [] (fun (r : Int32) (u_ : Unit) => r = nI (ev5 a b c)) (fun (u_ : Unit) => []) 0 0 := by
  refine Ctg_of (cc := prog_5_method_7_code) (maxL := 3) (ret := (some .int)) "CircuitSimulator$Logic" [(0, .int (nI a)), (1, .int (nI b)), (2, .int (nI c))] (by decide) rfl rfl (Nat.le_of_ble_eq_true rfl) rfl ?_
  intro p_ e_ s_ m_ args_ below_ meth_ c_ A_ F hr hin
  refine V_iload_n F 2 d_Logic_mux_0 rfl rfl ?_
  refine V_iconst F (v := 2) d_Logic_mux_1 rfl ?_
  refine V_icmpn_ne F 16 (a := c) (b := 2) (by omega) (by omega) d_Logic_mux_2 (by decide) (fun h2 => ?_) (fun h2 => ?_)
  · skip
    refine V_iload_n F 2 d_Logic_mux_16 rfl rfl ?_
    refine V_ifn_ne F 24 (a := c) (by omega) d_Logic_mux_17 (by decide) (fun h17 => ?_) (fun h17 => ?_)
    · skip
      refine V_iload_n F 1 d_Logic_mux_24 rfl rfl ?_
      exact V_iret F hr () (congrArg nI (by unfold ev5; (repeat' split) <;> omega)) [] rfl rfl (by decide) (by decide) d_Logic_mux_25
    · skip
      refine V_iload_n F 0 d_Logic_mux_20 rfl rfl ?_
      refine V_goto F 25 d_Logic_mux_21 (by decide) ?_
      exact V_iret F hr () (congrArg nI (by unfold ev5; (repeat' split) <;> omega)) [] rfl rfl (by decide) (by decide) d_Logic_mux_25
  · skip
    refine V_iload_n F 0 d_Logic_mux_5 rfl rfl ?_
    refine V_iload_n F 1 d_Logic_mux_6 rfl rfl ?_
    refine V_icmpn_ne F 14 (a := a) (b := b) (by omega) (by omega) d_Logic_mux_7 (by decide) (fun h7 => ?_) (fun h7 => ?_)
    · skip
      refine V_iconst F (v := 2) d_Logic_mux_14 rfl ?_
      exact V_iret F hr () (congrArg nI (by unfold ev5; (repeat' split) <;> omega)) [] rfl rfl (by decide) (by decide) d_Logic_mux_15
    · skip
      refine V_iload_n F 0 d_Logic_mux_10 rfl rfl ?_
      refine V_goto F 15 d_Logic_mux_11 (by decide) ?_
      exact V_iret F hr () (congrArg nI (by unfold ev5; (repeat' split) <;> omega)) [] rfl rfl (by decide) (by decide) d_Logic_mux_15

set_option maxHeartbeats 4000000 in
set_option maxRecDepth 100000 in
theorem c_Logic_tri (l : Launch) (D : va_G) (cI cL cB : ClassId) (a : Nat) (b : Nat) (ha : a ≤ 3) (hb : b ≤ 3) : Cti l y_Logic_tri (wK w_Logic_tri) ({ frames := 0, cells := 0, slots := 0, locals := 0 }) D classes (TY cI cL cB) [.int (nI a), .int (nI b)] [] (fun (r : Int32) (u_ : Unit) => r = nI (ev6 a b)) (fun (u_ : Unit) => []) 0 0 := by
  refine Ctg_of (cc := prog_5_method_8_code) (maxL := 2) (ret := (some .int)) "CircuitSimulator$Logic" [(0, .int (nI a)), (1, .int (nI b))] (by decide) rfl rfl (Nat.le_of_ble_eq_true rfl) rfl ?_
  intro p_ e_ s_ m_ args_ below_ meth_ c_ A_ F hr hin
  refine V_iload_n F 1 d_Logic_tri_0 rfl rfl ?_
  refine V_iconst F (v := 2) d_Logic_tri_1 rfl ?_
  refine V_icmpn_ne F 7 (a := b) (b := 2) (by omega) (by omega) d_Logic_tri_2 (by decide) (fun h2 => ?_) (fun h2 => ?_)
  · skip
    refine V_iload_n F 1 d_Logic_tri_7 rfl rfl ?_
    refine V_iconst F (v := 1) d_Logic_tri_8 rfl ?_
    refine V_icmpn_ne F 16 (a := b) (b := 1) (by omega) (by omega) d_Logic_tri_9 (by decide) (fun h9 => ?_) (fun h9 => ?_)
    · skip
      refine V_iconst F (v := 3) d_Logic_tri_16 rfl ?_
      exact V_iret F hr () (congrArg nI (by unfold ev6; (repeat' split) <;> omega)) [] rfl rfl (by decide) (by decide) d_Logic_tri_17
    · skip
      refine V_iload_n F 0 d_Logic_tri_12 rfl rfl ?_
      refine V_goto F 17 d_Logic_tri_13 (by decide) ?_
      exact V_iret F hr () (congrArg nI (by unfold ev6; (repeat' split) <;> omega)) [] rfl rfl (by decide) (by decide) d_Logic_tri_17
  · skip
    refine V_iconst F (v := 2) d_Logic_tri_5 rfl ?_
    exact V_iret F hr () (congrArg nI (by unfold ev6; (repeat' split) <;> omega)) [] rfl rfl (by decide) (by decide) d_Logic_tri_6

set_option maxHeartbeats 4000000 in
set_option maxRecDepth 100000 in
theorem c_Logic_latch (l : Launch) (D : va_G) (cI cL cB : ClassId) (a : Nat) (b : Nat) (h : Nat) (ha : a ≤ 3) (hb : b ≤ 3) (hh : h ≤ 3) : Cti l y_Logic_latch (wK w_Logic_latch) ({ frames := 0, cells := 0, slots := 0, locals := 0 }) D classes (TY cI cL cB) [.int (nI a), .int (nI b), .int (nI h)] [] (fun (r : Int32) (u_ : Unit) => r = nI (ev7 a b h)) (fun (u_ : Unit) => []) 0 0 := by
  refine Ctg_of (cc := prog_5_method_9_code) (maxL := 3) (ret := (some .int)) "CircuitSimulator$Logic" [(0, .int (nI a)), (1, .int (nI b)), (2, .int (nI h))] (by decide) rfl rfl (Nat.le_of_ble_eq_true rfl) rfl ?_
  intro p_ e_ s_ m_ args_ below_ meth_ c_ A_ F hr hin
  refine V_iload_n F 1 d_Logic_latch_0 rfl rfl ?_
  refine V_iconst F (v := 2) d_Logic_latch_1 rfl ?_
  refine V_icmpn_ne F 16 (a := b) (b := 2) (by omega) (by omega) d_Logic_latch_2 (by decide) (fun h2 => ?_) (fun h2 => ?_)
  · skip
    refine V_iload_n F 1 d_Logic_latch_16 rfl rfl ?_
    refine V_iconst F (v := 1) d_Logic_latch_17 rfl ?_
    refine V_icmpn_ne F 25 (a := b) (b := 1) (by omega) (by omega) d_Logic_latch_18 (by decide) (fun h18 => ?_) (fun h18 => ?_)
    · skip
      refine V_iload_n F 2 d_Logic_latch_25 rfl rfl ?_
      exact V_iret F hr () (congrArg nI (by unfold ev7; (repeat' split) <;> omega)) [] rfl rfl (by decide) (by decide) d_Logic_latch_26
    · skip
      refine V_iload_n F 0 d_Logic_latch_21 rfl rfl ?_
      refine V_goto F 26 d_Logic_latch_22 (by decide) ?_
      exact V_iret F hr () (congrArg nI (by unfold ev7; (repeat' split) <;> omega)) [] rfl rfl (by decide) (by decide) d_Logic_latch_26
  · skip
    refine V_iload_n F 0 d_Logic_latch_5 rfl rfl ?_
    refine V_iload_n F 2 d_Logic_latch_6 rfl rfl ?_
    refine V_icmpn_ne F 14 (a := a) (b := h) (by omega) (by omega) d_Logic_latch_7 (by decide) (fun h7 => ?_) (fun h7 => ?_)
    · skip
      refine V_iconst F (v := 2) d_Logic_latch_14 rfl ?_
      exact V_iret F hr () (congrArg nI (by unfold ev7; (repeat' split) <;> omega)) [] rfl rfl (by decide) (by decide) d_Logic_latch_15
    · skip
      refine V_iload_n F 0 d_Logic_latch_10 rfl rfl ?_
      refine V_goto F 15 d_Logic_latch_11 (by decide) ?_
      exact V_iret F hr () (congrArg nI (by unfold ev7; (repeat' split) <;> omega)) [] rfl rfl (by decide) (by decide) d_Logic_latch_15

set_option maxHeartbeats 4000000 in
set_option maxRecDepth 100000 in
theorem c_Logic_together (l : Launch) (D : va_G) (cI cL cB : ClassId) (a : Nat) (b : Nat) (ha : a ≤ 3) (hb : b ≤ 3) : Cti l y_Logic_together (wK w_Logic_together) ({ frames := 0, cells := 0, slots := 0, locals := 0 }) D classes (TY cI cL cB) [.int (nI a), .int (nI b)] [] (fun (r : Int32) (u_ : Unit) => r = nI (jn a b)) (fun (u_ : Unit) => []) 0 0 := by
  refine Ctg_of (cc := prog_5_method_10_code) (maxL := 2) (ret := (some .int)) "CircuitSimulator$Logic" [(0, .int (nI a)), (1, .int (nI b))] (by decide) rfl rfl (Nat.le_of_ble_eq_true rfl) rfl ?_
  intro p_ e_ s_ m_ args_ below_ meth_ c_ A_ F hr hin
  refine V_iload_n F 0 d_Logic_together_0 rfl rfl ?_
  refine V_iconst F (v := 3) d_Logic_together_1 rfl ?_
  refine V_icmpn_ne F 7 (a := a) (b := 3) (by omega) (by omega) d_Logic_together_2 (by decide) (fun h2 => ?_) (fun h2 => ?_)
  · skip
    refine V_iload_n F 1 d_Logic_together_7 rfl rfl ?_
    refine V_iconst F (v := 3) d_Logic_together_8 rfl ?_
    refine V_icmpn_eq F 17 (a := b) (b := 3) (by omega) (by omega) d_Logic_together_9 (by decide) (fun h9 => ?_) (fun h9 => ?_)
    · skip
      refine V_iload_n F 0 d_Logic_together_17 rfl rfl ?_
      refine V_goto F 22 d_Logic_together_18 (by decide) ?_
      exact V_iret F hr () (congrArg nI (by unfold jn; (repeat' split) <;> omega)) [] rfl rfl (by decide) (by decide) d_Logic_together_22
    · skip
      refine V_iload_n F 1 d_Logic_together_12 rfl rfl ?_
      refine V_iload_n F 0 d_Logic_together_13 rfl rfl ?_
      refine V_icmpn_ne F 21 (a := b) (b := a) (by omega) (by omega) d_Logic_together_14 (by decide) (fun h14 => ?_) (fun h14 => ?_)
      · skip
        refine V_iconst F (v := 2) d_Logic_together_21 rfl ?_
        exact V_iret F hr () (congrArg nI (by unfold jn; (repeat' split) <;> omega)) [] rfl rfl (by decide) (by decide) d_Logic_together_22
      · skip
        refine V_iload_n F 0 d_Logic_together_17 rfl rfl ?_
        refine V_goto F 22 d_Logic_together_18 (by decide) ?_
        exact V_iret F hr () (congrArg nI (by unfold jn; (repeat' split) <;> omega)) [] rfl rfl (by decide) (by decide) d_Logic_together_22
  · skip
    refine V_iload_n F 1 d_Logic_together_5 rfl rfl ?_
    exact V_iret F hr () (congrArg nI (by unfold jn; (repeat' split) <;> omega)) [] rfl rfl (by decide) (by decide) d_Logic_together_6

set_option maxHeartbeats 4000000 in
set_option maxRecDepth 100000 in
theorem c_Logic_turns (l : Launch) (D : va_G) (cI cL cB : ClassId) (a : Nat) (b : Nat) (ha : a ≤ 3) (hb : b ≤ 3) : Cti l y_Logic_turns (wK w_Logic_turns) ({ frames := 0, cells := 0, slots := 0, locals := 0 }) D classes (TY cI cL cB) [.int (nI a), .int (nI b)] [] (fun (r : Int32) (u_ : Unit) => r = bP ((a = 0 ∧ b = 1) ∨ (a = 1 ∧ b = 0))) (fun (u_ : Unit) => []) 0 0 := by
  refine Ctg_of (cc := prog_5_method_11_code) (maxL := 2) (ret := (some .boolean)) "CircuitSimulator$Logic" [(0, .int (nI a)), (1, .int (nI b))] (by decide) rfl rfl (Nat.le_of_ble_eq_true rfl) rfl ?_
  intro p_ e_ s_ m_ args_ below_ meth_ c_ A_ F hr hin
  refine V_iload_n F 0 d_Logic_turns_0 rfl rfl ?_
  refine V_ifn_ne F 9 (a := a) (by omega) d_Logic_turns_1 (by decide) (fun h1 => ?_) (fun h1 => ?_)
  · skip
    refine V_iload_n F 0 d_Logic_turns_9 rfl rfl ?_
    refine V_iconst F (v := 1) d_Logic_turns_10 rfl ?_
    refine V_icmpn_ne F 22 (a := a) (b := 1) (by omega) (by omega) d_Logic_turns_11 (by decide) (fun h11 => ?_) (fun h11 => ?_)
    · skip
      refine V_iconst F (v := 0) d_Logic_turns_22 rfl ?_
      exact V_zret F hr rfl () (bP_f (by omega)).symm [] rfl rfl (by decide) (by decide) d_Logic_turns_23
    · skip
      refine V_iload_n F 1 d_Logic_turns_14 rfl rfl ?_
      refine V_ifn_ne F 22 (a := b) (by omega) d_Logic_turns_15 (by decide) (fun h15 => ?_) (fun h15 => ?_)
      · skip
        refine V_iconst F (v := 0) d_Logic_turns_22 rfl ?_
        exact V_zret F hr rfl () (bP_f (by omega)).symm [] rfl rfl (by decide) (by decide) d_Logic_turns_23
      · skip
        refine V_iconst F (v := 1) d_Logic_turns_18 rfl ?_
        refine V_goto F 23 d_Logic_turns_19 (by decide) ?_
        exact V_zret F hr rfl () (bP_t (by omega)).symm [] rfl rfl (by decide) (by decide) d_Logic_turns_23
  · skip
    refine V_iload_n F 1 d_Logic_turns_4 rfl rfl ?_
    refine V_iconst F (v := 1) d_Logic_turns_5 rfl ?_
    refine V_icmpn_eq F 18 (a := b) (b := 1) (by omega) (by omega) d_Logic_turns_6 (by decide) (fun h6 => ?_) (fun h6 => ?_)
    · skip
      refine V_iconst F (v := 1) d_Logic_turns_18 rfl ?_
      refine V_goto F 23 d_Logic_turns_19 (by decide) ?_
      exact V_zret F hr rfl () (bP_t (by omega)).symm [] rfl rfl (by decide) (by decide) d_Logic_turns_23
    · skip
      refine V_iload_n F 0 d_Logic_turns_9 rfl rfl ?_
      refine V_iconst F (v := 1) d_Logic_turns_10 rfl ?_
      refine V_icmpn_ne F 22 (a := a) (b := 1) (by omega) (by omega) d_Logic_turns_11 (by decide) (fun h11 => ?_) (fun h11 => ?_)
      · skip
        refine V_iconst F (v := 0) d_Logic_turns_22 rfl ?_
        exact V_zret F hr rfl () (bP_f (by omega)).symm [] rfl rfl (by decide) (by decide) d_Logic_turns_23
      · skip
        refine V_iload_n F 1 d_Logic_turns_14 rfl rfl ?_
        refine V_ifn_ne F 22 (a := b) (by omega) d_Logic_turns_15 (by decide) (fun h15 => ?_) (fun h15 => ?_)
        · skip
          refine V_iconst F (v := 0) d_Logic_turns_22 rfl ?_
          exact V_zret F hr rfl () (bP_f (by omega)).symm [] rfl rfl (by decide) (by decide) d_Logic_turns_23
        · skip
          refine V_iconst F (v := 1) d_Logic_turns_18 rfl ?_
          refine V_goto F 23 d_Logic_turns_19 (by decide) ?_
          exact V_zret F hr rfl () (bP_t (by omega)).symm [] rfl rfl (by decide) (by decide) d_Logic_turns_23
