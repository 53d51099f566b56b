/-! rows of the law itself: its script -/
section QL
variable {p : Program} {l : Launch} {e : Env} {R : Room} {s : State} {m : MethodId} {args : Array Value} {below : List Frame} {meth : Method} {c : Code} {A : Nat → Prop} {Q : State → Prop} {D : va_G} {cl : List vw_C} {tys : List (ClassId × FieldType)} {nL cells slots : Nat} {cc : ByteArray} {own : String} {w : va_W} {lv : List (Nat × Value)} {st : List Value} {pc : Nat}
theorem V_sld (F : Fx p s m args meth c cc nL own A D cl tys) {b L : Nat} {xs : Nat → Int32} (hX : va_X b L xs s s.heap) (hbl : b < s.heap.size) (hbA : ¬ A b) {k : Nat} (hk : k < L) (hL : L < 2 ^ 31) (d : decode cc pc = .ok (.iaload, 1)) (kk : V p l e R s m args below meth c A Q D cl nL cells slots w (pc + 1) lv (.int (xs k) :: st)) : V p l e R s m args below meth c A Q D cl nL cells slots w pc lv (.int (nI k) :: .ref b :: st) :=
  fun ls H locs hl hP hD hS => va_sld F.x F.b hX hbl hbA hS (i := nI k) (vp_in_nI hk hL) d (by rw [nI_clamp (Nat.lt_trans hk hL)]; exact kk ls H locs hl hP hD hS)
theorem V_slen (F : Fx p s m args meth c cc nL own A D cl tys) {b L : Nat} {xs : Nat → Int32} (hX : va_X b L xs s s.heap) (hbl : b < s.heap.size) (hbA : ¬ A b) (d : decode cc pc = .ok (.arraylength, 1)) (kk : V p l e R s m args below meth c A Q D cl nL cells slots w (pc + 1) lv (.int (nI L) :: st)) : V p l e R s m args below meth c A Q D cl nL cells slots w pc lv (.ref b :: st) :=
  fun ls H locs hl hP hD hS => va_slen F.x F.b hX hbl hbA hS d (kk ls H locs hl hP hD hS)
end QL
