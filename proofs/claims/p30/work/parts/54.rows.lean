/-! ROWS OF THE LAW: bits, the script, longs and doubles that are one number -/
theorem i32_b (x : Int32) : -2147483648 ≤ x.toInt ∧ x.toInt < 2147483648 := by
  have h1 := Int32.le_toInt x
  have h2 := Int32.toInt_lt x
  omega
/-- two ints, bit by bit -/
def i_and (x y : Int) : Int := (Int32.ofInt x &&& Int32.ofInt y).toInt
/-- an int, shifted to the right -/
def i_shr (x y : Int) : Int := (Int32.ofInt x >>> (Int32.ofInt y &&& 31)).toInt
theorem i_and_b (x : Int) {y : Int} (h0 : 0 ≤ y) (h1 : y < 2147483648) : 0 ≤ i_and x y ∧ i_and x y ≤ y := by
  have e1 : (Int32.ofInt x &&& Int32.ofInt y).toInt = ((Int32.ofInt x).toBitVec &&& (Int32.ofInt y).toBitVec).toInt := rfl
  have e2 : (Int32.ofInt y).toInt = y := e32 (by omega) h1
  have e3 : (Int32.ofInt y).toInt = (Int32.ofInt y).toBitVec.toInt := rfl
  have e4 : (Int32.ofInt y).toBitVec.toInt = ((Int32.ofInt y).toBitVec.toNat : Int) := by
    rcases Decidable.em (2 * (Int32.ofInt y).toBitVec.toNat < 2 ^ 32) with h | h
    · exact BitVec.toInt_eq_toNat_of_lt h
    · exfalso
      have := BitVec.toInt_eq_toNat_cond (Int32.ofInt y).toBitVec
      rw [if_neg h] at this
      have hl := (Int32.ofInt y).toBitVec.isLt
      omega
  have e5 : ((Int32.ofInt x).toBitVec &&& (Int32.ofInt y).toBitVec).toNat ≤ (Int32.ofInt y).toBitVec.toNat := by
    rw [BitVec.toNat_and]
    exact Nat.and_le_right
  have e6 : ((Int32.ofInt x).toBitVec &&& (Int32.ofInt y).toBitVec).toInt = (((Int32.ofInt x).toBitVec &&& (Int32.ofInt y).toBitVec).toNat : Int) := BitVec.toInt_eq_toNat_of_lt (by omega)
  unfold i_and
  rw [e1, e6]
  omega
/-- a number out of an int, at least 0, less than n -/
def f_lo (v n : Int) : Int := i_and v 2147483647 % n
theorem f_lo_b (v : Int) {n : Int} (h : 0 < n) : 0 ≤ f_lo v n ∧ f_lo v n < n := ⟨Int.emod_nonneg _ (by omega), Int.emod_lt_of_pos _ h⟩
theorem lg_cmpe (x : Int64) : lg_cmp x x = Int32.ofInt 0 := by
  have : ¬ x < x := by rw [Int64.lt_iff_toInt_lt]; omega
  simp [lg_cmp]
section JW8
variable {p : Program} {l : Launch} {e : Env} {R : Room} {s : State} {m : MethodId} {args : Array Value} {below : List Frame} {meth : Method} {c : Code} {E : ewE} {A : Nat → Prop} {cc : ByteArray} {nL : Nat} {own : String} {ret : Option FieldType} {cells slots : Nat} {Q : State → Prop} {pc : Nat} {L L' : List (Nat × Value)} {S : List Value} {M : ewM}
theorem jw_iand (hC : jC p e R s m args meth c E A cc nL own ret) {x y : Int} (hd : decode cc pc = .ok (.iand, 1)) (k : -2147483648 ≤ i_and x y → i_and x y < 2147483648 → jJ p l e R s m args below meth c E A nL cells slots Q (pc + 1) L (vI (i_and x y) :: S) M) : jJ p l e R s m args below meth c E A nL cells slots Q pc L (vI y :: vI x :: S) M := by
  intro ls H locs hl hI
  have k := k (i32_b _).1 (i32_b _).2 ls H locs hl hI
  rw [show vI (i_and x y) = Value.int (Int32.ofInt x &&& Int32.ofInt y) from by unfold vI i_and; rw [Int32.ofInt_toInt]] at k
  exact lv_iand hC.1 hC.2.1 hd k
theorem jw_ishr (hC : jC p e R s m args meth c E A cc nL own ret) {x y : Int} (hd : decode cc pc = .ok (.ishr, 1)) (k : -2147483648 ≤ i_shr x y → i_shr x y < 2147483648 → jJ p l e R s m args below meth c E A nL cells slots Q (pc + 1) L (vI (i_shr x y) :: S) M) : jJ p l e R s m args below meth c E A nL cells slots Q pc L (vI y :: vI x :: S) M := by
  intro ls H locs hl hI
  have k := k (i32_b _).1 (i32_b _).2 ls H locs hl hI
  rw [show vI (i_shr x y) = Value.int (Int32.ofInt x >>> (Int32.ofInt y &&& 31)) from by unfold vI i_shr; rw [Int32.ofInt_toInt]] at k
  exact lv_ishr hC.1 hC.2.1 hd k
theorem jw_pop (hC : jC p e R s m args meth c E A cc nL own ret) {x : Int} (hd : decode cc pc = .ok (.pop, 1)) (k : jJ p l e R s m args below meth c E A nL cells slots Q (pc + 1) L S M) : jJ p l e R s m args below meth c E A nL cells slots Q pc L (vI x :: S) M :=
  fun ls H locs hl hI => lv_pop hC.1 hC.2.1 hd rfl (k ls H locs hl hI)
theorem jw_lcmpe (hC : jC p e R s m args meth c E A cc nL own ret) {x y : Int} (he : x = y) (hd : decode cc pc = .ok (.lcmp, 1)) (k : jJ p l e R s m args below meth c E A nL cells slots Q (pc + 1) L (vI 0 :: S) M) : jJ p l e R s m args below meth c E A nL cells slots Q pc L (vJ y :: vJ x :: S) M := by
  subst he
  intro ls H locs hl hI
  have k := k ls H locs hl hI
  unfold vI at k
  rw [← lg_cmpe (Int64.ofInt x)] at k
  exact W.lcmp hC.1 hC.2.1 hd k
theorem jw_wide (hC : jC p e R s m args meth c E A cc nL own ret) {x : Int} (k : jJ p l e R s m args below meth c E A nL cells slots Q pc L (vI (wr x) :: S) M) : jJ p l e R s m args below meth c E A nL cells slots Q pc L (vI x :: S) M := by rw [← vI_wr x]; exact k
/-- the script's number at i -/
def sx (E : ewE) (i : Int) : Int := (E.2.2.2.2 i.toNat).toInt
theorem sx_b (E : ewE) (i : Int) : -2147483648 ≤ sx E i ∧ sx E i < 2147483648 := i32_b _
theorem jw_sN (hC : jC p e R s m args meth c E A cc nL own ret) : E.2.2.2.1 ≤ 260 := hC.2.2.2.2.2.2.2.2.2.2.2.1.2.2.2.2
theorem jw_sld (hC : jC p e R s m args meth c E A cc nL own ret) {i : Int} (h0 : 0 ≤ i) (h1 : i < E.2.2.2.1) (hd : decode cc pc = .ok (.iaload, 1)) (k : jJ p l e R s m args below meth c E A nL cells slots Q (pc + 1) L (vI (sx E i) :: S) M) : jJ p l e R s m args below meth c E A nL cells slots Q pc L (vI i :: vR E 203 :: S) M := by
  intro ls H locs hl hI
  obtain ⟨e2, e3, e4, e5⟩ := hC.2.2.2.2.2.2.2.2.2.2.2.1.2
  have hcl := e32_clamp (a := i) h0 (by omega)
  have hcl : (Int32.ofInt i).toNatClampNeg = i.toNat := by omega
  have k := k ls H locs hl hI
  unfold vI sx at k
  rw [Int32.ofInt_toInt] at k
  exact va_sld (i := Int32.ofInt i) hC.1 hC.2.1 e2 e3 e4 hI.2.2.1 (e32_in (n := E.2.2.2.1) h0 h1 (by omega)) hd (by rw [hcl]; exact k)
theorem jw_slen (hC : jC p e R s m args meth c E A cc nL own ret) (hd : decode cc pc = .ok (.arraylength, 1)) (k : jJ p l e R s m args below meth c E A nL cells slots Q (pc + 1) L (vI (E.2.2.2.1 : Int) :: S) M) : jJ p l e R s m args below meth c E A nL cells slots Q pc L (vR E 203 :: S) M := by
  intro ls H locs hl hI
  obtain ⟨e2, e3, e4, e5⟩ := hC.2.2.2.2.2.2.2.2.2.2.2.1.2
  have k := k ls H locs hl hI
  exact va_slen hC.1 hC.2.1 e2 e3 e4 hI.2.2.1 hd (by exact k)
theorem jw_widen {k n : Nat} (h1 : cells ≤ k) (h2 : slots ≤ n) (k9 : jJ p l e R s m args below meth c E A nL k n Q pc L S M) : jJ p l e R s m args below meth c E A nL cells slots Q pc L S M := fun ls H locs hl hI => W.widen h1 h2 (k9 ls H locs hl hI)
end JW8
