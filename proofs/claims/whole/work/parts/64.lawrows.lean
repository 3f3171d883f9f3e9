/-! THE LAW'S FRAME: its rows -/
set_option maxRecDepth 100000 in
set_option maxHeartbeats 4000000 in
theorem c_X5_thrown (l : Launch) (E : ewE) (M : ewM)  : Ct l E yX5_thrown (.code yX5_thrown cX5_thrown 1 (some .int)) 1 [vR E 88] M (fun v M1 => v = some (vI (M 88 0)) ∧ M = M1) := by
  refine ct_of (L0 := [(0, vR E 88)]) (by decide +kernel) rfl (Nat.le_of_ble_eq_true rfl) ?_
  intro zp ze zs zm za zb zt zc zA hC
  refine jw_aload_n hC dX5_thrown_0 0 rfl rfl ?_
  refine jw_geti hC fL_X5_35.r ewF_m0 (kI := 0) rfl dX5_thrown_1 (by omega) (fun b1 c1 => ?_)
  refine jw_iret hC dX5_thrown_4 ?_
  exact ⟨rfl, rfl⟩
theorem and31 (x : Int32) : 0 ≤ (x &&& 31).toInt ∧ (x &&& 31).toInt ≤ 31 := by
  have h1 : (x &&& 31).toInt = (x.toBitVec &&& 31#32).toInt := rfl
  have h2 : (x.toBitVec &&& 31#32).toNat ≤ 31 := by
    rw [BitVec.toNat_and]
    exact Nat.and_le_right
  have h3 : (x.toBitVec &&& 31#32).toInt = ((x.toBitVec &&& 31#32).toNat : Int) := BitVec.toInt_eq_toNat_of_lt (by omega)
  omega
/-- the script's number at i -/
def sx (xs : Nat → Int32) (i : Int) : Int := (xs i.toNat).toInt
theorem sx_1 (xs : Nat → Int32) (i : Int) : -2147483648 ≤ sx xs i := (i32_b _).1
theorem sx_2 (xs : Nat → Int32) (i : Int) : sx xs i < 2147483648 := (i32_b _).2
/-- where the law's script lies -/
def lwX (s : State) (E : ewE) (A : Nat → Prop) (b L : Nat) (xs : Nat → Int32) : Prop := E.1 300 = b ∧ va_X b L xs s s.heap ∧ b < s.heap.size ∧ ¬ A b ∧ L ≤ 3072
section JW9
variable {p : Program} {l : Launch} {e : Env} {R : Room} {s : State} {m : MethodId} {args : Array Value} {below : List Frame} {meth : Method} {c : Code} {E : ewE} {A : Nat → Prop} {cc : ByteArray} {nL : Nat} {own : String} {ret : Option FieldType} {cells slots : Nat} {Q : State → Prop} {pc : Nat} {L L' : List (Nat × Value)} {S : List Value} {M : ewM}
theorem jw_widen {k n : Nat} (h1 : cells ≤ k) (h2 : slots ≤ n) (k9 : jJ p l e R s m args below meth c E A nL k n Q pc L S M) : jJ p l e R s m args below meth c E A nL cells slots Q pc L S M := fun ls H locs hl hI => W.widen h1 h2 (k9 ls H locs hl hI)
theorem jw_sld (hC : jC p e R s m args meth c E A cc nL own ret) {b N : Nat} {xs : Nat → Int32} (hX : lwX s E A b N xs) {i : Int} (h0 : 0 ≤ i) (h1 : i < N) (hd : decode cc pc = .ok (.iaload, 1)) (k : jJ p l e R s m args below meth c E A nL cells slots Q (pc + 1) L (vI (sx xs i) :: S) M) : jJ p l e R s m args below meth c E A nL cells slots Q pc L (vI i :: vR E 300 :: S) M := by
  intro ls H locs hl hI
  obtain ⟨e1, e2, e3, e4, e5⟩ := hX
  have hcl := e32_clamp (a := i) h0 (by omega)
  have hcl : (Int32.ofInt i).toNatClampNeg = i.toNat := by omega
  have k := k ls H locs hl hI
  unfold vI sx at k
  rw [Int32.ofInt_toInt] at k
  have k9 := va_sld (i := Int32.ofInt i) hC.1 hC.2.1 e2 e3 e4 hI.2.2.1 (e32_in (n := N) h0 h1 (by omega)) hd (by rw [hcl]; exact k)
  rw [← e1] at k9
  exact k9
theorem jw_slen (hC : jC p e R s m args meth c E A cc nL own ret) {b N : Nat} {xs : Nat → Int32} (hX : lwX s E A b N xs) (hd : decode cc pc = .ok (.arraylength, 1)) (k : jJ p l e R s m args below meth c E A nL cells slots Q (pc + 1) L (vI (N : Int) :: S) M) : jJ p l e R s m args below meth c E A nL cells slots Q pc L (vR E 300 :: S) M := by
  intro ls H locs hl hI
  obtain ⟨e1, e2, e3, e4, e5⟩ := hX
  have k := k ls H locs hl hI
  have k9 := va_slen hC.1 hC.2.1 e2 e3 e4 hI.2.2.1 hd (by exact k)
  rw [← e1] at k9
  exact k9
theorem jw_and31 (hC : jC p e R s m args meth c E A cc nL own ret) {x : Int} (hd : decode cc pc = .ok (.iand, 1)) (k : jJ p l e R s m args below meth c E A nL cells slots Q (pc + 1) L (vI ((Int32.ofInt x &&& 31).toInt) :: S) M) : jJ p l e R s m args below meth c E A nL cells slots Q pc L (vI 31 :: vI x :: S) M := by
  intro ls H locs hl hI
  have k := k ls H locs hl hI
  rw [show vI ((Int32.ofInt x &&& 31).toInt) = Value.int (Int32.ofInt x &&& 31) from by unfold vI; rw [Int32.ofInt_toInt]] at k
  exact lv_iand hC.1 hC.2.1 hd k
theorem jw_lald97 (hC : jC p e R s m args meth c E A cc nL own ret) (hd : decode cc pc = .ok (.laload, 1)) (k : jJ p l e R s m args below meth c E A nL cells slots Q (pc + 1) L (vJ (M 97 0) :: S) M) : jJ p l e R s m args below meth c E A nL cells slots Q pc L (vI 0 :: vR E 97 :: S) M := by
  intro ls H locs hl hI
  have hcl := e32_clamp (a := 0) (by decide) (by decide)
  have hcl : (Int32.ofInt 0).toNatClampNeg = 0 := by omega
  refine va_lald hC.1 hC.2.1 hC.2.2.2.2.2.1 hI.1 97 2 (cA := E.2.2 2) (n := 1) (f := fun k => Int64.ofInt (M 97 k)) (ew_get (by decide)) rfl (e32_in (n := 1) (by decide) (by decide) (by decide)) hd ?_
  rw [hcl]
  exact k ls H locs hl hI
theorem jw_dload (hC : jC p e R s m args meth c E A cc nL own ret) {i : Nat} {x : UInt64} (j : Nat) (hj : L[j]? = some (i, Value.double x)) (hd : decode cc pc = .ok (.dload i, 2)) (k : jJ p l e R s m args below meth c E A nL cells slots Q (pc + 2) L (Value.double x :: S) M) : jJ p l e R s m args below meth c E A nL cells slots Q pc L S M := by
  intro ls H locs hl hI
  exact lv_dload hC.1 hC.2.1 hd (lv_at hl j hj) (k ls H locs hl hI)
theorem jw_dstore (hC : jC p e R s m args meth c E A cc nL own ret) {i : Nat} {x : UInt64} (hd : decode cc pc = .ok (.dstore i, 2)) (hn : i + 1 < nL) (hf : (i, Value.double x) :: L.filter (fun q => !(q.1 == i) && (!(q.1 == i + 1) && !(q.1 + 1 == i && q.2.category == 2))) = L') (k : jJ p l e R s m args below meth c E A nL cells slots Q (pc + 2) L' S M) : jJ p l e R s m args below meth c E A nL cells slots Q pc L (Value.double x :: S) M := by
  intro ls H locs hl hI
  exact lv_dstore hC.1 hC.2.1 hd hl hn hf (fun ls2 hl2 => k ls2 H locs hl2 hI)
theorem jx_callSH (hC : jC p e R s m args meth c E A cc nL own ret) {S0 As : List Value} {idx maxL d n : Nat} {y : MethodName} {bytes : ByteArray} {rt : Option FieldType} {hh : List (Nat × Nat × Nat × Nat)} {post : Option Value → ewM → Prop}
    (hM : Cl l E y (.codeWith y bytes maxL rt hh) d As M post) (hV : ewSh own idx y bytes maxL rt hh n) (hd : decode cc pc = .ok (.invokestatic idx, 3)) (hst : S0 = As.reverse ++ S) (hn : As.length = n)
    (hR : d + 1 ≤ R.frames ∧ 8 + (maxL + 11) + 40 * d ≤ R.locals) (hcs : cells + 1 ≤ R.cells ∧ slots + 6 ≤ R.slots) (hS : (S.map fun v => v.category).sum ≤ 8)
    (k : ∀ (v : Option Value) (M1 : ewM), post v M1 → jJ p l e R s m args below meth c E A nL (cells + 1) (slots + 6) Q (pc + 3) L (vpush v S) M1) : jJ p l e R s m args below meth c E A nL cells slots Q pc L S0 M := by
  intro ls H locs hl hI
  obtain ⟨w1, w2, w3, w4, hd1⟩ := hV
  have hG : GoodIn WW (va_wsS own idx y (Cond.codeWith y bytes maxL rt hh :: WW)) := by
    intro w hw
    have hm : w ∈ WW := by
      simp only [va_wsS, List.cons_append, List.nil_append, List.mem_cons] at hw
      rcases hw with rfl | rfl | rfl | rfl | hw
      · exact w1
      · exact w2
      · exact w3
      · exact w4
      · exact hw
    exact ⟨hm, ww_good hm⟩
  have cw := vx_cwSW (R := R) (rm := cx_rm d) (mc := 1) (ms := 6) n hC.2.2.2.2.1 hG rfl rfl rfl hd1 hR
  exact jx_run hC hl hI (vx_runSX (As := As) (rest := S) ⟨hC.1, hC.2.1, hC.2.2.1, hC.2.2.2.1, hC.2.2.2.2.1⟩ (hM H.size) cw ⟨jw_blind, jw_pre hC hI⟩ rfl hn hl.1 hst (lv_room hS) hd hcs)
    (fun C1 ce q9 st0 t H1 locs1 hX _ _ _ _ _ _ => hX.elim) k
end JW9
