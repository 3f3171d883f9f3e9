/-! DOUBLES -/
section JW6
variable {p : Program} {l : Launch} {e : Env} {R : Room} {s : State} {m : MethodId} {args : Array Value} {below : List Frame} {meth : Method} {c : Code} {E : ewE} {A : Nat → Prop} {cc : ByteArray} {nL : Nat} {own : String} {ret : Option FieldType} {cells slots : Nat} {Q : State → Prop} {pc : Nat} {L L' : List (Nat × Value)} {S : List Value} {M : ewM}
theorem jw_i2d (hC : jC p e R s m args meth c E A cc nL own ret) {x : Int} (hd : decode cc pc = .ok (.i2d, 1)) (k : jJ p l e R s m args below meth c E A nL cells slots Q (pc + 1) L (Value.double (FP.i2d (Int32.ofInt x)) :: S) M) : jJ p l e R s m args below meth c E A nL cells slots Q pc L (vI x :: S) M := by
  intro ls H locs hl hI
  exact lv_i2d hC.1 hC.2.1 hd (k ls H locs hl hI)
theorem jw_ddiv (hC : jC p e R s m args meth c E A cc nL own ret) {x y : UInt64} (hne : vf_n64 (FP.ddiv x y)) (hd : decode cc pc = .ok (.ddiv, 1)) (k : jJ p l e R s m args below meth c E A nL cells slots Q (pc + 1) L (Value.double (FP.ddiv x y) :: S) M) : jJ p l e R s m args below meth c E A nL cells slots Q pc L (Value.double y :: Value.double x :: S) M := by
  intro ls H locs hl hI
  exact lv_ddiv hC.1 hC.2.1 hd hne (k ls H locs hl hI)
theorem jw_dmul (hC : jC p e R s m args meth c E A cc nL own ret) {x y : UInt64} (hne : vf_n64 (FP.dmul x y)) (hd : decode cc pc = .ok (.dmul, 1)) (k : jJ p l e R s m args below meth c E A nL cells slots Q (pc + 1) L (Value.double (FP.dmul x y) :: S) M) : jJ p l e R s m args below meth c E A nL cells slots Q pc L (Value.double y :: Value.double x :: S) M := by
  intro ls H locs hl hI
  exact lv_dmul hC.1 hC.2.1 hd hne (k ls H locs hl hI)
theorem jw_dsub (hC : jC p e R s m args meth c E A cc nL own ret) {x y : UInt64} (hne : vf_n64 (FP.dsub x y)) (hd : decode cc pc = .ok (.dsub, 1)) (k : jJ p l e R s m args below meth c E A nL cells slots Q (pc + 1) L (Value.double (FP.dsub x y) :: S) M) : jJ p l e R s m args below meth c E A nL cells slots Q pc L (Value.double y :: Value.double x :: S) M := by
  intro ls H locs hl hI
  exact lv_dsub hC.1 hC.2.1 hd hne (k ls H locs hl hI)
theorem jw_d2l (hC : jC p e R s m args meth c E A cc nL own ret) {x : UInt64} {n : Int} (hn : FP.d2l x = Int64.ofInt n) (hd : decode cc pc = .ok (.d2l, 1)) (k : jJ p l e R s m args below meth c E A nL cells slots Q (pc + 1) L (vJ n :: S) M) : jJ p l e R s m args below meth c E A nL cells slots Q pc L (Value.double x :: S) M := by
  intro ls H locs hl hI
  exact lv_d2l hC.1 hC.2.1 hd (by rw [hn]; exact k ls H locs hl hI)
theorem jw_dcmp (hC : jC p e R s m args meth c E A cc nL own ret) {x y : UInt64} {op : CmpOp} {n : Int} (hn : Op.cmpValue (FP.dcmp x y) op = Int32.ofInt n) (hd : decode cc pc = .ok (.dcmp op, 1)) (k : jJ p l e R s m args below meth c E A nL cells slots Q (pc + 1) L (vI n :: S) M) : jJ p l e R s m args below meth c E A nL cells slots Q pc L (Value.double y :: Value.double x :: S) M := by
  intro ls H locs hl hI
  exact lv_dcmp hC.1 hC.2.1 hd (by rw [hn]; exact k ls H locs hl hI)
theorem jw_dconst0 (hC : jC p e R s m args meth c E A cc nL own ret)  (hd : decode cc pc = .ok (.dconst 0, 1)) (k : jJ p l e R s m args below meth c E A nL cells slots Q (pc + 1) L (Value.double FP.dconst0 :: S) M) : jJ p l e R s m args below meth c E A nL cells slots Q pc L S M := by
  intro ls H locs hl hI
  exact lv_dconst0 hC.1 hC.2.1 hd (k ls H locs hl hI)
theorem jw_dconst1 (hC : jC p e R s m args meth c E A cc nL own ret)  (hd : decode cc pc = .ok (.dconst 1, 1)) (k : jJ p l e R s m args below meth c E A nL cells slots Q (pc + 1) L (Value.double FP.dconst1 :: S) M) : jJ p l e R s m args below meth c E A nL cells slots Q pc L S M := by
  intro ls H locs hl hI
  exact lv_dconst1 hC.1 hC.2.1 hd (k ls H locs hl hI)
theorem jw_dload_n (hC : jC p e R s m args meth c E A cc nL own ret) {kk : Fin 4} {i : Nat} {x : UInt64} (j : Nat) (hi : (kk : Nat) = i) (hj : L[j]? = some (i, Value.double x)) (hd : decode cc pc = .ok (.dload_n kk, 1)) (k : jJ p l e R s m args below meth c E A nL cells slots Q (pc + 1) L (Value.double x :: S) M) : jJ p l e R s m args below meth c E A nL cells slots Q pc L S M := by
  intro ls H locs hl hI
  exact lv_dload_n hC.1 hC.2.1 hd hi (lv_at hl j hj) (k ls H locs hl hI)
theorem jw_ldc2d (hC : jC p e R s m args meth c E A cc nL own ret) {v : UInt64} {idx : Nat} (hw : Cond.constantDouble own idx v ∈ WW) (hd : decode cc pc = .ok (.ldc2_w idx, 3)) (k : jJ p l e R s m args below meth c E A nL cells slots Q (pc + 3) L (Value.double v :: S) M) : jJ p l e R s m args below meth c E A nL cells slots Q pc L S M := by
  intro ls H locs hl hI
  exact lv_ldc2d hC.1 hC.2.1 hC.2.2.2.1 (hC.2.2.2.2.1 _ hw) hd (k ls H locs hl hI)
theorem jw_dstore_n (hC : jC p e R s m args meth c E A cc nL own ret) {kk : Fin 4} {i : Nat} {x : UInt64} (hd : decode cc pc = .ok (.dstore_n kk, 1)) (hi : (kk : Nat) = i) (hn : i + 1 < nL) (hf : (i, Value.double x) :: L.filter (fun q => !(q.1 == i) && (!(q.1 == i + 1) && !(q.1 + 1 == i && q.2.category == 2))) = L') (k : jJ p l e R s m args below meth c E A nL cells slots Q (pc + 1) L' S M) : jJ p l e R s m args below meth c E A nL cells slots Q pc L (Value.double x :: S) M := by
  intro ls H locs hl hI
  exact lv_dstore_n hC.1 hC.2.1 hd hi hl hn hf (fun ls2 hl2 => k ls2 H locs hl2 hI)
end JW6
