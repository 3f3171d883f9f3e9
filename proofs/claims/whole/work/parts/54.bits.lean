/-! THE BITS of a share -/
theorem wd_122 : Jvm.Cond.methodLink "java/lang/Double" (122 : Nat) (⟨"java/lang/Double", "isNaN", "(D)Z"⟩ : Jvm.MethodName) ∈ WW := ww_t6 189 (by decide +kernel) (by decide +kernel)
theorem wd_134 : Jvm.Cond.methodLink "java/lang/Double" (134 : Nat) (⟨"java/lang/Double", "doubleToRawLongBits", "(D)J"⟩ : Jvm.MethodName) ∈ WW := ww_t6 192 (by decide +kernel) (by decide +kernel)
theorem sS_D_122 : ewSt "java/lang/Double" 122 yJxe99ae_isNaN_b9ae7 cJxe99ae_isNaN_b9ae7 2 (some .boolean) 1 := ⟨wd_122, w6_190, w1_26, w6_191, by decide +kernel, by decide +kernel, by decide +kernel⟩
def f_cmp1 (x : UInt64) : Int := (Op.cmpValue (FP.dcmp x FP.dconst1) .g).toInt
def f_cmp0 (x : UInt64) : Int := (Op.cmpValue (FP.dcmp x FP.dconst0) .g).toInt
/-- from the head of the loop that doubles: scaled x, exponent e; v is the answer -/
def f_chk (v : Int) : Nat → UInt64 → Int → Bool
  | 0, _, _ => false
  | n + 1, x, e => decide (0 ≤ e ∧ e ≤ 1023) && (if f_cmp1 x < 0 ∧ 0 < e then decide (FP.dmul x 4611686018427387904 &&& 0x7fffffffffffffff ≤ 0x7ff0000000000000) && f_chk v n (FP.dmul x 4611686018427387904) (e - 1)
    else decide (FP.dsub x FP.dconst1 &&& 0x7fffffffffffffff ≤ 0x7ff0000000000000) && (decide (FP.dmul (FP.dsub x FP.dconst1) 4841369599423283200 &&& 0x7fffffffffffffff ≤ 0x7ff0000000000000) && decide (e * 4503599627370496 + (FP.d2l (FP.dmul (FP.dsub x FP.dconst1) 4841369599423283200)).toInt = v)))
def f_all (x : UInt64) : Bool := decide (x.toInt64 = Int64.ofInt (x.toNat : Int)) && (decide ((Op.cmpValue (FP.dcmp x x) .l).toInt = 0) && (if f_cmp0 x ≤ 0 then decide (x.toNat = 0) else f_chk (x.toNat : Int) 10 x 1023))
set_option maxRecDepth 100000 in
theorem f_all_k : ∀ k : Fin 145, f_all (f_sh ((k.val : Nat) : Int)) = true := by decide +kernel
theorem f_all_n {n : Int} (h0 : 0 ≤ n) (h1 : n ≤ 144) : f_all (f_sh n) = true := by
  have := f_all_k ⟨n.toNat, by omega⟩
  rw [show (((⟨n.toNat, by omega⟩ : Fin 145).val : Nat) : Int) = n from by show ((n.toNat : Nat) : Int) = n; omega] at this
  exact this
theorem shl_k : ∀ k : Fin 1024, Int64.ofInt ((k.val : Nat) : Int) <<< ((Int32.ofInt 52).toInt64 &&& 63) = Int64.ofInt (((k.val : Nat) : Int) * 4503599627370496) := by decide +kernel
theorem i32_b (x : Int32) : -2147483648 ≤ x.toInt ∧ x.toInt < 2147483648 := by
  have h1 := Int32.le_toInt x
  have h2 := Int32.toInt_lt x
  omega
section JW7
variable {p : Program} {l : Launch} {e : Env} {R : Room} {s : State} {m : MethodId} {args : Array Value} {below : List Frame} {meth : Method} {c : Code} {E : ewE} {A : Nat → Prop} {cc : ByteArray} {nL : Nat} {own : String} {ret : Option FieldType} {cells slots : Nat} {Q : State → Prop} {pc : Nat} {L L' : List (Nat × Value)} {S : List Value} {M : ewM}
theorem jw_lshl52 (hC : jC p e R s m args meth c E A cc nL own ret) {x : Int} (h0 : 0 ≤ x) (h1 : x ≤ 1023) (hd : decode cc pc = .ok (.lshl, 1)) (k : jJ p l e R s m args below meth c E A nL cells slots Q (pc + 1) L (vJ (x * 4503599627370496) :: S) M) : jJ p l e R s m args below meth c E A nL cells slots Q pc L (vI 52 :: vJ x :: S) M := by
  intro ls H locs hl hI
  have h9 := shl_k ⟨x.toNat, by omega⟩
  rw [show (((⟨x.toNat, by omega⟩ : Fin 1024).val : Nat) : Int) = x from by show ((x.toNat : Nat) : Int) = x; omega] at h9
  exact lv_lshl hC.1 hC.2.1 hd h9 (k ls H locs hl hI)
theorem jw_rawBits (hC : jC p e R s m args meth c E A cc nL "java/lang/Double" ret) {x : UInt64} (hx : x.toInt64 = Int64.ofInt (x.toNat : Int)) (hd : decode cc pc = .ok (.invokestatic 134, 3)) (hR : 1 ≤ R.frames ∧ 15 ≤ R.locals) (k : jJ p l e R s m args below meth c E A nL cells slots Q (pc + 3) L [vJ (x.toNat : Int)] M) : jJ p l e R s m args below meth c E A nL cells slots Q pc L [Value.double x] M := by
  intro ls H locs hl hI
  have k := k ls H locs hl hI
  unfold vJ at k
  rw [← hx] at k
  exact vn_d2l hC.1 hC.2.1 (hC.2.2.1.trans hl.1.symm) hC.2.2.2.1 (hC.2.2.2.2.1 _ wd_134) (hC.2.2.2.2.1 _ w6_194) (hC.2.2.2.2.1 _ w6_193) (hC.2.2.2.2.1 _ w1_26) hR.1 (by show 0 + 15 ≤ _; omega) hd k
end JW7
set_option maxRecDepth 100000 in
set_option maxHeartbeats 4000000 in
theorem c_Jxe99ae_isNaN_b9ae7 (l : Launch) (E : ewE) (M : ewM) (x : UInt64) (hx : f_all x = true) : Ct l E yJxe99ae_isNaN_b9ae7 (.code yJxe99ae_isNaN_b9ae7 cJxe99ae_isNaN_b9ae7 2 (some .boolean)) 1 [Value.double x] M (fun v M1 => v = some (vI 0) ∧ M = M1) := by
  refine ct_of (L0 := [(0, Value.double x)]) (by decide +kernel) rfl (Nat.le_of_ble_eq_true rfl) ?_
  intro zp ze zs zm za zb zt zc zA hC
  simp only [f_all, Bool.and_eq_true, decide_eq_true_eq] at hx
  obtain ⟨hx1, hx2, -⟩ := hx
  refine jw_dload_n hC 0 rfl rfl dJxe99ae_isNaN_b9ae7_0 ?_
  refine jw_dload_n hC 0 rfl rfl dJxe99ae_isNaN_b9ae7_1 ?_
  refine jw_dcmp (n := 0) hC (by rw [← hx2]; exact (Int32.ofInt_toInt _).symm) dJxe99ae_isNaN_b9ae7_2 ?_
  refine jw_if_eq (tgt := 10) hC dJxe99ae_isNaN_b9ae7_3 (by decide) (by omega) (by omega) (fun h3 => ?_) (fun h3 => ?_)
  · skip
    refine jw_iconst hC dJxe99ae_isNaN_b9ae7_10 ?_
    refine jw_zret hC (by omega) dJxe99ae_isNaN_b9ae7_11 ?_
    exact ⟨rfl, rfl⟩
  · skip
    exact absurd rfl h3
set_option maxRecDepth 100000 in
set_option maxHeartbeats 4000000 in
theorem c_Jxe99ae_doubleToLongBits_ccdee (l : Launch) (E : ewE) (M : ewM) (x : UInt64) (hx : f_all x = true) : Ct l E yJxe99ae_doubleToLongBits_ccdee (.code yJxe99ae_doubleToLongBits_ccdee cJxe99ae_doubleToLongBits_ccdee 2 (some .long)) 2 [Value.double x] M (fun v M1 => v = some (vJ (x.toNat : Int)) ∧ M = M1) := by
  refine ct_of (L0 := [(0, Value.double x)]) (by decide +kernel) rfl (Nat.le_of_ble_eq_true rfl) ?_
  intro zp ze zs zm za zb zt zc zA hC
  have hxa := hx
  simp only [f_all, Bool.and_eq_true, decide_eq_true_eq] at hxa
  refine jw_dload_n hC 0 rfl rfl dJxe99ae_doubleToLongBits_ccdee_0 ?_
  refine jw_callS hC (c_Jxe99ae_isNaN_b9ae7 l E M x hx) sS_D_122 dJxe99ae_doubleToLongBits_ccdee_1 rfl rfl ⟨Nat.le_of_ble_eq_true rfl, Nat.le_of_ble_eq_true rfl⟩ ⟨Nat.zero_le _, Nat.zero_le _⟩ (Nat.le_of_ble_eq_true rfl) (fun v1 M1 g1 => ?_)
  obtain ⟨rfl, rfl⟩ := g1
  refine jw_if_ne (tgt := 12) hC dJxe99ae_doubleToLongBits_ccdee_4 (by decide) (by omega) (by omega) (fun h4 => ?_) (fun h4 => ?_)
  · skip
    exact absurd rfl h4
  · skip
    refine jw_dload_n hC 0 rfl rfl dJxe99ae_doubleToLongBits_ccdee_7 ?_
    refine jw_rawBits hC hxa.1 dJxe99ae_doubleToLongBits_ccdee_8 ⟨Nat.le_of_ble_eq_true rfl, Nat.le_of_ble_eq_true rfl⟩ ?_
    refine jw_lret hC dJxe99ae_doubleToLongBits_ccdee_11 ?_
    exact ⟨rfl, rfl⟩
set_option maxRecDepth 100000 in
set_option maxHeartbeats 4000000 in
theorem c_X4_bitsOfShare (l : Launch) (E : ewE) (M : ewM) (x : UInt64) (hx : f_all x = true) : Ct l E yX4_bitsOfShare (.code yX4_bitsOfShare cX4_bitsOfShare 6 (some .long)) 1 [Value.double x] M (fun v M1 => v = some (vJ (x.toNat : Int)) ∧ M = M1) := by
  refine ct_of (L0 := [(0, Value.double x)]) (by decide +kernel) rfl (Nat.le_of_ble_eq_true rfl) ?_
  intro zp ze zs zm za zb zt zc zA hC
  simp only [f_all, Bool.and_eq_true, decide_eq_true_eq] at hx
  obtain ⟨-, -, hx3⟩ := hx
  have hb0 := i32_b (Op.cmpValue (FP.dcmp x FP.dconst0) .g)
  have hb0 : -2147483648 ≤ f_cmp0 x ∧ f_cmp0 x < 2147483648 := hb0
  have K15 : ∀ (n : Nat) (x1 : UInt64) (e : Int), f_chk (x.toNat : Int) n x1 e = true → jJ zp l ze (ct_rm 1) zs zm za zb zt zc E zA 6 0 0 (MQ zb (ct_Q E zA (fun v M1 => v = some (vJ (x.toNat : Int)) ∧ M = M1)) za zs 0 0 zA) 15 [(2, Value.double x1), (4, vJ e)] [] M := by
    intro n
    induction n with
    | zero => intro x1 e hk; exact absurd hk (by simp [f_chk])
    | succ n ih =>
      intro x1 e hk
      simp only [f_chk, Bool.and_eq_true, decide_eq_true_eq] at hk
      obtain ⟨he, hk⟩ := hk
      have hb1 := i32_b (Op.cmpValue (FP.dcmp x1 FP.dconst1) .g)
      have hb1 : -2147483648 ≤ f_cmp1 x1 ∧ f_cmp1 x1 < 2147483648 := hb1
      refine jw_dload_n hC 0 rfl rfl dX4_bitsOfShare_15 ?_
      refine jw_dconst1 hC dX4_bitsOfShare_16 ?_
      refine jw_dcmp (n := f_cmp1 x1) hC (Int32.ofInt_toInt _).symm dX4_bitsOfShare_17 ?_
      refine jw_if_ge (tgt := 43) hC dX4_bitsOfShare_18 (by decide) (by omega) (by omega) (fun h18 => ?_) (fun h18 => ?_)
      · skip
        refine jw_lload hC dX4_bitsOfShare_43 1 rfl ?_
        refine jw_bipush hC dX4_bitsOfShare_45 (by decide) ?_
        refine jw_lshl52 hC (by omega) (by omega) dX4_bitsOfShare_47 ?_
        refine jw_dload_n hC 0 rfl rfl dX4_bitsOfShare_48 ?_
        refine jw_dconst1 hC dX4_bitsOfShare_49 ?_
        rw [if_neg (by omega)] at hk
        simp only [Bool.and_eq_true, decide_eq_true_eq] at hk
        obtain ⟨hd1, hd2, hv⟩ := hk
        refine jw_dsub hC hd1 dX4_bitsOfShare_50 ?_
        refine jw_ldc2d hC w2_207 dX4_bitsOfShare_51 ?_
        refine jw_dmul hC hd2 dX4_bitsOfShare_54 ?_
        refine jw_d2l (n := (FP.d2l (FP.dmul (FP.dsub x1 FP.dconst1) 4841369599423283200)).toInt) hC (Int64.ofInt_toInt _).symm dX4_bitsOfShare_55 ?_
        refine jw_ladd hC dX4_bitsOfShare_56 ?_
        refine jw_lret hC dX4_bitsOfShare_57 ?_
        exact ⟨by rw [hv], rfl⟩
      · skip
        refine jw_lload hC dX4_bitsOfShare_21 1 rfl ?_
        refine jw_lconst (v := 0) hC dX4_bitsOfShare_23 rfl ?_
        refine jw_lcmp hC dX4_bitsOfShare_24 (by omega) (by omega) (by omega) (by omega) ?_
        refine jw_if_le (tgt := 43) hC dX4_bitsOfShare_25 (by decide) lcm_b1 lcm_b2 (fun h25 => ?_) (fun h25 => ?_)
        · skip
          have h25 := lcm_le.mp h25
          refine jw_lload hC dX4_bitsOfShare_43 1 rfl ?_
          refine jw_bipush hC dX4_bitsOfShare_45 (by decide) ?_
          refine jw_lshl52 hC (by omega) (by omega) dX4_bitsOfShare_47 ?_
          refine jw_dload_n hC 0 rfl rfl dX4_bitsOfShare_48 ?_
          refine jw_dconst1 hC dX4_bitsOfShare_49 ?_
          rw [if_neg (by omega)] at hk
          simp only [Bool.and_eq_true, decide_eq_true_eq] at hk
          obtain ⟨hd1, hd2, hv⟩ := hk
          refine jw_dsub hC hd1 dX4_bitsOfShare_50 ?_
          refine jw_ldc2d hC w2_207 dX4_bitsOfShare_51 ?_
          refine jw_dmul hC hd2 dX4_bitsOfShare_54 ?_
          refine jw_d2l (n := (FP.d2l (FP.dmul (FP.dsub x1 FP.dconst1) 4841369599423283200)).toInt) hC (Int64.ofInt_toInt _).symm dX4_bitsOfShare_55 ?_
          refine jw_ladd hC dX4_bitsOfShare_56 ?_
          refine jw_lret hC dX4_bitsOfShare_57 ?_
          exact ⟨by rw [hv], rfl⟩
        · skip
          have h25 := lcm_gt.mp h25
          refine jw_dload_n hC 0 rfl rfl dX4_bitsOfShare_28 ?_
          refine jw_ldc2d hC w2_206 dX4_bitsOfShare_29 ?_
          rw [if_pos ⟨by omega, by omega⟩] at hk
          simp only [Bool.and_eq_true, decide_eq_true_eq] at hk
          obtain ⟨hd, hk⟩ := hk
          refine jw_dmul hC hd dX4_bitsOfShare_32 ?_
          refine jw_dstore_n (L' := [(2, _), (4, _)]) hC dX4_bitsOfShare_33 rfl (by decide) rfl ?_
          refine jw_lload hC dX4_bitsOfShare_34 1 rfl ?_
          refine jw_lconst (v := 1) hC dX4_bitsOfShare_36 rfl ?_
          refine jw_lsub hC dX4_bitsOfShare_37 ?_
          refine jw_lstore (L' := [(4, _), (2, _)]) hC dX4_bitsOfShare_38 (by decide) rfl ?_
          refine jw_goto (tgt := 15) hC dX4_bitsOfShare_40 (by decide) ?_
          refine jw_loc (L' := [(2, _), (4, _)]) [1, 0] rfl ?_
          exact ih _ _ hk
  refine jw_dload_n hC 0 rfl rfl dX4_bitsOfShare_0 ?_
  refine jw_dconst0 hC dX4_bitsOfShare_1 ?_
  refine jw_dcmp (n := f_cmp0 x) hC (Int32.ofInt_toInt _).symm dX4_bitsOfShare_2 ?_
  refine jw_if_gt (tgt := 8) hC dX4_bitsOfShare_3 (by decide) (by omega) (by omega) (fun h3 => ?_) (fun h3 => ?_)
  · skip
    refine jw_dload_n hC 0 rfl rfl dX4_bitsOfShare_8 ?_
    refine jw_dstore_n (L' := [(2, _), (0, _)]) hC dX4_bitsOfShare_9 rfl (by decide) rfl ?_
    refine jw_ldc2 (n := 1023) hC dX4_bitsOfShare_10 w2_205 ?_
    refine jw_lstore (L' := [(4, _), (2, _), (0, _)]) hC dX4_bitsOfShare_13 (by decide) rfl ?_
    refine jw_loc (L' := [(2, _), (4, _)]) [1, 0] rfl ?_
    rw [if_neg (by omega)] at hx3
    exact K15 10 x 1023 hx3
  · skip
    rw [if_pos h3, decide_eq_true_eq] at hx3
    refine jw_lconst (v := 0) hC dX4_bitsOfShare_6 rfl ?_
    refine jw_lret hC dX4_bitsOfShare_7 ?_
    exact ⟨by rw [hx3]; rfl, rfl⟩
