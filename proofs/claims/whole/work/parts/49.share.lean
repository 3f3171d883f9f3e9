/-! THE SHARE of whole places -/
/-- the share that n of the 144 places are -/
def f_sh (n : Int) : UInt64 := FP.ddiv (FP.i2d (Int32.ofInt n)) 4639270566145032192
theorem f_sh_k : ∀ k : Fin 145, vf_n64 (f_sh ((k.val : Nat) : Int)) := by
  unfold vf_n64
  decide +kernel
theorem f_sh_n {n : Int} (h0 : 0 ≤ n) (h1 : n ≤ 144) : vf_n64 (f_sh n) := by
  have := f_sh_k ⟨n.toNat, by omega⟩
  rw [show (((⟨n.toNat, by omega⟩ : Fin 145).val : Nat) : Int) = n from by show ((n.toNat : Nat) : Int) = n; omega] at this
  exact this
set_option maxRecDepth 100000 in
set_option maxHeartbeats 4000000 in
theorem c_X5_share (l : Launch) (E : ewE) (M : ewM) (h0 : svI (M 89)) : Ct l E yX5_share (.code yX5_share cX5_share 1 (some .double)) 2 [vR E 88] M (fun v M1 => v = some (Value.double (f_sh (144 - f_sum (vC (M 89)) 144))) ∧ M = M1) := by
  refine ct_of (L0 := [(0, vR E 88)]) (by decide +kernel) rfl (Nat.le_of_ble_eq_true rfl) ?_
  intro zp ze zs zm za zb zt zc zA hC
  obtain ⟨p1, p2, p3, p4, p5, p6, p7, p8, p9, pf⟩ := id h0
  have hb := f_sum_C p2
  refine jw_sipush hC dX5_share_0 (by decide) ?_
  refine jw_aload_n hC dX5_share_3 0 rfl rfl ?_
  refine jw_callV hC (c_X5_cracked l E M h0) sV_X5_110 ewF_m0.o dX5_share_4 rfl rfl ⟨Nat.le_of_ble_eq_true rfl, Nat.le_of_ble_eq_true rfl⟩ ⟨Nat.zero_le _, Nat.zero_le _⟩ (Nat.le_of_ble_eq_true rfl) (fun v4 M4 g4 => ?_)
  obtain ⟨rfl, rfl⟩ := g4
  refine jw_isub hC dX5_share_7 ?_
  refine jw_i2d hC dX5_share_8 ?_
  refine jw_ldc2d hC w6_171 dX5_share_9 ?_
  refine jw_ddiv hC (f_sh_n (by omega) (by omega)) dX5_share_12 ?_
  refine jw_dret hC dX5_share_13 ?_
  exact ⟨rfl, rfl⟩
set_option maxRecDepth 100000 in
set_option maxHeartbeats 4000000 in
theorem c_X4_wholeShare (l : Launch) (E : ewE) (M : ewM) (h0 : st0 M) : Ct l E yX4_wholeShare (.code yX4_wholeShare cX4_wholeShare 1 (some .double)) 2 [vR E 77] M (fun v M1 => v = some (Value.double (f_sh (144 - f_sum (M 3) 144))) ∧ M = M1) := by
  refine ct_of (L0 := [(0, vR E 77)]) (by decide +kernel) rfl (Nat.le_of_ble_eq_true rfl) ?_
  intro zp ze zs zm za zb zt zc zA hC
  have hb := f_sum_C h0.2.1
  refine jw_sipush hC dX4_wholeShare_0 (by decide) ?_
  refine jw_aload_n hC dX4_wholeShare_3 0 rfl rfl ?_
  refine jw_getr hC fL_X4_12 ewR_x0 dX4_wholeShare_4 ?_
  refine jw_getr hC fL_X4_88 (show ewR 50 6 2 0 from ewR_t2 (j := 0) (by decide)) dX4_wholeShare_7 ?_
  refine jw_callV hC (c_X2_cracked l E M 0 (by decide)) sV_X4_104 (show ewO 0 5 from ewO_sheet (j := 0) (by decide)) dX4_wholeShare_10 rfl rfl ⟨Nat.le_of_ble_eq_true rfl, Nat.le_of_ble_eq_true rfl⟩ ⟨Nat.zero_le _, Nat.zero_le _⟩ (Nat.le_of_ble_eq_true rfl) (fun v10 M10 g10 => ?_)
  obtain ⟨rfl, rfl⟩ := g10
  show jJ _ _ _ _ _ _ _ _ _ _ _ _ _ _ _ _ _ _ (vI (f_sum (M 3) 144) :: _) _
  refine jw_isub hC dX4_wholeShare_13 ?_
  refine jw_i2d hC dX4_wholeShare_14 ?_
  refine jw_ldc2d hC w2_87 dX4_wholeShare_15 ?_
  refine jw_ddiv hC (f_sh_n (by omega) (by omega)) dX4_wholeShare_18 ?_
  refine jw_dret hC dX4_wholeShare_19 ?_
  exact ⟨rfl, rfl⟩
set_option maxRecDepth 100000 in
set_option maxHeartbeats 4000000 in
theorem c_X5_wholeShare (l : Launch) (E : ewE) (M : ewM) (h0 : svI (M 89)) : Ct l E yX5_wholeShare (.code yX5_wholeShare cX5_wholeShare 1 (some .double)) 3 [vR E 88] M (fun v M1 => v = some (Value.double (f_sh (144 - f_sum (vC (M 89)) 144))) ∧ qk M M1 0) := by
  refine ct_of (L0 := [(0, vR E 88)]) (by decide +kernel) rfl (Nat.le_of_ble_eq_true rfl) ?_
  intro zp ze zs zm za zb zt zc zA hC
  refine jw_aload_n hC dX5_wholeShare_0 0 rfl rfl ?_
  refine jw_iconst hC dX5_wholeShare_1 ?_
  refine jw_puti hC fL_X5_35 ewF_m0 (kI := 0) rfl dX5_wholeShare_2 (by omega) (by omega) ?_
  refine jw_aload_n hC dX5_wholeShare_5 0 rfl rfl ?_
  refine jw_callV hC (c_X5_share l E (mu M 88 0 0) (show svI ((mu M 88 0 0) 89) by rw [mu_ne _ _ _ (by decide)]; exact h0)) sV_X5_195 ewF_m0.o dX5_wholeShare_6 rfl rfl ⟨Nat.le_of_ble_eq_true rfl, Nat.le_of_ble_eq_true rfl⟩ ⟨Nat.zero_le _, Nat.zero_le _⟩ (Nat.le_of_ble_eq_true rfl) (fun v6 M6 g6 => ?_)
  obtain ⟨rfl, rfl⟩ := g6
  rw [mu_ne M _ _ (show (89 : Nat) ≠ 88 by decide)]
  refine jw_dret hC dX5_wholeShare_9 ?_
  exact ⟨rfl, qk_0 M⟩
