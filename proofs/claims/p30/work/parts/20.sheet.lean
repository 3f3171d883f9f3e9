/-! THE SHEET: its methods -/
set_option maxRecDepth 100000 in
set_option maxHeartbeats 4000000 in
theorem c_X2_difference (l : Launch) (E : ewE) (M : ewM) (j : Nat) (hj : j < 10) (a b : Int) (ha : 0 ≤ a ∧ a < 144) (hb : 0 ≤ b ∧ b < 144) (hD : pD (M (5 * j + 1))) : Ct l E yX2_difference (.code yX2_difference cX2_difference 4 (some .int)) 1 [vR E (5 * j), vI a, vI b] M (fun v M1 => v = some (vI (f_diff (M (5 * j + 1)) a b)) ∧ M = M1) := by
  refine ct_of (L0 := [(0, vR E (5 * j)), (1, vI a), (2, vI b)]) (by decide +kernel) rfl (Nat.le_of_ble_eq_true rfl) ?_
  intro zp ze zs zm za zb zt zc zA hC
  have h1 := hD a
  have h2 := hD b
  refine jw_aload_n hC dX2_difference_0 0 rfl rfl ?_
  refine jw_getr hC fL_X2_9 (ewR_s0 (j := j) (by omega)) dX2_difference_1 ?_
  refine jw_iload_n hC dX2_difference_4 1 rfl rfl ?_
  refine jw_iald hC (ewA_sheet (j := j) (r := 1) (by omega) (by decide) (by decide)) dX2_difference_5 (by omega) (by omega) (by decide) (fun b5 c5 => ?_)
  refine jw_aload_n hC dX2_difference_6 0 rfl rfl ?_
  refine jw_getr hC fL_X2_9 (ewR_s0 (j := j) (by omega)) dX2_difference_7 ?_
  refine jw_iload_n hC dX2_difference_10 2 rfl rfl ?_
  refine jw_iald hC (ewA_sheet (j := j) (r := 1) (by omega) (by decide) (by decide)) dX2_difference_11 (by omega) (by omega) (by decide) (fun b11 c11 => ?_)
  refine jw_isub hC dX2_difference_12 ?_
  refine jw_istore_n (L' := [(3, _), (0, _), (1, _), (2, _)]) hC dX2_difference_13 rfl (by decide) rfl ?_
  refine jw_iload_n hC dX2_difference_14 0 rfl rfl ?_
  refine jw_if_ge (tgt := 23) hC dX2_difference_15 (by decide) (by omega) (by omega) (fun h15 => ?_) (fun h15 => ?_)
  · skip
    refine jw_iload_n hC dX2_difference_23 0 rfl rfl ?_
    refine jw_iret hC dX2_difference_24 ?_
    refine ⟨?_, rfl⟩
    unfold f_diff
    first | rw [if_pos (by omega)] | rw [if_neg (by omega)]
  · skip
    refine jw_iload_n hC dX2_difference_18 0 rfl rfl ?_
    refine jw_ineg hC dX2_difference_19 ?_
    refine jw_goto (tgt := 24) hC dX2_difference_20 (by decide) ?_
    refine jw_iret hC dX2_difference_24 ?_
    refine ⟨?_, rfl⟩
    unfold f_diff
    first | rw [if_pos (by omega)] | rw [if_neg (by omega)]
set_option maxRecDepth 100000 in
set_option maxHeartbeats 4000000 in
theorem c_X2_strainOf (l : Launch) (E : ewE) (M : ewM) (j : Nat) (hj : j < 10) (p : Int) (hp : 0 ≤ p ∧ p < 144) (hD : pD (M (5 * j + 1))) : Ct l E yX2_strainOf (.code yX2_strainOf cX2_strainOf 4 (some .int)) 2 [vR E (5 * j), vI p] M (fun v M1 => v = some (vI (f_str (M (5 * j + 1)) p)) ∧ M = M1) := by
  refine ct_of (L0 := [(0, vR E (5 * j)), (1, vI p)]) (by decide +kernel) rfl (Nat.le_of_ble_eq_true rfl) ?_
  intro zp ze zs zm za zb zt zc zA hC
  have K76 : ∀ x : Int, x = f_s1 (M (5 * j + 1)) p + f_s2 (M (5 * j + 1)) p + f_s3 (M (5 * j + 1)) p + f_s4 (M (5 * j + 1)) p → jJ zp l ze (ct_rm 2) zs zm za zb zt zc E zA 4 0 0 (MQ zb (ct_Q E zA (fun v M1 => v = some (vI (f_str (M (5 * j + 1)) p)) ∧ M = M1)) za zs 0 0 zA) 76 [(0, vR E (5 * j)), (1, vI p), (2, vI (p % 12)), (3, vI x)] [] M := by
    intro x hx
    refine jw_iload_n hC dX2_strainOf_76 3 rfl rfl ?_
    refine jw_iret hC dX2_strainOf_77 ?_
    refine ⟨?_, rfl⟩
    rw [hx]
    rfl
  have K57 : ∀ x : Int, x = f_s1 (M (5 * j + 1)) p + f_s2 (M (5 * j + 1)) p + f_s3 (M (5 * j + 1)) p → jJ zp l ze (ct_rm 2) zs zm za zb zt zc E zA 4 0 0 (MQ zb (ct_Q E zA (fun v M1 => v = some (vI (f_str (M (5 * j + 1)) p)) ∧ M = M1)) za zs 0 0 zA) 57 [(0, vR E (5 * j)), (1, vI p), (2, vI (p % 12)), (3, vI x)] [] M := by
    intro x hx
    refine jw_iload_n hC dX2_strainOf_57 1 rfl rfl ?_
    refine jw_sipush hC dX2_strainOf_58 (by decide) ?_
    refine jw_icmp_ge (tgt := 76) hC dX2_strainOf_61 (by decide) (by omega) (by omega) (by omega) (by omega) (fun h61 => ?_) (fun h61 => ?_)
    · skip
      refine K76 _ ?_
      unfold f_s4
      first | (rw [if_pos (by omega)] <;> omega) | (rw [if_neg (by omega)] <;> omega)
    · skip
      refine jw_iload_n hC dX2_strainOf_64 3 rfl rfl ?_
      refine jw_aload_n hC dX2_strainOf_65 0 rfl rfl ?_
      refine jw_iload_n hC dX2_strainOf_66 1 rfl rfl ?_
      refine jw_iload_n hC dX2_strainOf_67 1 rfl rfl ?_
      refine jw_bipush hC dX2_strainOf_68 (by decide) ?_
      refine jw_iadd hC dX2_strainOf_70 ?_
      refine jw_callV hC (c_X2_difference l E M j hj _ _ ⟨by omega, by omega⟩ ⟨by omega, by omega⟩ hD) sV_X2_54 (ewO_sheet (j := j) (by omega)) dX2_strainOf_71 rfl rfl ⟨Nat.le_of_ble_eq_true rfl, Nat.le_of_ble_eq_true rfl⟩ ⟨Nat.zero_le _, Nat.zero_le _⟩ (Nat.le_of_ble_eq_true rfl) (fun v71 M71 g71 => ?_)
      obtain ⟨rfl, rfl⟩ := g71
      refine jw_iadd hC dX2_strainOf_74 ?_
      refine jw_istore_n (L' := [(3, _), (0, _), (1, _), (2, _)]) hC dX2_strainOf_75 rfl (by decide) rfl ?_
      refine jw_loc (L' := [(0, _), (1, _), (2, _), (3, _)]) [1, 2, 3, 0] rfl ?_
      refine K76 _ ?_
      unfold f_s4
      first | (rw [if_pos (by omega)] <;> omega) | (rw [if_neg (by omega)] <;> omega)
  have K39 : ∀ x : Int, x = f_s1 (M (5 * j + 1)) p + f_s2 (M (5 * j + 1)) p → jJ zp l ze (ct_rm 2) zs zm za zb zt zc E zA 4 0 0 (MQ zb (ct_Q E zA (fun v M1 => v = some (vI (f_str (M (5 * j + 1)) p)) ∧ M = M1)) za zs 0 0 zA) 39 [(0, vR E (5 * j)), (1, vI p), (2, vI (p % 12)), (3, vI x)] [] M := by
    intro x hx
    refine jw_iload_n hC dX2_strainOf_39 1 rfl rfl ?_
    refine jw_bipush hC dX2_strainOf_40 (by decide) ?_
    refine jw_icmp_lt (tgt := 57) hC dX2_strainOf_42 (by decide) (by omega) (by omega) (by omega) (by omega) (fun h42 => ?_) (fun h42 => ?_)
    · skip
      refine K57 _ ?_
      unfold f_s3
      first | (rw [if_pos (by omega)] <;> omega) | (rw [if_neg (by omega)] <;> omega)
    · skip
      refine jw_iload_n hC dX2_strainOf_45 3 rfl rfl ?_
      refine jw_aload_n hC dX2_strainOf_46 0 rfl rfl ?_
      refine jw_iload_n hC dX2_strainOf_47 1 rfl rfl ?_
      refine jw_iload_n hC dX2_strainOf_48 1 rfl rfl ?_
      refine jw_bipush hC dX2_strainOf_49 (by decide) ?_
      refine jw_isub hC dX2_strainOf_51 ?_
      refine jw_callV hC (c_X2_difference l E M j hj _ _ ⟨by omega, by omega⟩ ⟨by omega, by omega⟩ hD) sV_X2_54 (ewO_sheet (j := j) (by omega)) dX2_strainOf_52 rfl rfl ⟨Nat.le_of_ble_eq_true rfl, Nat.le_of_ble_eq_true rfl⟩ ⟨Nat.zero_le _, Nat.zero_le _⟩ (Nat.le_of_ble_eq_true rfl) (fun v52 M52 g52 => ?_)
      obtain ⟨rfl, rfl⟩ := g52
      refine jw_iadd hC dX2_strainOf_55 ?_
      refine jw_istore_n (L' := [(3, _), (0, _), (1, _), (2, _)]) hC dX2_strainOf_56 rfl (by decide) rfl ?_
      refine jw_loc (L' := [(0, _), (1, _), (2, _), (3, _)]) [1, 2, 3, 0] rfl ?_
      refine K57 _ ?_
      unfold f_s3
      first | (rw [if_pos (by omega)] <;> omega) | (rw [if_neg (by omega)] <;> omega)
  have K22 : ∀ x : Int, x = f_s1 (M (5 * j + 1)) p → jJ zp l ze (ct_rm 2) zs zm za zb zt zc E zA 4 0 0 (MQ zb (ct_Q E zA (fun v M1 => v = some (vI (f_str (M (5 * j + 1)) p)) ∧ M = M1)) za zs 0 0 zA) 22 [(0, vR E (5 * j)), (1, vI p), (2, vI (p % 12)), (3, vI x)] [] M := by
    intro x hx
    refine jw_iload_n hC dX2_strainOf_22 2 rfl rfl ?_
    refine jw_bipush hC dX2_strainOf_23 (by decide) ?_
    refine jw_icmp_ge (tgt := 39) hC dX2_strainOf_25 (by decide) (by omega) (by omega) (by omega) (by omega) (fun h25 => ?_) (fun h25 => ?_)
    · skip
      refine K39 _ ?_
      unfold f_s2
      first | (rw [if_pos (by omega)] <;> omega) | (rw [if_neg (by omega)] <;> omega)
    · skip
      refine jw_iload_n hC dX2_strainOf_28 3 rfl rfl ?_
      refine jw_aload_n hC dX2_strainOf_29 0 rfl rfl ?_
      refine jw_iload_n hC dX2_strainOf_30 1 rfl rfl ?_
      refine jw_iload_n hC dX2_strainOf_31 1 rfl rfl ?_
      refine jw_iconst hC dX2_strainOf_32 ?_
      refine jw_iadd hC dX2_strainOf_33 ?_
      refine jw_callV hC (c_X2_difference l E M j hj _ _ ⟨by omega, by omega⟩ ⟨by omega, by omega⟩ hD) sV_X2_54 (ewO_sheet (j := j) (by omega)) dX2_strainOf_34 rfl rfl ⟨Nat.le_of_ble_eq_true rfl, Nat.le_of_ble_eq_true rfl⟩ ⟨Nat.zero_le _, Nat.zero_le _⟩ (Nat.le_of_ble_eq_true rfl) (fun v34 M34 g34 => ?_)
      obtain ⟨rfl, rfl⟩ := g34
      refine jw_iadd hC dX2_strainOf_37 ?_
      refine jw_istore_n (L' := [(3, _), (0, _), (1, _), (2, _)]) hC dX2_strainOf_38 rfl (by decide) rfl ?_
      refine jw_loc (L' := [(0, _), (1, _), (2, _), (3, _)]) [1, 2, 3, 0] rfl ?_
      refine K39 _ ?_
      unfold f_s2
      first | (rw [if_pos (by omega)] <;> omega) | (rw [if_neg (by omega)] <;> omega)
  refine jw_iload_n hC dX2_strainOf_0 1 rfl rfl ?_
  refine jw_bipush hC dX2_strainOf_1 (by decide) ?_
  refine jw_irem hC dX2_strainOf_3 (by omega) (by omega) (by omega) (by omega) ?_
  refine jw_istore_n (L' := [(2, _), (0, _), (1, _)]) hC dX2_strainOf_4 rfl (by decide) rfl ?_
  refine jw_iconst hC dX2_strainOf_5 ?_
  refine jw_istore_n (L' := [(3, _), (2, _), (0, _), (1, _)]) hC dX2_strainOf_6 rfl (by decide) rfl ?_
  refine jw_iload_n hC dX2_strainOf_7 1 rfl rfl ?_
  refine jw_if_le (tgt := 22) hC dX2_strainOf_8 (by decide) (by omega) (by omega) (fun h8 => ?_) (fun h8 => ?_)
  · skip
    refine jw_loc (L' := [(0, _), (1, _), (2, _), (3, _)]) [2, 3, 1, 0] rfl ?_
    refine K22 _ ?_
    unfold f_s1
    first | (rw [if_pos (by omega)] <;> omega) | (rw [if_neg (by omega)] <;> omega)
  · skip
    refine jw_iload_n hC dX2_strainOf_11 0 rfl rfl ?_
    refine jw_aload_n hC dX2_strainOf_12 2 rfl rfl ?_
    refine jw_iload_n hC dX2_strainOf_13 3 rfl rfl ?_
    refine jw_iload_n hC dX2_strainOf_14 3 rfl rfl ?_
    refine jw_iconst hC dX2_strainOf_15 ?_
    refine jw_isub hC dX2_strainOf_16 ?_
    refine jw_callV hC (c_X2_difference l E M j hj _ _ ⟨by omega, by omega⟩ ⟨by omega, by omega⟩ hD) sV_X2_54 (ewO_sheet (j := j) (by omega)) dX2_strainOf_17 rfl rfl ⟨Nat.le_of_ble_eq_true rfl, Nat.le_of_ble_eq_true rfl⟩ ⟨Nat.zero_le _, Nat.zero_le _⟩ (Nat.le_of_ble_eq_true rfl) (fun v17 M17 g17 => ?_)
    obtain ⟨rfl, rfl⟩ := g17
    refine jw_iadd hC dX2_strainOf_20 ?_
    refine jw_istore_n (L' := [(3, _), (2, _), (0, _), (1, _)]) hC dX2_strainOf_21 rfl (by decide) rfl ?_
    refine jw_loc (L' := [(0, _), (1, _), (2, _), (3, _)]) [2, 3, 1, 0] rfl ?_
    refine K22 _ ?_
    unfold f_s1
    first | (rw [if_pos (by omega)] <;> omega) | (rw [if_neg (by omega)] <;> omega)
set_option maxRecDepth 100000 in
set_option maxHeartbeats 4000000 in
theorem c_X2_crackedBeside (l : Launch) (E : ewE) (M : ewM) (j : Nat) (hj : j < 10) (p : Int) (hp : 0 ≤ p ∧ p < 144) : Ct l E yX2_crackedBeside (.code yX2_crackedBeside cX2_crackedBeside 4 (some .int)) 1 [vR E (5 * j), vI p] M (fun v M1 => v = some (vI (f_cb (M (5 * j + 3)) p)) ∧ M = M1) := by
  refine ct_of (L0 := [(0, vR E (5 * j)), (1, vI p)]) (by decide +kernel) rfl (Nat.le_of_ble_eq_true rfl) ?_
  intro zp ze zs zm za zb zt zc zA hC
  have K76 : ∀ x : Int, x = f_b1 (M (5 * j + 3)) p + f_b2 (M (5 * j + 3)) p + f_b3 (M (5 * j + 3)) p + f_b4 (M (5 * j + 3)) p → jJ zp l ze (ct_rm 1) zs zm za zb zt zc E zA 4 0 0 (MQ zb (ct_Q E zA (fun v M1 => v = some (vI (f_cb (M (5 * j + 3)) p)) ∧ M = M1)) za zs 0 0 zA) 76 [(0, vR E (5 * j)), (1, vI p), (2, vI (p % 12)), (3, vI x)] [] M := by
    intro x hx
    refine jw_iload_n hC dX2_crackedBeside_76 3 rfl rfl ?_
    refine jw_iret hC dX2_crackedBeside_77 ?_
    refine ⟨?_, rfl⟩
    rw [hx]
    rfl
  have K57 : ∀ x : Int, x = f_b1 (M (5 * j + 3)) p + f_b2 (M (5 * j + 3)) p + f_b3 (M (5 * j + 3)) p → jJ zp l ze (ct_rm 1) zs zm za zb zt zc E zA 4 0 0 (MQ zb (ct_Q E zA (fun v M1 => v = some (vI (f_cb (M (5 * j + 3)) p)) ∧ M = M1)) za zs 0 0 zA) 57 [(0, vR E (5 * j)), (1, vI p), (2, vI (p % 12)), (3, vI x)] [] M := by
    intro x hx
    refine jw_iload_n hC dX2_crackedBeside_57 1 rfl rfl ?_
    refine jw_sipush hC dX2_crackedBeside_58 (by decide) ?_
    refine jw_icmp_ge (tgt := 76) hC dX2_crackedBeside_61 (by decide) (by omega) (by omega) (by omega) (by omega) (fun h61 => ?_) (fun h61 => ?_)
    · skip
      refine K76 _ ?_
      unfold f_b4
      first | (rw [if_pos (by omega)] <;> omega) | (rw [if_neg (by omega)] <;> omega)
    · skip
      refine jw_iload_n hC dX2_crackedBeside_64 3 rfl rfl ?_
      refine jw_aload_n hC dX2_crackedBeside_65 0 rfl rfl ?_
      refine jw_getr hC fL_X2_18 (ewR_s2 (j := j) (by omega)) dX2_crackedBeside_66 ?_
      refine jw_iload_n hC dX2_crackedBeside_69 1 rfl rfl ?_
      refine jw_bipush hC dX2_crackedBeside_70 (by decide) ?_
      refine jw_iadd hC dX2_crackedBeside_72 ?_
      refine jw_iald hC (ewA_sheet (j := j) (r := 3) (by omega) (by decide) (by decide)) dX2_crackedBeside_73 (by omega) (by omega) (by decide) (fun b73 c73 => ?_)
      refine jw_iadd hC dX2_crackedBeside_74 ?_
      refine jw_istore_n (L' := [(3, _), (0, _), (1, _), (2, _)]) hC dX2_crackedBeside_75 rfl (by decide) rfl ?_
      refine jw_loc (L' := [(0, _), (1, _), (2, _), (3, _)]) [1, 2, 3, 0] rfl ?_
      refine K76 _ ?_
      unfold f_b4
      first | (rw [if_pos (by omega)] <;> omega) | (rw [if_neg (by omega)] <;> omega)
  have K39 : ∀ x : Int, x = f_b1 (M (5 * j + 3)) p + f_b2 (M (5 * j + 3)) p → jJ zp l ze (ct_rm 1) zs zm za zb zt zc E zA 4 0 0 (MQ zb (ct_Q E zA (fun v M1 => v = some (vI (f_cb (M (5 * j + 3)) p)) ∧ M = M1)) za zs 0 0 zA) 39 [(0, vR E (5 * j)), (1, vI p), (2, vI (p % 12)), (3, vI x)] [] M := by
    intro x hx
    refine jw_iload_n hC dX2_crackedBeside_39 1 rfl rfl ?_
    refine jw_bipush hC dX2_crackedBeside_40 (by decide) ?_
    refine jw_icmp_lt (tgt := 57) hC dX2_crackedBeside_42 (by decide) (by omega) (by omega) (by omega) (by omega) (fun h42 => ?_) (fun h42 => ?_)
    · skip
      refine K57 _ ?_
      unfold f_b3
      first | (rw [if_pos (by omega)] <;> omega) | (rw [if_neg (by omega)] <;> omega)
    · skip
      refine jw_iload_n hC dX2_crackedBeside_45 3 rfl rfl ?_
      refine jw_aload_n hC dX2_crackedBeside_46 0 rfl rfl ?_
      refine jw_getr hC fL_X2_18 (ewR_s2 (j := j) (by omega)) dX2_crackedBeside_47 ?_
      refine jw_iload_n hC dX2_crackedBeside_50 1 rfl rfl ?_
      refine jw_bipush hC dX2_crackedBeside_51 (by decide) ?_
      refine jw_isub hC dX2_crackedBeside_53 ?_
      refine jw_iald hC (ewA_sheet (j := j) (r := 3) (by omega) (by decide) (by decide)) dX2_crackedBeside_54 (by omega) (by omega) (by decide) (fun b54 c54 => ?_)
      refine jw_iadd hC dX2_crackedBeside_55 ?_
      refine jw_istore_n (L' := [(3, _), (0, _), (1, _), (2, _)]) hC dX2_crackedBeside_56 rfl (by decide) rfl ?_
      refine jw_loc (L' := [(0, _), (1, _), (2, _), (3, _)]) [1, 2, 3, 0] rfl ?_
      refine K57 _ ?_
      unfold f_b3
      first | (rw [if_pos (by omega)] <;> omega) | (rw [if_neg (by omega)] <;> omega)
  have K22 : ∀ x : Int, x = f_b1 (M (5 * j + 3)) p → jJ zp l ze (ct_rm 1) zs zm za zb zt zc E zA 4 0 0 (MQ zb (ct_Q E zA (fun v M1 => v = some (vI (f_cb (M (5 * j + 3)) p)) ∧ M = M1)) za zs 0 0 zA) 22 [(0, vR E (5 * j)), (1, vI p), (2, vI (p % 12)), (3, vI x)] [] M := by
    intro x hx
    refine jw_iload_n hC dX2_crackedBeside_22 2 rfl rfl ?_
    refine jw_bipush hC dX2_crackedBeside_23 (by decide) ?_
    refine jw_icmp_ge (tgt := 39) hC dX2_crackedBeside_25 (by decide) (by omega) (by omega) (by omega) (by omega) (fun h25 => ?_) (fun h25 => ?_)
    · skip
      refine K39 _ ?_
      unfold f_b2
      first | (rw [if_pos (by omega)] <;> omega) | (rw [if_neg (by omega)] <;> omega)
    · skip
      refine jw_iload_n hC dX2_crackedBeside_28 3 rfl rfl ?_
      refine jw_aload_n hC dX2_crackedBeside_29 0 rfl rfl ?_
      refine jw_getr hC fL_X2_18 (ewR_s2 (j := j) (by omega)) dX2_crackedBeside_30 ?_
      refine jw_iload_n hC dX2_crackedBeside_33 1 rfl rfl ?_
      refine jw_iconst hC dX2_crackedBeside_34 ?_
      refine jw_iadd hC dX2_crackedBeside_35 ?_
      refine jw_iald hC (ewA_sheet (j := j) (r := 3) (by omega) (by decide) (by decide)) dX2_crackedBeside_36 (by omega) (by omega) (by decide) (fun b36 c36 => ?_)
      refine jw_iadd hC dX2_crackedBeside_37 ?_
      refine jw_istore_n (L' := [(3, _), (0, _), (1, _), (2, _)]) hC dX2_crackedBeside_38 rfl (by decide) rfl ?_
      refine jw_loc (L' := [(0, _), (1, _), (2, _), (3, _)]) [1, 2, 3, 0] rfl ?_
      refine K39 _ ?_
      unfold f_b2
      first | (rw [if_pos (by omega)] <;> omega) | (rw [if_neg (by omega)] <;> omega)
  refine jw_iload_n hC dX2_crackedBeside_0 1 rfl rfl ?_
  refine jw_bipush hC dX2_crackedBeside_1 (by decide) ?_
  refine jw_irem hC dX2_crackedBeside_3 (by omega) (by omega) (by omega) (by omega) ?_
  refine jw_istore_n (L' := [(2, _), (0, _), (1, _)]) hC dX2_crackedBeside_4 rfl (by decide) rfl ?_
  refine jw_iconst hC dX2_crackedBeside_5 ?_
  refine jw_istore_n (L' := [(3, _), (2, _), (0, _), (1, _)]) hC dX2_crackedBeside_6 rfl (by decide) rfl ?_
  refine jw_iload_n hC dX2_crackedBeside_7 1 rfl rfl ?_
  refine jw_if_le (tgt := 22) hC dX2_crackedBeside_8 (by decide) (by omega) (by omega) (fun h8 => ?_) (fun h8 => ?_)
  · skip
    refine jw_loc (L' := [(0, _), (1, _), (2, _), (3, _)]) [2, 3, 1, 0] rfl ?_
    refine K22 _ ?_
    unfold f_b1
    first | (rw [if_pos (by omega)] <;> omega) | (rw [if_neg (by omega)] <;> omega)
  · skip
    refine jw_iload_n hC dX2_crackedBeside_11 0 rfl rfl ?_
    refine jw_aload_n hC dX2_crackedBeside_12 2 rfl rfl ?_
    refine jw_getr hC fL_X2_18 (ewR_s2 (j := j) (by omega)) dX2_crackedBeside_13 ?_
    refine jw_iload_n hC dX2_crackedBeside_16 3 rfl rfl ?_
    refine jw_iconst hC dX2_crackedBeside_17 ?_
    refine jw_isub hC dX2_crackedBeside_18 ?_
    refine jw_iald hC (ewA_sheet (j := j) (r := 3) (by omega) (by decide) (by decide)) dX2_crackedBeside_19 (by omega) (by omega) (by decide) (fun b19 c19 => ?_)
    refine jw_iadd hC dX2_crackedBeside_20 ?_
    refine jw_istore_n (L' := [(3, _), (2, _), (0, _), (1, _)]) hC dX2_crackedBeside_21 rfl (by decide) rfl ?_
    refine jw_loc (L' := [(0, _), (1, _), (2, _), (3, _)]) [2, 3, 1, 0] rfl ?_
    refine K22 _ ?_
    unfold f_b1
    first | (rw [if_pos (by omega)] <;> omega) | (rw [if_neg (by omega)] <;> omega)
set_option maxRecDepth 100000 in
set_option maxHeartbeats 4000000 in
theorem c_X2_bearingOf (l : Launch) (E : ewE) (M : ewM) (j : Nat) (hj : j < 10) (p b t : Int) (hp : 0 ≤ p ∧ p < 144) (hb : 0 ≤ b ∧ b ≤ 99) (ht : 0 ≤ t ∧ t ≤ 20) (hc : pC (M (5 * j + 3))) : Ct l E yX2_bearingOf (.code yX2_bearingOf cX2_bearingOf 4 (some .int)) 2 [vR E (5 * j), vI p, vI b, vI t] M (fun v M1 => v = some (vI (f_bear (M (5 * j + 3)) p b t)) ∧ M = M1) := by
  refine ct_of (L0 := [(0, vR E (5 * j)), (1, vI p), (2, vI b), (3, vI t)]) (by decide +kernel) rfl (Nat.le_of_ble_eq_true rfl) ?_
  intro zp ze zs zm za zb zt zc zA hC
  have h1 := f_cb_b hc p
  have h2 := f_tk_b ht.1 ht.2 h1.1 h1.2
  refine jw_iconst hC dX2_bearingOf_0 ?_
  refine jw_iload_n hC dX2_bearingOf_1 2 rfl rfl ?_
  refine jw_iload_n hC dX2_bearingOf_2 3 rfl rfl ?_
  refine jw_aload_n hC dX2_bearingOf_3 0 rfl rfl ?_
  refine jw_iload_n hC dX2_bearingOf_4 1 rfl rfl ?_
  refine jw_callV hC (c_X2_crackedBeside l E M j hj _ ⟨by omega, by omega⟩) sV_X2_57 (ewO_sheet (j := j) (by omega)) dX2_bearingOf_5 rfl rfl ⟨Nat.le_of_ble_eq_true rfl, Nat.le_of_ble_eq_true rfl⟩ ⟨Nat.zero_le _, Nat.zero_le _⟩ (Nat.le_of_ble_eq_true rfl) (fun v5 M5 g5 => ?_)
  obtain ⟨rfl, rfl⟩ := g5
  refine jw_imul hC dX2_bearingOf_8 ?_
  refine jw_isub hC dX2_bearingOf_9 ?_
  refine jw_max hC dX2_bearingOf_10 (by omega) (by omega) (by omega) (by omega) w2_71 w2_72 w1_10 w2_73 ⟨Nat.le_of_ble_eq_true rfl, Nat.le_of_ble_eq_true rfl⟩ ⟨Nat.zero_le _, Nat.zero_le _⟩ ?_
  refine jw_iret hC dX2_bearingOf_13 ?_
  exact ⟨rfl, rfl⟩
set_option maxRecDepth 100000 in
set_option maxHeartbeats 4000000 in
theorem c_X2_cracked (l : Launch) (E : ewE) (M : ewM) (j : Nat) (hj : j < 10) : Ct l E yX2_cracked (.code yX2_cracked cX2_cracked 3 (some .int)) 1 [vR E (5 * j)] M (fun v M1 => v = some (vI (f_sum (M (5 * j + 3)) 144)) ∧ M = M1) := by
  refine ct_of (L0 := [(0, vR E (5 * j))]) (by decide +kernel) rfl (Nat.le_of_ble_eq_true rfl) ?_
  intro zp ze zs zm za zb zt zc zA hC
  have K4 : ∀ (n : Nat) (k x : Int), 144 - k < n → 0 ≤ k → k ≤ 144 → x = f_sum (M (5 * j + 3)) k.toNat → jJ zp l ze (ct_rm 1) zs zm za zb zt zc E zA 3 0 0 (MQ zb (ct_Q E zA (fun v M1 => v = some (vI (f_sum (M (5 * j + 3)) 144)) ∧ M = M1)) za zs 0 0 zA) 4 [(0, vR E (5 * j)), (1, vI x), (2, vI k)] [] M := by
    intro n
    induction n with
    | zero => intros; omega
    | succ n ih =>
      intro k x i1 i2 i3 hx
      refine jw_iload_n hC dX2_cracked_4 2 rfl rfl ?_
      refine jw_sipush hC dX2_cracked_5 (by decide) ?_
      refine jw_icmp_ge (tgt := 26) hC dX2_cracked_8 (by decide) (by omega) (by omega) (by omega) (by omega) (fun h8 => ?_) (fun h8 => ?_)
      · skip
        refine jw_iload_n hC dX2_cracked_26 1 rfl rfl ?_
        refine jw_iret hC dX2_cracked_27 ?_
        refine ⟨?_, rfl⟩
        rw [hx, show k = 144 by omega]
        rfl
      · skip
        refine jw_iload_n hC dX2_cracked_11 1 rfl rfl ?_
        refine jw_aload_n hC dX2_cracked_12 0 rfl rfl ?_
        refine jw_getr hC fL_X2_18 (ewR_s2 (j := j) (by omega)) dX2_cracked_13 ?_
        refine jw_iload_n hC dX2_cracked_16 2 rfl rfl ?_
        refine jw_iald hC (ewA_sheet (j := j) (r := 3) (by omega) (by decide) (by decide)) dX2_cracked_17 (by omega) (by omega) (by decide) (fun b17 c17 => ?_)
        refine jw_iadd hC dX2_cracked_18 ?_
        refine jw_istore_n (L' := [(1, _), (0, _), (2, _)]) hC dX2_cracked_19 rfl (by decide) rfl ?_
        refine jw_iinc (L' := [(2, _), (1, _), (0, _)]) hC dX2_cracked_20 2 rfl (by decide) rfl ?_
        refine jw_goto (tgt := 4) hC dX2_cracked_23 (by decide) ?_
        refine jw_loc (L' := [(0, _), (1, _), (2, _)]) [2, 1, 0] rfl ?_
        refine ih _ _ (by omega) (by omega) (by omega) ?_
        rw [f_sum_s _ i2, hx]
        try omega
  refine jw_iconst hC dX2_cracked_0 ?_
  refine jw_istore_n (L' := [(1, _), (0, _)]) hC dX2_cracked_1 rfl (by decide) rfl ?_
  refine jw_iconst hC dX2_cracked_2 ?_
  refine jw_istore_n (L' := [(2, _), (1, _), (0, _)]) hC dX2_cracked_3 rfl (by decide) rfl ?_
  refine jw_loc (L' := [(0, _), (1, _), (2, _)]) [2, 1, 0] rfl ?_
  refine K4 145 0 0 (by omega) (by omega) (by omega) rfl
set_option maxRecDepth 100000 in
set_option maxHeartbeats 4000000 in
theorem c_X2_foiled (l : Launch) (E : ewE) (M : ewM) (j : Nat) (hj : j < 10) : Ct l E yX2_foiled (.code yX2_foiled cX2_foiled 3 (some .int)) 1 [vR E (5 * j)] M (fun v M1 => v = some (vI (f_sum (fun q => if M (5 * j + 2) q = 0 then 0 else 1) 144)) ∧ M = M1) := by
  refine ct_of (L0 := [(0, vR E (5 * j))]) (by decide +kernel) rfl (Nat.le_of_ble_eq_true rfl) ?_
  intro zp ze zs zm za zb zt zc zA hC
  have K4 : ∀ (n : Nat) (k x : Int), 144 - k < n → 0 ≤ k → k ≤ 144 → x = f_sum (fun q => if M (5 * j + 2) q = 0 then 0 else 1) k.toNat → jJ zp l ze (ct_rm 1) zs zm za zb zt zc E zA 3 0 0 (MQ zb (ct_Q E zA (fun v M1 => v = some (vI (f_sum (fun q => if M (5 * j + 2) q = 0 then 0 else 1) 144)) ∧ M = M1)) za zs 0 0 zA) 4 [(0, vR E (5 * j)), (1, vI x), (2, vI k)] [] M := by
    intro n
    induction n with
    | zero => intros; omega
    | succ n ih =>
      intro k x i1 i2 i3 hx
      refine jw_iload_n hC dX2_foiled_4 2 rfl rfl ?_
      refine jw_sipush hC dX2_foiled_5 (by decide) ?_
      refine jw_icmp_ge (tgt := 29) hC dX2_foiled_8 (by decide) (by omega) (by omega) (by omega) (by omega) (fun h8 => ?_) (fun h8 => ?_)
      · skip
        refine jw_iload_n hC dX2_foiled_29 1 rfl rfl ?_
        refine jw_iret hC dX2_foiled_30 ?_
        refine ⟨?_, rfl⟩
        rw [hx, show k = 144 by omega]
        rfl
      · skip
        refine jw_aload_n hC dX2_foiled_11 0 rfl rfl ?_
        refine jw_getr hC fL_X2_15 (ewR_s1 (j := j) (by omega)) dX2_foiled_12 ?_
        refine jw_iload_n hC dX2_foiled_15 2 rfl rfl ?_
        refine jw_iald hC (ewA_sheet (j := j) (r := 2) (by omega) (by decide) (by decide)) dX2_foiled_16 (by omega) (by omega) (by decide) (fun b16 c16 => ?_)
        refine jw_if_eq (tgt := 23) hC dX2_foiled_17 (by decide) (by omega) (by omega) (fun h17 => ?_) (fun h17 => ?_)
        · skip
          refine jw_iinc (L' := [(2, _), (0, _), (1, _)]) hC dX2_foiled_23 2 rfl (by decide) rfl ?_
          refine jw_goto (tgt := 4) hC dX2_foiled_26 (by decide) ?_
          refine jw_loc (L' := [(0, _), (1, _), (2, _)]) [1, 2, 0] rfl ?_
          refine ih _ _ (by omega) (by omega) (by omega) ?_
          rw [f_sum_s _ i2, hx]
          first | (rw [if_pos h17]; omega) | (rw [if_neg h17])
        · skip
          refine jw_iinc (L' := [(1, _), (0, _), (2, _)]) hC dX2_foiled_20 1 rfl (by decide) rfl ?_
          refine jw_iinc (L' := [(2, _), (1, _), (0, _)]) hC dX2_foiled_23 2 rfl (by decide) rfl ?_
          refine jw_goto (tgt := 4) hC dX2_foiled_26 (by decide) ?_
          refine jw_loc (L' := [(0, _), (1, _), (2, _)]) [2, 1, 0] rfl ?_
          refine ih _ _ (by omega) (by omega) (by omega) ?_
          rw [f_sum_s _ i2, hx]
          first | (rw [if_pos h17]; omega) | (rw [if_neg h17])
  refine jw_iconst hC dX2_foiled_0 ?_
  refine jw_istore_n (L' := [(1, _), (0, _)]) hC dX2_foiled_1 rfl (by decide) rfl ?_
  refine jw_iconst hC dX2_foiled_2 ?_
  refine jw_istore_n (L' := [(2, _), (1, _), (0, _)]) hC dX2_foiled_3 rfl (by decide) rfl ?_
  refine jw_loc (L' := [(0, _), (1, _), (2, _)]) [2, 1, 0] rfl ?_
  refine K4 145 0 0 (by omega) (by omega) (by omega) rfl
set_option maxRecDepth 100000 in
set_option maxHeartbeats 4000000 in
theorem c_X2_greatestDepth (l : Launch) (E : ewE) (M : ewM) (j : Nat) (hj : j < 10) (hD : pD (M (5 * j + 1))) : Ct l E yX2_greatestDepth (.code yX2_greatestDepth cX2_greatestDepth 3 (some .int)) 1 [vR E (5 * j)] M (fun v M1 => v = some (vI (f_max (M (5 * j + 1)) 144)) ∧ M = M1) := by
  refine ct_of (L0 := [(0, vR E (5 * j))]) (by decide +kernel) rfl (Nat.le_of_ble_eq_true rfl) ?_
  intro zp ze zs zm za zb zt zc zA hC
  have K4 : ∀ (n : Nat) (k x : Int), 144 - k < n → 0 ≤ k → k ≤ 144 → x = f_max (M (5 * j + 1)) k.toNat ∧ 0 ≤ x ∧ x ≤ 9 → jJ zp l ze (ct_rm 1) zs zm za zb zt zc E zA 3 0 0 (MQ zb (ct_Q E zA (fun v M1 => v = some (vI (f_max (M (5 * j + 1)) 144)) ∧ M = M1)) za zs 0 0 zA) 4 [(0, vR E (5 * j)), (1, vI x), (2, vI k)] [] M := by
    intro n
    induction n with
    | zero => intros; omega
    | succ n ih =>
      intro k x i1 i2 i3 hx
      refine jw_iload_n hC dX2_greatestDepth_4 2 rfl rfl ?_
      refine jw_sipush hC dX2_greatestDepth_5 (by decide) ?_
      refine jw_icmp_ge (tgt := 28) hC dX2_greatestDepth_8 (by decide) (by omega) (by omega) (by omega) (by omega) (fun h8 => ?_) (fun h8 => ?_)
      · skip
        refine jw_iload_n hC dX2_greatestDepth_28 1 rfl rfl ?_
        refine jw_iret hC dX2_greatestDepth_29 ?_
        refine ⟨?_, rfl⟩
        rw [hx.1, show k = 144 by omega]
        rfl
      · skip
        refine jw_iload_n hC dX2_greatestDepth_11 1 rfl rfl ?_
        refine jw_aload_n hC dX2_greatestDepth_12 0 rfl rfl ?_
        refine jw_getr hC fL_X2_9 (ewR_s0 (j := j) (by omega)) dX2_greatestDepth_13 ?_
        refine jw_iload_n hC dX2_greatestDepth_16 2 rfl rfl ?_
        refine jw_iald hC (ewA_sheet (j := j) (r := 1) (by omega) (by decide) (by decide)) dX2_greatestDepth_17 (by omega) (by omega) (by decide) (fun b17 c17 => ?_)
        refine jw_max hC dX2_greatestDepth_18 (by omega) (by omega) (by omega) (by omega) w2_71 w2_72 w1_10 w2_73 ⟨Nat.le_of_ble_eq_true rfl, Nat.le_of_ble_eq_true rfl⟩ ⟨Nat.zero_le _, Nat.zero_le _⟩ ?_
        refine jw_istore_n (L' := [(1, _), (0, _), (2, _)]) hC dX2_greatestDepth_21 rfl (by decide) rfl ?_
        refine jw_iinc (L' := [(2, _), (1, _), (0, _)]) hC dX2_greatestDepth_22 2 rfl (by decide) rfl ?_
        refine jw_goto (tgt := 4) hC dX2_greatestDepth_25 (by decide) ?_
        refine jw_loc (L' := [(0, _), (1, _), (2, _)]) [2, 1, 0] rfl ?_
        refine ih _ _ (by omega) (by omega) (by omega) ⟨?_, ?_, ?_⟩
        · rw [f_max_s _ i2, hx.1]
        · have := hD k; omega
        · have := hD k; omega
  refine jw_iconst hC dX2_greatestDepth_0 ?_
  refine jw_istore_n (L' := [(1, _), (0, _)]) hC dX2_greatestDepth_1 rfl (by decide) rfl ?_
  refine jw_iconst hC dX2_greatestDepth_2 ?_
  refine jw_istore_n (L' := [(2, _), (1, _), (0, _)]) hC dX2_greatestDepth_3 rfl (by decide) rfl ?_
  refine jw_loc (L' := [(0, _), (1, _), (2, _)]) [2, 1, 0] rfl ?_
  refine K4 145 0 0 (by omega) (by omega) (by omega) ⟨rfl, by omega, by omega⟩
set_option maxRecDepth 100000 in
set_option maxHeartbeats 4000000 in
theorem c_X2_strainByPlaces (l : Launch) (E : ewE) (M : ewM) (j : Nat) (hj : j < 10) (hD : pD (M (5 * j + 1))) : Ct l E yX2_strainByPlaces (.code yX2_strainByPlaces cX2_strainByPlaces 3 (some .int)) 3 [vR E (5 * j)] M (fun v M1 => v = some (vI (f_sum (f_str (M (5 * j + 1))) 144)) ∧ M = M1) := by
  refine ct_of (L0 := [(0, vR E (5 * j))]) (by decide +kernel) rfl (Nat.le_of_ble_eq_true rfl) ?_
  intro zp ze zs zm za zb zt zc zA hC
  have K4 : ∀ (n : Nat) (k x : Int), 144 - k < n → 0 ≤ k → k ≤ 144 → x = f_sum (f_str (M (5 * j + 1))) k.toNat → jJ zp l ze (ct_rm 3) zs zm za zb zt zc E zA 3 0 0 (MQ zb (ct_Q E zA (fun v M1 => v = some (vI (f_sum (f_str (M (5 * j + 1))) 144)) ∧ M = M1)) za zs 0 0 zA) 4 [(0, vR E (5 * j)), (1, vI x), (2, vI k)] [] M := by
    intro n
    induction n with
    | zero => intros; omega
    | succ n ih =>
      intro k x i1 i2 i3 hx
      refine jw_iload_n hC dX2_strainByPlaces_4 2 rfl rfl ?_
      refine jw_sipush hC dX2_strainByPlaces_5 (by decide) ?_
      refine jw_icmp_ge (tgt := 25) hC dX2_strainByPlaces_8 (by decide) (by omega) (by omega) (by omega) (by omega) (fun h8 => ?_) (fun h8 => ?_)
      · skip
        refine jw_iload_n hC dX2_strainByPlaces_25 1 rfl rfl ?_
        refine jw_iret hC dX2_strainByPlaces_26 ?_
        refine ⟨?_, rfl⟩
        rw [hx, show k = 144 by omega]
        rfl
      · skip
        refine jw_iload_n hC dX2_strainByPlaces_11 1 rfl rfl ?_
        refine jw_aload_n hC dX2_strainByPlaces_12 0 rfl rfl ?_
        refine jw_iload_n hC dX2_strainByPlaces_13 2 rfl rfl ?_
        refine jw_callV hC (c_X2_strainOf l E M j hj _ ⟨by omega, by omega⟩ hD) sV_X2_61 (ewO_sheet (j := j) (by omega)) dX2_strainByPlaces_14 rfl rfl ⟨Nat.le_of_ble_eq_true rfl, Nat.le_of_ble_eq_true rfl⟩ ⟨Nat.zero_le _, Nat.zero_le _⟩ (Nat.le_of_ble_eq_true rfl) (fun v14 M14 g14 => ?_)
        obtain ⟨rfl, rfl⟩ := g14
        refine jw_iadd hC dX2_strainByPlaces_17 ?_
        refine jw_istore_n (L' := [(1, _), (0, _), (2, _)]) hC dX2_strainByPlaces_18 rfl (by decide) rfl ?_
        refine jw_iinc (L' := [(2, _), (1, _), (0, _)]) hC dX2_strainByPlaces_19 2 rfl (by decide) rfl ?_
        refine jw_goto (tgt := 4) hC dX2_strainByPlaces_22 (by decide) ?_
        refine jw_loc (L' := [(0, _), (1, _), (2, _)]) [2, 1, 0] rfl ?_
        refine ih _ _ (by omega) (by omega) (by omega) ?_
        rw [f_sum_s _ i2, hx]
        try omega
  refine jw_iconst hC dX2_strainByPlaces_0 ?_
  refine jw_istore_n (L' := [(1, _), (0, _)]) hC dX2_strainByPlaces_1 rfl (by decide) rfl ?_
  refine jw_iconst hC dX2_strainByPlaces_2 ?_
  refine jw_istore_n (L' := [(2, _), (1, _), (0, _)]) hC dX2_strainByPlaces_3 rfl (by decide) rfl ?_
  refine jw_loc (L' := [(0, _), (1, _), (2, _)]) [2, 1, 0] rfl ?_
  refine K4 145 0 0 (by omega) (by omega) (by omega) rfl
set_option maxRecDepth 100000 in
set_option maxHeartbeats 4000000 in
theorem c_X2_strainByPairs (l : Launch) (E : ewE) (M : ewM) (j : Nat) (hj : j < 10) (hD : pD (M (5 * j + 1))) : Ct l E yX2_strainByPairs (.code yX2_strainByPairs cX2_strainByPairs 3 (some .int)) 2 [vR E (5 * j)] M (fun v M1 => v = some (vI (2 * f_sum (fun q => f_s2 (M (5 * j + 1)) q + f_s4 (M (5 * j + 1)) q) 144)) ∧ M = M1) := by
  refine ct_of (L0 := [(0, vR E (5 * j))]) (by decide +kernel) rfl (Nat.le_of_ble_eq_true rfl) ?_
  intro zp ze zs zm za zb zt zc zA hC
  have K4 : ∀ (n : Nat) (k x : Int), 144 - k < n → 0 ≤ k → k ≤ 144 → x = f_sum (fun q => f_s2 (M (5 * j + 1)) q + f_s4 (M (5 * j + 1)) q) k.toNat → jJ zp l ze (ct_rm 2) zs zm za zb zt zc E zA 3 0 0 (MQ zb (ct_Q E zA (fun v M1 => v = some (vI (2 * f_sum (fun q => f_s2 (M (5 * j + 1)) q + f_s4 (M (5 * j + 1)) q) 144)) ∧ M = M1)) za zs 0 0 zA) 4 [(0, vR E (5 * j)), (1, vI x), (2, vI k)] [] M := by
    intro n
    induction n with
    | zero => intros; omega
    | succ n ih =>
      intro k x i1 i2 i3 hx
      refine jw_iload_n hC dX2_strainByPairs_4 2 rfl rfl ?_
      refine jw_sipush hC dX2_strainByPairs_5 (by decide) ?_
      refine jw_icmp_ge (tgt := 56) hC dX2_strainByPairs_8 (by decide) (by omega) (by omega) (by omega) (by omega) (fun h8 => ?_) (fun h8 => ?_)
      · skip
        refine jw_iconst hC dX2_strainByPairs_56 ?_
        refine jw_iload_n hC dX2_strainByPairs_57 1 rfl rfl ?_
        refine jw_imul hC dX2_strainByPairs_58 ?_
        refine jw_iret hC dX2_strainByPairs_59 ?_
        refine ⟨?_, rfl⟩
        rw [hx, show k = 144 by omega]
        rfl
      · skip
        refine jw_iload_n hC dX2_strainByPairs_11 2 rfl rfl ?_
        refine jw_bipush hC dX2_strainByPairs_12 (by decide) ?_
        refine jw_irem hC dX2_strainByPairs_14 (by omega) (by omega) (by omega) (by omega) ?_
        refine jw_bipush hC dX2_strainByPairs_15 (by decide) ?_
        refine jw_icmp_ge (tgt := 31) hC dX2_strainByPairs_17 (by decide) (by omega) (by omega) (by omega) (by omega) (fun h17 => ?_) (fun h17 => ?_)
        · skip
          refine jw_iload_n hC dX2_strainByPairs_31 2 rfl rfl ?_
          refine jw_sipush hC dX2_strainByPairs_32 (by decide) ?_
          refine jw_icmp_ge (tgt := 50) hC dX2_strainByPairs_35 (by decide) (by omega) (by omega) (by omega) (by omega) (fun h35 => ?_) (fun h35 => ?_)
          · skip
            refine jw_iinc (L' := [(2, _), (0, _), (1, _)]) hC dX2_strainByPairs_50 2 rfl (by decide) rfl ?_
            refine jw_goto (tgt := 4) hC dX2_strainByPairs_53 (by decide) ?_
            refine jw_loc (L' := [(0, _), (1, _), (2, _)]) [1, 2, 0] rfl ?_
            refine ih _ _ (by omega) (by omega) (by omega) ?_
            rw [f_sum_s _ i2, hx]
            unfold f_s2 f_s4
            first | (rw [if_pos (by omega), if_pos (by omega)]; omega) | (rw [if_pos (by omega), if_neg (by omega)]; omega) | (rw [if_neg (by omega), if_pos (by omega)]; omega) | (rw [if_neg (by omega), if_neg (by omega)]; omega)
          · skip
            refine jw_iload_n hC dX2_strainByPairs_38 1 rfl rfl ?_
            refine jw_aload_n hC dX2_strainByPairs_39 0 rfl rfl ?_
            refine jw_iload_n hC dX2_strainByPairs_40 2 rfl rfl ?_
            refine jw_iload_n hC dX2_strainByPairs_41 2 rfl rfl ?_
            refine jw_bipush hC dX2_strainByPairs_42 (by decide) ?_
            refine jw_iadd hC dX2_strainByPairs_44 ?_
            refine jw_callV hC (c_X2_difference l E M j hj _ _ ⟨by omega, by omega⟩ ⟨by omega, by omega⟩ hD) sV_X2_54 (ewO_sheet (j := j) (by omega)) dX2_strainByPairs_45 rfl rfl ⟨Nat.le_of_ble_eq_true rfl, Nat.le_of_ble_eq_true rfl⟩ ⟨Nat.zero_le _, Nat.zero_le _⟩ (Nat.le_of_ble_eq_true rfl) (fun v45 M45 g45 => ?_)
            obtain ⟨rfl, rfl⟩ := g45
            refine jw_iadd hC dX2_strainByPairs_48 ?_
            refine jw_istore_n (L' := [(1, _), (0, _), (2, _)]) hC dX2_strainByPairs_49 rfl (by decide) rfl ?_
            refine jw_iinc (L' := [(2, _), (1, _), (0, _)]) hC dX2_strainByPairs_50 2 rfl (by decide) rfl ?_
            refine jw_goto (tgt := 4) hC dX2_strainByPairs_53 (by decide) ?_
            refine jw_loc (L' := [(0, _), (1, _), (2, _)]) [2, 1, 0] rfl ?_
            refine ih _ _ (by omega) (by omega) (by omega) ?_
            rw [f_sum_s _ i2, hx]
            unfold f_s2 f_s4
            first | (rw [if_pos (by omega), if_pos (by omega)]; omega) | (rw [if_pos (by omega), if_neg (by omega)]; omega) | (rw [if_neg (by omega), if_pos (by omega)]; omega) | (rw [if_neg (by omega), if_neg (by omega)]; omega)
        · skip
          refine jw_iload_n hC dX2_strainByPairs_20 1 rfl rfl ?_
          refine jw_aload_n hC dX2_strainByPairs_21 0 rfl rfl ?_
          refine jw_iload_n hC dX2_strainByPairs_22 2 rfl rfl ?_
          refine jw_iload_n hC dX2_strainByPairs_23 2 rfl rfl ?_
          refine jw_iconst hC dX2_strainByPairs_24 ?_
          refine jw_iadd hC dX2_strainByPairs_25 ?_
          refine jw_callV hC (c_X2_difference l E M j hj _ _ ⟨by omega, by omega⟩ ⟨by omega, by omega⟩ hD) sV_X2_54 (ewO_sheet (j := j) (by omega)) dX2_strainByPairs_26 rfl rfl ⟨Nat.le_of_ble_eq_true rfl, Nat.le_of_ble_eq_true rfl⟩ ⟨Nat.zero_le _, Nat.zero_le _⟩ (Nat.le_of_ble_eq_true rfl) (fun v26 M26 g26 => ?_)
          obtain ⟨rfl, rfl⟩ := g26
          refine jw_iadd hC dX2_strainByPairs_29 ?_
          refine jw_istore_n (L' := [(1, _), (0, _), (2, _)]) hC dX2_strainByPairs_30 rfl (by decide) rfl ?_
          refine jw_iload_n hC dX2_strainByPairs_31 2 rfl rfl ?_
          refine jw_sipush hC dX2_strainByPairs_32 (by decide) ?_
          refine jw_icmp_ge (tgt := 50) hC dX2_strainByPairs_35 (by decide) (by omega) (by omega) (by omega) (by omega) (fun h35 => ?_) (fun h35 => ?_)
          · skip
            refine jw_iinc (L' := [(2, _), (1, _), (0, _)]) hC dX2_strainByPairs_50 2 rfl (by decide) rfl ?_
            refine jw_goto (tgt := 4) hC dX2_strainByPairs_53 (by decide) ?_
            refine jw_loc (L' := [(0, _), (1, _), (2, _)]) [2, 1, 0] rfl ?_
            refine ih _ _ (by omega) (by omega) (by omega) ?_
            rw [f_sum_s _ i2, hx]
            unfold f_s2 f_s4
            first | (rw [if_pos (by omega), if_pos (by omega)]; omega) | (rw [if_pos (by omega), if_neg (by omega)]; omega) | (rw [if_neg (by omega), if_pos (by omega)]; omega) | (rw [if_neg (by omega), if_neg (by omega)]; omega)
          · skip
            refine jw_iload_n hC dX2_strainByPairs_38 0 rfl rfl ?_
            refine jw_aload_n hC dX2_strainByPairs_39 1 rfl rfl ?_
            refine jw_iload_n hC dX2_strainByPairs_40 2 rfl rfl ?_
            refine jw_iload_n hC dX2_strainByPairs_41 2 rfl rfl ?_
            refine jw_bipush hC dX2_strainByPairs_42 (by decide) ?_
            refine jw_iadd hC dX2_strainByPairs_44 ?_
            refine jw_callV hC (c_X2_difference l E M j hj _ _ ⟨by omega, by omega⟩ ⟨by omega, by omega⟩ hD) sV_X2_54 (ewO_sheet (j := j) (by omega)) dX2_strainByPairs_45 rfl rfl ⟨Nat.le_of_ble_eq_true rfl, Nat.le_of_ble_eq_true rfl⟩ ⟨Nat.zero_le _, Nat.zero_le _⟩ (Nat.le_of_ble_eq_true rfl) (fun v45 M45 g45 => ?_)
            obtain ⟨rfl, rfl⟩ := g45
            refine jw_iadd hC dX2_strainByPairs_48 ?_
            refine jw_istore_n (L' := [(1, _), (0, _), (2, _)]) hC dX2_strainByPairs_49 rfl (by decide) rfl ?_
            refine jw_iinc (L' := [(2, _), (1, _), (0, _)]) hC dX2_strainByPairs_50 2 rfl (by decide) rfl ?_
            refine jw_goto (tgt := 4) hC dX2_strainByPairs_53 (by decide) ?_
            refine jw_loc (L' := [(0, _), (1, _), (2, _)]) [2, 1, 0] rfl ?_
            refine ih _ _ (by omega) (by omega) (by omega) ?_
            rw [f_sum_s _ i2, hx]
            unfold f_s2 f_s4
            first | (rw [if_pos (by omega), if_pos (by omega)]; omega) | (rw [if_pos (by omega), if_neg (by omega)]; omega) | (rw [if_neg (by omega), if_pos (by omega)]; omega) | (rw [if_neg (by omega), if_neg (by omega)]; omega)
  refine jw_iconst hC dX2_strainByPairs_0 ?_
  refine jw_istore_n (L' := [(1, _), (0, _)]) hC dX2_strainByPairs_1 rfl (by decide) rfl ?_
  refine jw_iconst hC dX2_strainByPairs_2 ?_
  refine jw_istore_n (L' := [(2, _), (1, _), (0, _)]) hC dX2_strainByPairs_3 rfl (by decide) rfl ?_
  refine jw_loc (L' := [(0, _), (1, _), (2, _)]) [2, 1, 0] rfl ?_
  refine K4 145 0 0 (by omega) (by omega) (by omega) rfl

