/-! THE REFERENCE: its private methods -/
set_option maxRecDepth 100000 in
set_option maxHeartbeats 4000000 in
theorem c_X5_in (l : Launch) (E : ewE) (M : ewM) (a b c : Int) (a1 : -2147483648 ≤ a) (a2 : a < 2147483648) (b1 : -2147483648 ≤ b) (b2 : b < 2147483648) (c1 : -2147483648 ≤ c) (c2 : c < 2147483648) : Ct l E yX5_in (.code yX5_in cX5_in 3 (some .boolean)) 1 [vI a, vI b, vI c] M (fun v M1 => v = some (vI (if b ≤ a ∧ a ≤ c then 1 else 0)) ∧ M = M1) := by
  refine ct_of (L0 := [(0, vI a), (1, vI b), (2, vI c)]) (by decide +kernel) rfl (Nat.le_of_ble_eq_true rfl) ?_
  intro zp ze zs zm za zb zt zc zA hC
  refine jw_iload_n hC dX5_in_0 0 rfl rfl ?_
  refine jw_iload_n hC dX5_in_1 1 rfl rfl ?_
  refine jw_icmp_lt (tgt := 14) hC dX5_in_2 (by decide) (by omega) (by omega) (by omega) (by omega) (fun h2 => ?_) (fun h2 => ?_)
  · skip
    refine jw_iconst hC dX5_in_14 ?_
    refine jw_zret hC (by omega) dX5_in_15 ?_
    refine ⟨?_, rfl⟩
    first | (exfalso; omega) | rw [if_pos (by omega)] | rw [if_neg (by omega)]
  · skip
    refine jw_iload_n hC dX5_in_5 0 rfl rfl ?_
    refine jw_iload_n hC dX5_in_6 2 rfl rfl ?_
    refine jw_icmp_gt (tgt := 14) hC dX5_in_7 (by decide) (by omega) (by omega) (by omega) (by omega) (fun h7 => ?_) (fun h7 => ?_)
    · skip
      refine jw_iconst hC dX5_in_14 ?_
      refine jw_zret hC (by omega) dX5_in_15 ?_
      refine ⟨?_, rfl⟩
      first | (exfalso; omega) | rw [if_pos (by omega)] | rw [if_neg (by omega)]
    · skip
      refine jw_iconst hC dX5_in_10 ?_
      refine jw_goto (tgt := 15) hC dX5_in_11 (by decide) ?_
      refine jw_zret hC (by omega) dX5_in_15 ?_
      refine ⟨?_, rfl⟩
      first | (exfalso; omega) | rw [if_pos (by omega)] | rw [if_neg (by omega)]
set_option maxRecDepth 100000 in
set_option maxHeartbeats 4000000 in
theorem c_X5_fails (l : Launch) (E : ewE) (M : ewM) (a : Int) (a1 : -2147483648 ≤ a) (a2 : a < 2147483648) : Ct l E yX5_fails (.code yX5_fails cX5_fails 2 (some .int)) 1 [vR E 88, vI a] M (fun v M1 => v = some (vI 0) ∧ M1 = mu M 88 0 a) := by
  refine ct_of (L0 := [(0, vR E 88), (1, vI a)]) (by decide +kernel) rfl (Nat.le_of_ble_eq_true rfl) ?_
  intro zp ze zs zm za zb zt zc zA hC
  refine jw_aload_n hC dX5_fails_0 0 rfl rfl ?_
  refine jw_iload_n hC dX5_fails_1 1 rfl rfl ?_
  refine jw_puti hC fL_X5_35 ewF_m0 (kI := 0) rfl dX5_fails_2 (by omega) (by omega) ?_
  refine jw_iconst hC dX5_fails_5 ?_
  refine jw_iret hC dX5_fails_6 ?_
  exact ⟨rfl, rfl⟩
set_option maxRecDepth 100000 in
set_option maxHeartbeats 4000000 in
theorem c_X5_abs (l : Launch) (E : ewE) (M : ewM) (a : Int) (a1 : -2147483648 ≤ a) (a2 : a < 2147483648) : Ct l E yX5_abs (.code yX5_abs cX5_abs 1 (some .int)) 1 [vI a] M (fun v M1 => v = some (vI (if a < 0 then -a else a)) ∧ M = M1) := by
  refine ct_of (L0 := [(0, vI a)]) (by decide +kernel) rfl (Nat.le_of_ble_eq_true rfl) ?_
  intro zp ze zs zm za zb zt zc zA hC
  refine jw_iload_n hC dX5_abs_0 0 rfl rfl ?_
  refine jw_if_ge (tgt := 9) hC dX5_abs_1 (by decide) (by omega) (by omega) (fun h1 => ?_) (fun h1 => ?_)
  · skip
    refine jw_iload_n hC dX5_abs_9 0 rfl rfl ?_
    refine jw_iret hC dX5_abs_10 ?_
    refine ⟨?_, rfl⟩
    first | (exfalso; omega) | rw [if_pos (by omega)] | rw [if_neg (by omega)]
  · skip
    refine jw_iload_n hC dX5_abs_4 0 rfl rfl ?_
    refine jw_ineg hC dX5_abs_5 ?_
    refine jw_goto (tgt := 10) hC dX5_abs_6 (by decide) ?_
    refine jw_iret hC dX5_abs_10 ?_
    refine ⟨?_, rfl⟩
    first | (exfalso; omega) | rw [if_pos (by omega)] | rw [if_neg (by omega)]
set_option maxRecDepth 100000 in
set_option maxHeartbeats 4000000 in
theorem c_X5_isDie (l : Launch) (E : ewE) (M : ewM) (a : Int) (a1 : -2147483648 ≤ a) (a2 : a < 2147483648) : Ct l E yX5_isDie (.code yX5_isDie cX5_isDie 1 (some .boolean)) 2 [vI a] M (fun v M1 => v = some (vI (if 0 ≤ a ∧ a ≤ 2 then 1 else 0)) ∧ M = M1) := by
  refine ct_of (L0 := [(0, vI a)]) (by decide +kernel) rfl (Nat.le_of_ble_eq_true rfl) ?_
  intro zp ze zs zm za zb zt zc zA hC
  refine jw_iload_n hC dX5_isDie_0 0 rfl rfl ?_
  refine jw_iconst hC dX5_isDie_1 ?_
  refine jw_iconst hC dX5_isDie_2 ?_
  refine jw_callS hC (c_X5_in l E M _ _ _ (by omega) (by omega) (by omega) (by omega) (by omega) (by omega)) sS_X5_39 dX5_isDie_3 rfl rfl ⟨Nat.le_of_ble_eq_true rfl, Nat.le_of_ble_eq_true rfl⟩ ⟨Nat.zero_le _, Nat.zero_le _⟩ (Nat.le_of_ble_eq_true rfl) (fun v3 M3 g3 => ?_)
  obtain ⟨rfl, rfl⟩ := g3
  have hz3 : (if 0 ≤ a ∧ a ≤ 2 then (1 : Int) else 0) = 0 ∨ (if 0 ≤ a ∧ a ≤ 2 then (1 : Int) else 0) = 1 := by split <;> omega
  refine jw_zret hC (by omega) dX5_isDie_6 ?_
  exact ⟨rfl, rfl⟩
set_option maxRecDepth 100000 in
set_option maxHeartbeats 4000000 in
theorem c_X5_isPoint (l : Launch) (E : ewE) (M : ewM) (a b : Int) (a1 : -2147483648 ≤ a) (a2 : a < 2147483648) (b1 : -2147483648 ≤ b) (b2 : b < 2147483648) : Ct l E yX5_isPoint (.code yX5_isPoint cX5_isPoint 2 (some .boolean)) 2 [vI a, vI b] M (fun v M1 => v = some (vI (if (0 ≤ a ∧ a ≤ 4) ∧ (0 ≤ b ∧ b ≤ 4) then 1 else 0)) ∧ M = M1) := by
  refine ct_of (L0 := [(0, vI a), (1, vI b)]) (by decide +kernel) rfl (Nat.le_of_ble_eq_true rfl) ?_
  intro zp ze zs zm za zb zt zc zA hC
  refine jw_iload_n hC dX5_isPoint_0 0 rfl rfl ?_
  refine jw_iconst hC dX5_isPoint_1 ?_
  refine jw_iconst hC dX5_isPoint_2 ?_
  refine jw_callS hC (c_X5_in l E M _ _ _ (by omega) (by omega) (by omega) (by omega) (by omega) (by omega)) sS_X5_39 dX5_isPoint_3 rfl rfl ⟨Nat.le_of_ble_eq_true rfl, Nat.le_of_ble_eq_true rfl⟩ ⟨Nat.zero_le _, Nat.zero_le _⟩ (Nat.le_of_ble_eq_true rfl) (fun v3 M3 g3 => ?_)
  obtain ⟨rfl, rfl⟩ := g3
  have hz3 : (if 0 ≤ a ∧ a ≤ 4 then (1 : Int) else 0) = 0 ∨ (if 0 ≤ a ∧ a ≤ 4 then (1 : Int) else 0) = 1 := by split <;> omega
  refine jw_if_eq (tgt := 22) hC dX5_isPoint_6 (by decide) (by omega) (by omega) (fun h6 => ?_) (fun h6 => ?_)
  · skip
    refine jw_iconst hC dX5_isPoint_22 ?_
    refine jw_zret hC (by omega) dX5_isPoint_23 ?_
    refine ⟨?_, rfl⟩
    by_cases za : 0 ≤ a ∧ a ≤ 4
    · by_cases zb : 0 ≤ b ∧ b ≤ 4
      · first
        | (rw [if_pos za] at *; exfalso; omega)
        | (rw [if_pos zb] at *; exfalso; omega)
        | rw [if_pos ⟨za, zb⟩]
      · first
        | (rw [if_neg zb] at *; exfalso; omega)
        | rw [if_neg (fun z => zb z.2)]
    · first
      | (rw [if_neg za] at *; exfalso; omega)
      | rw [if_neg (fun z => za z.1)]
  · skip
    refine jw_iload_n hC dX5_isPoint_9 1 rfl rfl ?_
    refine jw_iconst hC dX5_isPoint_10 ?_
    refine jw_iconst hC dX5_isPoint_11 ?_
    refine jw_callS hC (c_X5_in l E M _ _ _ (by omega) (by omega) (by omega) (by omega) (by omega) (by omega)) sS_X5_39 dX5_isPoint_12 rfl rfl ⟨Nat.le_of_ble_eq_true rfl, Nat.le_of_ble_eq_true rfl⟩ ⟨Nat.zero_le _, Nat.zero_le _⟩ (Nat.le_of_ble_eq_true rfl) (fun v12 M12 g12 => ?_)
    obtain ⟨rfl, rfl⟩ := g12
    have hz12 : (if 0 ≤ b ∧ b ≤ 4 then (1 : Int) else 0) = 0 ∨ (if 0 ≤ b ∧ b ≤ 4 then (1 : Int) else 0) = 1 := by split <;> omega
    refine jw_if_eq (tgt := 22) hC dX5_isPoint_15 (by decide) (by omega) (by omega) (fun h15 => ?_) (fun h15 => ?_)
    · skip
      refine jw_iconst hC dX5_isPoint_22 ?_
      refine jw_zret hC (by omega) dX5_isPoint_23 ?_
      refine ⟨?_, rfl⟩
      by_cases za : 0 ≤ a ∧ a ≤ 4
      · by_cases zb : 0 ≤ b ∧ b ≤ 4
        · first
          | (rw [if_pos za] at *; exfalso; omega)
          | (rw [if_pos zb] at *; exfalso; omega)
          | rw [if_pos ⟨za, zb⟩]
        · first
          | (rw [if_neg zb] at *; exfalso; omega)
          | rw [if_neg (fun z => zb z.2)]
      · first
        | (rw [if_neg za] at *; exfalso; omega)
        | rw [if_neg (fun z => za z.1)]
    · skip
      refine jw_iconst hC dX5_isPoint_18 ?_
      refine jw_goto (tgt := 23) hC dX5_isPoint_19 (by decide) ?_
      refine jw_zret hC (by omega) dX5_isPoint_23 ?_
      refine ⟨?_, rfl⟩
      by_cases za : 0 ≤ a ∧ a ≤ 4
      · by_cases zb : 0 ≤ b ∧ b ≤ 4
        · first
          | (rw [if_pos za] at *; exfalso; omega)
          | (rw [if_pos zb] at *; exfalso; omega)
          | rw [if_pos ⟨za, zb⟩]
        · first
          | (rw [if_neg zb] at *; exfalso; omega)
          | rw [if_neg (fun z => zb z.2)]
      · first
        | (rw [if_neg za] at *; exfalso; omega)
        | rw [if_neg (fun z => za z.1)]
set_option maxRecDepth 100000 in
set_option maxHeartbeats 4000000 in
theorem c_X5_isPlace (l : Launch) (E : ewE) (M : ewM) (a b : Int) (a1 : -2147483648 ≤ a) (a2 : a < 2147483648) (b1 : -2147483648 ≤ b) (b2 : b < 2147483648) : Ct l E yX5_isPlace (.code yX5_isPlace cX5_isPlace 2 (some .boolean)) 2 [vI a, vI b] M (fun v M1 => v = some (vI (if (0 ≤ a ∧ a ≤ 11) ∧ (0 ≤ b ∧ b ≤ 11) then 1 else 0)) ∧ M = M1) := by
  refine ct_of (L0 := [(0, vI a), (1, vI b)]) (by decide +kernel) rfl (Nat.le_of_ble_eq_true rfl) ?_
  intro zp ze zs zm za zb zt zc zA hC
  refine jw_iload_n hC dX5_isPlace_0 0 rfl rfl ?_
  refine jw_iconst hC dX5_isPlace_1 ?_
  refine jw_bipush hC dX5_isPlace_2 (by decide) ?_
  refine jw_callS hC (c_X5_in l E M _ _ _ (by omega) (by omega) (by omega) (by omega) (by omega) (by omega)) sS_X5_39 dX5_isPlace_4 rfl rfl ⟨Nat.le_of_ble_eq_true rfl, Nat.le_of_ble_eq_true rfl⟩ ⟨Nat.zero_le _, Nat.zero_le _⟩ (Nat.le_of_ble_eq_true rfl) (fun v4 M4 g4 => ?_)
  obtain ⟨rfl, rfl⟩ := g4
  have hz4 : (if 0 ≤ a ∧ a ≤ 11 then (1 : Int) else 0) = 0 ∨ (if 0 ≤ a ∧ a ≤ 11 then (1 : Int) else 0) = 1 := by split <;> omega
  refine jw_if_eq (tgt := 24) hC dX5_isPlace_7 (by decide) (by omega) (by omega) (fun h7 => ?_) (fun h7 => ?_)
  · skip
    refine jw_iconst hC dX5_isPlace_24 ?_
    refine jw_zret hC (by omega) dX5_isPlace_25 ?_
    refine ⟨?_, rfl⟩
    by_cases za : 0 ≤ a ∧ a ≤ 11
    · by_cases zb : 0 ≤ b ∧ b ≤ 11
      · first
        | (rw [if_pos za] at *; exfalso; omega)
        | (rw [if_pos zb] at *; exfalso; omega)
        | rw [if_pos ⟨za, zb⟩]
      · first
        | (rw [if_neg zb] at *; exfalso; omega)
        | rw [if_neg (fun z => zb z.2)]
    · first
      | (rw [if_neg za] at *; exfalso; omega)
      | rw [if_neg (fun z => za z.1)]
  · skip
    refine jw_iload_n hC dX5_isPlace_10 1 rfl rfl ?_
    refine jw_iconst hC dX5_isPlace_11 ?_
    refine jw_bipush hC dX5_isPlace_12 (by decide) ?_
    refine jw_callS hC (c_X5_in l E M _ _ _ (by omega) (by omega) (by omega) (by omega) (by omega) (by omega)) sS_X5_39 dX5_isPlace_14 rfl rfl ⟨Nat.le_of_ble_eq_true rfl, Nat.le_of_ble_eq_true rfl⟩ ⟨Nat.zero_le _, Nat.zero_le _⟩ (Nat.le_of_ble_eq_true rfl) (fun v14 M14 g14 => ?_)
    obtain ⟨rfl, rfl⟩ := g14
    have hz14 : (if 0 ≤ b ∧ b ≤ 11 then (1 : Int) else 0) = 0 ∨ (if 0 ≤ b ∧ b ≤ 11 then (1 : Int) else 0) = 1 := by split <;> omega
    refine jw_if_eq (tgt := 24) hC dX5_isPlace_17 (by decide) (by omega) (by omega) (fun h17 => ?_) (fun h17 => ?_)
    · skip
      refine jw_iconst hC dX5_isPlace_24 ?_
      refine jw_zret hC (by omega) dX5_isPlace_25 ?_
      refine ⟨?_, rfl⟩
      by_cases za : 0 ≤ a ∧ a ≤ 11
      · by_cases zb : 0 ≤ b ∧ b ≤ 11
        · first
          | (rw [if_pos za] at *; exfalso; omega)
          | (rw [if_pos zb] at *; exfalso; omega)
          | rw [if_pos ⟨za, zb⟩]
        · first
          | (rw [if_neg zb] at *; exfalso; omega)
          | rw [if_neg (fun z => zb z.2)]
      · first
        | (rw [if_neg za] at *; exfalso; omega)
        | rw [if_neg (fun z => za z.1)]
    · skip
      refine jw_iconst hC dX5_isPlace_20 ?_
      refine jw_goto (tgt := 25) hC dX5_isPlace_21 (by decide) ?_
      refine jw_zret hC (by omega) dX5_isPlace_25 ?_
      refine ⟨?_, rfl⟩
      by_cases za : 0 ≤ a ∧ a ≤ 11
      · by_cases zb : 0 ≤ b ∧ b ≤ 11
        · first
          | (rw [if_pos za] at *; exfalso; omega)
          | (rw [if_pos zb] at *; exfalso; omega)
          | rw [if_pos ⟨za, zb⟩]
        · first
          | (rw [if_neg zb] at *; exfalso; omega)
          | rw [if_neg (fun z => zb z.2)]
      · first
        | (rw [if_neg za] at *; exfalso; omega)
        | rw [if_neg (fun z => za z.1)]
set_option maxRecDepth 100000 in
set_option maxHeartbeats 4000000 in
theorem c_X5_depth (l : Launch) (E : ewE) (M : ewM) (h0 : svI (M 89)) (x y : Int) (hx : 0 ≤ x ∧ x < 12) (hy : 0 ≤ y ∧ y < 12) : Ct l E yX5_depth (.code yX5_depth cX5_depth 3 (some .int)) 1 [vR E 88, vI x, vI y] M (fun v M1 => v = some (vI (vD (M 89) (12 * y + x))) ∧ M = M1) := by
  refine ct_of (L0 := [(0, vR E 88), (1, vI x), (2, vI y)]) (by decide +kernel) rfl (Nat.le_of_ble_eq_true rfl) ?_
  intro zp ze zs zm za zb zt zc zA hC
  refine jw_aload_n hC dX5_depth_0 0 rfl rfl ?_
  refine jw_getr hC fL_X5_7 ewR_m1 dX5_depth_1 ?_
  refine jw_bipush hC dX5_depth_4 (by decide) ?_
  refine jw_bipush hC dX5_depth_6 (by decide) ?_
  refine jw_iload_n hC dX5_depth_8 2 rfl rfl ?_
  refine jw_imul hC dX5_depth_9 ?_
  refine jw_iadd hC dX5_depth_10 ?_
  refine jw_iload_n hC dX5_depth_11 1 rfl rfl ?_
  refine jw_iadd hC dX5_depth_12 ?_
  refine jw_iald hC ewA_89 dX5_depth_13 (by omega) (by omega) (by decide) (fun b13 c13 => ?_)
  refine jw_iret hC dX5_depth_14 ?_
  refine ⟨?_, rfl⟩
  rw [show 91 + 12 * y + x = 91 + (12 * y + x) by omega, vD_in (M 89) (p := 12 * y + x) (by omega) (by omega)]
set_option maxRecDepth 100000 in
set_option maxHeartbeats 4000000 in
theorem c_X5_isCracked (l : Launch) (E : ewE) (M : ewM) (h0 : svI (M 89)) (x y : Int) (hx : 0 ≤ x ∧ x < 12) (hy : 0 ≤ y ∧ y < 12) : Ct l E yX5_isCracked (.code yX5_isCracked cX5_isCracked 3 (some .boolean)) 1 [vR E 88, vI x, vI y] M (fun v M1 => v = some (vI (vC (M 89) (12 * y + x))) ∧ M = M1) := by
  refine ct_of (L0 := [(0, vR E 88), (1, vI x), (2, vI y)]) (by decide +kernel) rfl (Nat.le_of_ble_eq_true rfl) ?_
  intro zp ze zs zm za zb zt zc zA hC
  refine jw_aload_n hC dX5_isCracked_0 0 rfl rfl ?_
  refine jw_getr hC fL_X5_7 ewR_m1 dX5_isCracked_1 ?_
  refine jw_sipush hC dX5_isCracked_4 (by decide) ?_
  refine jw_bipush hC dX5_isCracked_7 (by decide) ?_
  refine jw_iload_n hC dX5_isCracked_9 2 rfl rfl ?_
  refine jw_imul hC dX5_isCracked_10 ?_
  refine jw_iadd hC dX5_isCracked_11 ?_
  refine jw_iload_n hC dX5_isCracked_12 1 rfl rfl ?_
  refine jw_iadd hC dX5_isCracked_13 ?_
  refine jw_iald hC ewA_89 dX5_isCracked_14 (by omega) (by omega) (by decide) (fun b14 c14 => ?_)
  refine jw_iconst hC dX5_isCracked_15 ?_
  refine jw_icmp_ne (tgt := 23) hC dX5_isCracked_16 (by decide) (by omega) (by omega) (by omega) (by omega) (fun h16 => ?_) (fun h16 => ?_)
  · skip
    refine jw_iconst hC dX5_isCracked_23 ?_
    refine jw_zret hC (by omega) dX5_isCracked_24 ?_
    have hc := h0.2.1 (12 * y + x)
    have e9 : M 89 (379 + 12 * y + x) = vC (M 89) (12 * y + x) := by rw [show 379 + 12 * y + x = 379 + (12 * y + x) by omega, vC_in (M 89) (p := 12 * y + x) (by omega) (by omega)]
    refine ⟨?_, rfl⟩
    congr 2
    omega
  · skip
    refine jw_iconst hC dX5_isCracked_19 ?_
    refine jw_goto (tgt := 24) hC dX5_isCracked_20 (by decide) ?_
    refine jw_zret hC (by omega) dX5_isCracked_24 ?_
    have hc := h0.2.1 (12 * y + x)
    have e9 : M 89 (379 + 12 * y + x) = vC (M 89) (12 * y + x) := by rw [show 379 + 12 * y + x = 379 + (12 * y + x) by omega, vC_in (M 89) (p := 12 * y + x) (by omega) (by omega)]
    refine ⟨?_, rfl⟩
    congr 2
    omega
set_option maxRecDepth 100000 in
set_option maxHeartbeats 4000000 in
theorem c_X5_besideX (l : Launch) (E : ewE) (M : ewM) (x k : Int) (hk : 0 ≤ k ∧ k < 4) : Ct l E yX5_besideX (.code yX5_besideX cX5_besideX 2 (some .int)) 1 [vI x, vI k] M (fun v M1 => v = some (vI (if k = 0 then x - 1 else if k = 1 then x + 1 else x)) ∧ M = M1) := by
  refine ct_of (L0 := [(0, vI x), (1, vI k)]) (by decide +kernel) rfl (Nat.le_of_ble_eq_true rfl) ?_
  intro zp ze zs zm za zb zt zc zA hC
  refine jw_iload_n hC dX5_besideX_0 1 rfl rfl ?_
  refine jw_if_ne (tgt := 10) hC dX5_besideX_1 (by decide) (by omega) (by omega) (fun h1 => ?_) (fun h1 => ?_)
  · skip
    refine jw_iload_n hC dX5_besideX_10 1 rfl rfl ?_
    refine jw_iconst hC dX5_besideX_11 ?_
    refine jw_icmp_ne (tgt := 21) hC dX5_besideX_12 (by decide) (by omega) (by omega) (by omega) (by omega) (fun h12 => ?_) (fun h12 => ?_)
    · skip
      refine jw_iload_n hC dX5_besideX_21 0 rfl rfl ?_
      refine jw_iret hC dX5_besideX_22 ?_
      refine ⟨?_, rfl⟩
      first
      | rw [if_pos (by omega)]
      | rw [if_neg (by omega), if_pos (by omega)]
      | rw [if_neg (by omega), if_neg (by omega)]
    · skip
      refine jw_iload_n hC dX5_besideX_15 0 rfl rfl ?_
      refine jw_iconst hC dX5_besideX_16 ?_
      refine jw_iadd hC dX5_besideX_17 ?_
      refine jw_goto (tgt := 22) hC dX5_besideX_18 (by decide) ?_
      refine jw_iret hC dX5_besideX_22 ?_
      refine ⟨?_, rfl⟩
      first
      | rw [if_pos (by omega)]
      | rw [if_neg (by omega), if_pos (by omega)]
      | rw [if_neg (by omega), if_neg (by omega)]
  · skip
    refine jw_iload_n hC dX5_besideX_4 0 rfl rfl ?_
    refine jw_iconst hC dX5_besideX_5 ?_
    refine jw_isub hC dX5_besideX_6 ?_
    refine jw_goto (tgt := 22) hC dX5_besideX_7 (by decide) ?_
    refine jw_iret hC dX5_besideX_22 ?_
    refine ⟨?_, rfl⟩
    first
    | rw [if_pos (by omega)]
    | rw [if_neg (by omega), if_pos (by omega)]
    | rw [if_neg (by omega), if_neg (by omega)]
set_option maxRecDepth 100000 in
set_option maxHeartbeats 4000000 in
theorem c_X5_besideY (l : Launch) (E : ewE) (M : ewM) (x k : Int) (hk : 0 ≤ k ∧ k < 4) : Ct l E yX5_besideY (.code yX5_besideY cX5_besideY 2 (some .int)) 1 [vI x, vI k] M (fun v M1 => v = some (vI (if k = 2 then x - 1 else if k = 3 then x + 1 else x)) ∧ M = M1) := by
  refine ct_of (L0 := [(0, vI x), (1, vI k)]) (by decide +kernel) rfl (Nat.le_of_ble_eq_true rfl) ?_
  intro zp ze zs zm za zb zt zc zA hC
  refine jw_iload_n hC dX5_besideY_0 1 rfl rfl ?_
  refine jw_iconst hC dX5_besideY_1 ?_
  refine jw_icmp_ne (tgt := 11) hC dX5_besideY_2 (by decide) (by omega) (by omega) (by omega) (by omega) (fun h2 => ?_) (fun h2 => ?_)
  · skip
    refine jw_iload_n hC dX5_besideY_11 1 rfl rfl ?_
    refine jw_iconst hC dX5_besideY_12 ?_
    refine jw_icmp_ne (tgt := 22) hC dX5_besideY_13 (by decide) (by omega) (by omega) (by omega) (by omega) (fun h13 => ?_) (fun h13 => ?_)
    · skip
      refine jw_iload_n hC dX5_besideY_22 0 rfl rfl ?_
      refine jw_iret hC dX5_besideY_23 ?_
      refine ⟨?_, rfl⟩
      first
      | rw [if_pos (by omega)]
      | rw [if_neg (by omega), if_pos (by omega)]
      | rw [if_neg (by omega), if_neg (by omega)]
    · skip
      refine jw_iload_n hC dX5_besideY_16 0 rfl rfl ?_
      refine jw_iconst hC dX5_besideY_17 ?_
      refine jw_iadd hC dX5_besideY_18 ?_
      refine jw_goto (tgt := 23) hC dX5_besideY_19 (by decide) ?_
      refine jw_iret hC dX5_besideY_23 ?_
      refine ⟨?_, rfl⟩
      first
      | rw [if_pos (by omega)]
      | rw [if_neg (by omega), if_pos (by omega)]
      | rw [if_neg (by omega), if_neg (by omega)]
  · skip
    refine jw_iload_n hC dX5_besideY_5 0 rfl rfl ?_
    refine jw_iconst hC dX5_besideY_6 ?_
    refine jw_isub hC dX5_besideY_7 ?_
    refine jw_goto (tgt := 23) hC dX5_besideY_8 (by decide) ?_
    refine jw_iret hC dX5_besideY_23 ?_
    refine ⟨?_, rfl⟩
    first
    | rw [if_pos (by omega)]
    | rw [if_neg (by omega), if_pos (by omega)]
    | rw [if_neg (by omega), if_neg (by omega)]
/-- the parts of the sum over the four neighbours, one behind another -/
def f_pt (f1 f2 f3 f4 : Int) (k : Int) : Int := if k = 0 then 0 else if k = 1 then f1 else if k = 2 then f1 + f2 else if k = 3 then f1 + f2 + f3 else f1 + f2 + f3 + f4
/-- is there a neighbour on that side? -/
abbrev f_nb (x y k : Int) : Prop := (0 ≤ (if k = 0 then x - 1 else if k = 1 then x + 1 else x) ∧ (if k = 0 then x - 1 else if k = 1 then x + 1 else x) ≤ 11) ∧ (0 ≤ (if k = 2 then y - 1 else if k = 3 then y + 1 else y) ∧ (if k = 2 then y - 1 else if k = 3 then y + 1 else y) ≤ 11)
theorem f_pt_str (d : Int → Int) {x y k : Int} (hx : 0 ≤ x ∧ x < 12) (hy : 0 ≤ y ∧ y < 12) (hk : 0 ≤ k ∧ k < 4) : f_pt (f_s1 d (12 * y + x)) (f_s2 d (12 * y + x)) (f_s3 d (12 * y + x)) (f_s4 d (12 * y + x)) (k + 1) = f_pt (f_s1 d (12 * y + x)) (f_s2 d (12 * y + x)) (f_s3 d (12 * y + x)) (f_s4 d (12 * y + x)) k + (if f_nb x y k then f_diff d (12 * y + x) (12 * (if k = 2 then y - 1 else if k = 3 then y + 1 else y) + (if k = 0 then x - 1 else if k = 1 then x + 1 else x)) else 0) := by
  rcases (show k = 0 ∨ k = 1 ∨ k = 2 ∨ k = 3 by omega) with rfl | rfl | rfl | rfl
  · show f_s1 d (12 * y + x) = 0 + (if ((0 ≤ x - 1 ∧ x - 1 ≤ 11) ∧ (0 ≤ y ∧ y ≤ 11)) then f_diff d (12 * y + x) (12 * y + (x - 1)) else 0)
    unfold f_s1
    by_cases h : 0 < x
    · rw [if_pos (by omega), if_pos (by omega), show 12 * y + (x - 1) = 12 * y + x - 1 by omega]; omega
    · rw [if_neg (by omega), if_neg (by omega)]; rfl
  · show f_s1 d (12 * y + x) + f_s2 d (12 * y + x) = f_s1 d (12 * y + x) + (if ((0 ≤ x + 1 ∧ x + 1 ≤ 11) ∧ (0 ≤ y ∧ y ≤ 11)) then f_diff d (12 * y + x) (12 * y + (x + 1)) else 0)
    unfold f_s2
    by_cases h : x < 11
    · rw [if_pos (by omega), if_pos (by omega), show 12 * y + (x + 1) = 12 * y + x + 1 by omega]
    · rw [if_neg (by omega), if_neg (by omega)]
  · show f_s1 d (12 * y + x) + f_s2 d (12 * y + x) + f_s3 d (12 * y + x) = f_s1 d (12 * y + x) + f_s2 d (12 * y + x) + (if ((0 ≤ x ∧ x ≤ 11) ∧ (0 ≤ y - 1 ∧ y - 1 ≤ 11)) then f_diff d (12 * y + x) (12 * (y - 1) + x) else 0)
    unfold f_s3
    by_cases h : 0 < y
    · rw [if_pos (by omega), if_pos (by omega), show 12 * (y - 1) + x = 12 * y + x - 12 by omega]
    · rw [if_neg (by omega), if_neg (by omega)]
  · show f_s1 d (12 * y + x) + f_s2 d (12 * y + x) + f_s3 d (12 * y + x) + f_s4 d (12 * y + x) = f_s1 d (12 * y + x) + f_s2 d (12 * y + x) + f_s3 d (12 * y + x) + (if ((0 ≤ x ∧ x ≤ 11) ∧ (0 ≤ y + 1 ∧ y + 1 ≤ 11)) then f_diff d (12 * y + x) (12 * (y + 1) + x) else 0)
    unfold f_s4
    by_cases h : y < 11
    · rw [if_pos (by omega), if_pos (by omega), show 12 * (y + 1) + x = 12 * y + x + 12 by omega]
    · rw [if_neg (by omega), if_neg (by omega)]
theorem f_pt_cb (c : Int → Int) {x y k : Int} (hx : 0 ≤ x ∧ x < 12) (hy : 0 ≤ y ∧ y < 12) (hk : 0 ≤ k ∧ k < 4) : f_pt (f_b1 c (12 * y + x)) (f_b2 c (12 * y + x)) (f_b3 c (12 * y + x)) (f_b4 c (12 * y + x)) (k + 1) = f_pt (f_b1 c (12 * y + x)) (f_b2 c (12 * y + x)) (f_b3 c (12 * y + x)) (f_b4 c (12 * y + x)) k + (if f_nb x y k then c (12 * (if k = 2 then y - 1 else if k = 3 then y + 1 else y) + (if k = 0 then x - 1 else if k = 1 then x + 1 else x)) else 0) := by
  rcases (show k = 0 ∨ k = 1 ∨ k = 2 ∨ k = 3 by omega) with rfl | rfl | rfl | rfl
  · show f_b1 c (12 * y + x) = 0 + (if ((0 ≤ x - 1 ∧ x - 1 ≤ 11) ∧ (0 ≤ y ∧ y ≤ 11)) then c (12 * y + (x - 1)) else 0)
    unfold f_b1
    by_cases h : 0 < x
    · rw [if_pos (by omega), if_pos (by omega), show 12 * y + (x - 1) = 12 * y + x - 1 by omega]; omega
    · rw [if_neg (by omega), if_neg (by omega)]; rfl
  · show f_b1 c (12 * y + x) + f_b2 c (12 * y + x) = f_b1 c (12 * y + x) + (if ((0 ≤ x + 1 ∧ x + 1 ≤ 11) ∧ (0 ≤ y ∧ y ≤ 11)) then c (12 * y + (x + 1)) else 0)
    unfold f_b2
    by_cases h : x < 11
    · rw [if_pos (by omega), if_pos (by omega), show 12 * y + (x + 1) = 12 * y + x + 1 by omega]
    · rw [if_neg (by omega), if_neg (by omega)]
  · show f_b1 c (12 * y + x) + f_b2 c (12 * y + x) + f_b3 c (12 * y + x) = f_b1 c (12 * y + x) + f_b2 c (12 * y + x) + (if ((0 ≤ x ∧ x ≤ 11) ∧ (0 ≤ y - 1 ∧ y - 1 ≤ 11)) then c (12 * (y - 1) + x) else 0)
    unfold f_b3
    by_cases h : 0 < y
    · rw [if_pos (by omega), if_pos (by omega), show 12 * (y - 1) + x = 12 * y + x - 12 by omega]
    · rw [if_neg (by omega), if_neg (by omega)]
  · show f_b1 c (12 * y + x) + f_b2 c (12 * y + x) + f_b3 c (12 * y + x) + f_b4 c (12 * y + x) = f_b1 c (12 * y + x) + f_b2 c (12 * y + x) + f_b3 c (12 * y + x) + (if ((0 ≤ x ∧ x ≤ 11) ∧ (0 ≤ y + 1 ∧ y + 1 ≤ 11)) then c (12 * (y + 1) + x) else 0)
    unfold f_b4
    by_cases h : y < 11
    · rw [if_pos (by omega), if_pos (by omega), show 12 * (y + 1) + x = 12 * y + x + 12 by omega]
    · rw [if_neg (by omega), if_neg (by omega)]
set_option maxRecDepth 100000 in
set_option maxHeartbeats 4000000 in
theorem c_X5_strain (l : Launch) (E : ewE) (M : ewM) (h0 : svI (M 89)) (x y : Int) (hx : 0 ≤ x ∧ x < 12) (hy : 0 ≤ y ∧ y < 12) : Ct l E yX5_strain (.code yX5_strain cX5_strain 7 (some .int)) 3 [vR E 88, vI x, vI y] M (fun v M1 => v = some (vI (f_str (vD (M 89)) (12 * y + x))) ∧ M = M1) := by
  refine ct_of (L0 := [(0, vR E 88), (1, vI x), (2, vI y)]) (by decide +kernel) rfl (Nat.le_of_ble_eq_true rfl) ?_
  intro zp ze zs zm za zb zt zc zA hC
  obtain ⟨p1, p2, p3, p4, p5, p6, p7, p8, p9, pf⟩ := id h0
  have K5 : ∀ (n : Nat) (k sm : Int), 4 - k < n → 0 ≤ k → k ≤ 4 → sm = f_pt (f_s1 (vD (M 89)) (12 * y + x)) (f_s2 (vD (M 89)) (12 * y + x)) (f_s3 (vD (M 89)) (12 * y + x)) (f_s4 (vD (M 89)) (12 * y + x)) k → jJ zp l ze (ct_rm 3) zs zm za zb zt zc E zA 7 0 0 (MQ zb (ct_Q E zA (fun v M1 => v = some (vI (f_str (vD (M 89)) (12 * y + x))) ∧ M = M1)) za zs 0 0 zA) 5 [(0, vR E 88), (1, vI x), (2, vI y), (3, vI sm), (4, vI k)] [] M := by
    intro n
    induction n with
    | zero => intros; omega
    | succ n ih =>
      intro k sm i1 i2 i3 hs
      refine jw_iload hC dX5_strain_5 4 rfl ?_
      refine jw_iconst hC dX5_strain_7 ?_
      refine jw_icmp_ge (tgt := 68) hC dX5_strain_8 (by decide) (by omega) (by omega) (by omega) (by omega) (fun h8 => ?_) (fun h8 => ?_)
      · skip
        refine jw_iload_n hC dX5_strain_68 3 rfl rfl ?_
        refine jw_iret hC dX5_strain_69 ?_
        refine ⟨?_, rfl⟩
        rw [hs, show k = 4 by omega]
        rfl
      · skip
        refine jw_iload_n hC dX5_strain_11 1 rfl rfl ?_
        refine jw_iload hC dX5_strain_12 4 rfl ?_
        refine jw_callS hC (c_X5_besideX l E M _ _ ⟨by omega, by omega⟩) sS_X5_46 dX5_strain_14 rfl rfl ⟨Nat.le_of_ble_eq_true rfl, Nat.le_of_ble_eq_true rfl⟩ ⟨Nat.zero_le _, Nat.zero_le _⟩ (Nat.le_of_ble_eq_true rfl) (fun v14 M14 g14 => ?_)
        obtain ⟨rfl, rfl⟩ := g14
        refine jw_istore (L' := [(5, _), (0, _), (1, _), (2, _), (3, _), (4, _)]) hC dX5_strain_17 (by decide) rfl ?_
        refine jw_iload_n hC dX5_strain_19 3 rfl rfl ?_
        refine jw_iload hC dX5_strain_20 5 rfl ?_
        refine jw_callS hC (c_X5_besideY l E M _ _ ⟨by omega, by omega⟩) sS_X5_50 dX5_strain_22 rfl rfl ⟨Nat.le_of_ble_eq_true rfl, Nat.le_of_ble_eq_true rfl⟩ ⟨Nat.zero_le _, Nat.zero_le _⟩ (Nat.le_of_ble_eq_true rfl) (fun v22 M22 g22 => ?_)
        obtain ⟨rfl, rfl⟩ := g22
        have hbx : -1 ≤ (if k = 0 then x - 1 else if k = 1 then x + 1 else x) ∧ (if k = 0 then x - 1 else if k = 1 then x + 1 else x) ≤ 12 := by split <;> (try split) <;> omega
        have hby : -1 ≤ (if k = 2 then y - 1 else if k = 3 then y + 1 else y) ∧ (if k = 2 then y - 1 else if k = 3 then y + 1 else y) ≤ 12 := by split <;> (try split) <;> omega
        refine jw_istore (L' := [(6, _), (5, _), (0, _), (1, _), (2, _), (3, _), (4, _)]) hC dX5_strain_25 (by decide) rfl ?_
        refine jw_iload_n hC dX5_strain_27 5 rfl rfl ?_
        refine jw_iload hC dX5_strain_28 1 rfl ?_
        refine jw_iload hC dX5_strain_30 0 rfl ?_
        refine jw_callS hC (c_X5_isPlace l E M _ _ (by omega) (by omega) (by omega) (by omega)) sS_X5_53 dX5_strain_32 rfl rfl ⟨Nat.le_of_ble_eq_true rfl, Nat.le_of_ble_eq_true rfl⟩ ⟨Nat.zero_le _, Nat.zero_le _⟩ (Nat.le_of_ble_eq_true rfl) (fun v32 M32 g32 => ?_)
        obtain ⟨rfl, rfl⟩ := g32
        have hz32 : (if f_nb x y k then (1 : Int) else 0) = 0 ∨ (if f_nb x y k then (1 : Int) else 0) = 1 := by split <;> omega
        refine jw_if_eq (tgt := 59) hC dX5_strain_35 (by decide) (by omega) (by omega) (fun h35 => ?_) (fun h35 => ?_)
        · skip
          have hnb : ¬ f_nb x y k := fun z => by rw [if_pos z] at h35; omega
          refine jw_iconst hC dX5_strain_59 ?_
          refine jw_iadd hC dX5_strain_60 ?_
          refine jw_istore_n (L' := [(3, _), (6, _), (5, _), (0, _), (1, _), (2, _), (4, _)]) hC dX5_strain_61 rfl (by decide) rfl ?_
          refine jw_iinc (L' := [(4, _), (3, _), (6, _), (5, _), (0, _), (1, _), (2, _)]) hC dX5_strain_62 6 rfl (by decide) rfl ?_
          refine jw_goto (tgt := 5) hC dX5_strain_65 (by decide) ?_
          refine jw_loc (L' := [(0, _), (1, _), (2, _), (3, _), (4, _)]) [4, 5, 6, 1, 0] rfl ?_
          refine ih (k + 1) _ (by omega) (by omega) (by omega) ?_
          rw [f_pt_str _ hx hy ⟨by omega, by omega⟩, hs]
          first
          | rw [if_pos hnb]
            rfl
          | rw [if_neg hnb]
        · skip
          have hnb : f_nb x y k := Decidable.by_contra (fun z => by rw [if_neg z] at h35; omega)
          have hd1 := p1 (12 * y + x)
          have hd2 := p1 (12 * (if k = 2 then y - 1 else if k = 3 then y + 1 else y) + (if k = 0 then x - 1 else if k = 1 then x + 1 else x))
          refine jw_aload_n hC dX5_strain_38 2 rfl rfl ?_
          refine jw_iload_n hC dX5_strain_39 3 rfl rfl ?_
          refine jw_iload_n hC dX5_strain_40 4 rfl rfl ?_
          refine jw_callV hC (c_X5_depth l E M h0 _ _ hx hy) sV_X5_57 ewF_m0.o dX5_strain_41 rfl rfl ⟨Nat.le_of_ble_eq_true rfl, Nat.le_of_ble_eq_true rfl⟩ ⟨Nat.zero_le _, Nat.zero_le _⟩ (Nat.le_of_ble_eq_true rfl) (fun v41 M41 g41 => ?_)
          obtain ⟨rfl, rfl⟩ := g41
          refine jw_aload_n hC dX5_strain_44 2 rfl rfl ?_
          refine jw_iload hC dX5_strain_45 1 rfl ?_
          refine jw_iload hC dX5_strain_47 0 rfl ?_
          refine jw_callV hC (c_X5_depth l E M h0 _ _ ⟨by omega, by omega⟩ ⟨by omega, by omega⟩) sV_X5_57 ewF_m0.o dX5_strain_49 rfl rfl ⟨Nat.le_of_ble_eq_true rfl, Nat.le_of_ble_eq_true rfl⟩ ⟨Nat.zero_le _, Nat.zero_le _⟩ (Nat.le_of_ble_eq_true rfl) (fun v49 M49 g49 => ?_)
          obtain ⟨rfl, rfl⟩ := g49
          refine jw_isub hC dX5_strain_52 ?_
          refine jw_callS hC (c_X5_abs l E M _ (by omega) (by omega)) sS_X5_60 dX5_strain_53 rfl rfl ⟨Nat.le_of_ble_eq_true rfl, Nat.le_of_ble_eq_true rfl⟩ ⟨Nat.zero_le _, Nat.zero_le _⟩ (Nat.le_of_ble_eq_true rfl) (fun v53 M53 g53 => ?_)
          obtain ⟨rfl, rfl⟩ := g53
          refine jw_goto (tgt := 60) hC dX5_strain_56 (by decide) ?_
          refine jw_iadd hC dX5_strain_60 ?_
          refine jw_istore_n (L' := [(3, _), (6, _), (5, _), (0, _), (1, _), (2, _), (4, _)]) hC dX5_strain_61 rfl (by decide) rfl ?_
          refine jw_iinc (L' := [(4, _), (3, _), (6, _), (5, _), (0, _), (1, _), (2, _)]) hC dX5_strain_62 6 rfl (by decide) rfl ?_
          refine jw_goto (tgt := 5) hC dX5_strain_65 (by decide) ?_
          refine jw_loc (L' := [(0, _), (1, _), (2, _), (3, _), (4, _)]) [4, 5, 6, 1, 0] rfl ?_
          refine ih (k + 1) _ (by omega) (by omega) (by omega) ?_
          rw [f_pt_str _ hx hy ⟨by omega, by omega⟩, hs]
          first
          | rw [if_pos hnb]
            rfl
          | rw [if_neg hnb]
  refine jw_iconst hC dX5_strain_0 ?_
  refine jw_istore_n (L' := [(3, _), (0, _), (1, _), (2, _)]) hC dX5_strain_1 rfl (by decide) rfl ?_
  refine jw_iconst hC dX5_strain_2 ?_
  refine jw_istore (L' := [(4, _), (3, _), (0, _), (1, _), (2, _)]) hC dX5_strain_3 (by decide) rfl ?_
  refine jw_loc (L' := [(0, _), (1, _), (2, _), (3, _), (4, _)]) [2, 3, 4, 1, 0] rfl ?_
  exact K5 5 0 0 (by omega) (by omega) (by omega) rfl
set_option maxRecDepth 100000 in
set_option maxHeartbeats 4000000 in
theorem c_X5_bears (l : Launch) (E : ewE) (M : ewM) (h0 : svI (M 89)) (x y : Int) (hx : 0 ≤ x ∧ x < 12) (hy : 0 ≤ y ∧ y < 12) : Ct l E yX5_bears (.code yX5_bears cX5_bears 7 (some .int)) 3 [vR E 88, vI x, vI y] M (fun v M1 => v = some (vI (f_bear (vC (M 89)) (12 * y + x) (M 89 0) (M 89 1))) ∧ M = M1) := by
  refine ct_of (L0 := [(0, vR E 88), (1, vI x), (2, vI y)]) (by decide +kernel) rfl (Nat.le_of_ble_eq_true rfl) ?_
  intro zp ze zs zm za zb zt zc zA hC
  obtain ⟨p1, p2, p3, p4, p5, p6, p7, p8, p9, pf⟩ := id h0
  have hbd := f_cb_b p2 (12 * y + x)
  have hb1 := f_b1_b p2 (12 * y + x)
  have hb2 := f_b2_b p2 (12 * y + x)
  have hb3 := f_b3_b p2 (12 * y + x)
  have hb4 := f_b4_b p2 (12 * y + x)
  have K10 : ∀ (n : Nat) (k its : Int), 4 - k < n → 0 ≤ k → k ≤ 4 → its = M 89 0 - M 89 1 * f_pt (f_b1 (vC (M 89)) (12 * y + x)) (f_b2 (vC (M 89)) (12 * y + x)) (f_b3 (vC (M 89)) (12 * y + x)) (f_b4 (vC (M 89)) (12 * y + x)) k → jJ zp l ze (ct_rm 3) zs zm za zb zt zc E zA 7 0 0 (MQ zb (ct_Q E zA (fun v M1 => v = some (vI (f_bear (vC (M 89)) (12 * y + x) (M 89 0) (M 89 1))) ∧ M = M1)) za zs 0 0 zA) 10 [(0, vR E 88), (1, vI x), (2, vI y), (3, vI its), (4, vI k)] [] M := by
    intro n
    induction n with
    | zero => intros; omega
    | succ n ih =>
      intro k its i1 i2 i3 hs
      have hpt : 0 ≤ f_pt (f_b1 (vC (M 89)) (12 * y + x)) (f_b2 (vC (M 89)) (12 * y + x)) (f_b3 (vC (M 89)) (12 * y + x)) (f_b4 (vC (M 89)) (12 * y + x)) k ∧ f_pt (f_b1 (vC (M 89)) (12 * y + x)) (f_b2 (vC (M 89)) (12 * y + x)) (f_b3 (vC (M 89)) (12 * y + x)) (f_b4 (vC (M 89)) (12 * y + x)) k ≤ 4 := by unfold f_pt; (repeat' split) <;> omega
      have htk := f_tk_b p5.1 p5.2 hpt.1 hpt.2
      refine jw_iload hC dX5_bears_10 4 rfl ?_
      refine jw_iconst hC dX5_bears_12 ?_
      refine jw_icmp_ge (tgt := 72) hC dX5_bears_13 (by decide) (by omega) (by omega) (by omega) (by omega) (fun h13 => ?_) (fun h13 => ?_)
      · skip
        refine jw_iload_n hC dX5_bears_72 3 rfl rfl ?_
        refine jw_if_ge (tgt := 80) hC dX5_bears_73 (by decide) (by omega) (by omega) (fun h73 => ?_) (fun h73 => ?_)
        · skip
          refine jw_iload_n hC dX5_bears_80 3 rfl rfl ?_
          refine jw_iret hC dX5_bears_81 ?_
          refine ⟨?_, rfl⟩
          have e9 : its = M 89 0 - M 89 1 * f_cb (vC (M 89)) (12 * y + x) := by rw [hs, show k = 4 by omega]; rfl
          unfold f_bear
          rw [← e9]
          congr 2
          omega
        · skip
          refine jw_iconst hC dX5_bears_76 ?_
          refine jw_goto (tgt := 81) hC dX5_bears_77 (by decide) ?_
          refine jw_iret hC dX5_bears_81 ?_
          refine ⟨?_, rfl⟩
          have e9 : its = M 89 0 - M 89 1 * f_cb (vC (M 89)) (12 * y + x) := by rw [hs, show k = 4 by omega]; rfl
          unfold f_bear
          rw [← e9]
          congr 2
          omega
      · skip
        refine jw_iload_n hC dX5_bears_16 1 rfl rfl ?_
        refine jw_iload hC dX5_bears_17 4 rfl ?_
        refine jw_callS hC (c_X5_besideX l E M _ _ ⟨by omega, by omega⟩) sS_X5_46 dX5_bears_19 rfl rfl ⟨Nat.le_of_ble_eq_true rfl, Nat.le_of_ble_eq_true rfl⟩ ⟨Nat.zero_le _, Nat.zero_le _⟩ (Nat.le_of_ble_eq_true rfl) (fun v19 M19 g19 => ?_)
        obtain ⟨rfl, rfl⟩ := g19
        refine jw_istore (L' := [(5, _), (0, _), (1, _), (2, _), (3, _), (4, _)]) hC dX5_bears_22 (by decide) rfl ?_
        refine jw_iload_n hC dX5_bears_24 3 rfl rfl ?_
        refine jw_iload hC dX5_bears_25 5 rfl ?_
        refine jw_callS hC (c_X5_besideY l E M _ _ ⟨by omega, by omega⟩) sS_X5_50 dX5_bears_27 rfl rfl ⟨Nat.le_of_ble_eq_true rfl, Nat.le_of_ble_eq_true rfl⟩ ⟨Nat.zero_le _, Nat.zero_le _⟩ (Nat.le_of_ble_eq_true rfl) (fun v27 M27 g27 => ?_)
        obtain ⟨rfl, rfl⟩ := g27
        have hbx : -1 ≤ (if k = 0 then x - 1 else if k = 1 then x + 1 else x) ∧ (if k = 0 then x - 1 else if k = 1 then x + 1 else x) ≤ 12 := by split <;> (try split) <;> omega
        have hby : -1 ≤ (if k = 2 then y - 1 else if k = 3 then y + 1 else y) ∧ (if k = 2 then y - 1 else if k = 3 then y + 1 else y) ≤ 12 := by split <;> (try split) <;> omega
        refine jw_istore (L' := [(6, _), (5, _), (0, _), (1, _), (2, _), (3, _), (4, _)]) hC dX5_bears_30 (by decide) rfl ?_
        refine jw_iload_n hC dX5_bears_32 5 rfl rfl ?_
        refine jw_iload hC dX5_bears_33 1 rfl ?_
        refine jw_iload hC dX5_bears_35 0 rfl ?_
        refine jw_callS hC (c_X5_isPlace l E M _ _ (by omega) (by omega) (by omega) (by omega)) sS_X5_53 dX5_bears_37 rfl rfl ⟨Nat.le_of_ble_eq_true rfl, Nat.le_of_ble_eq_true rfl⟩ ⟨Nat.zero_le _, Nat.zero_le _⟩ (Nat.le_of_ble_eq_true rfl) (fun v37 M37 g37 => ?_)
        obtain ⟨rfl, rfl⟩ := g37
        have hz37 : (if f_nb x y k then (1 : Int) else 0) = 0 ∨ (if f_nb x y k then (1 : Int) else 0) = 1 := by split <;> omega
        refine jw_if_eq (tgt := 63) hC dX5_bears_40 (by decide) (by omega) (by omega) (fun h40 => ?_) (fun h40 => ?_)
        · skip
          refine jw_iconst hC dX5_bears_63 ?_
          refine jw_isub hC dX5_bears_64 ?_
          refine jw_istore_n (L' := [(3, _), (6, _), (5, _), (0, _), (1, _), (2, _), (4, _)]) hC dX5_bears_65 rfl (by decide) rfl ?_
          refine jw_iinc (L' := [(4, _), (3, _), (6, _), (5, _), (0, _), (1, _), (2, _)]) hC dX5_bears_66 6 rfl (by decide) rfl ?_
          refine jw_goto (tgt := 10) hC dX5_bears_69 (by decide) ?_
          refine jw_loc (L' := [(0, _), (1, _), (2, _), (3, _), (4, _)]) [4, 5, 6, 1, 0] rfl ?_
          refine ih (k + 1) _ (by omega) (by omega) (by omega) ?_
          rw [f_pt_cb _ hx hy ⟨by omega, by omega⟩, hs, Int.mul_add]
          first
          | (have hnb : ¬ f_nb x y k := fun z => by rw [if_pos z] at h40; omega
             rw [if_neg hnb, Int.mul_zero]
             omega)
          | (rw [if_pos hnb]
             first
             | (have e8 : vC (M 89) (12 * (if k = 2 then y - 1 else if k = 3 then y + 1 else y) + (if k = 0 then x - 1 else if k = 1 then x + 1 else x)) = 0 := by omega
                rw [e8, Int.mul_zero]
                omega)
             | (have e8 : vC (M 89) (12 * (if k = 2 then y - 1 else if k = 3 then y + 1 else y) + (if k = 0 then x - 1 else if k = 1 then x + 1 else x)) = 1 := by omega
                rw [e8, Int.mul_one]
                omega))
        · skip
          have hnb : f_nb x y k := Decidable.by_contra (fun z => by rw [if_neg z] at h40; omega)
          refine jw_aload_n hC dX5_bears_43 2 rfl rfl ?_
          refine jw_iload hC dX5_bears_44 1 rfl ?_
          refine jw_iload hC dX5_bears_46 0 rfl ?_
          refine jw_callV hC (c_X5_isCracked l E M h0 _ _ ⟨by omega, by omega⟩ ⟨by omega, by omega⟩) sV_X5_64 ewF_m0.o dX5_bears_48 rfl rfl ⟨Nat.le_of_ble_eq_true rfl, Nat.le_of_ble_eq_true rfl⟩ ⟨Nat.zero_le _, Nat.zero_le _⟩ (Nat.le_of_ble_eq_true rfl) (fun v48 M48 g48 => ?_)
          obtain ⟨rfl, rfl⟩ := g48
          have hd1 := p2 (12 * (if k = 2 then y - 1 else if k = 3 then y + 1 else y) + (if k = 0 then x - 1 else if k = 1 then x + 1 else x))
          refine jw_if_eq (tgt := 63) hC dX5_bears_51 (by decide) (by omega) (by omega) (fun h51 => ?_) (fun h51 => ?_)
          · skip
            refine jw_iconst hC dX5_bears_63 ?_
            refine jw_isub hC dX5_bears_64 ?_
            refine jw_istore_n (L' := [(3, _), (6, _), (5, _), (0, _), (1, _), (2, _), (4, _)]) hC dX5_bears_65 rfl (by decide) rfl ?_
            refine jw_iinc (L' := [(4, _), (3, _), (6, _), (5, _), (0, _), (1, _), (2, _)]) hC dX5_bears_66 6 rfl (by decide) rfl ?_
            refine jw_goto (tgt := 10) hC dX5_bears_69 (by decide) ?_
            refine jw_loc (L' := [(0, _), (1, _), (2, _), (3, _), (4, _)]) [4, 5, 6, 1, 0] rfl ?_
            refine ih (k + 1) _ (by omega) (by omega) (by omega) ?_
            rw [f_pt_cb _ hx hy ⟨by omega, by omega⟩, hs, Int.mul_add]
            first
            | (have hnb : ¬ f_nb x y k := fun z => by rw [if_pos z] at h40; omega
               rw [if_neg hnb, Int.mul_zero]
               omega)
            | (rw [if_pos hnb]
               first
               | (have e8 : vC (M 89) (12 * (if k = 2 then y - 1 else if k = 3 then y + 1 else y) + (if k = 0 then x - 1 else if k = 1 then x + 1 else x)) = 0 := by omega
                  rw [e8, Int.mul_zero]
                  omega)
               | (have e8 : vC (M 89) (12 * (if k = 2 then y - 1 else if k = 3 then y + 1 else y) + (if k = 0 then x - 1 else if k = 1 then x + 1 else x)) = 1 := by omega
                  rw [e8, Int.mul_one]
                  omega))
          · skip
            refine jw_aload_n hC dX5_bears_54 2 rfl rfl ?_
            refine jw_getr hC fL_X5_7 ewR_m1 dX5_bears_55 ?_
            refine jw_iconst hC dX5_bears_58 ?_
            refine jw_iald hC ewA_89 dX5_bears_59 (by omega) (by omega) (by decide) (fun b59 c59 => ?_)
            refine jw_goto (tgt := 64) hC dX5_bears_60 (by decide) ?_
            refine jw_isub hC dX5_bears_64 ?_
            refine jw_istore_n (L' := [(3, _), (6, _), (5, _), (0, _), (1, _), (2, _), (4, _)]) hC dX5_bears_65 rfl (by decide) rfl ?_
            refine jw_iinc (L' := [(4, _), (3, _), (6, _), (5, _), (0, _), (1, _), (2, _)]) hC dX5_bears_66 6 rfl (by decide) rfl ?_
            refine jw_goto (tgt := 10) hC dX5_bears_69 (by decide) ?_
            refine jw_loc (L' := [(0, _), (1, _), (2, _), (3, _), (4, _)]) [4, 5, 6, 1, 0] rfl ?_
            refine ih (k + 1) _ (by omega) (by omega) (by omega) ?_
            rw [f_pt_cb _ hx hy ⟨by omega, by omega⟩, hs, Int.mul_add]
            first
            | (have hnb : ¬ f_nb x y k := fun z => by rw [if_pos z] at h40; omega
               rw [if_neg hnb, Int.mul_zero]
               omega)
            | (rw [if_pos hnb]
               first
               | (have e8 : vC (M 89) (12 * (if k = 2 then y - 1 else if k = 3 then y + 1 else y) + (if k = 0 then x - 1 else if k = 1 then x + 1 else x)) = 0 := by omega
                  rw [e8, Int.mul_zero]
                  omega)
               | (have e8 : vC (M 89) (12 * (if k = 2 then y - 1 else if k = 3 then y + 1 else y) + (if k = 0 then x - 1 else if k = 1 then x + 1 else x)) = 1 := by omega
                  rw [e8, Int.mul_one]
                  omega))
  refine jw_aload_n hC dX5_bears_0 0 rfl rfl ?_
  refine jw_getr hC fL_X5_7 ewR_m1 dX5_bears_1 ?_
  refine jw_iconst hC dX5_bears_4 ?_
  refine jw_iald hC ewA_89 dX5_bears_5 (by omega) (by omega) (by decide) (fun b5 c5 => ?_)
  refine jw_istore_n (L' := [(3, _), (0, _), (1, _), (2, _)]) hC dX5_bears_6 rfl (by decide) rfl ?_
  refine jw_iconst hC dX5_bears_7 ?_
  refine jw_istore (L' := [(4, _), (3, _), (0, _), (1, _), (2, _)]) hC dX5_bears_8 (by decide) rfl ?_
  refine jw_loc (L' := [(0, _), (1, _), (2, _), (3, _), (4, _)]) [2, 3, 4, 1, 0] rfl ?_
  exact K10 5 0 _ (by omega) (by omega) (by omega) (by unfold f_pt; rw [if_pos rfl]; omega)
