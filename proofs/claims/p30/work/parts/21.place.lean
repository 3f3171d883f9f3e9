/-! PLACES, POINTS: the static methods of EmbossPress, and what the sheet does with them -/
set_option maxRecDepth 100000 in
set_option maxHeartbeats 4000000 in
theorem c_X4_isDie (l : Launch) (E : ewE) (M : ewM) (a : Int) (h1 : -2147483648 ≤ a) (h2 : a < 2147483648) : Ct l E yX4_isDie (.code yX4_isDie cX4_isDie 1 (some .boolean)) 1 [vI a] M (fun v M1 => v = some (vI (if 0 ≤ a ∧ a < 3 then 1 else 0)) ∧ M = M1) := by
  refine ct_of (L0 := [(0, vI a)]) (by decide +kernel) rfl (Nat.le_of_ble_eq_true rfl) ?_
  intro zp ze zs zm za zb zt zc zA hC
  refine jw_iload_n hC dX4_isDie_0 0 rfl rfl ?_
  refine jw_if_lt (tgt := 13) hC dX4_isDie_1 (by decide) (by omega) (by omega) (fun h1 => ?_) (fun h1 => ?_)
  · skip
    refine jw_iconst hC dX4_isDie_13 ?_
    refine jw_zret hC (by omega) dX4_isDie_14 ?_
    refine ⟨?_, rfl⟩
    first | rw [if_pos (by omega)] | rw [if_neg (by omega)]
  · skip
    refine jw_iload_n hC dX4_isDie_4 0 rfl rfl ?_
    refine jw_iconst hC dX4_isDie_5 ?_
    refine jw_icmp_ge (tgt := 13) hC dX4_isDie_6 (by decide) (by omega) (by omega) (by omega) (by omega) (fun h6 => ?_) (fun h6 => ?_)
    · skip
      refine jw_iconst hC dX4_isDie_13 ?_
      refine jw_zret hC (by omega) dX4_isDie_14 ?_
      refine ⟨?_, rfl⟩
      first | rw [if_pos (by omega)] | rw [if_neg (by omega)]
    · skip
      refine jw_iconst hC dX4_isDie_9 ?_
      refine jw_goto (tgt := 14) hC dX4_isDie_10 (by decide) ?_
      refine jw_zret hC (by omega) dX4_isDie_14 ?_
      refine ⟨?_, rfl⟩
      first | rw [if_pos (by omega)] | rw [if_neg (by omega)]
set_option maxRecDepth 100000 in
set_option maxHeartbeats 4000000 in
theorem c_X4_isTurn (l : Launch) (E : ewE) (M : ewM) (a : Int) (h1 : -2147483648 ≤ a) (h2 : a < 2147483648) : Ct l E yX4_isTurn (.code yX4_isTurn cX4_isTurn 1 (some .boolean)) 1 [vI a] M (fun v M1 => v = some (vI (if 0 ≤ a ∧ a < 8 then 1 else 0)) ∧ M = M1) := by
  refine ct_of (L0 := [(0, vI a)]) (by decide +kernel) rfl (Nat.le_of_ble_eq_true rfl) ?_
  intro zp ze zs zm za zb zt zc zA hC
  refine jw_iload_n hC dX4_isTurn_0 0 rfl rfl ?_
  refine jw_if_lt (tgt := 14) hC dX4_isTurn_1 (by decide) (by omega) (by omega) (fun h1 => ?_) (fun h1 => ?_)
  · skip
    refine jw_iconst hC dX4_isTurn_14 ?_
    refine jw_zret hC (by omega) dX4_isTurn_15 ?_
    refine ⟨?_, rfl⟩
    first | rw [if_pos (by omega)] | rw [if_neg (by omega)]
  · skip
    refine jw_iload_n hC dX4_isTurn_4 0 rfl rfl ?_
    refine jw_bipush hC dX4_isTurn_5 (by decide) ?_
    refine jw_icmp_ge (tgt := 14) hC dX4_isTurn_7 (by decide) (by omega) (by omega) (by omega) (by omega) (fun h7 => ?_) (fun h7 => ?_)
    · skip
      refine jw_iconst hC dX4_isTurn_14 ?_
      refine jw_zret hC (by omega) dX4_isTurn_15 ?_
      refine ⟨?_, rfl⟩
      first | rw [if_pos (by omega)] | rw [if_neg (by omega)]
    · skip
      refine jw_iconst hC dX4_isTurn_10 ?_
      refine jw_goto (tgt := 15) hC dX4_isTurn_11 (by decide) ?_
      refine jw_zret hC (by omega) dX4_isTurn_15 ?_
      refine ⟨?_, rfl⟩
      first | rw [if_pos (by omega)] | rw [if_neg (by omega)]
set_option maxRecDepth 100000 in
set_option maxHeartbeats 4000000 in
theorem c_X4_isFoldRow (l : Launch) (E : ewE) (M : ewM) (a : Int) (h1 : -2147483648 ≤ a) (h2 : a < 2147483648) : Ct l E yX4_isFoldRow (.code yX4_isFoldRow cX4_isFoldRow 1 (some .boolean)) 1 [vI a] M (fun v M1 => v = some (vI (if 1 ≤ a ∧ a < 12 then 1 else 0)) ∧ M = M1) := by
  refine ct_of (L0 := [(0, vI a)]) (by decide +kernel) rfl (Nat.le_of_ble_eq_true rfl) ?_
  intro zp ze zs zm za zb zt zc zA hC
  refine jw_iload_n hC dX4_isFoldRow_0 0 rfl rfl ?_
  refine jw_iconst hC dX4_isFoldRow_1 ?_
  refine jw_icmp_lt (tgt := 15) hC dX4_isFoldRow_2 (by decide) (by omega) (by omega) (by omega) (by omega) (fun h2 => ?_) (fun h2 => ?_)
  · skip
    refine jw_iconst hC dX4_isFoldRow_15 ?_
    refine jw_zret hC (by omega) dX4_isFoldRow_16 ?_
    refine ⟨?_, rfl⟩
    first | rw [if_pos (by omega)] | rw [if_neg (by omega)]
  · skip
    refine jw_iload_n hC dX4_isFoldRow_5 0 rfl rfl ?_
    refine jw_bipush hC dX4_isFoldRow_6 (by decide) ?_
    refine jw_icmp_ge (tgt := 15) hC dX4_isFoldRow_8 (by decide) (by omega) (by omega) (by omega) (by omega) (fun h8 => ?_) (fun h8 => ?_)
    · skip
      refine jw_iconst hC dX4_isFoldRow_15 ?_
      refine jw_zret hC (by omega) dX4_isFoldRow_16 ?_
      refine ⟨?_, rfl⟩
      first | rw [if_pos (by omega)] | rw [if_neg (by omega)]
    · skip
      refine jw_iconst hC dX4_isFoldRow_11 ?_
      refine jw_goto (tgt := 16) hC dX4_isFoldRow_12 (by decide) ?_
      refine jw_zret hC (by omega) dX4_isFoldRow_16 ?_
      refine ⟨?_, rfl⟩
      first | rw [if_pos (by omega)] | rw [if_neg (by omega)]
set_option maxRecDepth 100000 in
set_option maxHeartbeats 4000000 in
theorem c_X4_isSetting (l : Launch) (E : ewE) (M : ewM) (a : Int) (h1 : -2147483648 ≤ a) (h2 : a < 2147483648) : Ct l E yX4_isSetting (.code yX4_isSetting cX4_isSetting 1 (some .boolean)) 1 [vI a] M (fun v M1 => v = some (vI (if 0 ≤ a ∧ a < 4 then 1 else 0)) ∧ M = M1) := by
  refine ct_of (L0 := [(0, vI a)]) (by decide +kernel) rfl (Nat.le_of_ble_eq_true rfl) ?_
  intro zp ze zs zm za zb zt zc zA hC
  refine jw_iload_n hC dX4_isSetting_0 0 rfl rfl ?_
  refine jw_if_lt (tgt := 13) hC dX4_isSetting_1 (by decide) (by omega) (by omega) (fun h1 => ?_) (fun h1 => ?_)
  · skip
    refine jw_iconst hC dX4_isSetting_13 ?_
    refine jw_zret hC (by omega) dX4_isSetting_14 ?_
    refine ⟨?_, rfl⟩
    first | rw [if_pos (by omega)] | rw [if_neg (by omega)]
  · skip
    refine jw_iload_n hC dX4_isSetting_4 0 rfl rfl ?_
    refine jw_iconst hC dX4_isSetting_5 ?_
    refine jw_icmp_ge (tgt := 13) hC dX4_isSetting_6 (by decide) (by omega) (by omega) (by omega) (by omega) (fun h6 => ?_) (fun h6 => ?_)
    · skip
      refine jw_iconst hC dX4_isSetting_13 ?_
      refine jw_zret hC (by omega) dX4_isSetting_14 ?_
      refine ⟨?_, rfl⟩
      first | rw [if_pos (by omega)] | rw [if_neg (by omega)]
    · skip
      refine jw_iconst hC dX4_isSetting_9 ?_
      refine jw_goto (tgt := 14) hC dX4_isSetting_10 (by decide) ?_
      refine jw_zret hC (by omega) dX4_isSetting_14 ?_
      refine ⟨?_, rfl⟩
      first | rw [if_pos (by omega)] | rw [if_neg (by omega)]

set_option maxRecDepth 100000 in
set_option maxHeartbeats 4000000 in
theorem c_X4_isPoint (l : Launch) (E : ewE) (M : ewM) (a b : Int) (h1 : -2147483648 ≤ a) (h2 : a < 2147483648) (h3 : -2147483648 ≤ b) (h4 : b < 2147483648) : Ct l E yX4_isPoint (.code yX4_isPoint cX4_isPoint 2 (some .boolean)) 1 [vI a, vI b] M (fun v M1 => v = some (vI (if 0 ≤ a ∧ a < 5 ∧ 0 ≤ b ∧ b < 5 then 1 else 0)) ∧ M = M1) := by
  refine ct_of (L0 := [(0, vI a), (1, vI b)]) (by decide +kernel) rfl (Nat.le_of_ble_eq_true rfl) ?_
  intro zp ze zs zm za zb zt zc zA hC
  refine jw_iload_n hC dX4_isPoint_0 0 rfl rfl ?_
  refine jw_if_lt (tgt := 22) hC dX4_isPoint_1 (by decide) (by omega) (by omega) (fun h1 => ?_) (fun h1 => ?_)
  · skip
    refine jw_iconst hC dX4_isPoint_22 ?_
    refine jw_zret hC (by omega) dX4_isPoint_23 ?_
    refine ⟨?_, rfl⟩
    first | rw [if_pos (by omega)] | rw [if_neg (by omega)]
  · skip
    refine jw_iload_n hC dX4_isPoint_4 0 rfl rfl ?_
    refine jw_iconst hC dX4_isPoint_5 ?_
    refine jw_icmp_ge (tgt := 22) hC dX4_isPoint_6 (by decide) (by omega) (by omega) (by omega) (by omega) (fun h6 => ?_) (fun h6 => ?_)
    · skip
      refine jw_iconst hC dX4_isPoint_22 ?_
      refine jw_zret hC (by omega) dX4_isPoint_23 ?_
      refine ⟨?_, rfl⟩
      first | rw [if_pos (by omega)] | rw [if_neg (by omega)]
    · skip
      refine jw_iload_n hC dX4_isPoint_9 1 rfl rfl ?_
      refine jw_if_lt (tgt := 22) hC dX4_isPoint_10 (by decide) (by omega) (by omega) (fun h10 => ?_) (fun h10 => ?_)
      · skip
        refine jw_iconst hC dX4_isPoint_22 ?_
        refine jw_zret hC (by omega) dX4_isPoint_23 ?_
        refine ⟨?_, rfl⟩
        first | rw [if_pos (by omega)] | rw [if_neg (by omega)]
      · skip
        refine jw_iload_n hC dX4_isPoint_13 1 rfl rfl ?_
        refine jw_iconst hC dX4_isPoint_14 ?_
        refine jw_icmp_ge (tgt := 22) hC dX4_isPoint_15 (by decide) (by omega) (by omega) (by omega) (by omega) (fun h15 => ?_) (fun h15 => ?_)
        · skip
          refine jw_iconst hC dX4_isPoint_22 ?_
          refine jw_zret hC (by omega) dX4_isPoint_23 ?_
          refine ⟨?_, rfl⟩
          first | rw [if_pos (by omega)] | rw [if_neg (by omega)]
        · skip
          refine jw_iconst hC dX4_isPoint_18 ?_
          refine jw_goto (tgt := 23) hC dX4_isPoint_19 (by decide) ?_
          refine jw_zret hC (by omega) dX4_isPoint_23 ?_
          refine ⟨?_, rfl⟩
          first | rw [if_pos (by omega)] | rw [if_neg (by omega)]
set_option maxRecDepth 100000 in
set_option maxHeartbeats 4000000 in
theorem c_X4_pointIndex (l : Launch) (E : ewE) (M : ewM) (a b c : Int) : Ct l E yX4_pointIndex (.code yX4_pointIndex cX4_pointIndex 3 (some .int)) 1 [vI a, vI b, vI c] M (fun v M1 => v = some (vI (a * 25 + c * 5 + b)) ∧ M = M1) := by
  refine ct_of (L0 := [(0, vI a), (1, vI b), (2, vI c)]) (by decide +kernel) rfl (Nat.le_of_ble_eq_true rfl) ?_
  intro zp ze zs zm za zb zt zc zA hC
  refine jw_iload_n hC dX4_pointIndex_0 0 rfl rfl ?_
  refine jw_bipush hC dX4_pointIndex_1 (by decide) ?_
  refine jw_imul hC dX4_pointIndex_3 ?_
  refine jw_iload_n hC dX4_pointIndex_4 2 rfl rfl ?_
  refine jw_iconst hC dX4_pointIndex_5 ?_
  refine jw_imul hC dX4_pointIndex_6 ?_
  refine jw_iadd hC dX4_pointIndex_7 ?_
  refine jw_iload_n hC dX4_pointIndex_8 1 rfl rfl ?_
  refine jw_iadd hC dX4_pointIndex_9 ?_
  refine jw_iret hC dX4_pointIndex_10 ?_
  exact ⟨rfl, rfl⟩
set_option maxRecDepth 100000 in
set_option maxHeartbeats 4000000 in
theorem c_X4_placeIndex (l : Launch) (E : ewE) (M : ewM) (c r : Int) (h1 : -1099511627776 ≤ c) (h2 : c ≤ 1099511627776) (h3 : -1099511627776 ≤ r) (h4 : r ≤ 1099511627776) : Ct l E yX4_placeIndex (.code yX4_placeIndex cX4_placeIndex 4 (some .int)) 1 [vJ c, vJ r] M (fun v M1 => v = some (vI (f_pl c r)) ∧ M = M1) := by
  refine ct_of (L0 := [(0, vJ c), (2, vJ r)]) (by decide +kernel) rfl (Nat.le_of_ble_eq_true rfl) ?_
  intro zp ze zs zm za zb zt zc zA hC
  refine jw_lload_n hC dX4_placeIndex_0 0 rfl rfl ?_
  refine jw_lconst (v := 0) hC dX4_placeIndex_1 rfl ?_
  refine jw_lcmp hC dX4_placeIndex_2 (by omega) (by omega) (by omega) (by omega) ?_
  refine jw_if_lt (tgt := 28) hC dX4_placeIndex_3 (by decide) lcm_b1 lcm_b2 (fun h3 => ?_) (fun h3 => ?_)
  · skip
    have h3 := lcm_lt.mp h3
    refine jw_iconst hC dX4_placeIndex_28 ?_
    refine jw_iret hC dX4_placeIndex_29 ?_
    refine ⟨?_, rfl⟩
    unfold f_pl
    first | rw [if_pos (by omega)] | rw [if_neg (by omega)]
  · skip
    have h3 := lcm_ge.mp h3
    refine jw_lload_n hC dX4_placeIndex_6 0 rfl rfl ?_
    refine jw_ldc2 (n := 12) hC dX4_placeIndex_7 w2_146 ?_
    refine jw_lcmp hC dX4_placeIndex_10 (by omega) (by omega) (by omega) (by omega) ?_
    refine jw_if_ge (tgt := 28) hC dX4_placeIndex_11 (by decide) lcm_b1 lcm_b2 (fun h11 => ?_) (fun h11 => ?_)
    · skip
      have h11 := lcm_ge.mp h11
      refine jw_iconst hC dX4_placeIndex_28 ?_
      refine jw_iret hC dX4_placeIndex_29 ?_
      refine ⟨?_, rfl⟩
      unfold f_pl
      first | rw [if_pos (by omega)] | rw [if_neg (by omega)]
    · skip
      have h11 := lcm_lt.mp h11
      refine jw_lload_n hC dX4_placeIndex_14 1 rfl rfl ?_
      refine jw_lconst (v := 0) hC dX4_placeIndex_15 rfl ?_
      refine jw_lcmp hC dX4_placeIndex_16 (by omega) (by omega) (by omega) (by omega) ?_
      refine jw_if_lt (tgt := 28) hC dX4_placeIndex_17 (by decide) lcm_b1 lcm_b2 (fun h17 => ?_) (fun h17 => ?_)
      · skip
        have h17 := lcm_lt.mp h17
        refine jw_iconst hC dX4_placeIndex_28 ?_
        refine jw_iret hC dX4_placeIndex_29 ?_
        refine ⟨?_, rfl⟩
        unfold f_pl
        first | rw [if_pos (by omega)] | rw [if_neg (by omega)]
      · skip
        have h17 := lcm_ge.mp h17
        refine jw_lload_n hC dX4_placeIndex_20 1 rfl rfl ?_
        refine jw_ldc2 (n := 12) hC dX4_placeIndex_21 w2_146 ?_
        refine jw_lcmp hC dX4_placeIndex_24 (by omega) (by omega) (by omega) (by omega) ?_
        refine jw_if_lt (tgt := 30) hC dX4_placeIndex_25 (by decide) lcm_b1 lcm_b2 (fun h25 => ?_) (fun h25 => ?_)
        · skip
          have h25 := lcm_lt.mp h25
          refine jw_lload_n hC dX4_placeIndex_30 1 rfl rfl ?_
          refine jw_ldc2 (n := 12) hC dX4_placeIndex_31 w2_146 ?_
          refine jw_lmul hC dX4_placeIndex_34 ?_
          refine jw_lload_n hC dX4_placeIndex_35 0 rfl rfl ?_
          refine jw_ladd hC dX4_placeIndex_36 ?_
          refine jw_l2i hC dX4_placeIndex_37 ?_
          refine jw_iret hC dX4_placeIndex_38 ?_
          refine ⟨?_, rfl⟩
          unfold f_pl
          first | rw [if_pos (by omega)] | rw [if_neg (by omega)]
        · skip
          have h25 := lcm_ge.mp h25
          refine jw_iconst hC dX4_placeIndex_28 ?_
          refine jw_iret hC dX4_placeIndex_29 ?_
          refine ⟨?_, rfl⟩
          unfold f_pl
          first | rw [if_pos (by omega)] | rw [if_neg (by omega)]
set_option maxRecDepth 100000 in
set_option maxHeartbeats 4000000 in
theorem c_X4_placeUnder (l : Launch) (E : ewE) (M : ewM) (i c r : Int) (hi : 0 ≤ i ∧ i < 25) (h1 : -1000000000000 ≤ c) (h2 : c ≤ 1000000000000) (h3 : -1000000000000 ≤ r) (h4 : r ≤ 1000000000000) : Ct l E yX4_placeUnder (.code yX4_placeUnder cX4_placeUnder 5 (some .int)) 2 [vI i, vJ c, vJ r] M (fun v M1 => v = some (vI (f_pu i c r)) ∧ M = M1) := by
  refine ct_of (L0 := [(0, vI i), (1, vJ c), (3, vJ r)]) (by decide +kernel) rfl (Nat.le_of_ble_eq_true rfl) ?_
  intro zp ze zs zm za zb zt zc zA hC
  refine jw_lload_n hC dX4_placeUnder_0 1 rfl rfl ?_
  refine jw_iload_n hC dX4_placeUnder_1 0 rfl rfl ?_
  refine jw_iconst hC dX4_placeUnder_2 ?_
  refine jw_irem hC dX4_placeUnder_3 (by omega) (by omega) (by omega) (by omega) ?_
  refine jw_i2l hC dX4_placeUnder_4 (by omega) (by omega) ?_
  refine jw_ladd hC dX4_placeUnder_5 ?_
  refine jw_lload_n hC dX4_placeUnder_6 2 rfl rfl ?_
  refine jw_iload_n hC dX4_placeUnder_7 0 rfl rfl ?_
  refine jw_iconst hC dX4_placeUnder_8 ?_
  refine jw_idiv hC dX4_placeUnder_9 (by omega) (by omega) (by omega) (by omega) ?_
  refine jw_i2l hC dX4_placeUnder_10 (by omega) (by omega) ?_
  refine jw_ladd hC dX4_placeUnder_11 ?_
  refine jw_callS hC (c_X4_placeIndex l E M _ _ (by omega) (by omega) (by omega) (by omega)) sS_X4_82 dX4_placeUnder_12 rfl rfl ⟨Nat.le_of_ble_eq_true rfl, Nat.le_of_ble_eq_true rfl⟩ ⟨Nat.zero_le _, Nat.zero_le _⟩ (Nat.le_of_ble_eq_true rfl) (fun v12 M12 g12 => ?_)
  obtain ⟨rfl, rfl⟩ := g12
  refine jw_iret hC dX4_placeUnder_15 ?_
  exact ⟨rfl, rfl⟩

set_option maxRecDepth 100000 in
set_option maxHeartbeats 4000000 in
theorem c_X2_depthAt (l : Launch) (E : ewE) (M : ewM) (j : Nat) (hj : j < 10) (x y : Int) (h1 : -2147483648 ≤ x) (h2 : x < 2147483648) (h3 : -2147483648 ≤ y) (h4 : y < 2147483648) : Ct l E yX2_depthAt (.code yX2_depthAt cX2_depthAt 4 (some .int)) 2 [vR E (5 * j), vI x, vI y] M (fun v M1 => v = some (vI (if f_pl x y = -1 then 0 else M (5 * j + 1) (f_pl x y))) ∧ M = M1) := by
  refine ct_of (L0 := [(0, vR E (5 * j)), (1, vI x), (2, vI y)]) (by decide +kernel) rfl (Nat.le_of_ble_eq_true rfl) ?_
  intro zp ze zs zm za zb zt zc zA hC
  have hb := f_pl_b x y
  refine jw_iload_n hC dX2_depthAt_0 1 rfl rfl ?_
  refine jw_i2l hC dX2_depthAt_1 (by omega) (by omega) ?_
  refine jw_iload_n hC dX2_depthAt_2 2 rfl rfl ?_
  refine jw_i2l hC dX2_depthAt_3 (by omega) (by omega) ?_
  refine jw_callSn hC (c_X4_placeIndex l E M _ _ (by omega) (by omega) (by omega) (by omega)) sN_X2_40 dX2_depthAt_4 rfl rfl ⟨Nat.le_of_ble_eq_true rfl, Nat.le_of_ble_eq_true rfl⟩ ⟨Nat.zero_le _, Nat.zero_le _⟩ (Nat.le_of_ble_eq_true rfl) (fun v4 M4 g4 => ?_)
  obtain ⟨rfl, rfl⟩ := g4
  refine jw_istore_n (L' := [(3, _), (0, _), (1, _), (2, _)]) hC dX2_depthAt_7 rfl (by decide) rfl ?_
  refine jw_iload_n hC dX2_depthAt_8 0 rfl rfl ?_
  refine jw_iconst hC dX2_depthAt_9 ?_
  refine jw_icmp_ne (tgt := 17) hC dX2_depthAt_10 (by decide) (by omega) (by omega) (by omega) (by omega) (fun h10 => ?_) (fun h10 => ?_)
  · skip
    refine jw_aload_n hC dX2_depthAt_17 1 rfl rfl ?_
    refine jw_getr hC fL_X2_9 (ewR_s0 (j := j) (by omega)) dX2_depthAt_18 ?_
    refine jw_iload_n hC dX2_depthAt_21 0 rfl rfl ?_
    refine jw_iald hC (ewA_sheet (j := j) (r := 1) (by omega) (by decide) (by decide)) dX2_depthAt_22 (by omega) (by omega) (by decide) (fun b22 c22 => ?_)
    refine jw_iret hC dX2_depthAt_23 ?_
    refine ⟨?_, rfl⟩
    first | rw [if_pos (by omega)] | rw [if_neg (by omega)]
  · skip
    refine jw_iconst hC dX2_depthAt_13 ?_
    refine jw_goto (tgt := 23) hC dX2_depthAt_14 (by decide) ?_
    refine jw_iret hC dX2_depthAt_23 ?_
    refine ⟨?_, rfl⟩
    first | rw [if_pos (by omega)] | rw [if_neg (by omega)]
set_option maxRecDepth 100000 in
set_option maxHeartbeats 4000000 in
theorem c_X2_emboss (l : Launch) (E : ewE) (M : ewM) (j : Nat) (hj : j < 10) (c r : Int) (h1 : -1000000000000 ≤ c) (h2 : c ≤ 1000000000000) (h3 : -1000000000000 ≤ r) (h4 : r ≤ 1000000000000) (hr : pD (M 83)) (hD : pD (M (5 * j + 1))) : Ct l E yX2_emboss (.code yX2_emboss cX2_emboss 8 none) 3 [vR E (5 * j), vR E 83, vJ c, vJ r] M (fun v M1 => v = none ∧ M1 (5 * j + 1) = f_emb (M 83) c r (M (5 * j + 1)) 25 ∧ M1 (5 * j + 4) = f_prs (M 83) c r (M (5 * j + 4)) 25 ∧ ∀ o, o ≠ 5 * j + 1 → o ≠ 5 * j + 4 → M1 o = M o) := by
  refine ct_of (L0 := [(0, vR E (5 * j)), (1, vR E 83), (2, vJ c), (4, vJ r)]) (by decide +kernel) rfl (Nat.le_of_ble_eq_true rfl) ?_
  intro zp ze zs zm za zb zt zc zA hC
  have K3 : ∀ (n : Nat) (k : Int) (M1 : ewM), 25 - k < n → 0 ≤ k → k ≤ 25 → M1 (5 * j + 1) = f_emb (M 83) c r (M (5 * j + 1)) k.toNat → M1 (5 * j + 4) = f_prs (M 83) c r (M (5 * j + 4)) k.toNat → (∀ o, o ≠ 5 * j + 1 → o ≠ 5 * j + 4 → M1 o = M o) → jJ zp l ze (ct_rm 3) zs zm za zb zt zc E zA 8 0 0 (MQ zb (ct_Q E zA (fun v M1 => v = none ∧ M1 (5 * j + 1) = f_emb (M 83) c r (M (5 * j + 1)) 25 ∧ M1 (5 * j + 4) = f_prs (M 83) c r (M (5 * j + 4)) 25 ∧ ∀ o, o ≠ 5 * j + 1 → o ≠ 5 * j + 4 → M1 o = M o)) za zs 0 0 zA) 3 [(0, vR E (5 * j)), (1, vR E 83), (2, vJ c), (4, vJ r), (6, vI k)] [] M1 := by
    intro n
    induction n with
    | zero => intros; omega
    | succ n ih =>
      intro k M1 i1 i2 i3 g1 g2 g3
      refine jw_iload hC dX2_emboss_3 4 rfl ?_
      refine jw_bipush hC dX2_emboss_5 (by decide) ?_
      refine jw_icmp_ge (tgt := 71) hC dX2_emboss_7 (by decide) (by omega) (by omega) (by omega) (by omega) (fun h7 => ?_) (fun h7 => ?_)
      · skip
        refine jw_vret hC dX2_emboss_71 ?_
        refine ⟨rfl, ?_, ?_, g3⟩
        · rw [g1, show k = 25 by omega]; rfl
        · rw [g2, show k = 25 by omega]; rfl
      · skip
        refine jw_iload hC dX2_emboss_10 4 rfl ?_
        refine jw_lload_n hC dX2_emboss_12 2 rfl rfl ?_
        refine jw_lload hC dX2_emboss_13 3 rfl ?_
        refine jw_callSn hC (c_X4_placeUnder l E M1 _ _ _ ⟨by omega, by omega⟩ (by omega) (by omega) (by omega) (by omega)) sN_X2_44 dX2_emboss_15 rfl rfl ⟨Nat.le_of_ble_eq_true rfl, Nat.le_of_ble_eq_true rfl⟩ ⟨Nat.zero_le _, Nat.zero_le _⟩ (Nat.le_of_ble_eq_true rfl) (fun v15 M15 g15 => ?_)
        obtain ⟨rfl, rfl⟩ := g15
        refine jw_istore (L' := [(7, _), (0, _), (1, _), (2, _), (4, _), (6, _)]) hC dX2_emboss_18 (by decide) rfl ?_
        have hp := f_pu_b k c r
        refine jw_aload_n hC dX2_emboss_20 2 rfl rfl ?_
        refine jw_iload hC dX2_emboss_21 5 rfl ?_
        refine jw_iald hC ewA_83 dX2_emboss_23 (by omega) (by omega) (by decide) (fun b23 c23 => ?_)
        refine jw_if_le (tgt := 65) hC dX2_emboss_24 (by decide) (by omega) (by omega) (fun h24 => ?_) (fun h24 => ?_)
        · skip
          refine jw_iinc (L' := [(6, _), (7, _), (0, _), (1, _), (2, _), (4, _)]) hC dX2_emboss_65 5 rfl (by decide) rfl ?_
          refine jw_goto (tgt := 3) hC dX2_emboss_68 (by decide) ?_
          refine jw_loc (L' := [(0, _), (1, _), (2, _), (4, _), (6, _)]) [2, 3, 4, 5, 0] rfl ?_
          refine ih _ _ (by omega) (by omega) (by omega) ?_ ?_ ?_
          · rw [f_emb_s _ _ _ _ i2]
            first
            | (rw [if_neg (by rw [g3 83 (by omega) (by omega)] at *; omega)]; exact g1)
            | (rw [if_pos (by rw [g3 83 (by omega) (by omega)] at *; omega), mu_ne _ _ _ (by omega), mu_at, g1])
          · rw [f_prs_s _ _ _ _ i2]
            first
            | (rw [if_neg (by rw [g3 83 (by omega) (by omega)] at *; omega)]; exact g2)
            | (rw [if_pos (by rw [g3 83 (by omega) (by omega)] at *; omega), mu_at, mu_ne _ _ _ (by omega), g2])
          · intro o o1 o2
            first
            | exact g3 o o1 o2
            | (rw [mu_ne _ _ _ o2, mu_ne _ _ _ o1]; exact g3 o o1 o2)
        · skip
          refine jw_iload hC dX2_emboss_27 0 rfl ?_
          refine jw_iconst hC dX2_emboss_29 ?_
          refine jw_icmp_eq (tgt := 65) hC dX2_emboss_30 (by decide) (by omega) (by omega) (by omega) (by omega) (fun h30 => ?_) (fun h30 => ?_)
          · skip
            refine jw_iinc (L' := [(6, _), (7, _), (0, _), (1, _), (2, _), (4, _)]) hC dX2_emboss_65 5 rfl (by decide) rfl ?_
            refine jw_goto (tgt := 3) hC dX2_emboss_68 (by decide) ?_
            refine jw_loc (L' := [(0, _), (1, _), (2, _), (4, _), (6, _)]) [2, 3, 4, 5, 0] rfl ?_
            refine ih _ _ (by omega) (by omega) (by omega) ?_ ?_ ?_
            · rw [f_emb_s _ _ _ _ i2]
              first
              | (rw [if_neg (by rw [g3 83 (by omega) (by omega)] at *; omega)]; exact g1)
              | (rw [if_pos (by rw [g3 83 (by omega) (by omega)] at *; omega), mu_ne _ _ _ (by omega), mu_at, g1])
            · rw [f_prs_s _ _ _ _ i2]
              first
              | (rw [if_neg (by rw [g3 83 (by omega) (by omega)] at *; omega)]; exact g2)
              | (rw [if_pos (by rw [g3 83 (by omega) (by omega)] at *; omega), mu_at, mu_ne _ _ _ (by omega), g2])
            · intro o o1 o2
              first
              | exact g3 o o1 o2
              | (rw [mu_ne _ _ _ o2, mu_ne _ _ _ o1]; exact g3 o o1 o2)
          · skip
            refine jw_aload_n hC dX2_emboss_33 1 rfl rfl ?_
            refine jw_getr hC fL_X2_9 (ewR_s0 (j := j) (by omega)) dX2_emboss_34 ?_
            refine jw_iload hC dX2_emboss_37 0 rfl ?_
            refine jw_aload_n hC dX2_emboss_39 1 rfl rfl ?_
            refine jw_getr hC fL_X2_9 (ewR_s0 (j := j) (by omega)) dX2_emboss_40 ?_
            refine jw_iload hC dX2_emboss_43 0 rfl ?_
            refine jw_iald hC (ewA_sheet (j := j) (r := 1) (by omega) (by decide) (by decide)) dX2_emboss_45 (by omega) (by omega) (by decide) (fun b45 c45 => ?_)
            refine jw_aload_n hC dX2_emboss_46 2 rfl rfl ?_
            refine jw_iload hC dX2_emboss_47 5 rfl ?_
            refine jw_iald hC ewA_83 dX2_emboss_49 (by omega) (by omega) (by decide) (fun b49 c49 => ?_)
            have hk := hr k
            have hk2 := f_emb_D hr hD c r k.toNat (f_pu k c r)
            rw [g1] at b45 c45 ⊢
            rw [g3 83 (by omega) (by omega)] at b49 c49 ⊢
            refine jw_max hC dX2_emboss_50 (by omega) (by omega) (by omega) (by omega) w2_71 w2_72 w1_10 w2_73 ⟨Nat.le_of_ble_eq_true rfl, Nat.le_of_ble_eq_true rfl⟩ ⟨Nat.zero_le _, Nat.zero_le _⟩ ?_
            refine jw_iast hC (ewA_sheet (j := j) (r := 1) (by omega) (by decide) (by decide)) dX2_emboss_53 (by omega) (by omega) (by decide) (by omega) (by omega) ?_
            refine jw_aload_n hC dX2_emboss_54 1 rfl rfl ?_
            refine jw_getr hC fL_X2_21 (ewR_s3 (j := j) (by omega)) dX2_emboss_55 ?_
            refine jw_iload hC dX2_emboss_58 0 rfl ?_
            refine jw_dup2 hC dX2_emboss_60 ?_
            refine jw_iald hC (ewA_sheet (j := j) (r := 4) (by omega) (by decide) (by decide)) dX2_emboss_61 (by omega) (by omega) (by decide) (fun b61 c61 => ?_)
            refine jw_iconst hC dX2_emboss_62 ?_
            refine jw_iadd hC dX2_emboss_63 ?_
            refine jw_iastw hC (ewA_sheet (j := j) (r := 4) (by omega) (by decide) (by decide)) dX2_emboss_64 (by omega) (by omega) (by decide)  ?_
            refine jw_iinc (L' := [(6, _), (7, _), (0, _), (1, _), (2, _), (4, _)]) hC dX2_emboss_65 5 rfl (by decide) rfl ?_
            refine jw_goto (tgt := 3) hC dX2_emboss_68 (by decide) ?_
            refine jw_loc (L' := [(0, _), (1, _), (2, _), (4, _), (6, _)]) [2, 3, 4, 5, 0] rfl ?_
            refine ih _ _ (by omega) (by omega) (by omega) ?_ ?_ ?_
            · rw [f_emb_s _ _ _ _ i2]
              first
              | (rw [if_neg (by rw [g3 83 (by omega) (by omega)] at *; omega)]; exact g1)
              | (rw [if_pos (by rw [g3 83 (by omega) (by omega)] at *; omega), mu_ne _ _ _ (by omega), mu_at, g1])
            · rw [f_prs_s _ _ _ _ i2]
              first
              | (rw [if_neg (by rw [g3 83 (by omega) (by omega)] at *; omega)]; exact g2)
              | (rw [if_pos (by rw [g3 83 (by omega) (by omega)] at *; omega), mu_at, mu_ne _ _ _ (by omega), g2])
            · intro o o1 o2
              first
              | exact g3 o o1 o2
              | (rw [mu_ne _ _ _ o2, mu_ne _ _ _ o1]; exact g3 o o1 o2)
  refine jw_iconst hC dX2_emboss_0 ?_
  refine jw_istore (L' := [(6, _), (0, _), (1, _), (2, _), (4, _)]) hC dX2_emboss_1 (by decide) rfl ?_
  refine jw_loc (L' := [(0, _), (1, _), (2, _), (4, _), (6, _)]) [1, 2, 3, 4, 0] rfl ?_
  exact K3 26 0 M (by omega) (by omega) (by omega) rfl rfl (fun _ _ _ => rfl)
set_option maxRecDepth 100000 in
set_option maxHeartbeats 4000000 in
theorem c_X2_copyStrength (l : Launch) (E : ewE) (M : ewM) (j : Nat) (hj : j < 10) (i : Nat) (hi : i < 10) : Ct l E yX2_copyStrength (.code yX2_copyStrength cX2_copyStrength 2 none) 1 [vR E (5 * j), vR E (5 * i)] M (fun v M1 => v = none ∧ M1 = mset (mset M (5 * j + 1) (M (5 * i + 1))) (5 * j + 3) (M (5 * i + 3))) := by
  refine ct_of (L0 := [(0, vR E (5 * j)), (1, vR E (5 * i))]) (by decide +kernel) rfl (Nat.le_of_ble_eq_true rfl) ?_
  intro zp ze zs zm za zb zt zc zA hC
  refine jw_aload_n hC dX2_copyStrength_0 1 rfl rfl ?_
  refine jw_getr hC fL_X2_9 (ewR_s0 (j := i) (by omega)) dX2_copyStrength_1 ?_
  refine jw_iconst hC dX2_copyStrength_4 ?_
  refine jw_aload_n hC dX2_copyStrength_5 0 rfl rfl ?_
  refine jw_getr hC fL_X2_9 (ewR_s0 (j := j) (by omega)) dX2_copyStrength_6 ?_
  refine jw_iconst hC dX2_copyStrength_9 ?_
  refine jw_sipush hC dX2_copyStrength_10 (by decide) ?_
  refine jw_copy hC (ewA_sheet (j := i) (r := 1) (by omega) (by decide) (by decide)) (ewA_sheet (j := j) (r := 1) (by omega) (by decide) (by decide)) (by decide) dX2_copyStrength_13 w2_38 w2_29 w2_28 w1_12 ⟨Nat.le_of_ble_eq_true rfl, Nat.le_of_ble_eq_true rfl⟩ ?_
  refine jw_aload_n hC dX2_copyStrength_16 1 rfl rfl ?_
  refine jw_getr hC fL_X2_18 (ewR_s2 (j := i) (by omega)) dX2_copyStrength_17 ?_
  refine jw_iconst hC dX2_copyStrength_20 ?_
  refine jw_aload_n hC dX2_copyStrength_21 0 rfl rfl ?_
  refine jw_getr hC fL_X2_18 (ewR_s2 (j := j) (by omega)) dX2_copyStrength_22 ?_
  refine jw_iconst hC dX2_copyStrength_25 ?_
  refine jw_sipush hC dX2_copyStrength_26 (by decide) ?_
  refine jw_copy hC (ewA_sheet (j := i) (r := 3) (by omega) (by decide) (by decide)) (ewA_sheet (j := j) (r := 3) (by omega) (by decide) (by decide)) (by decide) dX2_copyStrength_29 w2_38 w2_29 w2_28 w1_12 ⟨Nat.le_of_ble_eq_true rfl, Nat.le_of_ble_eq_true rfl⟩ ?_
  refine jw_vret hC dX2_copyStrength_32 ?_
  exact ⟨rfl, by rw [mset_ne M _ (show 5 * i + 3 ≠ 5 * j + 1 by omega)]⟩
set_option maxRecDepth 100000 in
set_option maxHeartbeats 4000000 in
theorem c_X2_copyFrom (l : Launch) (E : ewE) (M : ewM) (j : Nat) (hj : j < 10) (i : Nat) (hi : i < 10) : Ct l E yX2_copyFrom (.code yX2_copyFrom cX2_copyFrom 2 none) 2 [vR E (5 * j), vR E (5 * i)] M (fun v M1 => v = none ∧ (∀ r, 1 ≤ r → r ≤ 4 → M1 (5 * j + r) = M (5 * i + r)) ∧ ∀ o, (o < 5 * j + 1 ∨ 5 * j + 4 < o) → M1 o = M o) := by
  refine ct_of (L0 := [(0, vR E (5 * j)), (1, vR E (5 * i))]) (by decide +kernel) rfl (Nat.le_of_ble_eq_true rfl) ?_
  intro zp ze zs zm za zb zt zc zA hC
  refine jw_aload_n hC dX2_copyFrom_0 0 rfl rfl ?_
  refine jw_aload_n hC dX2_copyFrom_1 1 rfl rfl ?_
  refine jw_callV hC (c_X2_copyStrength l E M j hj i hi) sV_X2_30 (ewO_sheet (j := j) (by omega)) dX2_copyFrom_2 rfl rfl ⟨Nat.le_of_ble_eq_true rfl, Nat.le_of_ble_eq_true rfl⟩ ⟨Nat.zero_le _, Nat.zero_le _⟩ (Nat.le_of_ble_eq_true rfl) (fun v2 M2 g2 => ?_)
  obtain ⟨rfl, rfl⟩ := g2
  refine jw_aload_n hC dX2_copyFrom_5 1 rfl rfl ?_
  refine jw_getr hC fL_X2_15 (ewR_s1 (j := i) (by omega)) dX2_copyFrom_6 ?_
  refine jw_iconst hC dX2_copyFrom_9 ?_
  refine jw_aload_n hC dX2_copyFrom_10 0 rfl rfl ?_
  refine jw_getr hC fL_X2_15 (ewR_s1 (j := j) (by omega)) dX2_copyFrom_11 ?_
  refine jw_iconst hC dX2_copyFrom_14 ?_
  refine jw_sipush hC dX2_copyFrom_15 (by decide) ?_
  refine jw_copy hC (ewA_sheet (j := i) (r := 2) (by omega) (by decide) (by decide)) (ewA_sheet (j := j) (r := 2) (by omega) (by decide) (by decide)) (by decide) dX2_copyFrom_18 w2_38 w2_29 w2_28 w1_12 ⟨Nat.le_of_ble_eq_true rfl, Nat.le_of_ble_eq_true rfl⟩ ?_
  refine jw_aload_n hC dX2_copyFrom_21 1 rfl rfl ?_
  refine jw_getr hC fL_X2_21 (ewR_s3 (j := i) (by omega)) dX2_copyFrom_22 ?_
  refine jw_iconst hC dX2_copyFrom_25 ?_
  refine jw_aload_n hC dX2_copyFrom_26 0 rfl rfl ?_
  refine jw_getr hC fL_X2_21 (ewR_s3 (j := j) (by omega)) dX2_copyFrom_27 ?_
  refine jw_iconst hC dX2_copyFrom_30 ?_
  refine jw_sipush hC dX2_copyFrom_31 (by decide) ?_
  refine jw_copy hC (ewA_sheet (j := i) (r := 4) (by omega) (by decide) (by decide)) (ewA_sheet (j := j) (r := 4) (by omega) (by decide) (by decide)) (by decide) dX2_copyFrom_34 w2_38 w2_29 w2_28 w1_12 ⟨Nat.le_of_ble_eq_true rfl, Nat.le_of_ble_eq_true rfl⟩ ?_
  refine jw_vret hC dX2_copyFrom_37 ?_
  refine ⟨rfl, fun r h1 h4 => ?_, fun o ho => ?_⟩
  · by_cases hij : i = j
    · subst hij
      unfold mset
      rcases (show r = 1 ∨ r = 2 ∨ r = 3 ∨ r = 4 by omega) with rfl | rfl | rfl | rfl <;> repeat (first | rfl | (split <;> try omega))
    · rcases (show r = 1 ∨ r = 2 ∨ r = 3 ∨ r = 4 by omega) with rfl | rfl | rfl | rfl
      · rw [mset_ne _ _ (by omega), mset_ne _ _ (by omega), mset_ne _ _ (by omega), mset_at]
      · rw [mset_ne _ _ (by omega), mset_at, mset_ne _ _ (by omega), mset_ne _ _ (by omega)]
      · rw [mset_ne _ _ (by omega), mset_ne _ _ (by omega), mset_at]
      · rw [mset_at, mset_ne _ _ (by omega), mset_ne _ _ (by omega), mset_ne _ _ (by omega)]
  · rw [mset_ne _ _ (by omega), mset_ne _ _ (by omega), mset_ne _ _ (by omega), mset_ne _ _ (by omega)]
set_option maxRecDepth 100000 in
set_option maxHeartbeats 4000000 in
theorem c_J7_fill_53178 (l : Launch) (E : ewE) (M : ewM) (o n : Nat) (hA : ewA o 0 n) (hn : n < 1000000) (x : Int) (h1 : -2147483648 ≤ x) (h2 : x < 2147483648) : Ct l E yJ7_fill_53178 (.code yJ7_fill_53178 cJ7_fill_53178 4 none) 1 [vR E o, vI x] M (fun v M1 => v = none ∧ M1 = mset M o (fun _ => x)) := by
  refine ct_of (L0 := [(0, vR E o), (1, vI x)]) (by decide +kernel) rfl (Nat.le_of_ble_eq_true rfl) ?_
  intro zp ze zs zm za zb zt zc zA hC
  have K5 : ∀ (f : Nat) (k : Int) (g : Int → Int), n - k < f → 0 ≤ k → k ≤ n → (∀ q : Int, 0 ≤ q → q < k → g q = x) → jJ zp l ze (ct_rm 1) zs zm za zb zt zc E zA 4 0 0 (MQ zb (ct_Q E zA (fun v M1 => v = none ∧ M1 = mset M o (fun _ => x))) za zs 0 0 zA) 5 [(0, vR E o), (1, vI x), (2, vI k), (3, vI n)] [] (mset M o g) := by
    intro f
    induction f with
    | zero => intros; omega
    | succ f ih =>
      intro k g i1 i2 i3 hg
      refine jw_iload_n hC dJ7_fill_53178_5 2 rfl rfl ?_
      refine jw_iload_n hC dJ7_fill_53178_6 3 rfl rfl ?_
      refine jw_icmp_ge (tgt := 20) hC dJ7_fill_53178_7 (by decide) (by omega) (by omega) (by omega) (by omega) (fun h7 => ?_) (fun h7 => ?_)
      · skip
        refine jw_ext hA (g := fun _ => x) (fun q q1 q2 => by rw [mset_at]; exact hg q q1 (by omega)) (fun _ => ⟨h1, h2⟩) ?_
        refine jw_vret hC dJ7_fill_53178_20 ?_
        exact ⟨rfl, mset_set _ _ _ _⟩
      · skip
        refine jw_aload_n hC dJ7_fill_53178_10 0 rfl rfl ?_
        refine jw_iload_n hC dJ7_fill_53178_11 2 rfl rfl ?_
        refine jw_iload_n hC dJ7_fill_53178_12 1 rfl rfl ?_
        refine jw_iast hC hA dJ7_fill_53178_13 (by omega) (by omega) (by omega) (by omega) (by omega) ?_
        refine jw_iinc (L' := [(2, _), (0, _), (1, _), (3, _)]) hC dJ7_fill_53178_14 2 rfl (by decide) rfl ?_
        refine jw_goto (tgt := 5) hC dJ7_fill_53178_17 (by decide) ?_
        refine jw_loc (L' := [(0, _), (1, _), (2, _), (3, _)]) [1, 2, 0, 3] rfl ?_
        refine jw_M (mu_mset _ _ _ _ _) ?_
        exact ih _ _ (by omega) (by omega) (by omega) (fun q q1 q2 => by
          by_cases hq : q = k
          · rw [if_pos hq]
          · rw [if_neg hq]; exact hg q q1 (by omega))
  refine jw_iconst hC dJ7_fill_53178_0 ?_
  refine jw_istore_n (L' := [(2, _), (0, _), (1, _)]) hC dJ7_fill_53178_1 rfl (by decide) rfl ?_
  refine jw_aload_n hC dJ7_fill_53178_2 1 rfl rfl ?_
  refine jw_alen hC hA (Or.inl rfl) dJ7_fill_53178_3 ?_
  refine jw_istore_n (L' := [(3, _), (2, _), (0, _), (1, _)]) hC dJ7_fill_53178_4 rfl (by decide) rfl ?_
  refine jw_loc (L' := [(0, _), (1, _), (2, _), (3, _)]) [2, 3, 1, 0] rfl ?_
  refine jw_M (M2 := mset M o (M o)) (mset_id (fun _ => rfl)).symm ?_
  exact K5 (n + 1) 0 (M o) (by omega) (by omega) (by omega) (fun q _ _ => by omega)
set_option maxRecDepth 100000 in
set_option maxHeartbeats 4000000 in
theorem c_X2_makeNew (l : Launch) (E : ewE) (M : ewM) (j : Nat) (hj : j < 10) : Ct l E yX2_makeNew (.code yX2_makeNew cX2_makeNew 1 none) 2 [vR E (5 * j)] M (fun v M1 => v = none ∧ (∀ r, 1 ≤ r → r ≤ 4 → M1 (5 * j + r) = fun _ => 0) ∧ ∀ o, (o < 5 * j + 1 ∨ 5 * j + 4 < o) → M1 o = M o) := by
  refine ct_of (L0 := [(0, vR E (5 * j))]) (by decide +kernel) rfl (Nat.le_of_ble_eq_true rfl) ?_
  intro zp ze zs zm za zb zt zc zA hC
  refine jw_aload_n hC dX2_makeNew_0 0 rfl rfl ?_
  refine jw_getr hC fL_X2_9 (ewR_s0 (j := j) (by omega)) dX2_makeNew_1 ?_
  refine jw_iconst hC dX2_makeNew_4 ?_
  refine jw_callS hC (c_J7_fill_53178 l E _ _ _ (ewA_sheet (j := j) (r := 1) (by omega) (by decide) (by decide)) (by decide) 0 (by decide) (by decide)) sS_X2_24 dX2_makeNew_5 rfl rfl ⟨Nat.le_of_ble_eq_true rfl, Nat.le_of_ble_eq_true rfl⟩ ⟨Nat.zero_le _, Nat.zero_le _⟩ (Nat.le_of_ble_eq_true rfl) (fun v5 M5 g5 => ?_)
  obtain ⟨rfl, rfl⟩ := g5
  refine jw_aload_n hC dX2_makeNew_8 0 rfl rfl ?_
  refine jw_getr hC fL_X2_15 (ewR_s1 (j := j) (by omega)) dX2_makeNew_9 ?_
  refine jw_iconst hC dX2_makeNew_12 ?_
  refine jw_callS hC (c_J7_fill_53178 l E _ _ _ (ewA_sheet (j := j) (r := 2) (by omega) (by decide) (by decide)) (by decide) 0 (by decide) (by decide)) sS_X2_24 dX2_makeNew_13 rfl rfl ⟨Nat.le_of_ble_eq_true rfl, Nat.le_of_ble_eq_true rfl⟩ ⟨Nat.zero_le _, Nat.zero_le _⟩ (Nat.le_of_ble_eq_true rfl) (fun v13 M13 g13 => ?_)
  obtain ⟨rfl, rfl⟩ := g13
  refine jw_aload_n hC dX2_makeNew_16 0 rfl rfl ?_
  refine jw_getr hC fL_X2_18 (ewR_s2 (j := j) (by omega)) dX2_makeNew_17 ?_
  refine jw_iconst hC dX2_makeNew_20 ?_
  refine jw_callS hC (c_J7_fill_53178 l E _ _ _ (ewA_sheet (j := j) (r := 3) (by omega) (by decide) (by decide)) (by decide) 0 (by decide) (by decide)) sS_X2_24 dX2_makeNew_21 rfl rfl ⟨Nat.le_of_ble_eq_true rfl, Nat.le_of_ble_eq_true rfl⟩ ⟨Nat.zero_le _, Nat.zero_le _⟩ (Nat.le_of_ble_eq_true rfl) (fun v21 M21 g21 => ?_)
  obtain ⟨rfl, rfl⟩ := g21
  refine jw_aload_n hC dX2_makeNew_24 0 rfl rfl ?_
  refine jw_getr hC fL_X2_21 (ewR_s3 (j := j) (by omega)) dX2_makeNew_25 ?_
  refine jw_iconst hC dX2_makeNew_28 ?_
  refine jw_callS hC (c_J7_fill_53178 l E _ _ _ (ewA_sheet (j := j) (r := 4) (by omega) (by decide) (by decide)) (by decide) 0 (by decide) (by decide)) sS_X2_24 dX2_makeNew_29 rfl rfl ⟨Nat.le_of_ble_eq_true rfl, Nat.le_of_ble_eq_true rfl⟩ ⟨Nat.zero_le _, Nat.zero_le _⟩ (Nat.le_of_ble_eq_true rfl) (fun v29 M29 g29 => ?_)
  obtain ⟨rfl, rfl⟩ := g29
  refine jw_vret hC dX2_makeNew_32 ?_
  refine ⟨rfl, fun r h1 h4 => ?_, fun o ho => ?_⟩
  · rcases (show r = 1 ∨ r = 2 ∨ r = 3 ∨ r = 4 by omega) with rfl | rfl | rfl | rfl
    · rw [mset_ne _ _ (by omega), mset_ne _ _ (by omega), mset_ne _ _ (by omega), mset_at]
    · rw [mset_ne _ _ (by omega), mset_ne _ _ (by omega), mset_at]
    · rw [mset_ne _ _ (by omega), mset_at]
    · rw [mset_at]
  · rw [mset_ne _ _ (by omega), mset_ne _ _ (by omega), mset_ne _ _ (by omega), mset_ne _ _ (by omega)]
