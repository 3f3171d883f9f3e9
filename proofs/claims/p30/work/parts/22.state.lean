/-! THE STATE: its methods -/
set_option maxRecDepth 100000 in
set_option maxHeartbeats 4000000 in
theorem c_X3_turnedPoint (l : Launch) (E : ewE) (M : ewM) (j : Nat) (hj : j < 9) (a c r t : Int) (ha : 0 ≤ a ∧ a < 3) (hc : 0 ≤ c ∧ c < 5) (hr : 0 ≤ r ∧ r < 5) (ht : 0 ≤ t ∧ t < 8) : Ct l E yX3_turnedPoint (.code yX3_turnedPoint cX3_turnedPoint 9 (some .int)) 2 [vR E (50 + 3 * j), vI a, vI c, vI r, vI t] M (fun v M1 => v = some (vI (f_tp (M (50 + 3 * j + 1)) a c r t)) ∧ M = M1) := by
  refine ct_of (L0 := [(0, vR E (50 + 3 * j)), (1, vI a), (2, vI c), (3, vI r), (4, vI t)]) (by decide +kernel) rfl (Nat.le_of_ble_eq_true rfl) ?_
  intro zp ze zs zm za zb zt zc zA hC
  have K9 : ∀ (n : Nat) (q x y : Int), 4 - q < n → 0 ≤ q → q ≤ t % 4 → x = f_ta q c r → y = f_tb q c r → jJ zp l ze (ct_rm 2) zs zm za zb zt zc E zA 9 0 0 (MQ zb (ct_Q E zA (fun v M1 => v = some (vI (f_tp (M (50 + 3 * j + 1)) a c r t)) ∧ M = M1)) za zs 0 0 zA) 9 [(0, vR E (50 + 3 * j)), (1, vI a), (2, vI c), (3, vI r), (4, vI t), (5, vI x), (6, vI y), (7, vI q)] [] M := by
    intro n
    induction n with
    | zero => intros; omega
    | succ n ih =>
      intro q x y i1 i2 i3 hx hy
      have hb := f_t_b (q := q) hc hr
      rw [← hx, ← hy] at hb
      refine jw_iload hC dX3_turnedPoint_9 7 rfl ?_
      refine jw_iload hC dX3_turnedPoint_11 4 rfl ?_
      refine jw_iconst hC dX3_turnedPoint_13 ?_
      refine jw_irem hC dX3_turnedPoint_14 (by omega) (by omega) (by omega) (by omega) ?_
      refine jw_icmp_ge (tgt := 38) hC dX3_turnedPoint_15 (by decide) (by omega) (by omega) (by omega) (by omega) (fun h15 => ?_) (fun h15 => ?_)
      · skip
        refine jw_iload hC dX3_turnedPoint_38 4 rfl ?_
        refine jw_iconst hC dX3_turnedPoint_40 ?_
        refine jw_icmp_lt (tgt := 50) hC dX3_turnedPoint_41 (by decide) (by omega) (by omega) (by omega) (by omega) (fun h41 => ?_) (fun h41 => ?_)
        · skip
          refine jw_aload_n hC dX3_turnedPoint_50 0 rfl rfl ?_
          refine jw_getr hC fL_X3_9 (ewR_t0 (j := j) (by omega)) dX3_turnedPoint_51 ?_
          refine jw_iload_n hC dX3_turnedPoint_54 1 rfl rfl ?_
          refine jw_iload hC dX3_turnedPoint_55 5 rfl ?_
          refine jw_iload hC dX3_turnedPoint_57 6 rfl ?_
          refine jw_callSn hC (c_X4_pointIndex l E M _ _ _) sN_X3_80 dX3_turnedPoint_59 rfl rfl ⟨Nat.le_of_ble_eq_true rfl, Nat.le_of_ble_eq_true rfl⟩ ⟨Nat.zero_le _, Nat.zero_le _⟩ (Nat.le_of_ble_eq_true rfl) (fun v59 M59 g59 => ?_)
          obtain ⟨rfl, rfl⟩ := g59
          refine jw_iald hC (ewA_points (j := j) (by omega)) dX3_turnedPoint_62 (by omega) (by omega) (by decide) (fun b62 c62 => ?_)
          refine jw_iret hC dX3_turnedPoint_63 ?_
          refine ⟨?_, rfl⟩
          unfold f_tp f_tc f_tr
          first | rw [if_pos (by omega)] | rw [if_neg (by omega)]
          rw [hx, hy, show q = t % 4 by omega]
        · skip
          refine jw_iconst hC dX3_turnedPoint_44 ?_
          refine jw_iload hC dX3_turnedPoint_45 5 rfl ?_
          refine jw_isub hC dX3_turnedPoint_47 ?_
          refine jw_istore (L' := [(5, _), (0, _), (1, _), (2, _), (3, _), (4, _), (6, _), (7, _)]) hC dX3_turnedPoint_48 (by decide) rfl ?_
          refine jw_aload_n hC dX3_turnedPoint_50 1 rfl rfl ?_
          refine jw_getr hC fL_X3_9 (ewR_t0 (j := j) (by omega)) dX3_turnedPoint_51 ?_
          refine jw_iload_n hC dX3_turnedPoint_54 2 rfl rfl ?_
          refine jw_iload hC dX3_turnedPoint_55 0 rfl ?_
          refine jw_iload hC dX3_turnedPoint_57 6 rfl ?_
          refine jw_callSn hC (c_X4_pointIndex l E M _ _ _) sN_X3_80 dX3_turnedPoint_59 rfl rfl ⟨Nat.le_of_ble_eq_true rfl, Nat.le_of_ble_eq_true rfl⟩ ⟨Nat.zero_le _, Nat.zero_le _⟩ (Nat.le_of_ble_eq_true rfl) (fun v59 M59 g59 => ?_)
          obtain ⟨rfl, rfl⟩ := g59
          refine jw_iald hC (ewA_points (j := j) (by omega)) dX3_turnedPoint_62 (by omega) (by omega) (by decide) (fun b62 c62 => ?_)
          refine jw_iret hC dX3_turnedPoint_63 ?_
          refine ⟨?_, rfl⟩
          unfold f_tp f_tc f_tr
          first | rw [if_pos (by omega)] | rw [if_neg (by omega)]
          rw [hx, hy, show q = t % 4 by omega]
      · skip
        refine jw_iconst hC dX3_turnedPoint_18 ?_
        refine jw_iload hC dX3_turnedPoint_19 5 rfl ?_
        refine jw_isub hC dX3_turnedPoint_21 ?_
        refine jw_istore (L' := [(8, _), (0, _), (1, _), (2, _), (3, _), (4, _), (5, _), (6, _), (7, _)]) hC dX3_turnedPoint_22 (by decide) rfl ?_
        refine jw_iload hC dX3_turnedPoint_24 7 rfl ?_
        refine jw_istore (L' := [(5, _), (8, _), (0, _), (1, _), (2, _), (3, _), (4, _), (6, _), (7, _)]) hC dX3_turnedPoint_26 (by decide) rfl ?_
        refine jw_iload hC dX3_turnedPoint_28 1 rfl ?_
        refine jw_istore (L' := [(6, _), (5, _), (8, _), (0, _), (1, _), (2, _), (3, _), (4, _), (7, _)]) hC dX3_turnedPoint_30 (by decide) rfl ?_
        refine jw_iinc (L' := [(7, _), (6, _), (5, _), (8, _), (0, _), (1, _), (2, _), (3, _), (4, _)]) hC dX3_turnedPoint_32 8 rfl (by decide) rfl ?_
        refine jw_goto (tgt := 9) hC dX3_turnedPoint_35 (by decide) ?_
        refine jw_loc (L' := [(0, _), (1, _), (2, _), (3, _), (4, _), (5, _), (6, _), (7, _)]) [4, 5, 6, 7, 8, 2, 1, 0] rfl ?_
        have hs := f_ta_s (q := q) (c := c) (r := r) i2 (by omega)
        exact ih _ _ _ (by omega) (by omega) (by omega) (by rw [hs.1, hy]) (by rw [hs.2, hx])
  refine jw_iload_n hC dX3_turnedPoint_0 2 rfl rfl ?_
  refine jw_istore (L' := [(5, _), (0, _), (1, _), (2, _), (3, _), (4, _)]) hC dX3_turnedPoint_1 (by decide) rfl ?_
  refine jw_iload_n hC dX3_turnedPoint_3 4 rfl rfl ?_
  refine jw_istore (L' := [(6, _), (5, _), (0, _), (1, _), (2, _), (3, _), (4, _)]) hC dX3_turnedPoint_4 (by decide) rfl ?_
  refine jw_iconst hC dX3_turnedPoint_6 ?_
  refine jw_istore (L' := [(7, _), (6, _), (5, _), (0, _), (1, _), (2, _), (3, _), (4, _)]) hC dX3_turnedPoint_7 (by decide) rfl ?_
  refine jw_loc (L' := [(0, _), (1, _), (2, _), (3, _), (4, _), (5, _), (6, _), (7, _)]) [3, 4, 5, 6, 7, 2, 1, 0] rfl ?_
  exact K9 5 0 _ _ (by omega) (by omega) (by omega) rfl rfl
set_option maxRecDepth 100000 in
set_option maxHeartbeats 4000000 in
theorem c_X3_turnDie (l : Launch) (E : ewE) (M : ewM) (j : Nat) (hj : j < 9) (a t : Int) (ha : 0 ≤ a ∧ a < 3) (ht : 0 ≤ t ∧ t < 8) (hP : pD (M (50 + 3 * j + 1))) : Ct l E yX3_turnDie (.code yX3_turnDie cX3_turnDie 6 none) 3 [vR E (50 + 3 * j), vI a, vI t, vR E 83] M (fun v M1 => v = none ∧ M1 = mset M 83 (f_rel (M (50 + 3 * j + 1)) a t)) := by
  refine ct_of (L0 := [(0, vR E (50 + 3 * j)), (1, vI a), (2, vI t), (3, vR E 83)]) (by decide +kernel) rfl (Nat.le_of_ble_eq_true rfl) ?_
  intro zp ze zs zm za zb zt zc zA hC
  have K12 : ∀ (n : Nat) (row col : Int) (g : Int → Int), 30 - (6 * row + col) < n → 0 ≤ row → row < 5 → 0 ≤ col → col ≤ 5 → (∀ q : Int, 0 ≤ q → q < 5 * row + col → g q = f_rel (M (50 + 3 * j + 1)) a t q) → jJ zp l ze (ct_rm 3) zs zm za zb zt zc E zA 6 0 0 (MQ zb (ct_Q E zA (fun v M1 => v = none ∧ M1 = mset M 83 (f_rel (M (50 + 3 * j + 1)) a t))) za zs 0 0 zA) 12 [(0, vR E (50 + 3 * j)), (1, vI a), (2, vI t), (3, vR E 83), (4, vI row), (5, vI col)] [] (mset M 83 g) := by
    intro n
    induction n with
    | zero => intros; omega
    | succ n ih =>
      intro row col g i1 i2 i3 i4 i5 hg
      refine jw_iload hC dX3_turnDie_12 5 rfl ?_
      refine jw_iconst hC dX3_turnDie_14 ?_
      refine jw_icmp_ge (tgt := 43) hC dX3_turnDie_15 (by decide) (by omega) (by omega) (by omega) (by omega) (fun h15 => ?_) (fun h15 => ?_)
      · skip
        refine jw_iinc (L' := [(4, _), (0, _), (1, _), (2, _), (3, _), (5, _)]) hC dX3_turnDie_43 4 rfl (by decide) rfl ?_
        refine jw_goto (tgt := 3) hC dX3_turnDie_46 (by decide) ?_
        refine jw_iload hC dX3_turnDie_3 0 rfl ?_
        refine jw_iconst hC dX3_turnDie_5 ?_
        refine jw_icmp_ge (tgt := 49) hC dX3_turnDie_6 (by decide) (by omega) (by omega) (by omega) (by omega) (fun h6 => ?_) (fun h6 => ?_)
        · skip
          refine jw_ext ewA_83 (g := f_rel (M (50 + 3 * j + 1)) a t) (fun q q1 q2 => by rw [mset_at]; exact hg q q1 (by omega)) (fun q => by have := f_rel_D hP a t q; omega) ?_
          refine jw_vret hC dX3_turnDie_49 ?_
          exact ⟨rfl, mset_set _ _ _ _⟩
        · skip
          refine jw_iconst hC dX3_turnDie_9 ?_
          refine jw_istore (L' := [(5, _), (4, _), (0, _), (1, _), (2, _), (3, _)]) hC dX3_turnDie_10 (by decide) rfl ?_
          refine jw_loc (L' := [(0, _), (1, _), (2, _), (3, _), (4, _), (5, _)]) [2, 3, 4, 5, 1, 0] rfl ?_
          first
          | exact ih _ _ _ (by omega) (by omega) (by omega) (by omega) (by omega) (fun q q1 q2 => hg q q1 (by omega))
          | (refine jw_M (mu_mset _ _ _ _ _) ?_
             exact ih _ _ _ (by omega) (by omega) (by omega) (by omega) (by omega) (fun q q1 q2 => by
              by_cases hq : q = row * 5 + col
              · rw [if_pos hq, hq]
                unfold f_rel
                rw [show (row * 5 + col) % 5 = col by omega, show (row * 5 + col) / 5 = row by omega]
              · rw [if_neg hq]; exact hg q q1 (by omega)))
      · skip
        refine jw_aload_n hC dX3_turnDie_18 3 rfl rfl ?_
        refine jw_iload hC dX3_turnDie_19 4 rfl ?_
        refine jw_iconst hC dX3_turnDie_21 ?_
        refine jw_imul hC dX3_turnDie_22 ?_
        refine jw_iload hC dX3_turnDie_23 5 rfl ?_
        refine jw_iadd hC dX3_turnDie_25 ?_
        refine jw_aload_n hC dX3_turnDie_26 0 rfl rfl ?_
        refine jw_iload_n hC dX3_turnDie_27 1 rfl rfl ?_
        refine jw_iload hC dX3_turnDie_28 5 rfl ?_
        refine jw_iload hC dX3_turnDie_30 4 rfl ?_
        refine jw_iload_n hC dX3_turnDie_32 2 rfl rfl ?_
        refine jw_callV hC (c_X3_turnedPoint l E (mset M 83 g) j hj _ _ _ _ ha ⟨by omega, by omega⟩ ⟨by omega, by omega⟩ ht) sV_X3_84 (ewO_state (j := j) (by omega)) dX3_turnDie_33 rfl rfl ⟨Nat.le_of_ble_eq_true rfl, Nat.le_of_ble_eq_true rfl⟩ ⟨Nat.zero_le _, Nat.zero_le _⟩ (Nat.le_of_ble_eq_true rfl) (fun v33 M33 g33 => ?_)
        obtain ⟨rfl, rfl⟩ := g33
        rw [mset_ne M g (by omega)]
        have hb := hP (a * 25 + f_tr t col row * 5 + f_tc t col row)
        have hb : 0 ≤ f_tp (M (50 + 3 * j + 1)) a col row t ∧ f_tp (M (50 + 3 * j + 1)) a col row t ≤ 9 := hb
        refine jw_iast hC ewA_83 dX3_turnDie_36 (by omega) (by omega) (by decide) (by omega) (by omega) ?_
        refine jw_iinc (L' := [(5, _), (0, _), (1, _), (2, _), (3, _), (4, _)]) hC dX3_turnDie_37 5 rfl (by decide) rfl ?_
        refine jw_goto (tgt := 12) hC dX3_turnDie_40 (by decide) ?_
        refine jw_loc (L' := [(0, _), (1, _), (2, _), (3, _), (4, _), (5, _)]) [1, 2, 3, 4, 5, 0] rfl ?_
        first
        | exact ih _ _ _ (by omega) (by omega) (by omega) (by omega) (by omega) (fun q q1 q2 => hg q q1 (by omega))
        | (refine jw_M (mu_mset _ _ _ _ _) ?_
           exact ih _ _ _ (by omega) (by omega) (by omega) (by omega) (by omega) (fun q q1 q2 => by
            by_cases hq : q = row * 5 + col
            · rw [if_pos hq, hq]
              unfold f_rel
              rw [show (row * 5 + col) % 5 = col by omega, show (row * 5 + col) / 5 = row by omega]
            · rw [if_neg hq]; exact hg q q1 (by omega)))
  refine jw_iconst hC dX3_turnDie_0 ?_
  refine jw_istore (L' := [(4, _), (0, _), (1, _), (2, _), (3, _)]) hC dX3_turnDie_1 (by decide) rfl ?_
  refine jw_iload hC dX3_turnDie_3 0 rfl ?_
  refine jw_iconst hC dX3_turnDie_5 ?_
  refine jw_icmp_ge (tgt := 49) hC dX3_turnDie_6 (by decide) (by omega) (by omega) (by omega) (by omega) (fun h6 => ?_) (fun h6 => ?_)
  · skip
    exfalso; omega
  · skip
    refine jw_iconst hC dX3_turnDie_9 ?_
    refine jw_istore (L' := [(5, _), (4, _), (0, _), (1, _), (2, _), (3, _)]) hC dX3_turnDie_10 (by decide) rfl ?_
    refine jw_loc (L' := [(0, _), (1, _), (2, _), (3, _), (4, _), (5, _)]) [2, 3, 4, 5, 1, 0] rfl ?_
    refine jw_M (M2 := mset M 83 (M 83)) (mset_id (fun _ => rfl)).symm ?_
    exact K12 31 0 0 (M 83) (by omega) (by omega) (by omega) (by omega) (by omega) (fun q _ _ => by omega)
set_option maxRecDepth 100000 in
set_option maxHeartbeats 4000000 in
theorem c_X3_raisedPoints (l : Launch) (E : ewE) (M : ewM) (j : Nat) (hj : j < 9) (a : Int) (ha : 0 ≤ a ∧ a < 3) : Ct l E yX3_raisedPoints (.code yX3_raisedPoints cX3_raisedPoints 4 (some .int)) 1 [vR E (50 + 3 * j), vI a] M (fun v M1 => v = some (vI (f_sum (fun q => if 0 < M (50 + 3 * j + 1) (a * 25 + q) then 1 else 0) 25)) ∧ M = M1) := by
  refine ct_of (L0 := [(0, vR E (50 + 3 * j)), (1, vI a)]) (by decide +kernel) rfl (Nat.le_of_ble_eq_true rfl) ?_
  intro zp ze zs zm za zb zt zc zA hC
  have K4 : ∀ (n : Nat) (k x : Int), 25 - k < n → 0 ≤ k → k ≤ 25 → x = f_sum (fun q => if 0 < M (50 + 3 * j + 1) (a * 25 + q) then 1 else 0) k.toNat → jJ zp l ze (ct_rm 1) zs zm za zb zt zc E zA 4 0 0 (MQ zb (ct_Q E zA (fun v M1 => v = some (vI (f_sum (fun q => if 0 < M (50 + 3 * j + 1) (a * 25 + q) then 1 else 0) 25)) ∧ M = M1)) za zs 0 0 zA) 4 [(0, vR E (50 + 3 * j)), (1, vI a), (2, vI x), (3, vI k)] [] M := by
    intro n
    induction n with
    | zero => intros; omega
    | succ n ih =>
      intro k x i1 i2 i3 hx
      refine jw_iload_n hC dX3_raisedPoints_4 3 rfl rfl ?_
      refine jw_bipush hC dX3_raisedPoints_5 (by decide) ?_
      refine jw_icmp_ge (tgt := 33) hC dX3_raisedPoints_7 (by decide) (by omega) (by omega) (by omega) (by omega) (fun h7 => ?_) (fun h7 => ?_)
      · skip
        refine jw_iload_n hC dX3_raisedPoints_33 2 rfl rfl ?_
        refine jw_iret hC dX3_raisedPoints_34 ?_
        refine ⟨?_, rfl⟩
        rw [hx, show k = 25 by omega]
        rfl
      · skip
        refine jw_aload_n hC dX3_raisedPoints_10 0 rfl rfl ?_
        refine jw_getr hC fL_X3_9 (ewR_t0 (j := j) (by omega)) dX3_raisedPoints_11 ?_
        refine jw_iload_n hC dX3_raisedPoints_14 1 rfl rfl ?_
        refine jw_bipush hC dX3_raisedPoints_15 (by decide) ?_
        refine jw_imul hC dX3_raisedPoints_17 ?_
        refine jw_iload_n hC dX3_raisedPoints_18 3 rfl rfl ?_
        refine jw_iadd hC dX3_raisedPoints_19 ?_
        refine jw_iald hC (ewA_points (j := j) (by omega)) dX3_raisedPoints_20 (by omega) (by omega) (by decide) (fun b20 c20 => ?_)
        refine jw_if_le (tgt := 27) hC dX3_raisedPoints_21 (by decide) (by omega) (by omega) (fun h21 => ?_) (fun h21 => ?_)
        · skip
          refine jw_iinc (L' := [(3, _), (0, _), (1, _), (2, _)]) hC dX3_raisedPoints_27 3 rfl (by decide) rfl ?_
          refine jw_goto (tgt := 4) hC dX3_raisedPoints_30 (by decide) ?_
          refine jw_loc (L' := [(0, _), (1, _), (2, _), (3, _)]) [1, 2, 3, 0] rfl ?_
          refine ih _ _ (by omega) (by omega) (by omega) ?_
          rw [f_sum_s _ i2, hx]
          first | (rw [if_pos (by omega)]) | (rw [if_neg (by omega)]; omega)
        · skip
          refine jw_iinc (L' := [(2, _), (0, _), (1, _), (3, _)]) hC dX3_raisedPoints_24 2 rfl (by decide) rfl ?_
          refine jw_iinc (L' := [(3, _), (2, _), (0, _), (1, _)]) hC dX3_raisedPoints_27 3 rfl (by decide) rfl ?_
          refine jw_goto (tgt := 4) hC dX3_raisedPoints_30 (by decide) ?_
          refine jw_loc (L' := [(0, _), (1, _), (2, _), (3, _)]) [2, 3, 1, 0] rfl ?_
          refine ih _ _ (by omega) (by omega) (by omega) ?_
          rw [f_sum_s _ i2, hx]
          first | (rw [if_pos (by omega)]) | (rw [if_neg (by omega)]; omega)
  refine jw_iconst hC dX3_raisedPoints_0 ?_
  refine jw_istore_n (L' := [(2, _), (0, _), (1, _)]) hC dX3_raisedPoints_1 rfl (by decide) rfl ?_
  refine jw_iconst hC dX3_raisedPoints_2 ?_
  refine jw_istore_n (L' := [(3, _), (2, _), (0, _), (1, _)]) hC dX3_raisedPoints_3 rfl (by decide) rfl ?_
  refine jw_loc (L' := [(0, _), (1, _), (2, _), (3, _)]) [2, 3, 1, 0] rfl ?_
  exact K4 26 0 0 (by omega) (by omega) (by omega) rfl
set_option maxRecDepth 100000 in
set_option maxHeartbeats 4000000 in
theorem c_X3_isFoilReadyOver (l : Launch) (E : ewE) (M : ewM) (j : Nat) (hj : j < 9) (p : Int) (hp : 0 ≤ p ∧ p < 144) : Ct l E yX3_isFoilReadyOver (.code yX3_isFoilReadyOver cX3_isFoilReadyOver 4 (some .boolean)) 1 [vR E (50 + 3 * j), vI p] M (fun v M1 => v = some (vI (if f_ov (M (50 + 3 * j)) p then 1 else 0)) ∧ M = M1) := by
  refine ct_of (L0 := [(0, vR E (50 + 3 * j)), (1, vI p)]) (by decide +kernel) rfl (Nat.le_of_ble_eq_true rfl) ?_
  intro zp ze zs zm za zb zt zc zA hC
  refine jw_iload_n hC dX3_isFoilReadyOver_0 1 rfl rfl ?_
  refine jw_bipush hC dX3_isFoilReadyOver_1 (by decide) ?_
  refine jw_irem hC dX3_isFoilReadyOver_3 (by omega) (by omega) (by omega) (by omega) ?_
  refine jw_istore_n (L' := [(2, _), (0, _), (1, _)]) hC dX3_isFoilReadyOver_4 rfl (by decide) rfl ?_
  refine jw_iload_n hC dX3_isFoilReadyOver_5 2 rfl rfl ?_
  refine jw_bipush hC dX3_isFoilReadyOver_6 (by decide) ?_
  refine jw_idiv hC dX3_isFoilReadyOver_8 (by omega) (by omega) (by omega) (by omega) ?_
  refine jw_istore_n (L' := [(3, _), (2, _), (0, _), (1, _)]) hC dX3_isFoilReadyOver_9 rfl (by decide) rfl ?_
  refine jw_aload_n hC dX3_isFoilReadyOver_10 2 rfl rfl ?_
  refine jw_geti hC fL_X3_65.r (ewF_t (j := j) (k := 10) (by omega) (by decide) (by decide)) (kI := 10) rfl dX3_isFoilReadyOver_11 (by omega) (fun b11 c11 => ?_)
  refine jw_if_eq (tgt := 53) hC dX3_isFoilReadyOver_14 (by decide) (by omega) (by omega) (fun h14 => ?_) (fun h14 => ?_)
  · skip
    refine jw_iconst hC dX3_isFoilReadyOver_53 ?_
    refine jw_zret hC (by omega) dX3_isFoilReadyOver_54 ?_
    refine ⟨?_, rfl⟩
    first
    | rw [if_pos ⟨by assumption, by omega, by omega, by omega, by omega⟩]
    | rw [if_neg (by intro ho; obtain ⟨o1, o2, o3, o4, o5⟩ := ho; first | omega | exact o1 (by omega))]
  · skip
    refine jw_iload_n hC dX3_isFoilReadyOver_17 1 rfl rfl ?_
    refine jw_aload_n hC dX3_isFoilReadyOver_18 2 rfl rfl ?_
    refine jw_geti hC fL_X3_68.r (ewF_t (j := j) (k := 11) (by omega) (by decide) (by decide)) (kI := 11) rfl dX3_isFoilReadyOver_19 (by omega) (fun b19 c19 => ?_)
    refine jw_icmp_lt (tgt := 53) hC dX3_isFoilReadyOver_22 (by decide) (by omega) (by omega) (by omega) (by omega) (fun h22 => ?_) (fun h22 => ?_)
    · skip
      refine jw_iconst hC dX3_isFoilReadyOver_53 ?_
      refine jw_zret hC (by omega) dX3_isFoilReadyOver_54 ?_
      refine ⟨?_, rfl⟩
      first
      | rw [if_pos ⟨by assumption, by omega, by omega, by omega, by omega⟩]
      | rw [if_neg (by intro ho; obtain ⟨o1, o2, o3, o4, o5⟩ := ho; first | omega | exact o1 (by omega))]
    · skip
      refine jw_iload_n hC dX3_isFoilReadyOver_25 1 rfl rfl ?_
      refine jw_aload_n hC dX3_isFoilReadyOver_26 2 rfl rfl ?_
      refine jw_geti hC fL_X3_74.r (ewF_t (j := j) (k := 13) (by omega) (by decide) (by decide)) (kI := 13) rfl dX3_isFoilReadyOver_27 (by omega) (fun b27 c27 => ?_)
      refine jw_icmp_gt (tgt := 53) hC dX3_isFoilReadyOver_30 (by decide) (by omega) (by omega) (by omega) (by omega) (fun h30 => ?_) (fun h30 => ?_)
      · skip
        refine jw_iconst hC dX3_isFoilReadyOver_53 ?_
        refine jw_zret hC (by omega) dX3_isFoilReadyOver_54 ?_
        refine ⟨?_, rfl⟩
        first
        | rw [if_pos ⟨by assumption, by omega, by omega, by omega, by omega⟩]
        | rw [if_neg (by intro ho; obtain ⟨o1, o2, o3, o4, o5⟩ := ho; first | omega | exact o1 (by omega))]
      · skip
        refine jw_iload_n hC dX3_isFoilReadyOver_33 0 rfl rfl ?_
        refine jw_aload_n hC dX3_isFoilReadyOver_34 2 rfl rfl ?_
        refine jw_geti hC fL_X3_71.r (ewF_t (j := j) (k := 12) (by omega) (by decide) (by decide)) (kI := 12) rfl dX3_isFoilReadyOver_35 (by omega) (fun b35 c35 => ?_)
        refine jw_icmp_lt (tgt := 53) hC dX3_isFoilReadyOver_38 (by decide) (by omega) (by omega) (by omega) (by omega) (fun h38 => ?_) (fun h38 => ?_)
        · skip
          refine jw_iconst hC dX3_isFoilReadyOver_53 ?_
          refine jw_zret hC (by omega) dX3_isFoilReadyOver_54 ?_
          refine ⟨?_, rfl⟩
          first
          | rw [if_pos ⟨by assumption, by omega, by omega, by omega, by omega⟩]
          | rw [if_neg (by intro ho; obtain ⟨o1, o2, o3, o4, o5⟩ := ho; first | omega | exact o1 (by omega))]
        · skip
          refine jw_iload_n hC dX3_isFoilReadyOver_41 0 rfl rfl ?_
          refine jw_aload_n hC dX3_isFoilReadyOver_42 2 rfl rfl ?_
          refine jw_geti hC fL_X3_77.r (ewF_t (j := j) (k := 14) (by omega) (by decide) (by decide)) (kI := 14) rfl dX3_isFoilReadyOver_43 (by omega) (fun b43 c43 => ?_)
          refine jw_icmp_gt (tgt := 53) hC dX3_isFoilReadyOver_46 (by decide) (by omega) (by omega) (by omega) (by omega) (fun h46 => ?_) (fun h46 => ?_)
          · skip
            refine jw_iconst hC dX3_isFoilReadyOver_53 ?_
            refine jw_zret hC (by omega) dX3_isFoilReadyOver_54 ?_
            refine ⟨?_, rfl⟩
            first
            | rw [if_pos ⟨by assumption, by omega, by omega, by omega, by omega⟩]
            | rw [if_neg (by intro ho; obtain ⟨o1, o2, o3, o4, o5⟩ := ho; first | omega | exact o1 (by omega))]
          · skip
            refine jw_iconst hC dX3_isFoilReadyOver_49 ?_
            refine jw_goto (tgt := 54) hC dX3_isFoilReadyOver_50 (by decide) ?_
            refine jw_zret hC (by omega) dX3_isFoilReadyOver_54 ?_
            refine ⟨?_, rfl⟩
            first
            | rw [if_pos ⟨by assumption, by omega, by omega, by omega, by omega⟩]
            | rw [if_neg (by intro ho; obtain ⟨o1, o2, o3, o4, o5⟩ := ho; first | omega | exact o1 (by omega))]
set_option maxRecDepth 100000 in
set_option maxHeartbeats 4000000 in
theorem c_X3_stickFoil (l : Launch) (E : ewE) (M : ewM) (j : Nat) (hj : j < 9) (c r : Int) (h1 : -1000000000000 ≤ c) (h2 : c ≤ 1000000000000) (h3 : -1000000000000 ≤ r) (h4 : r ≤ 1000000000000) : Ct l E yX3_stickFoil (.code yX3_stickFoil cX3_stickFoil 8 none) 3 [vR E (50 + 3 * j), vR E 83, vJ c, vJ r] M (fun v M1 => v = none ∧ M1 (5 * j + 2) = f_stk (M (50 + 3 * j)) (M 83) c r (M (5 * j + 2)) 25 ∧ M1 (50 + 3 * j) = (fun k => if k = 10 then 0 else M (50 + 3 * j) k) ∧ ∀ o, o ≠ 5 * j + 2 → o ≠ 50 + 3 * j → M1 o = M o) := by
  refine ct_of (L0 := [(0, vR E (50 + 3 * j)), (1, vR E 83), (2, vJ c), (4, vJ r)]) (by decide +kernel) rfl (Nat.le_of_ble_eq_true rfl) ?_
  intro zp ze zs zm za zb zt zc zA hC
  have K3 : ∀ (n : Nat) (k : Int) (M1 : ewM), 25 - k < n → 0 ≤ k → k ≤ 25 → M1 (5 * j + 2) = f_stk (M (50 + 3 * j)) (M 83) c r (M (5 * j + 2)) k.toNat → (∀ o, o ≠ 5 * j + 2 → M1 o = M o) → jJ zp l ze (ct_rm 3) zs zm za zb zt zc E zA 8 0 0 (MQ zb (ct_Q E zA (fun v M1 => v = none ∧ M1 (5 * j + 2) = f_stk (M (50 + 3 * j)) (M 83) c r (M (5 * j + 2)) 25 ∧ M1 (50 + 3 * j) = (fun k => if k = 10 then 0 else M (50 + 3 * j) k) ∧ ∀ o, o ≠ 5 * j + 2 → o ≠ 50 + 3 * j → M1 o = M o)) za zs 0 0 zA) 3 [(0, vR E (50 + 3 * j)), (1, vR E 83), (2, vJ c), (4, vJ r), (6, vI k)] [] M1 := by
    intro n
    induction n with
    | zero => intros; omega
    | succ n ih =>
      intro k M1 i1 i2 i3 g1 g3
      refine jw_iload hC dX3_stickFoil_3 4 rfl ?_
      refine jw_bipush hC dX3_stickFoil_5 (by decide) ?_
      refine jw_icmp_ge (tgt := 62) hC dX3_stickFoil_7 (by decide) (by omega) (by omega) (by omega) (by omega) (fun h7 => ?_) (fun h7 => ?_)
      · skip
        refine jw_aload_n hC dX3_stickFoil_62 0 rfl rfl ?_
        refine jw_iconst hC dX3_stickFoil_63 ?_
        refine jw_puti hC fL_X3_65 (ewF_t (j := j) (k := 10) (by omega) (by decide) (by decide)) (kI := 10) rfl dX3_stickFoil_64 (by omega) (by omega) ?_
        refine jw_vret hC dX3_stickFoil_67 ?_
        refine ⟨rfl, ?_, ?_, fun o o1 o2 => ?_⟩
        · rw [mu_ne _ _ _ (by omega), g1, show k = 25 by omega]; rfl
        · rw [mu_at, g3 _ (by omega)]
        · rw [mu_ne _ _ _ o2]; exact g3 o o1
      · skip
        refine jw_iload hC dX3_stickFoil_10 4 rfl ?_
        refine jw_lload_n hC dX3_stickFoil_12 2 rfl rfl ?_
        refine jw_lload hC dX3_stickFoil_13 3 rfl ?_
        refine jw_callSn hC (c_X4_placeUnder l E M1 _ _ _ ⟨by omega, by omega⟩ (by omega) (by omega) (by omega) (by omega)) sN_X3_88 dX3_stickFoil_15 rfl rfl ⟨Nat.le_of_ble_eq_true rfl, Nat.le_of_ble_eq_true rfl⟩ ⟨Nat.zero_le _, Nat.zero_le _⟩ (Nat.le_of_ble_eq_true rfl) (fun v15 M15 g15 => ?_)
        obtain ⟨rfl, rfl⟩ := g15
        have hp := f_pu_b k c r
        refine jw_istore (L' := [(7, _), (0, _), (1, _), (2, _), (4, _), (6, _)]) hC dX3_stickFoil_18 (by decide) rfl ?_
        refine jw_aload_n hC dX3_stickFoil_20 2 rfl rfl ?_
        refine jw_iload hC dX3_stickFoil_21 5 rfl ?_
        refine jw_iald hC ewA_83 dX3_stickFoil_23 (by omega) (by omega) (by decide) (fun b23 c23 => ?_)
        rw [g3 83 (by omega)] at b23 c23 ⊢
        refine jw_if_le (tgt := 56) hC dX3_stickFoil_24 (by decide) (by omega) (by omega) (fun h24 => ?_) (fun h24 => ?_)
        · skip
          refine jw_iinc (L' := [(6, _), (7, _), (0, _), (1, _), (2, _), (4, _)]) hC dX3_stickFoil_56 5 rfl (by decide) rfl ?_
          refine jw_goto (tgt := 3) hC dX3_stickFoil_59 (by decide) ?_
          refine jw_loc (L' := [(0, _), (1, _), (2, _), (4, _), (6, _)]) [2, 3, 4, 5, 0] rfl ?_
          refine ih _ _ (by omega) (by omega) (by omega) ?_ ?_
          · rw [f_stk_s _ _ _ _ _ i2]
            have e50 := g3 (50 + 3 * j) (by omega)
            first
            | (rw [if_neg (by rintro ⟨o1, o2, o3⟩; omega)]; exact g1)
            | (rw [if_neg (by rintro ⟨o1, o2, o3⟩; rw [if_pos o3] at h39; omega)]; exact g1)
            | (rw [if_pos ⟨by omega, by omega, Decidable.by_contra (fun o3 => by rw [if_neg o3] at h39; omega)⟩, mu_at, g1, e50])
          · intro o o1
            first
            | exact g3 o o1
            | (rw [mu_ne _ _ _ o1]; exact g3 o o1)
        · skip
          refine jw_iload hC dX3_stickFoil_27 0 rfl ?_
          refine jw_iconst hC dX3_stickFoil_29 ?_
          refine jw_icmp_eq (tgt := 56) hC dX3_stickFoil_30 (by decide) (by omega) (by omega) (by omega) (by omega) (fun h30 => ?_) (fun h30 => ?_)
          · skip
            refine jw_iinc (L' := [(6, _), (7, _), (0, _), (1, _), (2, _), (4, _)]) hC dX3_stickFoil_56 5 rfl (by decide) rfl ?_
            refine jw_goto (tgt := 3) hC dX3_stickFoil_59 (by decide) ?_
            refine jw_loc (L' := [(0, _), (1, _), (2, _), (4, _), (6, _)]) [2, 3, 4, 5, 0] rfl ?_
            refine ih _ _ (by omega) (by omega) (by omega) ?_ ?_
            · rw [f_stk_s _ _ _ _ _ i2]
              have e50 := g3 (50 + 3 * j) (by omega)
              first
              | (rw [if_neg (by rintro ⟨o1, o2, o3⟩; omega)]; exact g1)
              | (rw [if_neg (by rintro ⟨o1, o2, o3⟩; rw [if_pos o3] at h39; omega)]; exact g1)
              | (rw [if_pos ⟨by omega, by omega, Decidable.by_contra (fun o3 => by rw [if_neg o3] at h39; omega)⟩, mu_at, g1, e50])
            · intro o o1
              first
              | exact g3 o o1
              | (rw [mu_ne _ _ _ o1]; exact g3 o o1)
          · skip
            refine jw_aload_n hC dX3_stickFoil_33 1 rfl rfl ?_
            refine jw_iload hC dX3_stickFoil_34 0 rfl ?_
            refine jw_callV hC (c_X3_isFoilReadyOver l E M1 j hj _ ⟨by omega, by omega⟩) sV_X3_92 (ewO_state (j := j) (by omega)) dX3_stickFoil_36 rfl rfl ⟨Nat.le_of_ble_eq_true rfl, Nat.le_of_ble_eq_true rfl⟩ ⟨Nat.zero_le _, Nat.zero_le _⟩ (Nat.le_of_ble_eq_true rfl) (fun v36 M36 g36 => ?_)
            obtain ⟨rfl, rfl⟩ := g36
            rw [g3 (50 + 3 * j) (by omega)]
            have hov : (if f_ov (M (50 + 3 * j)) (f_pu k c r) then (1 : Int) else 0) = 0 ∨ (if f_ov (M (50 + 3 * j)) (f_pu k c r) then (1 : Int) else 0) = 1 := by split <;> omega
            refine jw_if_eq (tgt := 56) hC dX3_stickFoil_39 (by decide) (by omega) (by omega) (fun h39 => ?_) (fun h39 => ?_)
            · skip
              refine jw_iinc (L' := [(6, _), (7, _), (0, _), (1, _), (2, _), (4, _)]) hC dX3_stickFoil_56 5 rfl (by decide) rfl ?_
              refine jw_goto (tgt := 3) hC dX3_stickFoil_59 (by decide) ?_
              refine jw_loc (L' := [(0, _), (1, _), (2, _), (4, _), (6, _)]) [2, 3, 4, 5, 0] rfl ?_
              refine ih _ _ (by omega) (by omega) (by omega) ?_ ?_
              · rw [f_stk_s _ _ _ _ _ i2]
                have e50 := g3 (50 + 3 * j) (by omega)
                first
                | (rw [if_neg (by rintro ⟨o1, o2, o3⟩; omega)]; exact g1)
                | (rw [if_neg (by rintro ⟨o1, o2, o3⟩; rw [if_pos o3] at h39; omega)]; exact g1)
                | (rw [if_pos ⟨by omega, by omega, Decidable.by_contra (fun o3 => by rw [if_neg o3] at h39; omega)⟩, mu_at, g1, e50])
              · intro o o1
                first
                | exact g3 o o1
                | (rw [mu_ne _ _ _ o1]; exact g3 o o1)
            · skip
              refine jw_aload_n hC dX3_stickFoil_42 1 rfl rfl ?_
              refine jw_getr hC fL_X3_29 (ewR_t2 (j := j) (by omega)) dX3_stickFoil_43 ?_
              refine jw_getr hC fL_X3_96 (ewR_s1 (j := j) (by omega)) dX3_stickFoil_46 ?_
              refine jw_iload hC dX3_stickFoil_49 0 rfl ?_
              refine jw_aload_n hC dX3_stickFoil_51 1 rfl rfl ?_
              refine jw_geti hC fL_X3_65.r (ewF_t (j := j) (k := 10) (by omega) (by decide) (by decide)) (kI := 10) rfl dX3_stickFoil_52 (by omega) (fun b52 c52 => ?_)
              refine jw_iast hC (ewA_sheet (j := j) (r := 2) (by omega) (by decide) (by decide)) dX3_stickFoil_55 (by omega) (by omega) (by decide) (by omega) (by omega) ?_
              refine jw_iinc (L' := [(6, _), (7, _), (0, _), (1, _), (2, _), (4, _)]) hC dX3_stickFoil_56 5 rfl (by decide) rfl ?_
              refine jw_goto (tgt := 3) hC dX3_stickFoil_59 (by decide) ?_
              refine jw_loc (L' := [(0, _), (1, _), (2, _), (4, _), (6, _)]) [2, 3, 4, 5, 0] rfl ?_
              refine ih _ _ (by omega) (by omega) (by omega) ?_ ?_
              · rw [f_stk_s _ _ _ _ _ i2]
                have e50 := g3 (50 + 3 * j) (by omega)
                first
                | (rw [if_neg (by rintro ⟨o1, o2, o3⟩; omega)]; exact g1)
                | (rw [if_neg (by rintro ⟨o1, o2, o3⟩; rw [if_pos o3] at h39; omega)]; exact g1)
                | (rw [if_pos ⟨by omega, by omega, Decidable.by_contra (fun o3 => by rw [if_neg o3] at h39; omega)⟩, mu_at, g1, e50])
              · intro o o1
                first
                | exact g3 o o1
                | (rw [mu_ne _ _ _ o1]; exact g3 o o1)
  refine jw_iconst hC dX3_stickFoil_0 ?_
  refine jw_istore (L' := [(6, _), (0, _), (1, _), (2, _), (4, _)]) hC dX3_stickFoil_1 (by decide) rfl ?_
  refine jw_loc (L' := [(0, _), (1, _), (2, _), (4, _), (6, _)]) [1, 2, 3, 4, 0] rfl ?_
  exact K3 26 0 M (by omega) (by omega) (by omega) rfl (fun _ _ => rfl)
set_option maxRecDepth 100000 in
set_option maxHeartbeats 4000000 in
theorem c_X3_slipIfDue (l : Launch) (E : ewE) (M : ewM) (j : Nat) (hj : j < 9) (hs : 0 ≤ M (50 + 3 * j) 3 ∧ M (50 + 3 * j) 3 ≤ 3) : Ct l E yX3_slipIfDue (.code yX3_slipIfDue cX3_slipIfDue 2 none) 1 [vR E (50 + 3 * j)] M (fun v M1 => v = none ∧ M1 = mset M (50 + 3 * j) (fun k => if k = 3 then f_sl (M (50 + 3 * j + 2) 3) (M (50 + 3 * j) 5) (M (50 + 3 * j) 3) else M (50 + 3 * j) k)) := by
  refine ct_of (L0 := [(0, vR E (50 + 3 * j))]) (by decide +kernel) rfl (Nat.le_of_ble_eq_true rfl) ?_
  intro zp ze zs zm za zb zt zc zA hC
  refine jw_aload_n hC dX3_slipIfDue_0 0 rfl rfl ?_
  refine jw_getr hC fL_X3_23 (ewR_t1 (j := j) (by omega)) dX3_slipIfDue_1 ?_
  refine jw_iconst hC dX3_slipIfDue_4 ?_
  refine jw_iald hC (ewA_settings (j := j) (by omega)) dX3_slipIfDue_5 (by omega) (by omega) (by decide) (fun b5 c5 => ?_)
  refine jw_istore_n (L' := [(1, _), (0, _)]) hC dX3_slipIfDue_6 rfl (by decide) rfl ?_
  refine jw_iload_n hC dX3_slipIfDue_7 0 rfl rfl ?_
  refine jw_if_le (tgt := 34) hC dX3_slipIfDue_8 (by decide) (by omega) (by omega) (fun h8 => ?_) (fun h8 => ?_)
  · skip
    refine jw_vret hC dX3_slipIfDue_34 ?_
    refine ⟨rfl, ?_⟩
    unfold f_sl
    first
    | (rw [if_pos ⟨by omega, by omega⟩]; exact mu_as _ _ _ _)
    | (rw [if_neg (by omega)]; exact (mset_id (fun k => by by_cases hk : k = 3 <;> simp [hk])).symm)
  · skip
    refine jw_aload_n hC dX3_slipIfDue_11 1 rfl rfl ?_
    refine jw_geti hC fL_X3_53.r (ewF_t (j := j) (k := 5) (by omega) (by decide) (by decide)) (kI := 5) rfl dX3_slipIfDue_12 (by omega) (fun b12 c12 => ?_)
    refine jw_iload_n hC dX3_slipIfDue_15 0 rfl rfl ?_
    refine jw_iremt hC dX3_slipIfDue_16 (by omega) (by omega) (by omega) (by omega) (fun b16 c16 => ?_)
    refine jw_if_ne (tgt := 34) hC dX3_slipIfDue_17 (by decide) (by omega) (by omega) (fun h17 => ?_) (fun h17 => ?_)
    · skip
      refine jw_vret hC dX3_slipIfDue_34 ?_
      refine ⟨rfl, ?_⟩
      unfold f_sl
      first
      | (rw [if_pos ⟨by omega, by omega⟩]; exact mu_as _ _ _ _)
      | (rw [if_neg (by omega)]; exact (mset_id (fun k => by by_cases hk : k = 3 <;> simp [hk])).symm)
    · skip
      refine jw_aload_n hC dX3_slipIfDue_20 1 rfl rfl ?_
      refine jw_aload_n hC dX3_slipIfDue_21 1 rfl rfl ?_
      refine jw_geti hC fL_X3_47.r (ewF_t (j := j) (k := 3) (by omega) (by decide) (by decide)) (kI := 3) rfl dX3_slipIfDue_22 (by omega) (fun b22 c22 => ?_)
      refine jw_iconst hC dX3_slipIfDue_25 ?_
      refine jw_iadd hC dX3_slipIfDue_26 ?_
      refine jw_iconst hC dX3_slipIfDue_27 ?_
      refine jw_min hC dX3_slipIfDue_28 (by omega) (by omega) (by omega) (by omega) w3_66 w3_23 w1_10 w3_24 ⟨Nat.le_of_ble_eq_true rfl, Nat.le_of_ble_eq_true rfl⟩ ⟨Nat.zero_le _, Nat.zero_le _⟩ ?_
      refine jw_puti hC fL_X3_47 (ewF_t (j := j) (k := 3) (by omega) (by decide) (by decide)) (kI := 3) rfl dX3_slipIfDue_31 (by omega) (by omega) ?_
      refine jw_vret hC dX3_slipIfDue_34 ?_
      refine ⟨rfl, ?_⟩
      unfold f_sl
      first
      | (rw [if_pos ⟨by omega, by omega⟩]; exact mu_as _ _ _ _)
      | (rw [if_neg (by omega)]; exact (mset_id (fun k => by by_cases hk : k = 3 <;> simp [hk])).symm)
set_option maxRecDepth 100000 in
set_option maxHeartbeats 4000000 in
theorem c_X3_unslip (l : Launch) (E : ewE) (M : ewM) (j : Nat) (hj : j < 9) : Ct l E yX3_unslip (.code yX3_unslip cX3_unslip 1 none) 1 [vR E (50 + 3 * j)] M (fun v M1 => v = none ∧ M1 = mu (mu M (50 + 3 * j) 3 0) (50 + 3 * j) 5 0) := by
  refine ct_of (L0 := [(0, vR E (50 + 3 * j))]) (by decide +kernel) rfl (Nat.le_of_ble_eq_true rfl) ?_
  intro zp ze zs zm za zb zt zc zA hC
  refine jw_aload_n hC dX3_unslip_0 0 rfl rfl ?_
  refine jw_iconst hC dX3_unslip_1 ?_
  refine jw_puti hC fL_X3_47 (ewF_t (j := j) (k := 3) (by omega) (by decide) (by decide)) (kI := 3) rfl dX3_unslip_2 (by omega) (by omega) ?_
  refine jw_aload_n hC dX3_unslip_5 0 rfl rfl ?_
  refine jw_iconst hC dX3_unslip_6 ?_
  refine jw_puti hC fL_X3_53 (ewF_t (j := j) (k := 5) (by omega) (by decide) (by decide)) (kI := 5) rfl dX3_unslip_7 (by omega) (by omega) ?_
  refine jw_vret hC dX3_unslip_10 ?_
  exact ⟨rfl, rfl⟩
