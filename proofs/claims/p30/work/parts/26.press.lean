/-! PRESSES AND FOLDS: the private methods of EmbossPress -/
/-- how many places a fold would crack -/
def f_fc (d c : Int → Int) (row b t : Int) : Int := f_sum (f_it d b t (f_brk (f_ovf d c row b t) c) 144) 144 - f_sum c 144
set_option maxRecDepth 100000 in
set_option maxHeartbeats 4000000 in
theorem c_X4_refusal (l : Launch) (E : ewE) (M : ewM) (h0 : st0 M) (x y : Int) (x1 : -2147483648 ≤ x) (x2 : x < 2147483648) (y1 : -2147483648 ≤ y) (y2 : y < 2147483648) (hr : pD (M 83)) : Ct l E yX4_refusal (.code yX4_refusal cX4_refusal 7 (some .int)) 3 [vR E 77, vI x, vI y] M (fun v M1 => v = some (vI (f_rsn (M 83) (x + M 50 3) y (M 52 2))) ∧ M = M1) := by
  refine ct_of (L0 := [(0, vR E 77), (1, vI x), (2, vI y)]) (by decide +kernel) rfl (Nat.le_of_ble_eq_true rfl) ?_
  intro zp ze zs zm za zb zt zc zA hC
  obtain ⟨p1, p2, p3, p4, p5, p6, p7, p8⟩ := id h0
  have K18 : ∀ (n : Nat) (k mx : Int), 25 - k < n → 0 ≤ k → k ≤ 25 → f_off (M 83) (x + M 50 3) y k.toNat = false → mx = f_max (M 83) k.toNat → jJ zp l ze (ct_rm 3) zs zm za zb zt zc E zA 7 0 0 (MQ zb (ct_Q E zA (fun v M1 => v = some (vI (f_rsn (M 83) (x + M 50 3) y (M 52 2))) ∧ M = M1)) za zs 0 0 zA) 18 [(0, vR E 77), (1, vI x), (2, vI y), (3, vJ (x + M 50 3)), (5, vI mx), (6, vI k)] [] M := by
    intro n
    induction n with
    | zero => intros; omega
    | succ n ih =>
      intro k mx i1 i2 i3 hof hmx
      have hmb := f_max_D hr k.toNat
      rw [← hmx] at hmb
      have hrk := hr k
      have hpb := f_pu_b k (x + M 50 3) y
      refine jw_iload hC dX4_refusal_18 5 rfl ?_
      refine jw_bipush hC dX4_refusal_20 (by decide) ?_
      refine jw_icmp_ge (tgt := 69) hC dX4_refusal_22 (by decide) (by omega) (by omega) (by omega) (by omega) (fun h22 => ?_) (fun h22 => ?_)
      · skip
        refine jw_iload hC dX4_refusal_69 4 rfl ?_
        refine jw_aload_n hC dX4_refusal_71 0 rfl rfl ?_
        refine jw_getr hC fL_X4_12 ewR_x0 dX4_refusal_72 ?_
        refine jw_getr hC fL_X4_165 (show ewR 50 6 1 52 from ewR_t1 (j := 0) (by decide)) dX4_refusal_75 ?_
        refine jw_iconst hC dX4_refusal_78 ?_
        refine jw_iald hC (show ewA 52 0 4 from ewA_settings (j := 0) (by decide)) dX4_refusal_79 (by omega) (by omega) (by decide) (fun b79 c79 => ?_)
        refine jw_icmp_le (tgt := 85) hC dX4_refusal_80 (by decide) (by omega) (by omega) (by omega) (by omega) (fun h80 => ?_) (fun h80 => ?_)
        · skip
          refine jw_iload hC dX4_refusal_85 4 rfl ?_
          refine jw_if_ne (tgt := 94) hC dX4_refusal_87 (by decide) (by omega) (by omega) (fun h87 => ?_) (fun h87 => ?_)
          · skip
            refine jw_iconst hC dX4_refusal_94 ?_
            refine jw_iret hC dX4_refusal_95 ?_
            refine ⟨?_, rfl⟩
            unfold f_rsn
            first
            | (have hof : f_off (M 83) (x + M 50 3) y 25 = true := by
                 have e1 : f_off (M 83) (x + M 50 3) y (k + 1).toNat = true := by rw [f_off_s _ _ _ i2]; simp; omega
                 have e2 := f_off_le e1 (24 - k.toNat)
                 rwa [show (k + 1).toNat + (24 - k.toNat) = 25 by omega] at e2
               rw [if_pos hof])
            | (have e9 : k = 25 := by omega
               subst e9
               have hof9 : f_off (M 83) (x + M 50 3) y 25 = false := hof
               rw [if_neg (by rw [hof9]; decide)]
               have hmx' : mx = f_max (M 83) 25 := hmx
               rw [← hmx']
               first
               | rw [if_pos (by omega)]
               | rw [if_neg (by omega), if_pos (by omega)]
               | rw [if_neg (by omega), if_neg (by omega)])
          · skip
            refine jw_iconst hC dX4_refusal_90 ?_
            refine jw_goto (tgt := 95) hC dX4_refusal_91 (by decide) ?_
            refine jw_iret hC dX4_refusal_95 ?_
            refine ⟨?_, rfl⟩
            unfold f_rsn
            first
            | (have hof : f_off (M 83) (x + M 50 3) y 25 = true := by
                 have e1 : f_off (M 83) (x + M 50 3) y (k + 1).toNat = true := by rw [f_off_s _ _ _ i2]; simp; omega
                 have e2 := f_off_le e1 (24 - k.toNat)
                 rwa [show (k + 1).toNat + (24 - k.toNat) = 25 by omega] at e2
               rw [if_pos hof])
            | (have e9 : k = 25 := by omega
               subst e9
               have hof9 : f_off (M 83) (x + M 50 3) y 25 = false := hof
               rw [if_neg (by rw [hof9]; decide)]
               have hmx' : mx = f_max (M 83) 25 := hmx
               rw [← hmx']
               first
               | rw [if_pos (by omega)]
               | rw [if_neg (by omega), if_pos (by omega)]
               | rw [if_neg (by omega), if_neg (by omega)])
        · skip
          refine jw_iconst hC dX4_refusal_83 ?_
          refine jw_iret hC dX4_refusal_84 ?_
          refine ⟨?_, rfl⟩
          unfold f_rsn
          first
          | (have hof : f_off (M 83) (x + M 50 3) y 25 = true := by
               have e1 : f_off (M 83) (x + M 50 3) y (k + 1).toNat = true := by rw [f_off_s _ _ _ i2]; simp; omega
               have e2 := f_off_le e1 (24 - k.toNat)
               rwa [show (k + 1).toNat + (24 - k.toNat) = 25 by omega] at e2
             rw [if_pos hof])
          | (have e9 : k = 25 := by omega
             subst e9
             have hof9 : f_off (M 83) (x + M 50 3) y 25 = false := hof
             rw [if_neg (by rw [hof9]; decide)]
             have hmx' : mx = f_max (M 83) 25 := hmx
             rw [← hmx']
             first
             | rw [if_pos (by omega)]
             | rw [if_neg (by omega), if_pos (by omega)]
             | rw [if_neg (by omega), if_neg (by omega)])
      · skip
        refine jw_aload_n hC dX4_refusal_25 0 rfl rfl ?_
        refine jw_getr hC fL_X4_34 ewR_x7 dX4_refusal_26 ?_
        refine jw_iload hC dX4_refusal_29 5 rfl ?_
        refine jw_iald hC ewA_83 dX4_refusal_31 (by omega) (by omega) (by decide) (fun b31 c31 => ?_)
        refine jw_if_le (tgt := 49) hC dX4_refusal_32 (by decide) (by omega) (by omega) (fun h32 => ?_) (fun h32 => ?_)
        · skip
          refine jw_iload hC dX4_refusal_49 4 rfl ?_
          refine jw_aload_n hC dX4_refusal_51 0 rfl rfl ?_
          refine jw_getr hC fL_X4_34 ewR_x7 dX4_refusal_52 ?_
          refine jw_iload hC dX4_refusal_55 5 rfl ?_
          refine jw_iald hC ewA_83 dX4_refusal_57 (by omega) (by omega) (by decide) (fun b57 c57 => ?_)
          refine jw_max hC dX4_refusal_58 (by omega) (by omega) (by omega) (by omega) w3_46 w2_72 w1_10 w2_73 ⟨Nat.le_of_ble_eq_true rfl, Nat.le_of_ble_eq_true rfl⟩ ⟨Nat.zero_le _, Nat.zero_le _⟩ ?_
          refine jw_istore (L' := [(5, _), (0, _), (1, _), (2, _), (3, _), (6, _)]) hC dX4_refusal_61 (by decide) rfl ?_
          refine jw_iinc (L' := [(6, _), (5, _), (0, _), (1, _), (2, _), (3, _)]) hC dX4_refusal_63 5 rfl (by decide) rfl ?_
          refine jw_goto (tgt := 18) hC dX4_refusal_66 (by decide) ?_
          refine jw_loc (L' := [(0, _), (1, _), (2, _), (3, _), (5, _), (6, _)]) [2, 3, 4, 5, 1, 0] rfl ?_
          refine ih _ _ (by omega) (by omega) (by omega) ?_ ?_
          · rw [f_off_s _ _ _ i2, hof]
            simp
            omega
          · rw [f_max_s _ i2, hmx]
        · skip
          refine jw_iload hC dX4_refusal_35 5 rfl ?_
          refine jw_lload_n hC dX4_refusal_37 3 rfl rfl ?_
          refine jw_iload_n hC dX4_refusal_38 2 rfl rfl ?_
          refine jw_i2l hC dX4_refusal_39 (by omega) (by omega) ?_
          refine jw_callS hC (c_X4_placeUnder l E M _ _ _ ⟨by omega, by omega⟩ (by omega) (by omega) (by omega) (by omega)) sS_X4_310 dX4_refusal_40 rfl rfl ⟨Nat.le_of_ble_eq_true rfl, Nat.le_of_ble_eq_true rfl⟩ ⟨Nat.zero_le _, Nat.zero_le _⟩ (Nat.le_of_ble_eq_true rfl) (fun v40 M40 g40 => ?_)
          obtain ⟨rfl, rfl⟩ := g40
          refine jw_iconst hC dX4_refusal_43 ?_
          refine jw_icmp_ne (tgt := 49) hC dX4_refusal_44 (by decide) (by omega) (by omega) (by omega) (by omega) (fun h44 => ?_) (fun h44 => ?_)
          · skip
            refine jw_iload hC dX4_refusal_49 4 rfl ?_
            refine jw_aload_n hC dX4_refusal_51 0 rfl rfl ?_
            refine jw_getr hC fL_X4_34 ewR_x7 dX4_refusal_52 ?_
            refine jw_iload hC dX4_refusal_55 5 rfl ?_
            refine jw_iald hC ewA_83 dX4_refusal_57 (by omega) (by omega) (by decide) (fun b57 c57 => ?_)
            refine jw_max hC dX4_refusal_58 (by omega) (by omega) (by omega) (by omega) w3_46 w2_72 w1_10 w2_73 ⟨Nat.le_of_ble_eq_true rfl, Nat.le_of_ble_eq_true rfl⟩ ⟨Nat.zero_le _, Nat.zero_le _⟩ ?_
            refine jw_istore (L' := [(5, _), (0, _), (1, _), (2, _), (3, _), (6, _)]) hC dX4_refusal_61 (by decide) rfl ?_
            refine jw_iinc (L' := [(6, _), (5, _), (0, _), (1, _), (2, _), (3, _)]) hC dX4_refusal_63 5 rfl (by decide) rfl ?_
            refine jw_goto (tgt := 18) hC dX4_refusal_66 (by decide) ?_
            refine jw_loc (L' := [(0, _), (1, _), (2, _), (3, _), (5, _), (6, _)]) [2, 3, 4, 5, 1, 0] rfl ?_
            refine ih _ _ (by omega) (by omega) (by omega) ?_ ?_
            · rw [f_off_s _ _ _ i2, hof]
              simp
              omega
            · rw [f_max_s _ i2, hmx]
          · skip
            refine jw_iconst hC dX4_refusal_47 ?_
            refine jw_iret hC dX4_refusal_48 ?_
            refine ⟨?_, rfl⟩
            unfold f_rsn
            first
            | (have hof : f_off (M 83) (x + M 50 3) y 25 = true := by
                 have e1 : f_off (M 83) (x + M 50 3) y (k + 1).toNat = true := by rw [f_off_s _ _ _ i2]; simp; omega
                 have e2 := f_off_le e1 (24 - k.toNat)
                 rwa [show (k + 1).toNat + (24 - k.toNat) = 25 by omega] at e2
               rw [if_pos hof])
            | (have e9 : k = 25 := by omega
               subst e9
               have hof9 : f_off (M 83) (x + M 50 3) y 25 = false := hof
               rw [if_neg (by rw [hof9]; decide)]
               have hmx' : mx = f_max (M 83) 25 := hmx
               rw [← hmx']
               first
               | rw [if_pos (by omega)]
               | rw [if_neg (by omega), if_pos (by omega)]
               | rw [if_neg (by omega), if_neg (by omega)])
  refine jw_iload_n hC dX4_refusal_0 1 rfl rfl ?_
  refine jw_i2l hC dX4_refusal_1 (by omega) (by omega) ?_
  refine jw_aload_n hC dX4_refusal_2 0 rfl rfl ?_
  refine jw_getr hC fL_X4_12 ewR_x0 dX4_refusal_3 ?_
  refine jw_geti hC fL_X4_121.r (show ewF 50 6 3 from ewF_t (j := 0) (k := 3) (by decide) (by decide) (by decide)) (kI := 3) rfl dX4_refusal_6 (by omega) (fun b6 c6 => ?_)
  refine jw_i2l hC dX4_refusal_9 (by omega) (by omega) ?_
  refine jw_ladd hC dX4_refusal_10 ?_
  refine jw_lstore_n (L' := [(3, _), (0, _), (1, _), (2, _)]) hC dX4_refusal_11 rfl (by decide) rfl ?_
  refine jw_iconst hC dX4_refusal_12 ?_
  refine jw_istore (L' := [(5, _), (3, _), (0, _), (1, _), (2, _)]) hC dX4_refusal_13 (by decide) rfl ?_
  refine jw_iconst hC dX4_refusal_15 ?_
  refine jw_istore (L' := [(6, _), (5, _), (3, _), (0, _), (1, _), (2, _)]) hC dX4_refusal_16 (by decide) rfl ?_
  refine jw_loc (L' := [(0, _), (1, _), (2, _), (3, _), (5, _), (6, _)]) [3, 4, 5, 2, 1, 0] rfl ?_
  exact K18 26 0 0 (by omega) (by omega) (by omega) rfl rfl
set_option maxRecDepth 100000 in
set_option maxHeartbeats 4000000 in
theorem c_X4_pressRelief (l : Launch) (E : ewE) (M : ewM) (h0 : st0 M) (x y : Int) (x1 : -2147483648 ≤ x) (x2 : x < 2147483648) (y1 : -2147483648 ≤ y) (y2 : y < 2147483648) (hr : pD (M 83)) : Ct l E yX4_pressRelief (.code yX4_pressRelief cX4_pressRelief 6 (some .int)) 4 [vR E 77, vI x, vI y] M (fun v M1 => v = some (vI (f_cks (M 83) (x + M 50 3) y (M 1) (M 3) (M 52 0) (M 52 1))) ∧ M1 1 = f_emb (M 83) (x + M 50 3) y (M 1) 25 ∧ M1 2 = f_stk (M 50) (M 83) (x + M 50 3) y (M 2) 25 ∧ M1 3 = f_it (f_emb (M 83) (x + M 50 3) y (M 1) 25) (M 52 0) (M 52 1) (M 3) 144 ∧ M1 4 = f_prs (M 83) (x + M 50 3) y (M 4) 25 ∧ (∀ k : Int, M1 50 k = if k = 3 then f_sl (M 52 3) (wr (M 50 5 + 1)) (M 50 3) else if k = 4 then wr (M 50 4 + 1) else if k = 5 then wr (M 50 5 + 1) else if k = 7 then wr (M 50 7 + f_cks (M 83) (x + M 50 3) y (M 1) (M 3) (M 52 0) (M 52 1)) else if k = 10 then 0 else M 50 k) ∧ ∀ o, o ≠ 1 → o ≠ 2 → o ≠ 3 → o ≠ 4 → o ≠ 50 → (o < 84 ∨ 87 < o) → M1 o = M o) := by
  refine ct_of (L0 := [(0, vR E 77), (1, vI x), (2, vI y)]) (by decide +kernel) rfl (Nat.le_of_ble_eq_true rfl) ?_
  intro zp ze zs zm za zb zt zc zA hC
  obtain ⟨p1, p2, p3, p4, p5, p6, p7, p8⟩ := id h0
  refine jw_iload_n hC dX4_pressRelief_0 1 rfl rfl ?_
  refine jw_i2l hC dX4_pressRelief_1 (by omega) (by omega) ?_
  refine jw_aload_n hC dX4_pressRelief_2 0 rfl rfl ?_
  refine jw_getr hC fL_X4_12 ewR_x0 dX4_pressRelief_3 ?_
  refine jw_geti hC fL_X4_121.r (show ewF 50 6 3 from ewF_t (j := 0) (k := 3) (by decide) (by decide) (by decide)) (kI := 3) rfl dX4_pressRelief_6 (by omega) (fun b6 c6 => ?_)
  refine jw_i2l hC dX4_pressRelief_9 (by omega) (by omega) ?_
  refine jw_ladd hC dX4_pressRelief_10 ?_
  refine jw_lstore_n (L' := [(3, _), (0, _), (1, _), (2, _)]) hC dX4_pressRelief_11 rfl (by decide) rfl ?_
  refine jw_aload_n hC dX4_pressRelief_12 1 rfl rfl ?_
  refine jw_getr hC fL_X4_12 ewR_x0 dX4_pressRelief_13 ?_
  refine jw_getr hC fL_X4_88 (show ewR 50 6 2 0 from ewR_t2 (j := 0) (by decide)) dX4_pressRelief_16 ?_
  refine jw_aload_n hC dX4_pressRelief_19 1 rfl rfl ?_
  refine jw_getr hC fL_X4_34 ewR_x7 dX4_pressRelief_20 ?_
  refine jw_lload_n hC dX4_pressRelief_23 0 rfl rfl ?_
  refine jw_iload_n hC dX4_pressRelief_24 3 rfl rfl ?_
  refine jw_i2l hC dX4_pressRelief_25 (by omega) (by omega) ?_
  refine jw_callV hC (c_X2_emboss l E M 0 (by decide) _ _ (by omega) (by omega) (by omega) (by omega) hr p1) sV_X4_317 (show ewO 0 5 from ewO_sheet (j := 0) (by decide)) dX4_pressRelief_26 rfl rfl ⟨Nat.le_of_ble_eq_true rfl, Nat.le_of_ble_eq_true rfl⟩ ⟨Nat.zero_le _, Nat.zero_le _⟩ (Nat.le_of_ble_eq_true rfl) (fun v26 M26 g26 => ?_)
  obtain ⟨rfl, g1, g4, g5⟩ := g26
  have e1 : M26 1 = f_emb (M 83) (x + M 50 3) y (M 1) 25 := g1
  have e4 : M26 4 = f_prs (M 83) (x + M 50 3) y (M 4) 25 := g4
  have e5 : ∀ o, o ≠ 1 → o ≠ 4 → M26 o = M o := g5
  refine jw_aload_n hC dX4_pressRelief_29 1 rfl rfl ?_
  refine jw_getr hC fL_X4_12 ewR_x0 dX4_pressRelief_30 ?_
  refine jw_aload_n hC dX4_pressRelief_33 1 rfl rfl ?_
  refine jw_getr hC fL_X4_34 ewR_x7 dX4_pressRelief_34 ?_
  refine jw_lload_n hC dX4_pressRelief_37 0 rfl rfl ?_
  refine jw_iload_n hC dX4_pressRelief_38 3 rfl rfl ?_
  refine jw_i2l hC dX4_pressRelief_39 (by omega) (by omega) ?_
  refine jw_callV hC (c_X3_stickFoil l E M26 0 (by decide) _ _ (by omega) (by omega) (by omega) (by omega)) sV_X4_321 (show ewO 50 6 from ewO_state (j := 0) (by decide)) dX4_pressRelief_40 rfl rfl ⟨Nat.le_of_ble_eq_true rfl, Nat.le_of_ble_eq_true rfl⟩ ⟨Nat.zero_le _, Nat.zero_le _⟩ (Nat.le_of_ble_eq_true rfl) (fun v40 M40 g40 => ?_)
  obtain ⟨rfl, g1, g2, g3⟩ := g40
  have u1 : M40 2 = f_stk (M26 50) (M26 83) (x + M 50 3) y (M26 2) 25 := g1
  have u2 : M40 50 = fun k => if k = 10 then 0 else M26 50 k := g2
  have u4 : ∀ o, o ≠ 2 → o ≠ 50 → M40 o = M26 o := g3
  rw [e5 50 (by decide) (by decide), e5 83 (by decide) (by decide), e5 2 (by decide) (by decide)] at u1
  rw [e5 50 (by decide) (by decide)] at u2
  have u52 : M40 52 = M 52 := (u4 52 (by decide) (by decide)).trans (e5 52 (by decide) (by decide))
  have u3 : M40 3 = M 3 := (u4 3 (by decide) (by decide)).trans (e5 3 (by decide) (by decide))
  have u11 : M40 1 = f_emb (M 83) (x + M 50 3) y (M 1) 25 := (u4 1 (by decide) (by decide)).trans e1
  refine jw_aload_n hC dX4_pressRelief_43 1 rfl rfl ?_
  refine jw_getr hC fL_X4_48 ewR_x9 dX4_pressRelief_44 ?_
  refine jw_aload_n hC dX4_pressRelief_47 1 rfl rfl ?_
  refine jw_getr hC fL_X4_12 ewR_x0 dX4_pressRelief_48 ?_
  refine jw_getr hC fL_X4_88 (show ewR 50 6 2 0 from ewR_t2 (j := 0) (by decide)) dX4_pressRelief_51 ?_
  refine jw_aload_n hC dX4_pressRelief_54 1 rfl rfl ?_
  refine jw_getr hC fL_X4_12 ewR_x0 dX4_pressRelief_55 ?_
  refine jw_getr hC fL_X4_165 (show ewR 50 6 1 52 from ewR_t1 (j := 0) (by decide)) dX4_pressRelief_58 ?_
  refine jw_iconst hC dX4_pressRelief_61 ?_
  refine jw_iald hC (show ewA 52 0 4 from ewA_settings (j := 0) (by decide)) dX4_pressRelief_62 (by omega) (by omega) (by decide) (fun b62 c62 => ?_)
  rw [u52] at b62 c62 ⊢
  refine jw_aload_n hC dX4_pressRelief_63 1 rfl rfl ?_
  refine jw_getr hC fL_X4_12 ewR_x0 dX4_pressRelief_64 ?_
  refine jw_getr hC fL_X4_165 (show ewR 50 6 1 52 from ewR_t1 (j := 0) (by decide)) dX4_pressRelief_67 ?_
  refine jw_iconst hC dX4_pressRelief_70 ?_
  refine jw_iald hC (show ewA 52 0 4 from ewA_settings (j := 0) (by decide)) dX4_pressRelief_71 (by omega) (by omega) (by decide) (fun b71 c71 => ?_)
  rw [u52] at b71 c71 ⊢
  refine jw_callV hC (c_X0_crackAll l E M40 0 (by decide) _ _ p4 p5 (show pD (M40 1) by rw [u11]; exact f_emb_D hr p1 _ _ _) (show pC (M40 3) by rw [u3]; exact p2)) sV_X4_172 ewF_k3.o dX4_pressRelief_72 rfl rfl ⟨Nat.le_of_ble_eq_true rfl, Nat.le_of_ble_eq_true rfl⟩ ⟨Nat.zero_le _, Nat.zero_le _⟩ (Nat.le_of_ble_eq_true rfl) (fun v72 M72 g72 => ?_)
  obtain ⟨rfl, g2, g3, g4⟩ := g72
  have z2 : M72 3 = f_it (M40 1) (M 52 0) (M 52 1) (M40 3) 144 := g2
  have z4 : ∀ o, o ≠ 3 → (o < 84 ∨ 87 < o) → M72 o = M40 o := g4
  have zv : f_sum (f_it (M40 (5 * 0 + 1)) (M 52 0) (M 52 1) (M40 (5 * 0 + 3)) 144) 144 - f_sum (M40 (5 * 0 + 3)) 144 = f_cks (M 83) (x + M 50 3) y (M 1) (M 3) (M 52 0) (M 52 1) := by
    show f_sum (f_it (M40 1) (M 52 0) (M 52 1) (M40 3) 144) 144 - f_sum (M40 3) 144 = _
    rw [u11, u3]
    rfl
  rw [u11, u3] at z2
  have z50 : M72 50 = fun k => if k = 10 then 0 else M 50 k := (z4 50 (by decide) (by decide)).trans u2
  have z52 : M72 52 = M 52 := (z4 52 (by decide) (by decide)).trans u52
  rw [zv]
  refine jw_istore (L' := [(5, _), (3, _), (0, _), (1, _), (2, _)]) hC dX4_pressRelief_75 (by decide) rfl ?_
  refine jw_aload_n hC dX4_pressRelief_77 2 rfl rfl ?_
  refine jw_getr hC fL_X4_12 ewR_x0 dX4_pressRelief_78 ?_
  refine jw_dupr hC dX4_pressRelief_81 ?_
  refine jw_geti hC fL_X4_176.r (show ewF 50 6 7 from ewF_t (j := 0) (k := 7) (by decide) (by decide) (by decide)) (kI := 7) rfl dX4_pressRelief_82 (by omega) (fun b82 c82 => ?_)
  have y82 : M72 50 7 = M 50 7 := by rw [z50]; rfl
  rw [y82] at b82 c82 ⊢
  refine jw_iload hC dX4_pressRelief_85 0 rfl ?_
  refine jw_iadd hC dX4_pressRelief_87 ?_
  refine jw_putiw hC fL_X4_176 (show ewF 50 6 7 from ewF_t (j := 0) (k := 7) (by decide) (by decide) (by decide)) (kI := 7) rfl dX4_pressRelief_88  ?_
  refine jw_aload_n hC dX4_pressRelief_91 2 rfl rfl ?_
  refine jw_getr hC fL_X4_12 ewR_x0 dX4_pressRelief_92 ?_
  refine jw_dupr hC dX4_pressRelief_95 ?_
  refine jw_geti hC fL_X4_234.r (show ewF 50 6 4 from ewF_t (j := 0) (k := 4) (by decide) (by decide) (by decide)) (kI := 4) rfl dX4_pressRelief_96 (by omega) (fun b96 c96 => ?_)
  have y96 : ∀ v, mu M72 50 7 v 50 4 = M 50 4 := fun v => by rw [mu_nk _ _ _ (by decide), z50]; rfl
  rw [y96] at b96 c96 ⊢
  refine jw_iconst hC dX4_pressRelief_99 ?_
  refine jw_iadd hC dX4_pressRelief_100 ?_
  refine jw_putiw hC fL_X4_234 (show ewF 50 6 4 from ewF_t (j := 0) (k := 4) (by decide) (by decide) (by decide)) (kI := 4) rfl dX4_pressRelief_101  ?_
  refine jw_aload_n hC dX4_pressRelief_104 2 rfl rfl ?_
  refine jw_getr hC fL_X4_12 ewR_x0 dX4_pressRelief_105 ?_
  refine jw_dupr hC dX4_pressRelief_108 ?_
  refine jw_geti hC fL_X4_324.r (show ewF 50 6 5 from ewF_t (j := 0) (k := 5) (by decide) (by decide) (by decide)) (kI := 5) rfl dX4_pressRelief_109 (by omega) (fun b109 c109 => ?_)
  have y109 : ∀ v w, mu (mu M72 50 7 v) 50 4 w 50 5 = M 50 5 := fun v w => by rw [mu_nk _ _ _ (by decide), mu_nk _ _ _ (by decide), z50]; rfl
  rw [y109] at b109 c109 ⊢
  refine jw_iconst hC dX4_pressRelief_112 ?_
  refine jw_iadd hC dX4_pressRelief_113 ?_
  refine jw_putiw hC fL_X4_324 (show ewF 50 6 5 from ewF_t (j := 0) (k := 5) (by decide) (by decide) (by decide)) (kI := 5) rfl dX4_pressRelief_114  ?_
  have hs9 : ∀ v w u, 0 ≤ mu (mu (mu M72 50 7 v) 50 4 w) 50 5 u (50 + 3 * 0) 3 ∧ mu (mu (mu M72 50 7 v) 50 4 w) 50 5 u (50 + 3 * 0) 3 ≤ 3 := fun v w u => by
    show 0 ≤ mu (mu (mu M72 50 7 v) 50 4 w) 50 5 u 50 3 ∧ mu (mu (mu M72 50 7 v) 50 4 w) 50 5 u 50 3 ≤ 3
    rw [mu_nk _ _ _ (by decide), mu_nk _ _ _ (by decide), mu_nk _ _ _ (by decide), z50]
    exact p8
  refine jw_aload_n hC dX4_pressRelief_117 2 rfl rfl ?_
  refine jw_getr hC fL_X4_12 ewR_x0 dX4_pressRelief_118 ?_
  refine jw_callV hC (c_X3_slipIfDue l E _ 0 (by decide) (hs9 _ _ _)) sV_X4_327 (show ewO 50 6 from ewO_state (j := 0) (by decide)) dX4_pressRelief_121 rfl rfl ⟨Nat.le_of_ble_eq_true rfl, Nat.le_of_ble_eq_true rfl⟩ ⟨Nat.zero_le _, Nat.zero_le _⟩ (Nat.le_of_ble_eq_true rfl) (fun v121 M121 g121 => ?_)
  obtain ⟨rfl, rfl⟩ := g121
  refine jw_iload hC dX4_pressRelief_124 0 rfl ?_
  refine jw_iret hC dX4_pressRelief_126 ?_
  refine ⟨rfl, ?_, ?_, ?_, ?_, fun k => ?_, fun o o1 o2 o3 o4 o5 o6 => ?_⟩
  · rw [mset_ne _ _ (by decide), mu_ne _ _ _ (by decide), mu_ne _ _ _ (by decide), mu_ne _ _ _ (by decide), z4 1 (by decide) (by decide), u4 1 (by decide) (by decide), e1]
  · rw [mset_ne _ _ (by decide), mu_ne _ _ _ (by decide), mu_ne _ _ _ (by decide), mu_ne _ _ _ (by decide), z4 2 (by decide) (by decide), u1]
  · rw [mset_ne _ _ (by decide), mu_ne _ _ _ (by decide), mu_ne _ _ _ (by decide), mu_ne _ _ _ (by decide), z2]
  · rw [mset_ne _ _ (by decide), mu_ne _ _ _ (by decide), mu_ne _ _ _ (by decide), mu_ne _ _ _ (by decide), z4 4 (by decide) (by decide), u4 4 (by decide) (by decide), e4]
  · rw [mset_at]
    by_cases k3 : k = 3
    · subst k3
      simp [mu_at, mu_ne, z50, z52]
    · by_cases k4 : k = 4 <;> by_cases k5 : k = 5 <;> by_cases k7 : k = 7 <;> by_cases k10 : k = 10 <;> simp [mu_at, k3, k4, k5, k7, k10, z50] <;> omega
  · rw [mset_ne _ _ o5, mu_ne _ _ _ o5, mu_ne _ _ _ o5, mu_ne _ _ _ o5, z4 o o3 o6, u4 o o2 o5, e5 o o1 o4]
