/-! THE LOOKS: the private methods of EmbossPress that change nothing -/
set_option maxRecDepth 100000 in
set_option maxHeartbeats 4000000 in
theorem c_X4_cracksOfRelief (l : Launch) (E : ewE) (M : ewM) (h0 : st0 M) (x y : Int) (x1 : -2147483648 ≤ x) (x2 : x < 2147483648) (y1 : -2147483648 ≤ y) (y2 : y < 2147483648) (hr : pD (M 83)) : Ct l E yX4_cracksOfRelief (.code yX4_cracksOfRelief cX4_cracksOfRelief 3 (some .int)) 4 [vR E 77, vI x, vI y] M (fun v M1 => v = some (vI (f_cks (M 83) (x + M 50 3) y (M 1) (M 3) (M 52 0) (M 52 1))) ∧ lk M M1 ∧ M1 83 = M 83) := by
  refine ct_of (L0 := [(0, vR E 77), (1, vI x), (2, vI y)]) (by decide +kernel) rfl (Nat.le_of_ble_eq_true rfl) ?_
  intro zp ze zs zm za zb zt zc zA hC
  obtain ⟨p1, p2, p3, p4, p5, p6, p7, p8⟩ := id h0
  refine jw_aload_n hC dX4_cracksOfRelief_0 0 rfl rfl ?_
  refine jw_getr hC fL_X4_41 ewR_x8 dX4_cracksOfRelief_1 ?_
  refine jw_aload_n hC dX4_cracksOfRelief_4 0 rfl rfl ?_
  refine jw_getr hC fL_X4_12 ewR_x0 dX4_cracksOfRelief_5 ?_
  refine jw_getr hC fL_X4_88 (show ewR 50 6 2 0 from ewR_t2 (j := 0) (by decide)) dX4_cracksOfRelief_8 ?_
  refine jw_callV hC (c_X2_copyStrength l E M 9 (by decide) 0 (by decide)) sV_X4_333 (show ewO 45 5 from ewO_sheet (j := 9) (by decide)) dX4_cracksOfRelief_11 rfl rfl ⟨Nat.le_of_ble_eq_true rfl, Nat.le_of_ble_eq_true rfl⟩ ⟨Nat.zero_le _, Nat.zero_le _⟩ (Nat.le_of_ble_eq_true rfl) (fun v11 M11 g11 => ?_)
  obtain ⟨rfl, hM11⟩ := g11
  have hM11 : M11 = mset (mset M 46 (M 1)) 48 (M 3) := hM11
  have q46 : M11 46 = M 1 := by rw [hM11, mset_ne _ _ (by decide), mset_at]
  have q48 : M11 48 = M 3 := by rw [hM11, mset_at]
  have qo : ∀ o, o ≠ 46 → o ≠ 48 → M11 o = M o := fun o o1 o2 => by rw [hM11, mset_ne _ _ o2, mset_ne _ _ o1]
  refine jw_aload_n hC dX4_cracksOfRelief_14 0 rfl rfl ?_
  refine jw_getr hC fL_X4_41 ewR_x8 dX4_cracksOfRelief_15 ?_
  refine jw_aload_n hC dX4_cracksOfRelief_18 0 rfl rfl ?_
  refine jw_getr hC fL_X4_34 ewR_x7 dX4_cracksOfRelief_19 ?_
  refine jw_iload_n hC dX4_cracksOfRelief_22 1 rfl rfl ?_
  refine jw_i2l hC dX4_cracksOfRelief_23 (by omega) (by omega) ?_
  refine jw_aload_n hC dX4_cracksOfRelief_24 0 rfl rfl ?_
  refine jw_getr hC fL_X4_12 ewR_x0 dX4_cracksOfRelief_25 ?_
  refine jw_geti hC fL_X4_121.r (show ewF 50 6 3 from ewF_t (j := 0) (k := 3) (by decide) (by decide) (by decide)) (kI := 3) rfl dX4_cracksOfRelief_28 (by omega) (fun b28 c28 => ?_)
  rw [qo 50 (by decide) (by decide)] at b28 c28 ⊢
  refine jw_i2l hC dX4_cracksOfRelief_31 (by omega) (by omega) ?_
  refine jw_ladd hC dX4_cracksOfRelief_32 ?_
  refine jw_iload_n hC dX4_cracksOfRelief_33 2 rfl rfl ?_
  refine jw_i2l hC dX4_cracksOfRelief_34 (by omega) (by omega) ?_
  refine jw_callV hC (c_X2_emboss l E M11 9 (by decide) _ _ (by omega) (by omega) (by omega) (by omega) (by rw [qo 83 (by decide) (by decide)]; exact hr) (show pD (M11 46) by rw [q46]; exact p1)) sV_X4_317 (show ewO 45 5 from ewO_sheet (j := 9) (by decide)) dX4_cracksOfRelief_35 rfl rfl ⟨Nat.le_of_ble_eq_true rfl, Nat.le_of_ble_eq_true rfl⟩ ⟨Nat.zero_le _, Nat.zero_le _⟩ (Nat.le_of_ble_eq_true rfl) (fun v35 M35 g35 => ?_)
  obtain ⟨rfl, g1, g2, g3⟩ := g35
  have r46 : M35 46 = f_emb (M11 83) (x + M 50 3) y (M11 46) 25 := g1
  have ro : ∀ o, o ≠ 46 → o ≠ 49 → M35 o = M11 o := g3
  rw [qo 83 (by decide) (by decide), q46] at r46
  have r48 : M35 48 = M 3 := (ro 48 (by decide) (by decide)).trans q48
  have r52 : M35 52 = M 52 := (ro 52 (by decide) (by decide)).trans (qo 52 (by decide) (by decide))
  refine jw_aload_n hC dX4_cracksOfRelief_38 0 rfl rfl ?_
  refine jw_getr hC fL_X4_48 ewR_x9 dX4_cracksOfRelief_39 ?_
  refine jw_aload_n hC dX4_cracksOfRelief_42 0 rfl rfl ?_
  refine jw_getr hC fL_X4_41 ewR_x8 dX4_cracksOfRelief_43 ?_
  refine jw_aload_n hC dX4_cracksOfRelief_46 0 rfl rfl ?_
  refine jw_getr hC fL_X4_12 ewR_x0 dX4_cracksOfRelief_47 ?_
  refine jw_getr hC fL_X4_165 (show ewR 50 6 1 52 from ewR_t1 (j := 0) (by decide)) dX4_cracksOfRelief_50 ?_
  refine jw_iconst hC dX4_cracksOfRelief_53 ?_
  refine jw_iald hC (show ewA 52 0 4 from ewA_settings (j := 0) (by decide)) dX4_cracksOfRelief_54 (by omega) (by omega) (by decide) (fun b54 c54 => ?_)
  rw [r52] at b54 c54 ⊢
  refine jw_aload_n hC dX4_cracksOfRelief_55 0 rfl rfl ?_
  refine jw_getr hC fL_X4_12 ewR_x0 dX4_cracksOfRelief_56 ?_
  refine jw_getr hC fL_X4_165 (show ewR 50 6 1 52 from ewR_t1 (j := 0) (by decide)) dX4_cracksOfRelief_59 ?_
  refine jw_iconst hC dX4_cracksOfRelief_62 ?_
  refine jw_iald hC (show ewA 52 0 4 from ewA_settings (j := 0) (by decide)) dX4_cracksOfRelief_63 (by omega) (by omega) (by decide) (fun b63 c63 => ?_)
  rw [r52] at b63 c63 ⊢
  refine jw_callV hC (c_X0_crackAll l E M35 9 (by decide) _ _ p4 p5 (show pD (M35 46) by rw [r46]; exact f_emb_D hr p1 _ _ _) (show pC (M35 48) by rw [r48]; exact p2)) sV_X4_172 ewF_k3.o dX4_cracksOfRelief_64 rfl rfl ⟨Nat.le_of_ble_eq_true rfl, Nat.le_of_ble_eq_true rfl⟩ ⟨Nat.zero_le _, Nat.zero_le _⟩ (Nat.le_of_ble_eq_true rfl) (fun v64 M64 g64 => ?_)
  obtain ⟨rfl, g2, g3, g4⟩ := g64
  refine jw_iret hC dX4_cracksOfRelief_67 ?_
  have zv : f_sum (f_it (M35 (5 * 9 + 1)) (M 52 0) (M 52 1) (M35 (5 * 9 + 3)) 144) 144 - f_sum (M35 (5 * 9 + 3)) 144 = f_cks (M 83) (x + M 50 3) y (M 1) (M 3) (M 52 0) (M 52 1) := by
    show f_sum (f_it (M35 46) (M 52 0) (M 52 1) (M35 48) 144) 144 - f_sum (M35 48) 144 = _
    rw [r46, r48]
    rfl
  have z4 : ∀ o, o ≠ 48 → (o < 84 ∨ 87 < o) → M64 o = M35 o := g4
  exact ⟨by rw [zv], fun o ho => by rw [z4 o (by omega) (by omega), ro o (by omega) (by omega), qo o (by omega) (by omega)], by rw [z4 83 (by decide) (by decide), ro 83 (by decide) (by decide), qo 83 (by decide) (by decide)]⟩
set_option maxRecDepth 100000 in
set_option maxHeartbeats 4000000 in
theorem c_X4_answerOfPress (l : Launch) (E : ewE) (M : ewM) (h0 : st0 M) (a : Int) (ha : 0 ≤ a ∧ a < 3) (x y : Int) (x1 : -2147483648 ≤ x) (x2 : x < 2147483648) (y1 : -2147483648 ≤ y) (y2 : y < 2147483648) (t : Int) (ht : 0 ≤ t ∧ t < 8) : Ct l E yX4_answerOfPress (.code yX4_answerOfPress cX4_answerOfPress 6 (some .int)) 5 [vR E 77, vI a, vI x, vI y, vI t] M (fun v M1 => v = some (vI (a_ans M (f_rel (M 51) a t) x y)) ∧ lk M M1) := by
  refine ct_of (L0 := [(0, vR E 77), (1, vI a), (2, vI x), (3, vI y), (4, vI t)]) (by decide +kernel) rfl (Nat.le_of_ble_eq_true rfl) ?_
  intro zp ze zs zm za zb zt zc zA hC
  obtain ⟨p1, p2, p3, p4, p5, p6, p7, p8⟩ := id h0
  refine jw_aload_n hC dX4_answerOfPress_0 0 rfl rfl ?_
  refine jw_getr hC fL_X4_12 ewR_x0 dX4_answerOfPress_1 ?_
  refine jw_iload_n hC dX4_answerOfPress_4 1 rfl rfl ?_
  refine jw_iload hC dX4_answerOfPress_5 4 rfl ?_
  refine jw_aload_n hC dX4_answerOfPress_7 0 rfl rfl ?_
  refine jw_getr hC fL_X4_34 ewR_x7 dX4_answerOfPress_8 ?_
  refine jw_callV hC (c_X3_turnDie l E M 0 (by decide) _ _ ha ht p3) sV_X4_147 (show ewO 50 6 from ewO_state (j := 0) (by decide)) dX4_answerOfPress_11 rfl rfl ⟨Nat.le_of_ble_eq_true rfl, Nat.le_of_ble_eq_true rfl⟩ ⟨Nat.zero_le _, Nat.zero_le _⟩ (Nat.le_of_ble_eq_true rfl) (fun v11 M11 g11 => ?_)
  obtain ⟨rfl, hM11⟩ := g11
  have hM11 : M11 = mset M 83 (f_rel (M 51) a t) := hM11
  have t83 : M11 83 = f_rel (M 51) a t := by rw [hM11, mset_at]
  have tlk : lk M M11 := fun o ho => by rw [hM11, mset_ne _ _ (by omega)]
  have hrD : pD (M11 83) := by rw [t83]; exact f_rel_D p3 a t
  have th0 := lk_st0 tlk h0
  have tan := lk_ans tlk (f_rel (M 51) a t)
  refine jw_aload_n hC dX4_answerOfPress_14 0 rfl rfl ?_
  refine jw_iload_n hC dX4_answerOfPress_15 2 rfl rfl ?_
  refine jw_iload_n hC dX4_answerOfPress_16 3 rfl rfl ?_
  refine jw_callV hC (c_X4_refusal l E M11 th0 _ _ (by omega) (by omega) (by omega) (by omega) hrD) sV_X4_151 ewF_x4.o dX4_answerOfPress_17 rfl rfl ⟨Nat.le_of_ble_eq_true rfl, Nat.le_of_ble_eq_true rfl⟩ ⟨Nat.zero_le _, Nat.zero_le _⟩ (Nat.le_of_ble_eq_true rfl) (fun v17 M17 g17 => ?_)
  obtain ⟨rfl, rfl⟩ := g17
  have hrb := f_rsn_b (M11 83) (x + M11 50 3) y (M11 52 2)
  refine jw_istore (L' := [(5, _), (0, _), (1, _), (2, _), (3, _), (4, _)]) hC dX4_answerOfPress_20 (by decide) rfl ?_
  refine jw_iload hC dX4_answerOfPress_22 0 rfl ?_
  refine jw_if_ne (tgt := 39) hC dX4_answerOfPress_24 (by decide) (by omega) (by omega) (fun h24 => ?_) (fun h24 => ?_)
  · skip
    refine jw_iload hC dX4_answerOfPress_39 0 rfl ?_
    refine jw_iret hC dX4_answerOfPress_41 ?_
    first
    | (refine ⟨?_, lk_tr tlk g2⟩
       rw [← tan, ← t83]
       unfold a_ans f_ans
       rw [if_pos (by omega)])
    | (refine ⟨?_, tlk⟩
       rw [← tan, ← t83]
       unfold a_ans f_ans
       rw [if_neg (by omega)])
  · skip
    refine jw_bipush hC dX4_answerOfPress_27 (by decide) ?_
    refine jw_aload_n hC dX4_answerOfPress_29 1 rfl rfl ?_
    refine jw_iload_n hC dX4_answerOfPress_30 3 rfl rfl ?_
    refine jw_iload_n hC dX4_answerOfPress_31 4 rfl rfl ?_
    refine jw_callV hC (c_X4_cracksOfRelief l E M11 th0 _ _ (by omega) (by omega) (by omega) (by omega) hrD) sV_X4_330 ewF_x4.o dX4_answerOfPress_32 rfl rfl ⟨Nat.le_of_ble_eq_true rfl, Nat.le_of_ble_eq_true rfl⟩ ⟨Nat.zero_le _, Nat.zero_le _⟩ (Nat.le_of_ble_eq_true rfl) (fun v32 M32 g32 => ?_)
    obtain ⟨rfl, g2, g3⟩ := g32
    refine jw_iadd hC dX4_answerOfPress_35 ?_
    refine jw_goto (tgt := 41) hC dX4_answerOfPress_36 (by decide) ?_
    refine jw_iret hC dX4_answerOfPress_41 ?_
    first
    | (refine ⟨?_, lk_tr tlk g2⟩
       rw [← tan, ← t83]
       unfold a_ans f_ans
       rw [if_pos (by omega)])
    | (refine ⟨?_, tlk⟩
       rw [← tan, ← t83]
       unfold a_ans f_ans
       rw [if_neg (by omega)])
set_option maxRecDepth 100000 in
set_option maxHeartbeats 4000000 in
theorem c_X4_leastHarm (l : Launch) (E : ewE) (M : ewM) (h0 : st0 M) (a : Int) (ha : 0 ≤ a ∧ a < 3) (t : Int) (ht : 0 ≤ t ∧ t < 8) : Ct l E yX4_leastHarm (.code yX4_leastHarm cX4_leastHarm 8 (some .int)) 5 [vR E 77, vI a, vI t] M (fun v M1 => v = some (vI (f_bs (fun k => a_ans M (f_rel (M 51) a t) (k % 12) (k / 12)) 144)) ∧ lk M M1) := by
  refine ct_of (L0 := [(0, vR E 77), (1, vI a), (2, vI t)]) (by decide +kernel) rfl (Nat.le_of_ble_eq_true rfl) ?_
  intro zp ze zs zm za zb zt zc zA hC
  obtain ⟨p1, p2, p3, p4, p5, p6, p7, p8⟩ := id h0
  have K38 : ∀ (n : Nat) (yy xx best few : Int) (M1 : ewM), 156 - (13 * yy + xx) < n → 0 ≤ yy → yy < 12 → 0 ≤ xx → xx ≤ 12 → best = f_bs (fun k => a_ans M (f_rel (M 51) a t) (k % 12) (k / 12)) (12 * yy + xx).toNat → ((few = 145 ∧ f_ln (fun k => a_ans M (f_rel (M 51) a t) (k % 12) (k / 12)) (12 * yy + xx).toNat = 1000000) ∨ (0 ≤ few ∧ few ≤ 144 ∧ few + 100 = f_ln (fun k => a_ans M (f_rel (M 51) a t) (k % 12) (k / 12)) (12 * yy + xx).toNat)) → lk M M1 → M1 83 = f_rel (M 51) a t → jJ zp l ze (ct_rm 5) zs zm za zb zt zc E zA 8 0 0 (MQ zb (ct_Q E zA (fun v M1 => v = some (vI (f_bs (fun k => a_ans M (f_rel (M 51) a t) (k % 12) (k / 12)) 144)) ∧ lk M M1)) za zs 0 0 zA) 38 [(0, vR E 77), (1, vI a), (2, vI t), (3, vI best), (4, vI few), (5, vI yy), (6, vI xx)] [] M1 := by
    intro n
    induction n with
    | zero => intros; omega
    | succ n ih =>
      intro yy xx best few M1 i1 i2 i3 i4 i5 hbs hfw lk0 l83
      have hs := f_ln_s (fun k => a_ans M (f_rel (M 51) a t) (k % 12) (k / 12)) (k := 12 * yy + xx) (by omega)
      refine jw_iload hC dX4_leastHarm_38 6 rfl ?_
      refine jw_bipush hC dX4_leastHarm_40 (by decide) ?_
      refine jw_icmp_ge (tgt := 100) hC dX4_leastHarm_42 (by decide) (by omega) (by omega) (by omega) (by omega) (fun h42 => ?_) (fun h42 => ?_)
      · skip
        refine jw_iinc (L' := [(5, _), (0, _), (1, _), (2, _), (3, _), (4, _), (6, _)]) hC dX4_leastHarm_100 5 rfl (by decide) rfl ?_
        refine jw_goto (tgt := 23) hC dX4_leastHarm_103 (by decide) ?_
        refine jw_iload hC dX4_leastHarm_23 0 rfl ?_
        refine jw_bipush hC dX4_leastHarm_25 (by decide) ?_
        refine jw_icmp_ge (tgt := 106) hC dX4_leastHarm_27 (by decide) (by omega) (by omega) (by omega) (by omega) (fun h27 => ?_) (fun h27 => ?_)
        · skip
          refine jw_iload_n hC dX4_leastHarm_106 4 rfl rfl ?_
          refine jw_iret hC dX4_leastHarm_107 ?_
          refine ⟨?_, lk0⟩
          first
          | (have e9 : 12 * yy + xx = 144 := by omega
             rw [hbs, e9]
             rfl)
          | (have hln : f_ln (fun k => a_ans M (f_rel (M 51) a t) (k % 12) (k / 12)) (12 * yy + xx).toNat ≤ 100 := by omega
             have hfx := (f_bs_100 hln (144 - (12 * yy + xx).toNat)).1
             rw [show (12 * yy + xx).toNat + (144 - (12 * yy + xx).toNat) = 144 by omega] at hfx
             rw [hbs, hfx])
        · skip
          refine jw_iload hC dX4_leastHarm_30 5 rfl ?_
          refine jw_if_le (tgt := 106) hC dX4_leastHarm_32 (by decide) (by omega) (by omega) (fun h32 => ?_) (fun h32 => ?_)
          · skip
            refine jw_iload_n hC dX4_leastHarm_106 4 rfl rfl ?_
            refine jw_iret hC dX4_leastHarm_107 ?_
            refine ⟨?_, lk0⟩
            first
            | (have e9 : 12 * yy + xx = 144 := by omega
               rw [hbs, e9]
               rfl)
            | (have hln : f_ln (fun k => a_ans M (f_rel (M 51) a t) (k % 12) (k / 12)) (12 * yy + xx).toNat ≤ 100 := by omega
               have hfx := (f_bs_100 hln (144 - (12 * yy + xx).toNat)).1
               rw [show (12 * yy + xx).toNat + (144 - (12 * yy + xx).toNat) = 144 by omega] at hfx
               rw [hbs, hfx])
          · skip
            refine jw_iconst hC dX4_leastHarm_35 ?_
            refine jw_istore (L' := [(6, _), (5, _), (0, _), (1, _), (2, _), (3, _), (4, _)]) hC dX4_leastHarm_36 (by decide) rfl ?_
            refine jw_loc (L' := [(0, _), (1, _), (2, _), (3, _), (4, _), (5, _), (6, _)]) [2, 3, 4, 5, 6, 1, 0] rfl ?_
            first
            | exact ih (yy + 1) 0 _ _ _ (by omega) (by omega) (by omega) (by omega) (by omega) (by rw [show 12 * (yy + 1) + 0 = 12 * yy + xx by omega]; exact hbs) (by rw [show 12 * (yy + 1) + 0 = 12 * yy + xx by omega]; exact hfw) lk0 l83
            | (rw [show (12 * yy + xx) % 12 = xx by omega, show (12 * yy + xx) / 12 = yy by omega] at hs
               have hc9 : ¬ (100 ≤ a_ans M (f_rel (M 51) a t) xx yy ∧ a_ans M (f_rel (M 51) a t) xx yy < f_ln (fun k => a_ans M (f_rel (M 51) a t) (k % 12) (k / 12)) (12 * yy + xx).toNat) := by
                 rw [han]
                 first | (rw [if_neg (by omega)]; omega) | (rw [if_pos (by omega)]; omega)
               rw [if_neg hc9, if_neg hc9] at hs
               first
               | exact ih yy (xx + 1) _ _ _ (by omega) (by omega) (by omega) (by omega) (by omega) (by rw [show 12 * yy + (xx + 1) = 12 * yy + xx + 1 by omega, hs.2]; exact hbs) (by rw [show 12 * yy + (xx + 1) = 12 * yy + xx + 1 by omega, hs.1]; exact hfw) lk0 l83
               | exact ih yy (xx + 1) _ _ _ (by omega) (by omega) (by omega) (by omega) (by omega) (by rw [show 12 * yy + (xx + 1) = 12 * yy + xx + 1 by omega, hs.2]; exact hbs) (by rw [show 12 * yy + (xx + 1) = 12 * yy + xx + 1 by omega, hs.1]; exact hfw) (lk_tr lk0 g2) (g3.trans l83))
            | (rw [show (12 * yy + xx) % 12 = xx by omega, show (12 * yy + xx) / 12 = yy by omega] at hs
               have hc9 : (100 ≤ a_ans M (f_rel (M 51) a t) xx yy ∧ a_ans M (f_rel (M 51) a t) xx yy < f_ln (fun k => a_ans M (f_rel (M 51) a t) (k % 12) (k / 12)) (12 * yy + xx).toNat) := by
                 rw [han, if_pos (by omega)]
                 omega
               rw [if_pos hc9, if_pos hc9] at hs
               exact ih yy (xx + 1) _ _ _ (by omega) (by omega) (by omega) (by omega) (by omega) (by rw [show 12 * yy + (xx + 1) = 12 * yy + xx + 1 by omega, hs.2]) (by rw [show 12 * yy + (xx + 1) = 12 * yy + xx + 1 by omega, hs.1, han, if_pos (by omega)]; omega) (lk_tr lk0 g2) (g3.trans l83))
      · skip
        refine jw_iload hC dX4_leastHarm_45 4 rfl ?_
        refine jw_if_le (tgt := 100) hC dX4_leastHarm_47 (by decide) (by omega) (by omega) (fun h47 => ?_) (fun h47 => ?_)
        · skip
          refine jw_iinc (L' := [(5, _), (0, _), (1, _), (2, _), (3, _), (4, _), (6, _)]) hC dX4_leastHarm_100 5 rfl (by decide) rfl ?_
          refine jw_goto (tgt := 23) hC dX4_leastHarm_103 (by decide) ?_
          refine jw_iload hC dX4_leastHarm_23 0 rfl ?_
          refine jw_bipush hC dX4_leastHarm_25 (by decide) ?_
          refine jw_icmp_ge (tgt := 106) hC dX4_leastHarm_27 (by decide) (by omega) (by omega) (by omega) (by omega) (fun h27 => ?_) (fun h27 => ?_)
          · skip
            refine jw_iload_n hC dX4_leastHarm_106 4 rfl rfl ?_
            refine jw_iret hC dX4_leastHarm_107 ?_
            refine ⟨?_, lk0⟩
            first
            | (have e9 : 12 * yy + xx = 144 := by omega
               rw [hbs, e9]
               rfl)
            | (have hln : f_ln (fun k => a_ans M (f_rel (M 51) a t) (k % 12) (k / 12)) (12 * yy + xx).toNat ≤ 100 := by omega
               have hfx := (f_bs_100 hln (144 - (12 * yy + xx).toNat)).1
               rw [show (12 * yy + xx).toNat + (144 - (12 * yy + xx).toNat) = 144 by omega] at hfx
               rw [hbs, hfx])
          · skip
            refine jw_iload hC dX4_leastHarm_30 5 rfl ?_
            refine jw_if_le (tgt := 106) hC dX4_leastHarm_32 (by decide) (by omega) (by omega) (fun h32 => ?_) (fun h32 => ?_)
            · skip
              refine jw_iload_n hC dX4_leastHarm_106 4 rfl rfl ?_
              refine jw_iret hC dX4_leastHarm_107 ?_
              refine ⟨?_, lk0⟩
              first
              | (have e9 : 12 * yy + xx = 144 := by omega
                 rw [hbs, e9]
                 rfl)
              | (have hln : f_ln (fun k => a_ans M (f_rel (M 51) a t) (k % 12) (k / 12)) (12 * yy + xx).toNat ≤ 100 := by omega
                 have hfx := (f_bs_100 hln (144 - (12 * yy + xx).toNat)).1
                 rw [show (12 * yy + xx).toNat + (144 - (12 * yy + xx).toNat) = 144 by omega] at hfx
                 rw [hbs, hfx])
            · skip
              refine jw_iconst hC dX4_leastHarm_35 ?_
              refine jw_istore (L' := [(6, _), (5, _), (0, _), (1, _), (2, _), (3, _), (4, _)]) hC dX4_leastHarm_36 (by decide) rfl ?_
              refine jw_loc (L' := [(0, _), (1, _), (2, _), (3, _), (4, _), (5, _), (6, _)]) [2, 3, 4, 5, 6, 1, 0] rfl ?_
              first
              | exact ih (yy + 1) 0 _ _ _ (by omega) (by omega) (by omega) (by omega) (by omega) (by rw [show 12 * (yy + 1) + 0 = 12 * yy + xx by omega]; exact hbs) (by rw [show 12 * (yy + 1) + 0 = 12 * yy + xx by omega]; exact hfw) lk0 l83
              | (rw [show (12 * yy + xx) % 12 = xx by omega, show (12 * yy + xx) / 12 = yy by omega] at hs
                 have hc9 : ¬ (100 ≤ a_ans M (f_rel (M 51) a t) xx yy ∧ a_ans M (f_rel (M 51) a t) xx yy < f_ln (fun k => a_ans M (f_rel (M 51) a t) (k % 12) (k / 12)) (12 * yy + xx).toNat) := by
                   rw [han]
                   first | (rw [if_neg (by omega)]; omega) | (rw [if_pos (by omega)]; omega)
                 rw [if_neg hc9, if_neg hc9] at hs
                 first
                 | exact ih yy (xx + 1) _ _ _ (by omega) (by omega) (by omega) (by omega) (by omega) (by rw [show 12 * yy + (xx + 1) = 12 * yy + xx + 1 by omega, hs.2]; exact hbs) (by rw [show 12 * yy + (xx + 1) = 12 * yy + xx + 1 by omega, hs.1]; exact hfw) lk0 l83
                 | exact ih yy (xx + 1) _ _ _ (by omega) (by omega) (by omega) (by omega) (by omega) (by rw [show 12 * yy + (xx + 1) = 12 * yy + xx + 1 by omega, hs.2]; exact hbs) (by rw [show 12 * yy + (xx + 1) = 12 * yy + xx + 1 by omega, hs.1]; exact hfw) (lk_tr lk0 g2) (g3.trans l83))
              | (rw [show (12 * yy + xx) % 12 = xx by omega, show (12 * yy + xx) / 12 = yy by omega] at hs
                 have hc9 : (100 ≤ a_ans M (f_rel (M 51) a t) xx yy ∧ a_ans M (f_rel (M 51) a t) xx yy < f_ln (fun k => a_ans M (f_rel (M 51) a t) (k % 12) (k / 12)) (12 * yy + xx).toNat) := by
                   rw [han, if_pos (by omega)]
                   omega
                 rw [if_pos hc9, if_pos hc9] at hs
                 exact ih yy (xx + 1) _ _ _ (by omega) (by omega) (by omega) (by omega) (by omega) (by rw [show 12 * yy + (xx + 1) = 12 * yy + xx + 1 by omega, hs.2]) (by rw [show 12 * yy + (xx + 1) = 12 * yy + xx + 1 by omega, hs.1, han, if_pos (by omega)]; omega) (lk_tr lk0 g2) (g3.trans l83))
        · skip
          refine jw_aload_n hC dX4_leastHarm_50 0 rfl rfl ?_
          refine jw_iload hC dX4_leastHarm_51 6 rfl ?_
          refine jw_iload hC dX4_leastHarm_53 5 rfl ?_
          refine jw_callV hC (c_X4_refusal l E M1 (lk_st0 lk0 h0) _ _ (by omega) (by omega) (by omega) (by omega) (by rw [l83]; exact f_rel_D p3 a t)) sV_X4_151 ewF_x4.o dX4_leastHarm_55 rfl rfl ⟨Nat.le_of_ble_eq_true rfl, Nat.le_of_ble_eq_true rfl⟩ ⟨Nat.zero_le _, Nat.zero_le _⟩ (Nat.le_of_ble_eq_true rfl) (fun v55 M55 g55 => ?_)
          obtain ⟨rfl, rfl⟩ := g55
          have hrb := f_rsn_b (M1 83) (xx + M1 50 3) yy (M1 52 2)
          have han : a_ans M (f_rel (M 51) a t) xx yy = if f_rsn (M1 83) (xx + M1 50 3) yy (M1 52 2) = 0 then 100 + f_cks (M1 83) (xx + M1 50 3) yy (M1 1) (M1 3) (M1 52 0) (M1 52 1) else f_rsn (M1 83) (xx + M1 50 3) yy (M1 52 2) := by
            rw [← lk_ans lk0, ← l83]
            rfl
          have hcb := f_cks_b (r := M1 83) (left := xx + M1 50 3) (top := yy) (d := M1 1) (c := M1 3) (b := M1 52 0) (t := M1 52 1) (lk_st0 lk0 h0).2.1
          refine jw_if_eq (tgt := 64) hC dX4_leastHarm_58 (by decide) (by omega) (by omega) (fun h58 => ?_) (fun h58 => ?_)
          · skip
            refine jw_aload_n hC dX4_leastHarm_64 0 rfl rfl ?_
            refine jw_iload hC dX4_leastHarm_65 6 rfl ?_
            refine jw_iload hC dX4_leastHarm_67 5 rfl ?_
            refine jw_callV hC (c_X4_cracksOfRelief l E M1 (lk_st0 lk0 h0) _ _ (by omega) (by omega) (by omega) (by omega) (by rw [l83]; exact f_rel_D p3 a t)) sV_X4_330 ewF_x4.o dX4_leastHarm_69 rfl rfl ⟨Nat.le_of_ble_eq_true rfl, Nat.le_of_ble_eq_true rfl⟩ ⟨Nat.zero_le _, Nat.zero_le _⟩ (Nat.le_of_ble_eq_true rfl) (fun v69 M69 g69 => ?_)
            obtain ⟨rfl, g2, g3⟩ := g69
            refine jw_istore (L' := [(7, _), (0, _), (1, _), (2, _), (3, _), (4, _), (5, _), (6, _)]) hC dX4_leastHarm_72 (by decide) rfl ?_
            refine jw_iload hC dX4_leastHarm_74 0 rfl ?_
            refine jw_iload hC dX4_leastHarm_76 5 rfl ?_
            refine jw_icmp_ge (tgt := 94) hC dX4_leastHarm_78 (by decide) (by omega) (by omega) (by omega) (by omega) (fun h78 => ?_) (fun h78 => ?_)
            · skip
              refine jw_iinc (L' := [(6, _), (7, _), (0, _), (1, _), (2, _), (3, _), (4, _), (5, _)]) hC dX4_leastHarm_94 7 rfl (by decide) rfl ?_
              refine jw_goto (tgt := 38) hC dX4_leastHarm_97 (by decide) ?_
              refine jw_loc (L' := [(0, _), (1, _), (2, _), (3, _), (4, _), (5, _), (6, _)]) [2, 3, 4, 5, 6, 7, 0] rfl ?_
              first
              | exact ih (yy + 1) 0 _ _ _ (by omega) (by omega) (by omega) (by omega) (by omega) (by rw [show 12 * (yy + 1) + 0 = 12 * yy + xx by omega]; exact hbs) (by rw [show 12 * (yy + 1) + 0 = 12 * yy + xx by omega]; exact hfw) lk0 l83
              | (rw [show (12 * yy + xx) % 12 = xx by omega, show (12 * yy + xx) / 12 = yy by omega] at hs
                 have hc9 : ¬ (100 ≤ a_ans M (f_rel (M 51) a t) xx yy ∧ a_ans M (f_rel (M 51) a t) xx yy < f_ln (fun k => a_ans M (f_rel (M 51) a t) (k % 12) (k / 12)) (12 * yy + xx).toNat) := by
                   rw [han]
                   first | (rw [if_neg (by omega)]; omega) | (rw [if_pos (by omega)]; omega)
                 rw [if_neg hc9, if_neg hc9] at hs
                 first
                 | exact ih yy (xx + 1) _ _ _ (by omega) (by omega) (by omega) (by omega) (by omega) (by rw [show 12 * yy + (xx + 1) = 12 * yy + xx + 1 by omega, hs.2]; exact hbs) (by rw [show 12 * yy + (xx + 1) = 12 * yy + xx + 1 by omega, hs.1]; exact hfw) lk0 l83
                 | exact ih yy (xx + 1) _ _ _ (by omega) (by omega) (by omega) (by omega) (by omega) (by rw [show 12 * yy + (xx + 1) = 12 * yy + xx + 1 by omega, hs.2]; exact hbs) (by rw [show 12 * yy + (xx + 1) = 12 * yy + xx + 1 by omega, hs.1]; exact hfw) (lk_tr lk0 g2) (g3.trans l83))
              | (rw [show (12 * yy + xx) % 12 = xx by omega, show (12 * yy + xx) / 12 = yy by omega] at hs
                 have hc9 : (100 ≤ a_ans M (f_rel (M 51) a t) xx yy ∧ a_ans M (f_rel (M 51) a t) xx yy < f_ln (fun k => a_ans M (f_rel (M 51) a t) (k % 12) (k / 12)) (12 * yy + xx).toNat) := by
                   rw [han, if_pos (by omega)]
                   omega
                 rw [if_pos hc9, if_pos hc9] at hs
                 exact ih yy (xx + 1) _ _ _ (by omega) (by omega) (by omega) (by omega) (by omega) (by rw [show 12 * yy + (xx + 1) = 12 * yy + xx + 1 by omega, hs.2]) (by rw [show 12 * yy + (xx + 1) = 12 * yy + xx + 1 by omega, hs.1, han, if_pos (by omega)]; omega) (lk_tr lk0 g2) (g3.trans l83))
            · skip
              refine jw_iload hC dX4_leastHarm_81 0 rfl ?_
              refine jw_istore (L' := [(4, _), (7, _), (0, _), (1, _), (2, _), (3, _), (5, _), (6, _)]) hC dX4_leastHarm_83 (by decide) rfl ?_
              refine jw_bipush hC dX4_leastHarm_85 (by decide) ?_
              refine jw_iload hC dX4_leastHarm_87 6 rfl ?_
              refine jw_imul hC dX4_leastHarm_89 ?_
              refine jw_iload hC dX4_leastHarm_90 7 rfl ?_
              refine jw_iadd hC dX4_leastHarm_92 ?_
              refine jw_istore_n (L' := [(3, _), (4, _), (7, _), (0, _), (1, _), (2, _), (5, _), (6, _)]) hC dX4_leastHarm_93 rfl (by decide) rfl ?_
              refine jw_iinc (L' := [(6, _), (3, _), (4, _), (7, _), (0, _), (1, _), (2, _), (5, _)]) hC dX4_leastHarm_94 7 rfl (by decide) rfl ?_
              refine jw_goto (tgt := 38) hC dX4_leastHarm_97 (by decide) ?_
              refine jw_loc (L' := [(0, _), (1, _), (2, _), (3, _), (4, _), (5, _), (6, _)]) [4, 5, 6, 1, 2, 7, 0] rfl ?_
              first
              | exact ih (yy + 1) 0 _ _ _ (by omega) (by omega) (by omega) (by omega) (by omega) (by rw [show 12 * (yy + 1) + 0 = 12 * yy + xx by omega]; exact hbs) (by rw [show 12 * (yy + 1) + 0 = 12 * yy + xx by omega]; exact hfw) lk0 l83
              | (rw [show (12 * yy + xx) % 12 = xx by omega, show (12 * yy + xx) / 12 = yy by omega] at hs
                 have hc9 : ¬ (100 ≤ a_ans M (f_rel (M 51) a t) xx yy ∧ a_ans M (f_rel (M 51) a t) xx yy < f_ln (fun k => a_ans M (f_rel (M 51) a t) (k % 12) (k / 12)) (12 * yy + xx).toNat) := by
                   rw [han]
                   first | (rw [if_neg (by omega)]; omega) | (rw [if_pos (by omega)]; omega)
                 rw [if_neg hc9, if_neg hc9] at hs
                 first
                 | exact ih yy (xx + 1) _ _ _ (by omega) (by omega) (by omega) (by omega) (by omega) (by rw [show 12 * yy + (xx + 1) = 12 * yy + xx + 1 by omega, hs.2]; exact hbs) (by rw [show 12 * yy + (xx + 1) = 12 * yy + xx + 1 by omega, hs.1]; exact hfw) lk0 l83
                 | exact ih yy (xx + 1) _ _ _ (by omega) (by omega) (by omega) (by omega) (by omega) (by rw [show 12 * yy + (xx + 1) = 12 * yy + xx + 1 by omega, hs.2]; exact hbs) (by rw [show 12 * yy + (xx + 1) = 12 * yy + xx + 1 by omega, hs.1]; exact hfw) (lk_tr lk0 g2) (g3.trans l83))
              | (rw [show (12 * yy + xx) % 12 = xx by omega, show (12 * yy + xx) / 12 = yy by omega] at hs
                 have hc9 : (100 ≤ a_ans M (f_rel (M 51) a t) xx yy ∧ a_ans M (f_rel (M 51) a t) xx yy < f_ln (fun k => a_ans M (f_rel (M 51) a t) (k % 12) (k / 12)) (12 * yy + xx).toNat) := by
                   rw [han, if_pos (by omega)]
                   omega
                 rw [if_pos hc9, if_pos hc9] at hs
                 exact ih yy (xx + 1) _ _ _ (by omega) (by omega) (by omega) (by omega) (by omega) (by rw [show 12 * yy + (xx + 1) = 12 * yy + xx + 1 by omega, hs.2]) (by rw [show 12 * yy + (xx + 1) = 12 * yy + xx + 1 by omega, hs.1, han, if_pos (by omega)]; omega) (lk_tr lk0 g2) (g3.trans l83))
          · skip
            refine jw_goto (tgt := 94) hC dX4_leastHarm_61 (by decide) ?_
            refine jw_iinc (L' := [(6, _), (0, _), (1, _), (2, _), (3, _), (4, _), (5, _)]) hC dX4_leastHarm_94 6 rfl (by decide) rfl ?_
            refine jw_goto (tgt := 38) hC dX4_leastHarm_97 (by decide) ?_
            refine jw_loc (L' := [(0, _), (1, _), (2, _), (3, _), (4, _), (5, _), (6, _)]) [1, 2, 3, 4, 5, 6, 0] rfl ?_
            first
            | exact ih (yy + 1) 0 _ _ _ (by omega) (by omega) (by omega) (by omega) (by omega) (by rw [show 12 * (yy + 1) + 0 = 12 * yy + xx by omega]; exact hbs) (by rw [show 12 * (yy + 1) + 0 = 12 * yy + xx by omega]; exact hfw) lk0 l83
            | (rw [show (12 * yy + xx) % 12 = xx by omega, show (12 * yy + xx) / 12 = yy by omega] at hs
               have hc9 : ¬ (100 ≤ a_ans M (f_rel (M 51) a t) xx yy ∧ a_ans M (f_rel (M 51) a t) xx yy < f_ln (fun k => a_ans M (f_rel (M 51) a t) (k % 12) (k / 12)) (12 * yy + xx).toNat) := by
                 rw [han]
                 first | (rw [if_neg (by omega)]; omega) | (rw [if_pos (by omega)]; omega)
               rw [if_neg hc9, if_neg hc9] at hs
               first
               | exact ih yy (xx + 1) _ _ _ (by omega) (by omega) (by omega) (by omega) (by omega) (by rw [show 12 * yy + (xx + 1) = 12 * yy + xx + 1 by omega, hs.2]; exact hbs) (by rw [show 12 * yy + (xx + 1) = 12 * yy + xx + 1 by omega, hs.1]; exact hfw) lk0 l83
               | exact ih yy (xx + 1) _ _ _ (by omega) (by omega) (by omega) (by omega) (by omega) (by rw [show 12 * yy + (xx + 1) = 12 * yy + xx + 1 by omega, hs.2]; exact hbs) (by rw [show 12 * yy + (xx + 1) = 12 * yy + xx + 1 by omega, hs.1]; exact hfw) (lk_tr lk0 g2) (g3.trans l83))
            | (rw [show (12 * yy + xx) % 12 = xx by omega, show (12 * yy + xx) / 12 = yy by omega] at hs
               have hc9 : (100 ≤ a_ans M (f_rel (M 51) a t) xx yy ∧ a_ans M (f_rel (M 51) a t) xx yy < f_ln (fun k => a_ans M (f_rel (M 51) a t) (k % 12) (k / 12)) (12 * yy + xx).toNat) := by
                 rw [han, if_pos (by omega)]
                 omega
               rw [if_pos hc9, if_pos hc9] at hs
               exact ih yy (xx + 1) _ _ _ (by omega) (by omega) (by omega) (by omega) (by omega) (by rw [show 12 * yy + (xx + 1) = 12 * yy + xx + 1 by omega, hs.2]) (by rw [show 12 * yy + (xx + 1) = 12 * yy + xx + 1 by omega, hs.1, han, if_pos (by omega)]; omega) (lk_tr lk0 g2) (g3.trans l83))
  refine jw_aload_n hC dX4_leastHarm_0 0 rfl rfl ?_
  refine jw_getr hC fL_X4_12 ewR_x0 dX4_leastHarm_1 ?_
  refine jw_iload_n hC dX4_leastHarm_4 1 rfl rfl ?_
  refine jw_iload_n hC dX4_leastHarm_5 2 rfl rfl ?_
  refine jw_aload_n hC dX4_leastHarm_6 0 rfl rfl ?_
  refine jw_getr hC fL_X4_34 ewR_x7 dX4_leastHarm_7 ?_
  refine jw_callV hC (c_X3_turnDie l E M 0 (by decide) _ _ ha ht p3) sV_X4_147 (show ewO 50 6 from ewO_state (j := 0) (by decide)) dX4_leastHarm_10 rfl rfl ⟨Nat.le_of_ble_eq_true rfl, Nat.le_of_ble_eq_true rfl⟩ ⟨Nat.zero_le _, Nat.zero_le _⟩ (Nat.le_of_ble_eq_true rfl) (fun v10 M10 g10 => ?_)
  obtain ⟨rfl, hM10⟩ := g10
  have hM10 : M10 = mset M 83 (f_rel (M 51) a t) := hM10
  have t83 : M10 83 = f_rel (M 51) a t := by rw [hM10, mset_at]
  have tlk : lk M M10 := fun o ho => by rw [hM10, mset_ne _ _ (by omega)]
  have hrD : pD (M10 83) := by rw [t83]; exact f_rel_D p3 a t
  have th0 := lk_st0 tlk h0
  have tan := lk_ans tlk (f_rel (M 51) a t)
  refine jw_iconst hC dX4_leastHarm_13 ?_
  refine jw_istore_n (L' := [(3, _), (0, _), (1, _), (2, _)]) hC dX4_leastHarm_14 rfl (by decide) rfl ?_
  refine jw_sipush hC dX4_leastHarm_15 (by decide) ?_
  refine jw_istore (L' := [(4, _), (3, _), (0, _), (1, _), (2, _)]) hC dX4_leastHarm_18 (by decide) rfl ?_
  refine jw_iconst hC dX4_leastHarm_20 ?_
  refine jw_istore (L' := [(5, _), (4, _), (3, _), (0, _), (1, _), (2, _)]) hC dX4_leastHarm_21 (by decide) rfl ?_
  refine jw_iload hC dX4_leastHarm_23 0 rfl ?_
  refine jw_bipush hC dX4_leastHarm_25 (by decide) ?_
  refine jw_icmp_ge (tgt := 106) hC dX4_leastHarm_27 (by decide) (by omega) (by omega) (by omega) (by omega) (fun h27 => ?_) (fun h27 => ?_)
  · skip
    exfalso; omega
  · skip
    refine jw_iload hC dX4_leastHarm_30 1 rfl ?_
    refine jw_if_le (tgt := 106) hC dX4_leastHarm_32 (by decide) (by omega) (by omega) (fun h32 => ?_) (fun h32 => ?_)
    · skip
      exfalso; omega
    · skip
      refine jw_iconst hC dX4_leastHarm_35 ?_
      refine jw_istore (L' := [(6, _), (5, _), (4, _), (3, _), (0, _), (1, _), (2, _)]) hC dX4_leastHarm_36 (by decide) rfl ?_
      refine jw_loc (L' := [(0, _), (1, _), (2, _), (3, _), (4, _), (5, _), (6, _)]) [4, 5, 6, 3, 2, 1, 0] rfl ?_
      exact K38 157 0 0 _ _ M10 (by omega) (by omega) (by omega) (by omega) (by omega) rfl (Or.inl ⟨rfl, rfl⟩) tlk t83
set_option maxRecDepth 100000 in
set_option maxHeartbeats 4000000 in
theorem c_X4_leastBearing (l : Launch) (E : ewE) (M : ewM) (h0 : st0 M) (a : Int) (ha : 0 ≤ a ∧ a < 3) (x y : Int) (x1 : -2147483648 ≤ x) (x2 : x < 2147483648) (y1 : -2147483648 ≤ y) (y2 : y < 2147483648) (t : Int) (ht : 0 ≤ t ∧ t < 8) : Ct l E yX4_leastBearing (.code yX4_leastBearing cX4_leastBearing 6 (some .int)) 4 [vR E 77, vI a, vI x, vI y, vI t] M (fun v M1 => v = some (vI (f_need (f_rel (M 51) a t) (x + M 50 3) y (M 1) (M 3) (M 52 1) (M 52 2))) ∧ lk M M1) := by
  refine ct_of (L0 := [(0, vR E 77), (1, vI a), (2, vI x), (3, vI y), (4, vI t)]) (by decide +kernel) rfl (Nat.le_of_ble_eq_true rfl) ?_
  intro zp ze zs zm za zb zt zc zA hC
  obtain ⟨p1, p2, p3, p4, p5, p6, p7, p8⟩ := id h0
  refine jw_aload_n hC dX4_leastBearing_0 0 rfl rfl ?_
  refine jw_getr hC fL_X4_12 ewR_x0 dX4_leastBearing_1 ?_
  refine jw_iload_n hC dX4_leastBearing_4 1 rfl rfl ?_
  refine jw_iload hC dX4_leastBearing_5 4 rfl ?_
  refine jw_aload_n hC dX4_leastBearing_7 0 rfl rfl ?_
  refine jw_getr hC fL_X4_34 ewR_x7 dX4_leastBearing_8 ?_
  refine jw_callV hC (c_X3_turnDie l E M 0 (by decide) _ _ ha ht p3) sV_X4_147 (show ewO 50 6 from ewO_state (j := 0) (by decide)) dX4_leastBearing_11 rfl rfl ⟨Nat.le_of_ble_eq_true rfl, Nat.le_of_ble_eq_true rfl⟩ ⟨Nat.zero_le _, Nat.zero_le _⟩ (Nat.le_of_ble_eq_true rfl) (fun v11 M11 g11 => ?_)
  obtain ⟨rfl, hM11⟩ := g11
  have hM11 : M11 = mset M 83 (f_rel (M 51) a t) := hM11
  have t83 : M11 83 = f_rel (M 51) a t := by rw [hM11, mset_at]
  have tlk : lk M M11 := fun o ho => by rw [hM11, mset_ne _ _ (by omega)]
  have hrD : pD (M11 83) := by rw [t83]; exact f_rel_D p3 a t
  have th0 := lk_st0 tlk h0
  have tan := lk_ans tlk (f_rel (M 51) a t)
  refine jw_aload_n hC dX4_leastBearing_14 0 rfl rfl ?_
  refine jw_iload_n hC dX4_leastBearing_15 2 rfl rfl ?_
  refine jw_iload_n hC dX4_leastBearing_16 3 rfl rfl ?_
  refine jw_callV hC (c_X4_refusal l E M11 th0 _ _ (by omega) (by omega) (by omega) (by omega) hrD) sV_X4_151 ewF_x4.o dX4_leastBearing_17 rfl rfl ⟨Nat.le_of_ble_eq_true rfl, Nat.le_of_ble_eq_true rfl⟩ ⟨Nat.zero_le _, Nat.zero_le _⟩ (Nat.le_of_ble_eq_true rfl) (fun v17 M17 g17 => ?_)
  obtain ⟨rfl, rfl⟩ := g17
  have hrb := f_rsn_b (M11 83) (x + M11 50 3) y (M11 52 2)
  refine jw_if_eq (tgt := 25) hC dX4_leastBearing_20 (by decide) (by omega) (by omega) (fun h20 => ?_) (fun h20 => ?_)
  · skip
    refine jw_aload_n hC dX4_leastBearing_25 0 rfl rfl ?_
    refine jw_getr hC fL_X4_41 ewR_x8 dX4_leastBearing_26 ?_
    refine jw_aload_n hC dX4_leastBearing_29 0 rfl rfl ?_
    refine jw_getr hC fL_X4_12 ewR_x0 dX4_leastBearing_30 ?_
    refine jw_getr hC fL_X4_88 (show ewR 50 6 2 0 from ewR_t2 (j := 0) (by decide)) dX4_leastBearing_33 ?_
    refine jw_callV hC (c_X2_copyStrength l E M11 9 (by decide) 0 (by decide)) sV_X4_333 (show ewO 45 5 from ewO_sheet (j := 9) (by decide)) dX4_leastBearing_36 rfl rfl ⟨Nat.le_of_ble_eq_true rfl, Nat.le_of_ble_eq_true rfl⟩ ⟨Nat.zero_le _, Nat.zero_le _⟩ (Nat.le_of_ble_eq_true rfl) (fun v36 M36 g36 => ?_)
    obtain ⟨rfl, hM36⟩ := g36
    have hM36 : M36 = mset (mset M11 46 (M11 1)) 48 (M11 3) := hM36
    have q46 : M36 46 = M11 1 := by rw [hM36, mset_ne _ _ (by decide), mset_at]
    have q48 : M36 48 = M11 3 := by rw [hM36, mset_at]
    have qo : ∀ o, o ≠ 46 → o ≠ 48 → M36 o = M11 o := fun o o1 o2 => by rw [hM36, mset_ne _ _ o2, mset_ne _ _ o1]
    refine jw_aload_n hC dX4_leastBearing_39 0 rfl rfl ?_
    refine jw_getr hC fL_X4_41 ewR_x8 dX4_leastBearing_40 ?_
    refine jw_aload_n hC dX4_leastBearing_43 0 rfl rfl ?_
    refine jw_getr hC fL_X4_34 ewR_x7 dX4_leastBearing_44 ?_
    refine jw_iload_n hC dX4_leastBearing_47 2 rfl rfl ?_
    refine jw_i2l hC dX4_leastBearing_48 (by omega) (by omega) ?_
    refine jw_aload_n hC dX4_leastBearing_49 0 rfl rfl ?_
    refine jw_getr hC fL_X4_12 ewR_x0 dX4_leastBearing_50 ?_
    refine jw_geti hC fL_X4_121.r (show ewF 50 6 3 from ewF_t (j := 0) (k := 3) (by decide) (by decide) (by decide)) (kI := 3) rfl dX4_leastBearing_53 (by omega) (fun b53 c53 => ?_)
    rw [qo 50 (by decide) (by decide), tlk 50 (by decide)] at b53 c53 ⊢
    refine jw_i2l hC dX4_leastBearing_56 (by omega) (by omega) ?_
    refine jw_ladd hC dX4_leastBearing_57 ?_
    refine jw_iload_n hC dX4_leastBearing_58 3 rfl rfl ?_
    refine jw_i2l hC dX4_leastBearing_59 (by omega) (by omega) ?_
    refine jw_callV hC (c_X2_emboss l E M36 9 (by decide) _ _ (by omega) (by omega) (by omega) (by omega) (by rw [qo 83 (by decide) (by decide)]; exact hrD) (show pD (M36 46) by rw [q46, tlk 1 (by decide)]; exact p1)) sV_X4_317 (show ewO 45 5 from ewO_sheet (j := 9) (by decide)) dX4_leastBearing_60 rfl rfl ⟨Nat.le_of_ble_eq_true rfl, Nat.le_of_ble_eq_true rfl⟩ ⟨Nat.zero_le _, Nat.zero_le _⟩ (Nat.le_of_ble_eq_true rfl) (fun v60 M60 g60 => ?_)
    obtain ⟨rfl, g1, g2, g3⟩ := g60
    have r46 : M60 46 = f_emb (M36 83) (x + M 50 3) y (M36 46) 25 := g1
    have ro : ∀ o, o ≠ 46 → o ≠ 49 → M60 o = M36 o := g3
    rw [qo 83 (by decide) (by decide), q46, t83, tlk 1 (by decide)] at r46
    have r48 : M60 48 = M 3 := (ro 48 (by decide) (by decide)).trans (q48.trans (tlk 3 (by decide)))
    have r52 : M60 52 = M 52 := (ro 52 (by decide) (by decide)).trans ((qo 52 (by decide) (by decide)).trans (tlk 52 (by decide)))
    have hD46 : pD (M60 46) := by rw [r46]; exact f_emb_D (f_rel_D p3 a t) p1 _ _ _
    have hC48 : pC (M60 48) := by rw [r48]; exact p2
    refine jw_aload_n hC dX4_leastBearing_63 0 rfl rfl ?_
    refine jw_getr hC fL_X4_41 ewR_x8 dX4_leastBearing_64 ?_
    refine jw_aload_n hC dX4_leastBearing_67 0 rfl rfl ?_
    refine jw_getr hC fL_X4_12 ewR_x0 dX4_leastBearing_68 ?_
    refine jw_getr hC fL_X4_165 (show ewR 50 6 1 52 from ewR_t1 (j := 0) (by decide)) dX4_leastBearing_71 ?_
    refine jw_iconst hC dX4_leastBearing_74 ?_
    refine jw_iald hC (show ewA 52 0 4 from ewA_settings (j := 0) (by decide)) dX4_leastBearing_75 (by omega) (by omega) (by decide) (fun b75 c75 => ?_)
    rw [r52] at b75 c75 ⊢
    refine jw_callV hC (c_X2_leastBearing l E M60 9 (by decide) _ p5 hD46 hC48) sV_X4_337 (show ewO 45 5 from ewO_sheet (j := 9) (by decide)) dX4_leastBearing_76 rfl rfl ⟨Nat.le_of_ble_eq_true rfl, Nat.le_of_ble_eq_true rfl⟩ ⟨Nat.zero_le _, Nat.zero_le _⟩ (Nat.le_of_ble_eq_true rfl) (fun v76 M76 g76 => ?_)
    obtain ⟨rfl, rfl⟩ := g76
    have hlb := f_least_b (d := M60 46) (c := M60 48) hD46 hC48 p5 144
    have hlb : 0 ≤ f_least (M60 (5 * 9 + 1)) (M60 (5 * 9 + 3)) (M 52 1) 144 ∧ f_least (M60 (5 * 9 + 1)) (M60 (5 * 9 + 3)) (M 52 1) 144 ≤ 116 := hlb
    have hgg : g_great (0 : Int).toNat = 99 := rfl
    refine jw_istore (L' := [(5, _), (0, _), (1, _), (2, _), (3, _), (4, _)]) hC dX4_leastBearing_79 (by decide) rfl ?_
    refine jw_iload hC dX4_leastBearing_81 0 rfl ?_
    refine jw_gets_great hC w2_198 dX4_leastBearing_83 ?_
    refine jw_iconst hC dX4_leastBearing_86 ?_
    refine jw_ild_great hC (by omega) (by omega) dX4_leastBearing_87 ?_
    refine jw_icmp_le (tgt := 95) hC dX4_leastBearing_88 (by decide) (by omega) (by omega) (by omega) (by omega) (fun h88 => ?_) (fun h88 => ?_)
    · skip
      refine jw_iload hC dX4_leastBearing_95 0 rfl ?_
      refine jw_iret hC dX4_leastBearing_97 ?_
      first
      | (refine ⟨?_, tlk⟩
         unfold f_need
         rw [← t83, ← tlk 50 (by decide), ← tlk 52 (by decide), if_neg (by omega)])
      | (refine ⟨?_, fun o ho => by rw [ro o (by omega) (by omega), qo o (by omega) (by omega), tlk o ho]⟩
         have z9 : f_least (M60 (5 * 9 + 1)) (M60 (5 * 9 + 3)) (M 52 1) 144 = f_least (f_emb (f_rel (M 51) a t) (x + M 50 3) y (M 1) 25) (M 3) (M 52 1) 144 := by
           show f_least (M60 46) (M60 48) (M 52 1) 144 = _
           rw [r46, r48]
         have z8 : g_great (0 : Int).toNat = 99 := rfl
         rw [z8, z9] at h88
         try rw [z9]
         unfold f_need
         rw [if_pos (by rw [← t83, ← tlk 50 (by decide), ← tlk 52 (by decide)]; exact h20)]
         first
         | rw [if_pos (by omega)]
         | rw [if_neg (by omega)])
    · skip
      refine jw_iconst hC dX4_leastBearing_91 ?_
      refine jw_goto (tgt := 97) hC dX4_leastBearing_92 (by decide) ?_
      refine jw_iret hC dX4_leastBearing_97 ?_
      first
      | (refine ⟨?_, tlk⟩
         unfold f_need
         rw [← t83, ← tlk 50 (by decide), ← tlk 52 (by decide), if_neg (by omega)])
      | (refine ⟨?_, fun o ho => by rw [ro o (by omega) (by omega), qo o (by omega) (by omega), tlk o ho]⟩
         have z9 : f_least (M60 (5 * 9 + 1)) (M60 (5 * 9 + 3)) (M 52 1) 144 = f_least (f_emb (f_rel (M 51) a t) (x + M 50 3) y (M 1) 25) (M 3) (M 52 1) 144 := by
           show f_least (M60 46) (M60 48) (M 52 1) 144 = _
           rw [r46, r48]
         have z8 : g_great (0 : Int).toNat = 99 := rfl
         rw [z8, z9] at h88
         try rw [z9]
         unfold f_need
         rw [if_pos (by rw [← t83, ← tlk 50 (by decide), ← tlk 52 (by decide)]; exact h20)]
         first
         | rw [if_pos (by omega)]
         | rw [if_neg (by omega)])
  · skip
    refine jw_iconst hC dX4_leastBearing_23 ?_
    refine jw_iret hC dX4_leastBearing_24 ?_
    first
    | (refine ⟨?_, tlk⟩
       unfold f_need
       rw [← t83, ← tlk 50 (by decide), ← tlk 52 (by decide), if_neg (by omega)])
    | (refine ⟨?_, fun o ho => by rw [ro o (by omega) (by omega), qo o (by omega) (by omega), tlk o ho]⟩
       have z9 : f_least (M60 (5 * 9 + 1)) (M60 (5 * 9 + 3)) (M 52 1) 144 = f_least (f_emb (f_rel (M 51) a t) (x + M 50 3) y (M 1) 25) (M 3) (M 52 1) 144 := by
         show f_least (M60 46) (M60 48) (M 52 1) 144 = _
         rw [r46, r48]
       have z8 : g_great (0 : Int).toNat = 99 := rfl
       rw [z8, z9] at h88
       try rw [z9]
       unfold f_need
       rw [if_pos (by rw [← t83, ← tlk 50 (by decide), ← tlk 52 (by decide)]; exact h20)]
       first
       | rw [if_pos (by omega)]
       | rw [if_neg (by omega)])
set_option maxRecDepth 100000 in
set_option maxHeartbeats 4000000 in
theorem c_X4_cracksOfFold (l : Launch) (E : ewE) (M : ewM) (h0 : st0 M) (row : Int) (hrow : 1 ≤ row ∧ row < 12) : Ct l E yX4_cracksOfFold (.code yX4_cracksOfFold cX4_cracksOfFold 5 (some .int)) 4 [vR E 77, vI row] M (fun v M1 => v = some (vI (f_fc (M 1) (M 3) row (M 52 0) (M 52 1))) ∧ lk M M1) := by
  refine ct_of (L0 := [(0, vR E 77), (1, vI row)]) (by decide +kernel) rfl (Nat.le_of_ble_eq_true rfl) ?_
  intro zp ze zs zm za zb zt zc zA hC
  obtain ⟨p1, p2, p3, p4, p5, p6, p7, p8⟩ := id h0
  refine jw_aload_n hC dX4_cracksOfFold_0 0 rfl rfl ?_
  refine jw_getr hC fL_X4_41 ewR_x8 dX4_cracksOfFold_1 ?_
  refine jw_aload_n hC dX4_cracksOfFold_4 0 rfl rfl ?_
  refine jw_getr hC fL_X4_12 ewR_x0 dX4_cracksOfFold_5 ?_
  refine jw_getr hC fL_X4_88 (show ewR 50 6 2 0 from ewR_t2 (j := 0) (by decide)) dX4_cracksOfFold_8 ?_
  refine jw_callV hC (c_X2_copyStrength l E M 9 (by decide) 0 (by decide)) sV_X4_333 (show ewO 45 5 from ewO_sheet (j := 9) (by decide)) dX4_cracksOfFold_11 rfl rfl ⟨Nat.le_of_ble_eq_true rfl, Nat.le_of_ble_eq_true rfl⟩ ⟨Nat.zero_le _, Nat.zero_le _⟩ (Nat.le_of_ble_eq_true rfl) (fun v11 M11 g11 => ?_)
  obtain ⟨rfl, hM11⟩ := g11
  have hM11 : M11 = mset (mset M 46 (M 1)) 48 (M 3) := hM11
  have q46 : M11 46 = M 1 := by rw [hM11, mset_ne _ _ (by decide), mset_at]
  have q48 : M11 48 = M 3 := by rw [hM11, mset_at]
  have qo : ∀ o, o ≠ 46 → o ≠ 48 → M11 o = M o := fun o o1 o2 => by rw [hM11, mset_ne _ _ o2, mset_ne _ _ o1]
  refine jw_aload_n hC dX4_cracksOfFold_14 0 rfl rfl ?_
  refine jw_getr hC fL_X4_12 ewR_x0 dX4_cracksOfFold_15 ?_
  refine jw_getr hC fL_X4_165 (show ewR 50 6 1 52 from ewR_t1 (j := 0) (by decide)) dX4_cracksOfFold_18 ?_
  refine jw_iconst hC dX4_cracksOfFold_21 ?_
  refine jw_iald hC (show ewA 52 0 4 from ewA_settings (j := 0) (by decide)) dX4_cracksOfFold_22 (by omega) (by omega) (by decide) (fun b22 c22 => ?_)
  rw [qo 52 (by decide) (by decide)] at b22 c22 ⊢
  refine jw_istore_n (L' := [(2, _), (0, _), (1, _)]) hC dX4_cracksOfFold_23 rfl (by decide) rfl ?_
  refine jw_aload_n hC dX4_cracksOfFold_24 1 rfl rfl ?_
  refine jw_getr hC fL_X4_12 ewR_x0 dX4_cracksOfFold_25 ?_
  refine jw_getr hC fL_X4_165 (show ewR 50 6 1 52 from ewR_t1 (j := 0) (by decide)) dX4_cracksOfFold_28 ?_
  refine jw_iconst hC dX4_cracksOfFold_31 ?_
  refine jw_iald hC (show ewA 52 0 4 from ewA_settings (j := 0) (by decide)) dX4_cracksOfFold_32 (by omega) (by omega) (by decide) (fun b32 c32 => ?_)
  rw [qo 52 (by decide) (by decide)] at b32 c32 ⊢
  refine jw_istore_n (L' := [(3, _), (2, _), (0, _), (1, _)]) hC dX4_cracksOfFold_33 rfl (by decide) rfl ?_
  refine jw_aload_n hC dX4_cracksOfFold_34 2 rfl rfl ?_
  refine jw_getr hC fL_X4_48 ewR_x9 dX4_cracksOfFold_35 ?_
  refine jw_aload_n hC dX4_cracksOfFold_38 2 rfl rfl ?_
  refine jw_getr hC fL_X4_41 ewR_x8 dX4_cracksOfFold_39 ?_
  refine jw_iload_n hC dX4_cracksOfFold_42 3 rfl rfl ?_
  refine jw_iload_n hC dX4_cracksOfFold_43 1 rfl rfl ?_
  refine jw_iload_n hC dX4_cracksOfFold_44 0 rfl rfl ?_
  refine jw_callV hC (c_X0_crackAtFold l E M11 9 (by decide) _ _ _ hrow p4 p5 (show pD (M11 46) by rw [q46]; exact p1) (show pC (M11 48) by rw [q48]; exact p2)) sV_X4_168 ewF_k3.o dX4_cracksOfFold_45 rfl rfl ⟨Nat.le_of_ble_eq_true rfl, Nat.le_of_ble_eq_true rfl⟩ ⟨Nat.zero_le _, Nat.zero_le _⟩ (Nat.le_of_ble_eq_true rfl) (fun v45 M45 g45 => ?_)
  obtain ⟨rfl, g2, g3⟩ := g45
  have u48 : M45 48 = f_brk (f_ovf (M11 46) (M11 48) row (M 52 0) (M 52 1)) (M11 48) := g2
  have uo : ∀ o, o ≠ 48 → o ≠ 84 → o ≠ 86 → o ≠ 87 → M45 o = M11 o := g3
  have u46 : M45 46 = M 1 := (uo 46 (by decide) (by decide) (by decide) (by decide)).trans q46
  rw [q46, q48] at u48
  refine jw_istore (L' := [(4, _), (3, _), (2, _), (0, _), (1, _)]) hC dX4_cracksOfFold_48 (by decide) rfl ?_
  refine jw_iload hC dX4_cracksOfFold_50 0 rfl ?_
  refine jw_aload_n hC dX4_cracksOfFold_52 3 rfl rfl ?_
  refine jw_getr hC fL_X4_48 ewR_x9 dX4_cracksOfFold_53 ?_
  refine jw_aload_n hC dX4_cracksOfFold_56 3 rfl rfl ?_
  refine jw_getr hC fL_X4_41 ewR_x8 dX4_cracksOfFold_57 ?_
  refine jw_iload_n hC dX4_cracksOfFold_60 2 rfl rfl ?_
  refine jw_iload_n hC dX4_cracksOfFold_61 1 rfl rfl ?_
  refine jw_callV hC (c_X0_crackAll l E M45 9 (by decide) _ _ p4 p5 (show pD (M45 46) by rw [u46]; exact p1) (show pC (M45 48) by rw [u48]; exact f_brk_C p2)) sV_X4_172 ewF_k3.o dX4_cracksOfFold_62 rfl rfl ⟨Nat.le_of_ble_eq_true rfl, Nat.le_of_ble_eq_true rfl⟩ ⟨Nat.zero_le _, Nat.zero_le _⟩ (Nat.le_of_ble_eq_true rfl) (fun v62 M62 g62 => ?_)
  obtain ⟨rfl, g2, g3, g4⟩ := g62
  refine jw_iadd hC dX4_cracksOfFold_65 ?_
  refine jw_iret hC dX4_cracksOfFold_66 ?_
  have e1 : f_sum (M45 (5 * 9 + 3)) 144 - f_sum (M11 (5 * 9 + 3)) 144 + (f_sum (f_it (M45 (5 * 9 + 1)) (M 52 0) (M 52 1) (M45 (5 * 9 + 3)) 144) 144 - f_sum (M45 (5 * 9 + 3)) 144) = f_fc (M 1) (M 3) row (M 52 0) (M 52 1) := by
    show f_sum (M45 48) 144 - f_sum (M11 48) 144 + (f_sum (f_it (M45 46) (M 52 0) (M 52 1) (M45 48) 144) 144 - f_sum (M45 48) 144) = _
    unfold f_fc
    rw [u46, u48, q48]
    omega
  have z4 : ∀ o, o ≠ 48 → (o < 84 ∨ 87 < o) → M62 o = M45 o := g4
  exact ⟨by rw [e1], fun o ho => by rw [z4 o (by omega) (by omega), uo o (by omega) (by omega) (by omega) (by omega), qo o (by omega) (by omega)]⟩
set_option maxRecDepth 100000 in
set_option maxHeartbeats 4000000 in
theorem c_X4_isTurnedTo (l : Launch) (E : ewE) (M : ewM) (h0 : st0 M) (a : Int) (ha : 0 ≤ a ∧ a < 3) (t : Int) (ht : 0 ≤ t ∧ t < 8) (o : Int) (ho : 0 ≤ o ∧ o < 3) : Ct l E yX4_isTurnedTo (.code yX4_isTurnedTo cX4_isTurnedTo 6 (some .boolean)) 3 [vR E 77, vI a, vI t, vI o] M (fun v M1 => v = some (vI (if f_eqt (M 51) a t o 25 = true then 1 else 0)) ∧ M = M1) := by
  refine ct_of (L0 := [(0, vR E 77), (1, vI a), (2, vI t), (3, vI o)]) (by decide +kernel) rfl (Nat.le_of_ble_eq_true rfl) ?_
  intro zp ze zs zm za zb zt zc zA hC
  obtain ⟨p1, p2, p3, p4, p5, p6, p7, p8⟩ := id h0
  have K12 : ∀ (n : Nat) (row col : Int), 30 - (6 * row + col) < n → 0 ≤ row → row < 5 → 0 ≤ col → col ≤ 5 → f_eqt (M 51) a t o (5 * row + col).toNat = true → jJ zp l ze (ct_rm 3) zs zm za zb zt zc E zA 6 0 0 (MQ zb (ct_Q E zA (fun v M1 => v = some (vI (if f_eqt (M 51) a t o 25 = true then 1 else 0)) ∧ M = M1)) za zs 0 0 zA) 12 [(0, vR E 77), (1, vI a), (2, vI t), (3, vI o), (4, vI row), (5, vI col)] [] M := by
    intro n
    induction n with
    | zero => intros; omega
    | succ n ih =>
      intro row col i1 i2 i3 i4 i5 heq
      refine jw_iload hC dX4_isTurnedTo_12 5 rfl ?_
      refine jw_iconst hC dX4_isTurnedTo_14 ?_
      refine jw_icmp_ge (tgt := 55) hC dX4_isTurnedTo_15 (by decide) (by omega) (by omega) (by omega) (by omega) (fun h15 => ?_) (fun h15 => ?_)
      · skip
        refine jw_iinc (L' := [(4, _), (0, _), (1, _), (2, _), (3, _), (5, _)]) hC dX4_isTurnedTo_55 4 rfl (by decide) rfl ?_
        refine jw_goto (tgt := 3) hC dX4_isTurnedTo_58 (by decide) ?_
        refine jw_iload hC dX4_isTurnedTo_3 0 rfl ?_
        refine jw_iconst hC dX4_isTurnedTo_5 ?_
        refine jw_icmp_ge (tgt := 61) hC dX4_isTurnedTo_6 (by decide) (by omega) (by omega) (by omega) (by omega) (fun h6 => ?_) (fun h6 => ?_)
        · skip
          refine jw_iconst hC dX4_isTurnedTo_61 ?_
          refine jw_zret hC (by omega) dX4_isTurnedTo_62 ?_
          refine ⟨?_, rfl⟩
          first
          | (have e9 : 5 * row + col = 25 := by omega
             rw [e9] at heq
             have heq9 : f_eqt (M 51) a t o 25 = true := heq
             rw [if_pos heq9])
          | (have hk := f_eqt_s (M 51) a t o (k := 5 * row + col) (by omega)
             rw [show (5 * row + col) % 5 = col by omega, show (5 * row + col) / 5 = row by omega] at hk
             have hne : decide (f_tp (M 51) a col row t = f_tp (M 51) o col row 0) = false := by simp; omega
             rw [hne, Bool.and_false] at hk
             have hfx := f_eqt_le hk (24 - (5 * row + col).toNat)
             rw [show (5 * row + col + 1).toNat + (24 - (5 * row + col).toNat) = 25 by omega] at hfx
             rw [if_neg (by rw [hfx]; decide)])
        · skip
          refine jw_iconst hC dX4_isTurnedTo_9 ?_
          refine jw_istore (L' := [(5, _), (4, _), (0, _), (1, _), (2, _), (3, _)]) hC dX4_isTurnedTo_10 (by decide) rfl ?_
          refine jw_loc (L' := [(0, _), (1, _), (2, _), (3, _), (4, _), (5, _)]) [2, 3, 4, 5, 1, 0] rfl ?_
          first
          | exact ih (row + 1) 0 (by omega) (by omega) (by omega) (by omega) (by omega) (by rw [show 5 * (row + 1) + 0 = 5 * row + col by omega]; exact heq)
          | (refine ih row (col + 1) (by omega) (by omega) (by omega) (by omega) (by omega) ?_
             rw [show 5 * row + (col + 1) = 5 * row + col + 1 by omega, f_eqt_s _ _ _ _ (by omega), heq, show (5 * row + col) % 5 = col by omega, show (5 * row + col) / 5 = row by omega]
             simp
             omega)
      · skip
        refine jw_aload_n hC dX4_isTurnedTo_18 0 rfl rfl ?_
        refine jw_getr hC fL_X4_12 ewR_x0 dX4_isTurnedTo_19 ?_
        refine jw_iload_n hC dX4_isTurnedTo_22 1 rfl rfl ?_
        refine jw_iload hC dX4_isTurnedTo_23 5 rfl ?_
        refine jw_iload hC dX4_isTurnedTo_25 4 rfl ?_
        refine jw_iload_n hC dX4_isTurnedTo_27 2 rfl rfl ?_
        refine jw_callV hC (c_X3_turnedPoint l E M 0 (by decide) _ _ _ _ ha ⟨by omega, by omega⟩ ⟨by omega, by omega⟩ ht) sV_X4_247 (show ewO 50 6 from ewO_state (j := 0) (by decide)) dX4_isTurnedTo_28 rfl rfl ⟨Nat.le_of_ble_eq_true rfl, Nat.le_of_ble_eq_true rfl⟩ ⟨Nat.zero_le _, Nat.zero_le _⟩ (Nat.le_of_ble_eq_true rfl) (fun v28 M28 g28 => ?_)
        obtain ⟨rfl, rfl⟩ := g28
        have ht28 : f_tp (M (50 + 3 * 0 + 1)) a col row t = f_tp (M 51) a col row t := rfl
        rw [ht28]
        have hb28 := p3 (a * 25 + f_tr t col row * 5 + f_tc t col row)
        have hb28 : 0 ≤ f_tp (M 51) a col row t ∧ f_tp (M 51) a col row t ≤ 9 := hb28
        refine jw_aload_n hC dX4_isTurnedTo_31 0 rfl rfl ?_
        refine jw_getr hC fL_X4_12 ewR_x0 dX4_isTurnedTo_32 ?_
        refine jw_iload_n hC dX4_isTurnedTo_35 3 rfl rfl ?_
        refine jw_iload hC dX4_isTurnedTo_36 5 rfl ?_
        refine jw_iload hC dX4_isTurnedTo_38 4 rfl ?_
        refine jw_iconst hC dX4_isTurnedTo_40 ?_
        refine jw_callV hC (c_X3_turnedPoint l E M 0 (by decide) _ _ _ _ ho ⟨by omega, by omega⟩ ⟨by omega, by omega⟩ ⟨by decide, by decide⟩) sV_X4_247 (show ewO 50 6 from ewO_state (j := 0) (by decide)) dX4_isTurnedTo_41 rfl rfl ⟨Nat.le_of_ble_eq_true rfl, Nat.le_of_ble_eq_true rfl⟩ ⟨Nat.zero_le _, Nat.zero_le _⟩ (Nat.le_of_ble_eq_true rfl) (fun v41 M41 g41 => ?_)
        obtain ⟨rfl, rfl⟩ := g41
        have ht41 : f_tp (M (50 + 3 * 0 + 1)) o col row 0 = f_tp (M 51) o col row 0 := rfl
        rw [ht41]
        have hb41 := p3 (o * 25 + f_tr 0 col row * 5 + f_tc 0 col row)
        have hb41 : 0 ≤ f_tp (M 51) o col row 0 ∧ f_tp (M 51) o col row 0 ≤ 9 := hb41
        refine jw_icmp_eq (tgt := 49) hC dX4_isTurnedTo_44 (by decide) (by omega) (by omega) (by omega) (by omega) (fun h44 => ?_) (fun h44 => ?_)
        · skip
          refine jw_iinc (L' := [(5, _), (0, _), (1, _), (2, _), (3, _), (4, _)]) hC dX4_isTurnedTo_49 5 rfl (by decide) rfl ?_
          refine jw_goto (tgt := 12) hC dX4_isTurnedTo_52 (by decide) ?_
          refine jw_loc (L' := [(0, _), (1, _), (2, _), (3, _), (4, _), (5, _)]) [1, 2, 3, 4, 5, 0] rfl ?_
          first
          | exact ih (row + 1) 0 (by omega) (by omega) (by omega) (by omega) (by omega) (by rw [show 5 * (row + 1) + 0 = 5 * row + col by omega]; exact heq)
          | (refine ih row (col + 1) (by omega) (by omega) (by omega) (by omega) (by omega) ?_
             rw [show 5 * row + (col + 1) = 5 * row + col + 1 by omega, f_eqt_s _ _ _ _ (by omega), heq, show (5 * row + col) % 5 = col by omega, show (5 * row + col) / 5 = row by omega]
             simp
             omega)
        · skip
          refine jw_iconst hC dX4_isTurnedTo_47 ?_
          refine jw_zret hC (by omega) dX4_isTurnedTo_48 ?_
          refine ⟨?_, rfl⟩
          first
          | (have e9 : 5 * row + col = 25 := by omega
             rw [e9] at heq
             have heq9 : f_eqt (M 51) a t o 25 = true := heq
             rw [if_pos heq9])
          | (have hk := f_eqt_s (M 51) a t o (k := 5 * row + col) (by omega)
             rw [show (5 * row + col) % 5 = col by omega, show (5 * row + col) / 5 = row by omega] at hk
             have hne : decide (f_tp (M 51) a col row t = f_tp (M 51) o col row 0) = false := by simp; omega
             rw [hne, Bool.and_false] at hk
             have hfx := f_eqt_le hk (24 - (5 * row + col).toNat)
             rw [show (5 * row + col + 1).toNat + (24 - (5 * row + col).toNat) = 25 by omega] at hfx
             rw [if_neg (by rw [hfx]; decide)])
  refine jw_iconst hC dX4_isTurnedTo_0 ?_
  refine jw_istore (L' := [(4, _), (0, _), (1, _), (2, _), (3, _)]) hC dX4_isTurnedTo_1 (by decide) rfl ?_
  refine jw_iload hC dX4_isTurnedTo_3 0 rfl ?_
  refine jw_iconst hC dX4_isTurnedTo_5 ?_
  refine jw_icmp_ge (tgt := 61) hC dX4_isTurnedTo_6 (by decide) (by omega) (by omega) (by omega) (by omega) (fun h6 => ?_) (fun h6 => ?_)
  · skip
    exfalso; omega
  · skip
    refine jw_iconst hC dX4_isTurnedTo_9 ?_
    refine jw_istore (L' := [(5, _), (4, _), (0, _), (1, _), (2, _), (3, _)]) hC dX4_isTurnedTo_10 (by decide) rfl ?_
    refine jw_loc (L' := [(0, _), (1, _), (2, _), (3, _), (4, _), (5, _)]) [2, 3, 4, 5, 1, 0] rfl ?_
    exact K12 31 0 0 (by omega) (by omega) (by omega) (by omega) (by omega) rfl
set_option maxRecDepth 100000 in
set_option maxHeartbeats 4000000 in
theorem c_X4_leastTurnTo (l : Launch) (E : ewE) (M : ewM) (h0 : st0 M) (a : Int) (ha : 0 ≤ a ∧ a < 3) (o : Int) (ho : 0 ≤ o ∧ o < 3) : Ct l E yX4_leastTurnTo (.code yX4_leastTurnTo cX4_leastTurnTo 4 (some .int)) 4 [vR E 77, vI a, vI o] M (fun v M1 => v = some (vI (f_lt (M 51) a o 8 0)) ∧ M = M1) := by
  refine ct_of (L0 := [(0, vR E 77), (1, vI a), (2, vI o)]) (by decide +kernel) rfl (Nat.le_of_ble_eq_true rfl) ?_
  intro zp ze zs zm za zb zt zc zA hC
  obtain ⟨p1, p2, p3, p4, p5, p6, p7, p8⟩ := id h0
  have K2 : ∀ (n : Nat) (k : Int), 8 - k < n → 0 ≤ k → k ≤ 8 → f_lt (M 51) a o (8 - k.toNat) k = f_lt (M 51) a o 8 0 → jJ zp l ze (ct_rm 4) zs zm za zb zt zc E zA 4 0 0 (MQ zb (ct_Q E zA (fun v M1 => v = some (vI (f_lt (M 51) a o 8 0)) ∧ M = M1)) za zs 0 0 zA) 2 [(0, vR E 77), (1, vI a), (2, vI o), (3, vI k)] [] M := by
    intro n
    induction n with
    | zero => intros; omega
    | succ n ih =>
      intro k i1 i2 i3 hlt
      refine jw_iload_n hC dX4_leastTurnTo_2 3 rfl rfl ?_
      refine jw_bipush hC dX4_leastTurnTo_3 (by decide) ?_
      refine jw_icmp_ge (tgt := 26) hC dX4_leastTurnTo_5 (by decide) (by omega) (by omega) (by omega) (by omega) (fun h5 => ?_) (fun h5 => ?_)
      · skip
        refine jw_iconst hC dX4_leastTurnTo_26 ?_
        refine jw_iret hC dX4_leastTurnTo_27 ?_
        refine ⟨?_, rfl⟩
        first
        | (rw [← hlt, show 8 - k.toNat = (7 - k.toNat) + 1 by omega, f_lt]
           by_cases hz : f_eqt (M 51) a k o 25 = true
           · rw [if_pos hz]
           · rw [if_neg hz] at h15; omega)
        | (rw [← hlt, show 8 - k.toNat = 0 by omega]
           rfl)
      · skip
        refine jw_aload_n hC dX4_leastTurnTo_8 0 rfl rfl ?_
        refine jw_iload_n hC dX4_leastTurnTo_9 1 rfl rfl ?_
        refine jw_iload_n hC dX4_leastTurnTo_10 3 rfl rfl ?_
        refine jw_iload_n hC dX4_leastTurnTo_11 2 rfl rfl ?_
        refine jw_callV hC (c_X4_isTurnedTo l E M h0 _ ha _ ⟨by omega, by omega⟩ _ ho) sV_X4_339 ewF_x4.o dX4_leastTurnTo_12 rfl rfl ⟨Nat.le_of_ble_eq_true rfl, Nat.le_of_ble_eq_true rfl⟩ ⟨Nat.zero_le _, Nat.zero_le _⟩ (Nat.le_of_ble_eq_true rfl) (fun v12 M12 g12 => ?_)
        obtain ⟨rfl, rfl⟩ := g12
        have hb : (if f_eqt (M 51) a k o 25 = true then (1 : Int) else 0) = 0 ∨ (if f_eqt (M 51) a k o 25 = true then (1 : Int) else 0) = 1 := by split <;> omega
        refine jw_if_eq (tgt := 20) hC dX4_leastTurnTo_15 (by decide) (by omega) (by omega) (fun h15 => ?_) (fun h15 => ?_)
        · skip
          refine jw_iinc (L' := [(3, _), (0, _), (1, _), (2, _)]) hC dX4_leastTurnTo_20 3 rfl (by decide) rfl ?_
          refine jw_goto (tgt := 2) hC dX4_leastTurnTo_23 (by decide) ?_
          refine jw_loc (L' := [(0, _), (1, _), (2, _), (3, _)]) [1, 2, 3, 0] rfl ?_
          refine ih _ (by omega) (by omega) (by omega) ?_
          rw [← hlt, show 8 - k.toNat = (8 - (k + 1).toNat) + 1 by omega, f_lt]
          by_cases hz : f_eqt (M 51) a k o 25 = true
          · rw [if_pos hz] at h15; omega
          · rw [if_neg hz]
        · skip
          refine jw_iload_n hC dX4_leastTurnTo_18 3 rfl rfl ?_
          refine jw_iret hC dX4_leastTurnTo_19 ?_
          refine ⟨?_, rfl⟩
          first
          | (rw [← hlt, show 8 - k.toNat = (7 - k.toNat) + 1 by omega, f_lt]
             by_cases hz : f_eqt (M 51) a k o 25 = true
             · rw [if_pos hz]
             · rw [if_neg hz] at h15; omega)
          | (rw [← hlt, show 8 - k.toNat = 0 by omega]
             rfl)
  refine jw_iconst hC dX4_leastTurnTo_0 ?_
  refine jw_istore_n (L' := [(3, _), (0, _), (1, _), (2, _)]) hC dX4_leastTurnTo_1 rfl (by decide) rfl ?_
  refine jw_loc (L' := [(0, _), (1, _), (2, _), (3, _)]) [1, 2, 3, 0] rfl ?_
  exact K2 9 0 (by omega) (by omega) (by omega) rfl
