/-! THE CLASS: its public looks, which throw -/
theorem f_pl_1 {c r : Int} (h : f_pl c r = -1) : ¬ (0 ≤ c ∧ c < 12 ∧ 0 ≤ r ∧ r < 12) := by
  intro z
  unfold f_pl at h
  rw [if_pos z] at h
  omega
theorem f_pl_2 {c r : Int} (h : ¬ f_pl c r = -1) : 0 ≤ c ∧ c < 12 ∧ 0 ≤ r ∧ r < 12 := by
  unfold f_pl at h
  split at h
  · assumption
  · exact absurd rfl h
theorem f_pl_3 {c r : Int} (h : 0 ≤ c ∧ c < 12 ∧ 0 ≤ r ∧ r < 12) : f_pl c r = r * 12 + c := by
  unfold f_pl
  rw [if_pos h]
theorem f_pl_bd (c r : Int) : -1 ≤ f_pl c r ∧ f_pl c r < 144 := by
  unfold f_pl
  split <;> omega
set_option maxRecDepth 100000 in
set_option maxHeartbeats 4000000 in
theorem c_X4_dieOf (l : Launch) (hfl : l.stackTraces = false) (E : ewE) (M : ewM) (a : Int) (a1 : -2147483648 ≤ a) (a2 : a < 2147483648) (x : Int) (x1 : -2147483648 ≤ x) (x2 : x < 2147483648) (y : Int) (y1 : -2147483648 ≤ y) (y2 : y < 2147483648) (t : Int) (t1 : -2147483648 ≤ t) (t2 : t < 2147483648) : Cx l E yX4_dieOf (.code yX4_dieOf cX4_dieOf 5 (some .int)) 9 [vR E 77, vI a, vI x, vI y, vI t] M (fun v M1 => (((0 ≤ a ∧ a < 3) ∧ (0 ≤ x ∧ x < 5 ∧ 0 ≤ y ∧ y < 5)) ∧ (0 ≤ t ∧ t < 8)) ∧ v = some (vI (f_tp (M 51) a x y t)) ∧ lk M M1) (fun C => (C = xIO ∧ ¬ ((0 ≤ a ∧ a < 3) ∧ (0 ≤ x ∧ x < 5 ∧ 0 ≤ y ∧ y < 5))) ∨ (C = xIA ∧ ((0 ≤ a ∧ a < 3) ∧ (0 ≤ x ∧ x < 5 ∧ 0 ≤ y ∧ y < 5)) ∧ ¬ (0 ≤ t ∧ t < 8))) := by
  refine cx_of (L0 := [(0, vR E 77), (1, vI a), (2, vI x), (3, vI y), (4, vI t)]) (by decide +kernel) rfl (Nat.le_of_ble_eq_true rfl) ?_
  intro zp ze zs zm za zb zt zc zA hC hT
  have hz4 := ite_z (0 ≤ a ∧ a < 3)
  have hz12 := ite_z (0 ≤ x ∧ x < 5 ∧ 0 ≤ y ∧ y < 5)
  have hz30 := ite_z (0 ≤ t ∧ t < 8)
  refine jw_iload_n hC dX4_dieOf_0 1 rfl rfl ?_
  refine jw_callS hC (c_X4_isDie l E _ _ (by omega) (by omega)) sS_X4_52 dX4_dieOf_1 rfl rfl ⟨Nat.le_of_ble_eq_true rfl, Nat.le_of_ble_eq_true rfl⟩ ⟨Nat.zero_le _, Nat.zero_le _⟩ (Nat.le_of_ble_eq_true rfl) (fun v1 M1 g1 => ?_)
  obtain ⟨rfl, rfl⟩ := g1
  refine jw_if_eq (tgt := 15) hC dX4_dieOf_4 (by decide) (by omega) (by omega) (fun h4 => ?_) (fun h4 => ?_)
  · skip
    have z4 := ite_0 (C := 0 ≤ a ∧ a < 3) h4
    exact jx_throwS hC hfl hT xs_IO (show (62, "no such die or point") ∈ XTL by decide +kernel) dX4_dieOf_15 dX4_dieOf_18 dX4_dieOf_19 dX4_dieOf_21 dX4_dieOf_24 ⟨Nat.le_of_ble_eq_true rfl, Nat.le_of_ble_eq_true rfl, Nat.le_of_ble_eq_true rfl, Nat.le_of_ble_eq_true rfl⟩ (Nat.le_of_ble_eq_true rfl) (Or.inl ⟨rfl, by omega⟩)
  · skip
    have z4 := ite_1 (C := 0 ≤ a ∧ a < 3) h4
    refine jw_iload_n hC dX4_dieOf_7 2 rfl rfl ?_
    refine jw_iload_n hC dX4_dieOf_8 3 rfl rfl ?_
    refine jw_callS hC (c_X4_isPoint l E _ _ _ (by omega) (by omega) (by omega) (by omega)) sS_X4_56 dX4_dieOf_9 rfl rfl ⟨Nat.le_of_ble_eq_true rfl, Nat.le_of_ble_eq_true rfl⟩ ⟨Nat.zero_le _, Nat.zero_le _⟩ (Nat.le_of_ble_eq_true rfl) (fun v9 M9 g9 => ?_)
    obtain ⟨rfl, rfl⟩ := g9
    refine jw_if_ne (tgt := 25) hC dX4_dieOf_12 (by decide) (by omega) (by omega) (fun h12 => ?_) (fun h12 => ?_)
    · skip
      have z12 := ite_1 (C := 0 ≤ x ∧ x < 5 ∧ 0 ≤ y ∧ y < 5) h12
      refine jw_iload hC dX4_dieOf_25 4 rfl ?_
      refine jw_callS hC (c_X4_isTurn l E _ _ (by omega) (by omega)) sS_X4_142 dX4_dieOf_27 rfl rfl ⟨Nat.le_of_ble_eq_true rfl, Nat.le_of_ble_eq_true rfl⟩ ⟨Nat.zero_le _, Nat.zero_le _⟩ (Nat.le_of_ble_eq_true rfl) (fun v27 M27 g27 => ?_)
      obtain ⟨rfl, rfl⟩ := g27
      refine jw_if_ne (tgt := 43) hC dX4_dieOf_30 (by decide) (by omega) (by omega) (fun h30 => ?_) (fun h30 => ?_)
      · skip
        have z30 := ite_1 (C := 0 ≤ t ∧ t < 8) h30
        refine jw_aload_n hC dX4_dieOf_43 0 rfl rfl ?_
        refine jw_getr hC fL_X4_12 ewR_x0 dX4_dieOf_44 ?_
        refine jw_iload_n hC dX4_dieOf_47 1 rfl rfl ?_
        refine jw_iload_n hC dX4_dieOf_48 2 rfl rfl ?_
        refine jw_iload_n hC dX4_dieOf_49 3 rfl rfl ?_
        refine jw_iload hC dX4_dieOf_50 4 rfl ?_
        refine jw_callV hC (c_X3_turnedPoint l E M 0 (by decide) a x y t (by omega) (by omega) (by omega) (by omega)) sV_X4_247 (show ewO 50 6 from ewO_state (j := 0) (by decide)) dX4_dieOf_52 rfl rfl ⟨Nat.le_of_ble_eq_true rfl, Nat.le_of_ble_eq_true rfl⟩ ⟨Nat.zero_le _, Nat.zero_le _⟩ (Nat.le_of_ble_eq_true rfl) (fun v52 M52 g52 => ?_)
        obtain ⟨rfl, rfl⟩ := g52
        refine jx_ret (Nat.zero_le _) (Nat.zero_le _) ?_
        refine jw_iret hC dX4_dieOf_55 ?_
        exact ⟨by omega, rfl, fun _ _ => rfl⟩
      · skip
        have z30 := ite_0 (C := 0 ≤ t ∧ t < 8) h30
        exact jx_throwS hC hfl hT xs_IA (show (145, "no such turn") ∈ XTL by decide +kernel) dX4_dieOf_33 dX4_dieOf_36 dX4_dieOf_37 dX4_dieOf_39 dX4_dieOf_42 ⟨Nat.le_of_ble_eq_true rfl, Nat.le_of_ble_eq_true rfl, Nat.le_of_ble_eq_true rfl, Nat.le_of_ble_eq_true rfl⟩ (Nat.le_of_ble_eq_true rfl) (Or.inr ⟨rfl, by omega⟩)
    · skip
      have z12 := ite_0 (C := 0 ≤ x ∧ x < 5 ∧ 0 ≤ y ∧ y < 5) h12
      exact jx_throwS hC hfl hT xs_IO (show (62, "no such die or point") ∈ XTL by decide +kernel) dX4_dieOf_15 dX4_dieOf_18 dX4_dieOf_19 dX4_dieOf_21 dX4_dieOf_24 ⟨Nat.le_of_ble_eq_true rfl, Nat.le_of_ble_eq_true rfl, Nat.le_of_ble_eq_true rfl, Nat.le_of_ble_eq_true rfl⟩ (Nat.le_of_ble_eq_true rfl) (Or.inl ⟨rfl, by omega⟩)
set_option maxRecDepth 100000 in
set_option maxHeartbeats 4000000 in
theorem c_X4_place (l : Launch) (hfl : l.stackTraces = false) (E : ewE) (M : ewM) (h0 : st0 M) (x : Int) (x1 : -2147483648 ≤ x) (x2 : x < 2147483648) (y : Int) (y1 : -2147483648 ≤ y) (y2 : y < 2147483648) (w : Int) (w1 : -2147483648 ≤ w) (w2 : w < 2147483648) : Cx l E yX4_place (.code yX4_place cX4_place 5 (some .int)) 9 [vR E 77, vI x, vI y, vI w] M (fun v M1 => ((0 ≤ x ∧ x < 12 ∧ 0 ≤ y ∧ y < 12) ∧ (0 ≤ w ∧ w < 7)) ∧ v = some (vI (f_prop M (f_pl x y) w)) ∧ lk M M1) (fun C => (C = xIO ∧ ¬ (0 ≤ x ∧ x < 12 ∧ 0 ≤ y ∧ y < 12)) ∨ (C = xIA ∧ (0 ≤ x ∧ x < 12 ∧ 0 ≤ y ∧ y < 12) ∧ ¬ (0 ≤ w ∧ w < 7))) := by
  refine cx_of (L0 := [(0, vR E 77), (1, vI x), (2, vI y), (3, vI w)]) (by decide +kernel) rfl (Nat.le_of_ble_eq_true rfl) ?_
  intro zp ze zs zm za zb zt zc zA hC hT
  have hpb := f_pl_bd x y
  refine jw_iload_n hC dX4_place_0 1 rfl rfl ?_
  refine jw_i2l hC dX4_place_1 (by omega) (by omega) ?_
  refine jw_iload_n hC dX4_place_2 2 rfl rfl ?_
  refine jw_i2l hC dX4_place_3 (by omega) (by omega) ?_
  refine jw_callS hC (c_X4_placeIndex l E _ _ _ (by omega) (by omega) (by omega) (by omega)) sS_X4_82 dX4_place_4 rfl rfl ⟨Nat.le_of_ble_eq_true rfl, Nat.le_of_ble_eq_true rfl⟩ ⟨Nat.zero_le _, Nat.zero_le _⟩ (Nat.le_of_ble_eq_true rfl) (fun v4 M4 g4 => ?_)
  obtain ⟨rfl, rfl⟩ := g4
  refine jw_istore (L' := [(4, _), (0, _), (1, _), (2, _), (3, _)]) hC dX4_place_7 (by decide) rfl ?_
  refine jw_iload hC dX4_place_9 0 rfl ?_
  refine jw_iconst hC dX4_place_11 ?_
  refine jw_icmp_ne (tgt := 25) hC dX4_place_12 (by decide) (by omega) (by omega) (by omega) (by omega) (fun h12 => ?_) (fun h12 => ?_)
  · skip
    have z12 := f_pl_2 h12
    refine jw_iload_n hC dX4_place_25 4 rfl rfl ?_
    refine jw_if_lt (tgt := 35) hC dX4_place_26 (by decide) (by omega) (by omega) (fun h26 => ?_) (fun h26 => ?_)
    · skip
      exact jx_throwS hC hfl hT xs_IA (show (251, "no such property") ∈ XTL by decide +kernel) dX4_place_35 dX4_place_38 dX4_place_39 dX4_place_41 dX4_place_44 ⟨Nat.le_of_ble_eq_true rfl, Nat.le_of_ble_eq_true rfl, Nat.le_of_ble_eq_true rfl, Nat.le_of_ble_eq_true rfl⟩ (Nat.le_of_ble_eq_true rfl) (Or.inr ⟨rfl, by omega⟩)
    · skip
      refine jw_iload_n hC dX4_place_29 4 rfl rfl ?_
      refine jw_bipush hC dX4_place_30 (by decide) ?_
      refine jw_icmp_lt (tgt := 45) hC dX4_place_32 (by decide) (by omega) (by omega) (by omega) (by omega) (fun h32 => ?_) (fun h32 => ?_)
      · skip
        refine jw_aload_n hC dX4_place_45 1 rfl rfl ?_
        refine jw_iload hC dX4_place_46 0 rfl ?_
        refine jw_iload_n hC dX4_place_48 4 rfl rfl ?_
        have hpe := f_pl_3 z12
        refine jw_callV hC (c_X4_propertyOf l E M h0 _ (by omega) w (by omega)) sV_X4_253 ewF_x4.o dX4_place_49 rfl rfl ⟨Nat.le_of_ble_eq_true rfl, Nat.le_of_ble_eq_true rfl⟩ ⟨Nat.zero_le _, Nat.zero_le _⟩ (Nat.le_of_ble_eq_true rfl) (fun v49 M49 g49 => ?_)
        obtain ⟨rfl, -, rfl⟩ := g49
        refine jx_ret (Nat.zero_le _) (Nat.zero_le _) ?_
        refine jw_iret hC dX4_place_52 ?_
        exact ⟨by omega, rfl, fun _ _ => rfl⟩
      · skip
        exact jx_throwS hC hfl hT xs_IA (show (251, "no such property") ∈ XTL by decide +kernel) dX4_place_35 dX4_place_38 dX4_place_39 dX4_place_41 dX4_place_44 ⟨Nat.le_of_ble_eq_true rfl, Nat.le_of_ble_eq_true rfl, Nat.le_of_ble_eq_true rfl, Nat.le_of_ble_eq_true rfl⟩ (Nat.le_of_ble_eq_true rfl) (Or.inr ⟨rfl, by omega⟩)
  · skip
    have z12 := f_pl_1 h12
    exact jx_throwS hC hfl hT xs_IO (show (124, "no such place") ∈ XTL by decide +kernel) dX4_place_15 dX4_place_18 dX4_place_19 dX4_place_21 dX4_place_24 ⟨Nat.le_of_ble_eq_true rfl, Nat.le_of_ble_eq_true rfl, Nat.le_of_ble_eq_true rfl, Nat.le_of_ble_eq_true rfl⟩ (Nat.le_of_ble_eq_true rfl) (Or.inl ⟨rfl, by omega⟩)
set_option maxRecDepth 100000 in
set_option maxHeartbeats 4000000 in
theorem c_X4_count (l : Launch) (hfl : l.stackTraces = false) (E : ewE) (M : ewM) (h0 : st0 M) (w : Int) (w1 : -2147483648 ≤ w) (w2 : w < 2147483648) : Cx l E yX4_count (.code yX4_count cX4_count 2 (some .int)) 9 [vR E 77, vI w] M (fun v M1 => (0 ≤ w ∧ w < 14) ∧ v = some (vI (f_num M w)) ∧ lk M M1) (fun C => (C = xIA ∧ ¬ (0 ≤ w ∧ w < 14))) := by
  refine cx_of (L0 := [(0, vR E 77), (1, vI w)]) (by decide +kernel) rfl (Nat.le_of_ble_eq_true rfl) ?_
  intro zp ze zs zm za zb zt zc zA hC hT
  skip
  refine jw_iload_n hC dX4_count_0 1 rfl rfl ?_
  refine jw_if_lt (tgt := 10) hC dX4_count_1 (by decide) (by omega) (by omega) (fun h1 => ?_) (fun h1 => ?_)
  · skip
    exact jx_throwSW hC hfl hT xs_IA (show (256, "no such number") ∈ XTL by decide +kernel) dX4_count_10 dX4_count_13 dX4_count_14 dX4_count_17 dX4_count_20 ⟨Nat.le_of_ble_eq_true rfl, Nat.le_of_ble_eq_true rfl, Nat.le_of_ble_eq_true rfl, Nat.le_of_ble_eq_true rfl⟩ (Nat.le_of_ble_eq_true rfl) (⟨rfl, by omega⟩)
  · skip
    refine jw_iload_n hC dX4_count_4 1 rfl rfl ?_
    refine jw_bipush hC dX4_count_5 (by decide) ?_
    refine jw_icmp_lt (tgt := 21) hC dX4_count_7 (by decide) (by omega) (by omega) (by omega) (by omega) (fun h7 => ?_) (fun h7 => ?_)
    · skip
      refine jw_aload_n hC dX4_count_21 0 rfl rfl ?_
      refine jw_iload_n hC dX4_count_22 1 rfl rfl ?_
      refine jw_callV hC (c_X4_numberOf l E M h0 w (by omega)) sV_X4_258 ewF_x4.o dX4_count_23 rfl rfl ⟨Nat.le_of_ble_eq_true rfl, Nat.le_of_ble_eq_true rfl⟩ ⟨Nat.zero_le _, Nat.zero_le _⟩ (Nat.le_of_ble_eq_true rfl) (fun v23 M23 g23 => ?_)
      obtain ⟨rfl, -, rfl⟩ := g23
      refine jx_ret (Nat.zero_le _) (Nat.zero_le _) ?_
      refine jw_iret hC dX4_count_26 ?_
      exact ⟨by omega, rfl, fun _ _ => rfl⟩
    · skip
      exact jx_throwSW hC hfl hT xs_IA (show (256, "no such number") ∈ XTL by decide +kernel) dX4_count_10 dX4_count_13 dX4_count_14 dX4_count_17 dX4_count_20 ⟨Nat.le_of_ble_eq_true rfl, Nat.le_of_ble_eq_true rfl, Nat.le_of_ble_eq_true rfl, Nat.le_of_ble_eq_true rfl⟩ (Nat.le_of_ble_eq_true rfl) (⟨rfl, by omega⟩)
set_option maxRecDepth 100000 in
set_option maxHeartbeats 4000000 in
theorem c_X4_setting (l : Launch) (hfl : l.stackTraces = false) (E : ewE) (M : ewM) (w : Int) (w1 : -2147483648 ≤ w) (w2 : w < 2147483648) : Cx l E yX4_setting (.code yX4_setting cX4_setting 2 (some .int)) 9 [vR E 77, vI w] M (fun v M1 => (0 ≤ w ∧ w < 4) ∧ v = some (vI (M 52 w)) ∧ lk M M1) (fun C => (C = xIO ∧ ¬ (0 ≤ w ∧ w < 4))) := by
  refine cx_of (L0 := [(0, vR E 77), (1, vI w)]) (by decide +kernel) rfl (Nat.le_of_ble_eq_true rfl) ?_
  intro zp ze zs zm za zb zt zc zA hC hT
  have hz4 := ite_z (0 ≤ w ∧ w < 4)
  refine jw_iload_n hC dX4_setting_0 1 rfl rfl ?_
  refine jw_callS hC (c_X4_isSetting l E _ _ (by omega) (by omega)) sS_X4_182 dX4_setting_1 rfl rfl ⟨Nat.le_of_ble_eq_true rfl, Nat.le_of_ble_eq_true rfl⟩ ⟨Nat.zero_le _, Nat.zero_le _⟩ (Nat.le_of_ble_eq_true rfl) (fun v1 M1 g1 => ?_)
  obtain ⟨rfl, rfl⟩ := g1
  refine jw_if_ne (tgt := 17) hC dX4_setting_4 (by decide) (by omega) (by omega) (fun h4 => ?_) (fun h4 => ?_)
  · skip
    have z4 := ite_1 (C := 0 ≤ w ∧ w < 4) h4
    refine jw_aload_n hC dX4_setting_17 0 rfl rfl ?_
    refine jw_getr hC fL_X4_12 ewR_x0 dX4_setting_18 ?_
    refine jw_getr hC fL_X4_165 (show ewR 50 6 1 52 from ewR_t1 (j := 0) (by decide)) dX4_setting_21 ?_
    refine jw_iload_n hC dX4_setting_24 1 rfl rfl ?_
    refine jw_iald hC (show ewA 52 0 4 from ewA_settings (j := 0) (by decide)) dX4_setting_25 (by omega) (by omega) (by decide) (fun b25 c25 => ?_)
    refine jx_ret (Nat.zero_le _) (Nat.zero_le _) ?_
    refine jw_iret hC dX4_setting_26 ?_
    exact ⟨by omega, rfl, fun _ _ => rfl⟩
  · skip
    have z4 := ite_0 (C := 0 ≤ w ∧ w < 4) h4
    exact jx_throwS hC hfl hT xs_IO (show (185, "no such setting") ∈ XTL by decide +kernel) dX4_setting_7 dX4_setting_10 dX4_setting_11 dX4_setting_13 dX4_setting_16 ⟨Nat.le_of_ble_eq_true rfl, Nat.le_of_ble_eq_true rfl, Nat.le_of_ble_eq_true rfl, Nat.le_of_ble_eq_true rfl⟩ (Nat.le_of_ble_eq_true rfl) (⟨rfl, by omega⟩)
set_option maxRecDepth 100000 in
set_option maxHeartbeats 4000000 in
theorem c_X4_ifPressed (l : Launch) (hfl : l.stackTraces = false) (E : ewE) (M : ewM) (h0 : st0 M) (a : Int) (a1 : -2147483648 ≤ a) (a2 : a < 2147483648) (x : Int) (x1 : -2147483648 ≤ x) (x2 : x < 2147483648) (y : Int) (y1 : -2147483648 ≤ y) (y2 : y < 2147483648) (t : Int) (t1 : -2147483648 ≤ t) (t2 : t < 2147483648) : Cx l E yX4_ifPressed (.code yX4_ifPressed cX4_ifPressed 5 (some .int)) 9 [vR E 77, vI a, vI x, vI y, vI t] M (fun v M1 => ((0 ≤ a ∧ a < 3) ∧ (0 ≤ t ∧ t < 8)) ∧ v = some (vI (a_ans M (f_rel (M 51) a t) x y)) ∧ lk M M1) (fun C => (C = xIO ∧ ¬ (0 ≤ a ∧ a < 3)) ∨ (C = xIA ∧ (0 ≤ a ∧ a < 3) ∧ ¬ (0 ≤ t ∧ t < 8))) := by
  refine cx_of (L0 := [(0, vR E 77), (1, vI a), (2, vI x), (3, vI y), (4, vI t)]) (by decide +kernel) rfl (Nat.le_of_ble_eq_true rfl) ?_
  intro zp ze zs zm za zb zt zc zA hC hT
  have hz4 := ite_z (0 ≤ a ∧ a < 3)
  have hz22 := ite_z (0 ≤ t ∧ t < 8)
  refine jw_iload_n hC dX4_ifPressed_0 1 rfl rfl ?_
  refine jw_callS hC (c_X4_isDie l E _ _ (by omega) (by omega)) sS_X4_52 dX4_ifPressed_1 rfl rfl ⟨Nat.le_of_ble_eq_true rfl, Nat.le_of_ble_eq_true rfl⟩ ⟨Nat.zero_le _, Nat.zero_le _⟩ (Nat.le_of_ble_eq_true rfl) (fun v1 M1 g1 => ?_)
  obtain ⟨rfl, rfl⟩ := g1
  refine jw_if_ne (tgt := 17) hC dX4_ifPressed_4 (by decide) (by omega) (by omega) (fun h4 => ?_) (fun h4 => ?_)
  · skip
    have z4 := ite_1 (C := 0 ≤ a ∧ a < 3) h4
    refine jw_iload hC dX4_ifPressed_17 4 rfl ?_
    refine jw_callS hC (c_X4_isTurn l E _ _ (by omega) (by omega)) sS_X4_142 dX4_ifPressed_19 rfl rfl ⟨Nat.le_of_ble_eq_true rfl, Nat.le_of_ble_eq_true rfl⟩ ⟨Nat.zero_le _, Nat.zero_le _⟩ (Nat.le_of_ble_eq_true rfl) (fun v19 M19 g19 => ?_)
    obtain ⟨rfl, rfl⟩ := g19
    refine jw_if_ne (tgt := 35) hC dX4_ifPressed_22 (by decide) (by omega) (by omega) (fun h22 => ?_) (fun h22 => ?_)
    · skip
      have z22 := ite_1 (C := 0 ≤ t ∧ t < 8) h22
      refine jw_aload_n hC dX4_ifPressed_35 0 rfl rfl ?_
      refine jw_iload_n hC dX4_ifPressed_36 1 rfl rfl ?_
      refine jw_iload_n hC dX4_ifPressed_37 2 rfl rfl ?_
      refine jw_iload_n hC dX4_ifPressed_38 3 rfl rfl ?_
      refine jw_iload hC dX4_ifPressed_39 4 rfl ?_
      refine jw_callV hC (c_X4_answerOfPress l E M h0 a (by omega) x y x1 x2 y1 y2 t (by omega)) sV_X4_261 ewF_x4.o dX4_ifPressed_41 rfl rfl ⟨Nat.le_of_ble_eq_true rfl, Nat.le_of_ble_eq_true rfl⟩ ⟨Nat.zero_le _, Nat.zero_le _⟩ (Nat.le_of_ble_eq_true rfl) (fun v41 M41 g41 => ?_)
      obtain ⟨rfl, k9⟩ := g41
      refine jx_ret (Nat.zero_le _) (Nat.zero_le _) ?_
      refine jw_iret hC dX4_ifPressed_44 ?_
      exact ⟨by omega, rfl, k9⟩
    · skip
      have z22 := ite_0 (C := 0 ≤ t ∧ t < 8) h22
      exact jx_throwS hC hfl hT xs_IA (show (145, "no such turn") ∈ XTL by decide +kernel) dX4_ifPressed_25 dX4_ifPressed_28 dX4_ifPressed_29 dX4_ifPressed_31 dX4_ifPressed_34 ⟨Nat.le_of_ble_eq_true rfl, Nat.le_of_ble_eq_true rfl, Nat.le_of_ble_eq_true rfl, Nat.le_of_ble_eq_true rfl⟩ (Nat.le_of_ble_eq_true rfl) (Or.inr ⟨rfl, by omega⟩)
  · skip
    have z4 := ite_0 (C := 0 ≤ a ∧ a < 3) h4
    exact jx_throwS hC hfl hT xs_IO (show (140, "no such die") ∈ XTL by decide +kernel) dX4_ifPressed_7 dX4_ifPressed_10 dX4_ifPressed_11 dX4_ifPressed_13 dX4_ifPressed_16 ⟨Nat.le_of_ble_eq_true rfl, Nat.le_of_ble_eq_true rfl, Nat.le_of_ble_eq_true rfl, Nat.le_of_ble_eq_true rfl⟩ (Nat.le_of_ble_eq_true rfl) (Or.inl ⟨rfl, by omega⟩)
set_option maxRecDepth 100000 in
set_option maxHeartbeats 4000000 in
theorem c_X4_gentlest (l : Launch) (hfl : l.stackTraces = false) (E : ewE) (M : ewM) (h0 : st0 M) (a : Int) (a1 : -2147483648 ≤ a) (a2 : a < 2147483648) (t : Int) (t1 : -2147483648 ≤ t) (t2 : t < 2147483648) : Cx l E yX4_gentlest (.code yX4_gentlest cX4_gentlest 3 (some .int)) 9 [vR E 77, vI a, vI t] M (fun v M1 => ((0 ≤ a ∧ a < 3) ∧ (0 ≤ t ∧ t < 8)) ∧ v = some (vI (f_bs (fun k => a_ans M (f_rel (M 51) a t) (k % 12) (k / 12)) 144)) ∧ lk M M1) (fun C => (C = xIO ∧ ¬ (0 ≤ a ∧ a < 3)) ∨ (C = xIA ∧ (0 ≤ a ∧ a < 3) ∧ ¬ (0 ≤ t ∧ t < 8))) := by
  refine cx_of (L0 := [(0, vR E 77), (1, vI a), (2, vI t)]) (by decide +kernel) rfl (Nat.le_of_ble_eq_true rfl) ?_
  intro zp ze zs zm za zb zt zc zA hC hT
  have hz4 := ite_z (0 ≤ a ∧ a < 3)
  have hz21 := ite_z (0 ≤ t ∧ t < 8)
  refine jw_iload_n hC dX4_gentlest_0 1 rfl rfl ?_
  refine jw_callS hC (c_X4_isDie l E _ _ (by omega) (by omega)) sS_X4_52 dX4_gentlest_1 rfl rfl ⟨Nat.le_of_ble_eq_true rfl, Nat.le_of_ble_eq_true rfl⟩ ⟨Nat.zero_le _, Nat.zero_le _⟩ (Nat.le_of_ble_eq_true rfl) (fun v1 M1 g1 => ?_)
  obtain ⟨rfl, rfl⟩ := g1
  refine jw_if_ne (tgt := 17) hC dX4_gentlest_4 (by decide) (by omega) (by omega) (fun h4 => ?_) (fun h4 => ?_)
  · skip
    have z4 := ite_1 (C := 0 ≤ a ∧ a < 3) h4
    refine jw_iload_n hC dX4_gentlest_17 2 rfl rfl ?_
    refine jw_callS hC (c_X4_isTurn l E _ _ (by omega) (by omega)) sS_X4_142 dX4_gentlest_18 rfl rfl ⟨Nat.le_of_ble_eq_true rfl, Nat.le_of_ble_eq_true rfl⟩ ⟨Nat.zero_le _, Nat.zero_le _⟩ (Nat.le_of_ble_eq_true rfl) (fun v18 M18 g18 => ?_)
    obtain ⟨rfl, rfl⟩ := g18
    refine jw_if_ne (tgt := 34) hC dX4_gentlest_21 (by decide) (by omega) (by omega) (fun h21 => ?_) (fun h21 => ?_)
    · skip
      have z21 := ite_1 (C := 0 ≤ t ∧ t < 8) h21
      refine jw_aload_n hC dX4_gentlest_34 0 rfl rfl ?_
      refine jw_iload_n hC dX4_gentlest_35 1 rfl rfl ?_
      refine jw_iload_n hC dX4_gentlest_36 2 rfl rfl ?_
      refine jw_callV hC (c_X4_leastHarm l E M h0 a (by omega) t (by omega)) sV_X4_264 ewF_x4.o dX4_gentlest_37 rfl rfl ⟨Nat.le_of_ble_eq_true rfl, Nat.le_of_ble_eq_true rfl⟩ ⟨Nat.zero_le _, Nat.zero_le _⟩ (Nat.le_of_ble_eq_true rfl) (fun v37 M37 g37 => ?_)
      obtain ⟨rfl, k9⟩ := g37
      refine jx_ret (Nat.zero_le _) (Nat.zero_le _) ?_
      refine jw_iret hC dX4_gentlest_40 ?_
      exact ⟨by omega, rfl, k9⟩
    · skip
      have z21 := ite_0 (C := 0 ≤ t ∧ t < 8) h21
      exact jx_throwS hC hfl hT xs_IA (show (145, "no such turn") ∈ XTL by decide +kernel) dX4_gentlest_24 dX4_gentlest_27 dX4_gentlest_28 dX4_gentlest_30 dX4_gentlest_33 ⟨Nat.le_of_ble_eq_true rfl, Nat.le_of_ble_eq_true rfl, Nat.le_of_ble_eq_true rfl, Nat.le_of_ble_eq_true rfl⟩ (Nat.le_of_ble_eq_true rfl) (Or.inr ⟨rfl, by omega⟩)
  · skip
    have z4 := ite_0 (C := 0 ≤ a ∧ a < 3) h4
    exact jx_throwS hC hfl hT xs_IO (show (140, "no such die") ∈ XTL by decide +kernel) dX4_gentlest_7 dX4_gentlest_10 dX4_gentlest_11 dX4_gentlest_13 dX4_gentlest_16 ⟨Nat.le_of_ble_eq_true rfl, Nat.le_of_ble_eq_true rfl, Nat.le_of_ble_eq_true rfl, Nat.le_of_ble_eq_true rfl⟩ (Nat.le_of_ble_eq_true rfl) (Or.inl ⟨rfl, by omega⟩)
set_option maxRecDepth 100000 in
set_option maxHeartbeats 4000000 in
theorem c_X4_ifFolded (l : Launch) (hfl : l.stackTraces = false) (E : ewE) (M : ewM) (h0 : st0 M) (r : Int) (r1 : -2147483648 ≤ r) (r2 : r < 2147483648) : Cx l E yX4_ifFolded (.code yX4_ifFolded cX4_ifFolded 2 (some .int)) 9 [vR E 77, vI r] M (fun v M1 => (1 ≤ r ∧ r < 12) ∧ v = some (vI (f_fc (M 1) (M 3) r (M 52 0) (M 52 1))) ∧ lk M M1) (fun C => (C = xIO ∧ ¬ (1 ≤ r ∧ r < 12))) := by
  refine cx_of (L0 := [(0, vR E 77), (1, vI r)]) (by decide +kernel) rfl (Nat.le_of_ble_eq_true rfl) ?_
  intro zp ze zs zm za zb zt zc zA hC hT
  have hz4 := ite_z (1 ≤ r ∧ r < 12)
  refine jw_iload_n hC dX4_ifFolded_0 1 rfl rfl ?_
  refine jw_callS hC (c_X4_isFoldRow l E _ _ (by omega) (by omega)) sS_X4_160 dX4_ifFolded_1 rfl rfl ⟨Nat.le_of_ble_eq_true rfl, Nat.le_of_ble_eq_true rfl⟩ ⟨Nat.zero_le _, Nat.zero_le _⟩ (Nat.le_of_ble_eq_true rfl) (fun v1 M1 g1 => ?_)
  obtain ⟨rfl, rfl⟩ := g1
  refine jw_if_ne (tgt := 17) hC dX4_ifFolded_4 (by decide) (by omega) (by omega) (fun h4 => ?_) (fun h4 => ?_)
  · skip
    have z4 := ite_1 (C := 1 ≤ r ∧ r < 12) h4
    refine jw_aload_n hC dX4_ifFolded_17 0 rfl rfl ?_
    refine jw_iload_n hC dX4_ifFolded_18 1 rfl rfl ?_
    refine jw_callV hC (c_X4_cracksOfFold l E M h0 r (by omega)) sV_X4_267 ewF_x4.o dX4_ifFolded_19 rfl rfl ⟨Nat.le_of_ble_eq_true rfl, Nat.le_of_ble_eq_true rfl⟩ ⟨Nat.zero_le _, Nat.zero_le _⟩ (Nat.le_of_ble_eq_true rfl) (fun v19 M19 g19 => ?_)
    obtain ⟨rfl, k9⟩ := g19
    refine jx_ret (Nat.zero_le _) (Nat.zero_le _) ?_
    refine jw_iret hC dX4_ifFolded_22 ?_
    exact ⟨by omega, rfl, k9⟩
  · skip
    have z4 := ite_0 (C := 1 ≤ r ∧ r < 12) h4
    exact jx_throwS hC hfl hT xs_IO (show (163, "no such row to fold at") ∈ XTL by decide +kernel) dX4_ifFolded_7 dX4_ifFolded_10 dX4_ifFolded_11 dX4_ifFolded_13 dX4_ifFolded_16 ⟨Nat.le_of_ble_eq_true rfl, Nat.le_of_ble_eq_true rfl, Nat.le_of_ble_eq_true rfl, Nat.le_of_ble_eq_true rfl⟩ (Nat.le_of_ble_eq_true rfl) (⟨rfl, by omega⟩)
set_option maxRecDepth 100000 in
set_option maxHeartbeats 4000000 in
theorem c_X4_alike (l : Launch) (hfl : l.stackTraces = false) (E : ewE) (M : ewM) (h0 : st0 M) (a : Int) (a1 : -2147483648 ≤ a) (a2 : a < 2147483648) (b : Int) (b1 : -2147483648 ≤ b) (b2 : b < 2147483648) : Cx l E yX4_alike (.code yX4_alike cX4_alike 3 (some .int)) 9 [vR E 77, vI a, vI b] M (fun v M1 => ((0 ≤ a ∧ a < 3) ∧ (0 ≤ b ∧ b < 3)) ∧ v = some (vI (f_lt (M 51) a b 8 0)) ∧ lk M M1) (fun C => (C = xIO ∧ ¬ ((0 ≤ a ∧ a < 3) ∧ (0 ≤ b ∧ b < 3)))) := by
  refine cx_of (L0 := [(0, vR E 77), (1, vI a), (2, vI b)]) (by decide +kernel) rfl (Nat.le_of_ble_eq_true rfl) ?_
  intro zp ze zs zm za zb zt zc zA hC hT
  have hz4 := ite_z (0 ≤ a ∧ a < 3)
  have hz11 := ite_z (0 ≤ b ∧ b < 3)
  refine jw_iload_n hC dX4_alike_0 1 rfl rfl ?_
  refine jw_callS hC (c_X4_isDie l E _ _ (by omega) (by omega)) sS_X4_52 dX4_alike_1 rfl rfl ⟨Nat.le_of_ble_eq_true rfl, Nat.le_of_ble_eq_true rfl⟩ ⟨Nat.zero_le _, Nat.zero_le _⟩ (Nat.le_of_ble_eq_true rfl) (fun v1 M1 g1 => ?_)
  obtain ⟨rfl, rfl⟩ := g1
  refine jw_if_eq (tgt := 14) hC dX4_alike_4 (by decide) (by omega) (by omega) (fun h4 => ?_) (fun h4 => ?_)
  · skip
    have z4 := ite_0 (C := 0 ≤ a ∧ a < 3) h4
    exact jx_throwS hC hfl hT xs_IO (show (140, "no such die") ∈ XTL by decide +kernel) dX4_alike_14 dX4_alike_17 dX4_alike_18 dX4_alike_20 dX4_alike_23 ⟨Nat.le_of_ble_eq_true rfl, Nat.le_of_ble_eq_true rfl, Nat.le_of_ble_eq_true rfl, Nat.le_of_ble_eq_true rfl⟩ (Nat.le_of_ble_eq_true rfl) (⟨rfl, by omega⟩)
  · skip
    have z4 := ite_1 (C := 0 ≤ a ∧ a < 3) h4
    refine jw_iload_n hC dX4_alike_7 2 rfl rfl ?_
    refine jw_callS hC (c_X4_isDie l E _ _ (by omega) (by omega)) sS_X4_52 dX4_alike_8 rfl rfl ⟨Nat.le_of_ble_eq_true rfl, Nat.le_of_ble_eq_true rfl⟩ ⟨Nat.zero_le _, Nat.zero_le _⟩ (Nat.le_of_ble_eq_true rfl) (fun v8 M8 g8 => ?_)
    obtain ⟨rfl, rfl⟩ := g8
    refine jw_if_ne (tgt := 24) hC dX4_alike_11 (by decide) (by omega) (by omega) (fun h11 => ?_) (fun h11 => ?_)
    · skip
      have z11 := ite_1 (C := 0 ≤ b ∧ b < 3) h11
      refine jw_aload_n hC dX4_alike_24 0 rfl rfl ?_
      refine jw_iload_n hC dX4_alike_25 1 rfl rfl ?_
      refine jw_iload_n hC dX4_alike_26 2 rfl rfl ?_
      refine jw_callV hC (c_X4_leastTurnTo l E M h0 a (by omega) b (by omega)) sV_X4_270 ewF_x4.o dX4_alike_27 rfl rfl ⟨Nat.le_of_ble_eq_true rfl, Nat.le_of_ble_eq_true rfl⟩ ⟨Nat.zero_le _, Nat.zero_le _⟩ (Nat.le_of_ble_eq_true rfl) (fun v27 M27 g27 => ?_)
      obtain ⟨rfl, rfl⟩ := g27
      refine jx_ret (Nat.zero_le _) (Nat.zero_le _) ?_
      refine jw_iret hC dX4_alike_30 ?_
      exact ⟨by omega, rfl, fun _ _ => rfl⟩
    · skip
      have z11 := ite_0 (C := 0 ≤ b ∧ b < 3) h11
      exact jx_throwS hC hfl hT xs_IO (show (140, "no such die") ∈ XTL by decide +kernel) dX4_alike_14 dX4_alike_17 dX4_alike_18 dX4_alike_20 dX4_alike_23 ⟨Nat.le_of_ble_eq_true rfl, Nat.le_of_ble_eq_true rfl, Nat.le_of_ble_eq_true rfl, Nat.le_of_ble_eq_true rfl⟩ (Nat.le_of_ble_eq_true rfl) (⟨rfl, by omega⟩)
set_option maxRecDepth 100000 in
set_option maxHeartbeats 4000000 in
theorem c_X4_needed (l : Launch) (hfl : l.stackTraces = false) (E : ewE) (M : ewM) (h0 : st0 M) (a : Int) (a1 : -2147483648 ≤ a) (a2 : a < 2147483648) (x : Int) (x1 : -2147483648 ≤ x) (x2 : x < 2147483648) (y : Int) (y1 : -2147483648 ≤ y) (y2 : y < 2147483648) (t : Int) (t1 : -2147483648 ≤ t) (t2 : t < 2147483648) : Cx l E yX4_needed (.code yX4_needed cX4_needed 5 (some .int)) 9 [vR E 77, vI a, vI x, vI y, vI t] M (fun v M1 => ((0 ≤ a ∧ a < 3) ∧ (0 ≤ t ∧ t < 8)) ∧ v = some (vI (f_need (f_rel (M 51) a t) (x + M 50 3) y (M 1) (M 3) (M 52 1) (M 52 2))) ∧ lk M M1) (fun C => (C = xIO ∧ ¬ (0 ≤ a ∧ a < 3)) ∨ (C = xIA ∧ (0 ≤ a ∧ a < 3) ∧ ¬ (0 ≤ t ∧ t < 8))) := by
  refine cx_of (L0 := [(0, vR E 77), (1, vI a), (2, vI x), (3, vI y), (4, vI t)]) (by decide +kernel) rfl (Nat.le_of_ble_eq_true rfl) ?_
  intro zp ze zs zm za zb zt zc zA hC hT
  have hz4 := ite_z (0 ≤ a ∧ a < 3)
  have hz22 := ite_z (0 ≤ t ∧ t < 8)
  refine jw_iload_n hC dX4_needed_0 1 rfl rfl ?_
  refine jw_callS hC (c_X4_isDie l E _ _ (by omega) (by omega)) sS_X4_52 dX4_needed_1 rfl rfl ⟨Nat.le_of_ble_eq_true rfl, Nat.le_of_ble_eq_true rfl⟩ ⟨Nat.zero_le _, Nat.zero_le _⟩ (Nat.le_of_ble_eq_true rfl) (fun v1 M1 g1 => ?_)
  obtain ⟨rfl, rfl⟩ := g1
  refine jw_if_ne (tgt := 17) hC dX4_needed_4 (by decide) (by omega) (by omega) (fun h4 => ?_) (fun h4 => ?_)
  · skip
    have z4 := ite_1 (C := 0 ≤ a ∧ a < 3) h4
    refine jw_iload hC dX4_needed_17 4 rfl ?_
    refine jw_callS hC (c_X4_isTurn l E _ _ (by omega) (by omega)) sS_X4_142 dX4_needed_19 rfl rfl ⟨Nat.le_of_ble_eq_true rfl, Nat.le_of_ble_eq_true rfl⟩ ⟨Nat.zero_le _, Nat.zero_le _⟩ (Nat.le_of_ble_eq_true rfl) (fun v19 M19 g19 => ?_)
    obtain ⟨rfl, rfl⟩ := g19
    refine jw_if_ne (tgt := 35) hC dX4_needed_22 (by decide) (by omega) (by omega) (fun h22 => ?_) (fun h22 => ?_)
    · skip
      have z22 := ite_1 (C := 0 ≤ t ∧ t < 8) h22
      refine jw_aload_n hC dX4_needed_35 0 rfl rfl ?_
      refine jw_iload_n hC dX4_needed_36 1 rfl rfl ?_
      refine jw_iload_n hC dX4_needed_37 2 rfl rfl ?_
      refine jw_iload_n hC dX4_needed_38 3 rfl rfl ?_
      refine jw_iload hC dX4_needed_39 4 rfl ?_
      refine jw_callV hC (c_X4_leastBearing l E M h0 a (by omega) x y x1 x2 y1 y2 t (by omega)) sV_X4_273 ewF_x4.o dX4_needed_41 rfl rfl ⟨Nat.le_of_ble_eq_true rfl, Nat.le_of_ble_eq_true rfl⟩ ⟨Nat.zero_le _, Nat.zero_le _⟩ (Nat.le_of_ble_eq_true rfl) (fun v41 M41 g41 => ?_)
      obtain ⟨rfl, k9⟩ := g41
      refine jx_ret (Nat.zero_le _) (Nat.zero_le _) ?_
      refine jw_iret hC dX4_needed_44 ?_
      exact ⟨by omega, rfl, k9⟩
    · skip
      have z22 := ite_0 (C := 0 ≤ t ∧ t < 8) h22
      exact jx_throwS hC hfl hT xs_IA (show (145, "no such turn") ∈ XTL by decide +kernel) dX4_needed_25 dX4_needed_28 dX4_needed_29 dX4_needed_31 dX4_needed_34 ⟨Nat.le_of_ble_eq_true rfl, Nat.le_of_ble_eq_true rfl, Nat.le_of_ble_eq_true rfl, Nat.le_of_ble_eq_true rfl⟩ (Nat.le_of_ble_eq_true rfl) (Or.inr ⟨rfl, by omega⟩)
  · skip
    have z4 := ite_0 (C := 0 ≤ a ∧ a < 3) h4
    exact jx_throwS hC hfl hT xs_IO (show (140, "no such die") ∈ XTL by decide +kernel) dX4_needed_7 dX4_needed_10 dX4_needed_11 dX4_needed_13 dX4_needed_16 ⟨Nat.le_of_ble_eq_true rfl, Nat.le_of_ble_eq_true rfl, Nat.le_of_ble_eq_true rfl, Nat.le_of_ble_eq_true rfl⟩ (Nat.le_of_ble_eq_true rfl) (Or.inl ⟨rfl, by omega⟩)
