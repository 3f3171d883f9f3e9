/-! THE CLASS: its public methods, at good arguments -/
theorem f_pl_1 {c r : Int} (h : f_pl c r = -1) : ¬ (0 ≤ c ∧ c < 12 ∧ 0 ≤ r ∧ r < 12) := by
  intro z
  unfold f_pl at h
  rw [if_pos z] at h
  omega
theorem f_pl_2 {c r : Int} (h : ¬ f_pl c r = -1) : 0 ≤ c ∧ c < 12 ∧ 0 ≤ r ∧ r < 12 := by
  unfold f_pl at h
  split at h
  · assumption
  · exact absurd rfl h
theorem f_pl_3 {c r : Int} (h : 0 ≤ c ∧ c < 12 ∧ 0 ≤ r ∧ r < 12) : f_pl c r = r * 12 + c := by
  unfold f_pl
  rw [if_pos h]
theorem f_pl_bd (c r : Int) : -1 ≤ f_pl c r ∧ f_pl c r < 144 := by
  unfold f_pl
  split <;> omega
theorem ite_1 {C : Prop} [Decidable C] (h : ¬ (if C then (1 : Int) else 0) = 0) : C := Decidable.by_contra (fun z => h (if_neg z))
theorem ite_0 {C : Prop} [Decidable C] (h : (if C then (1 : Int) else 0) = 0) : ¬ C := fun z => by rw [if_pos z] at h; omega
theorem ite_z (C : Prop) [Decidable C] : (if C then (1 : Int) else 0) = 0 ∨ (if C then (1 : Int) else 0) = 1 := by split <;> omega
/-- the share that n of the 144 places are -/
def f_sh (n : Int) : UInt64 := FP.ddiv (FP.i2d (Int32.ofInt n)) 4639270566145032192
theorem f_sh_k : ∀ k : Fin 145, vf_n64 (f_sh ((k.val : Nat) : Int)) := by
  unfold vf_n64
  decide +kernel
theorem f_sh_n {n : Int} (h0 : 0 ≤ n) (h1 : n ≤ 144) : vf_n64 (f_sh n) := by
  have := f_sh_k ⟨n.toNat, by omega⟩
  rw [show (((⟨n.toNat, by omega⟩ : Fin 145).val : Nat) : Int) = n from by show ((n.toNat : Nat) : Int) = n; omega] at this
  exact this
set_option maxRecDepth 100000 in
set_option maxHeartbeats 4000000 in
theorem c_X4_dieOf (l : Launch) (E : ewE) (M : ewM) (a : Int) (a1 : -2147483648 ≤ a) (a2 : a < 2147483648) (x : Int) (x1 : -2147483648 ≤ x) (x2 : x < 2147483648) (y : Int) (y1 : -2147483648 ≤ y) (y2 : y < 2147483648) (t : Int) (t1 : -2147483648 ≤ t) (t2 : t < 2147483648) (hok : ((0 ≤ a ∧ a < 3) ∧ (0 ≤ x ∧ x < 5 ∧ 0 ≤ y ∧ y < 5)) ∧ (0 ≤ t ∧ t < 8)) : Ct l E yX4_dieOf (.code yX4_dieOf cX4_dieOf 5 (some .int)) 5 [vR E 77, vI a, vI x, vI y, vI t] M (fun v M1 => (((0 ≤ a ∧ a < 3) ∧ (0 ≤ x ∧ x < 5 ∧ 0 ≤ y ∧ y < 5)) ∧ (0 ≤ t ∧ t < 8)) ∧ v = some (vI (f_tp (M 51) a x y t)) ∧ M = M1) := by
  refine ct_of (L0 := [(0, vR E 77), (1, vI a), (2, vI x), (3, vI y), (4, vI t)]) (by decide +kernel) rfl (Nat.le_of_ble_eq_true rfl) ?_
  intro zp ze zs zm za zb zt zc zA hC
  have hz4 := ite_z (0 ≤ a ∧ a < 3)
  have hz12 := ite_z (0 ≤ x ∧ x < 5 ∧ 0 ≤ y ∧ y < 5)
  have hz30 := ite_z (0 ≤ t ∧ t < 8)
  refine jw_iload_n hC dX4_dieOf_0 1 rfl rfl ?_
  refine jw_callS hC (c_X4_isDie l E _ _ (by omega) (by omega)) sS_X4_52 dX4_dieOf_1 rfl rfl ⟨Nat.le_of_ble_eq_true rfl, Nat.le_of_ble_eq_true rfl⟩ ⟨Nat.zero_le _, Nat.zero_le _⟩ (Nat.le_of_ble_eq_true rfl) (fun v1 M1 g1 => ?_)
  obtain ⟨rfl, rfl⟩ := g1
  refine jw_if_eq (tgt := 15) hC dX4_dieOf_4 (by decide) (by omega) (by omega) (fun h4 => ?_) (fun h4 => ?_)
  · skip
    have z4 := ite_0 (C := 0 ≤ a ∧ a < 3) h4
    exfalso; omega
  · skip
    have z4 := ite_1 (C := 0 ≤ a ∧ a < 3) h4
    refine jw_iload_n hC dX4_dieOf_7 2 rfl rfl ?_
    refine jw_iload_n hC dX4_dieOf_8 3 rfl rfl ?_
    refine jw_callS hC (c_X4_isPoint l E _ _ _ (by omega) (by omega) (by omega) (by omega)) sS_X4_56 dX4_dieOf_9 rfl rfl ⟨Nat.le_of_ble_eq_true rfl, Nat.le_of_ble_eq_true rfl⟩ ⟨Nat.zero_le _, Nat.zero_le _⟩ (Nat.le_of_ble_eq_true rfl) (fun v9 M9 g9 => ?_)
    obtain ⟨rfl, rfl⟩ := g9
    refine jw_if_ne (tgt := 25) hC dX4_dieOf_12 (by decide) (by omega) (by omega) (fun h12 => ?_) (fun h12 => ?_)
    · skip
      have z12 := ite_1 (C := 0 ≤ x ∧ x < 5 ∧ 0 ≤ y ∧ y < 5) h12
      refine jw_iload hC dX4_dieOf_25 4 rfl ?_
      refine jw_callS hC (c_X4_isTurn l E _ _ (by omega) (by omega)) sS_X4_142 dX4_dieOf_27 rfl rfl ⟨Nat.le_of_ble_eq_true rfl, Nat.le_of_ble_eq_true rfl⟩ ⟨Nat.zero_le _, Nat.zero_le _⟩ (Nat.le_of_ble_eq_true rfl) (fun v27 M27 g27 => ?_)
      obtain ⟨rfl, rfl⟩ := g27
      refine jw_if_ne (tgt := 43) hC dX4_dieOf_30 (by decide) (by omega) (by omega) (fun h30 => ?_) (fun h30 => ?_)
      · skip
        have z30 := ite_1 (C := 0 ≤ t ∧ t < 8) h30
        refine jw_aload_n hC dX4_dieOf_43 0 rfl rfl ?_
        refine jw_getr hC fL_X4_12 ewR_x0 dX4_dieOf_44 ?_
        refine jw_iload_n hC dX4_dieOf_47 1 rfl rfl ?_
        refine jw_iload_n hC dX4_dieOf_48 2 rfl rfl ?_
        refine jw_iload_n hC dX4_dieOf_49 3 rfl rfl ?_
        refine jw_iload hC dX4_dieOf_50 4 rfl ?_
        refine jw_callV hC (c_X3_turnedPoint l E M 0 (by decide) a x y t (by omega) (by omega) (by omega) (by omega)) sV_X4_247 (show ewO 50 6 from ewO_state (j := 0) (by decide)) dX4_dieOf_52 rfl rfl ⟨Nat.le_of_ble_eq_true rfl, Nat.le_of_ble_eq_true rfl⟩ ⟨Nat.zero_le _, Nat.zero_le _⟩ (Nat.le_of_ble_eq_true rfl) (fun v52 M52 g52 => ?_)
        obtain ⟨rfl, rfl⟩ := g52
        refine jw_iret hC dX4_dieOf_55 ?_
        exact ⟨by omega, rfl, rfl⟩
      · skip
        have z30 := ite_0 (C := 0 ≤ t ∧ t < 8) h30
        exfalso; omega
    · skip
      have z12 := ite_0 (C := 0 ≤ x ∧ x < 5 ∧ 0 ≤ y ∧ y < 5) h12
      exfalso; omega
set_option maxRecDepth 100000 in
set_option maxHeartbeats 4000000 in
theorem c_X4_place (l : Launch) (E : ewE) (M : ewM) (h0 : st0 M) (x : Int) (x1 : -2147483648 ≤ x) (x2 : x < 2147483648) (y : Int) (y1 : -2147483648 ≤ y) (y2 : y < 2147483648) (w : Int) (w1 : -2147483648 ≤ w) (w2 : w < 2147483648) (hok : (0 ≤ x ∧ x < 12 ∧ 0 ≤ y ∧ y < 12) ∧ (0 ≤ w ∧ w < 7)) : Ct l E yX4_place (.code yX4_place cX4_place 5 (some .int)) 5 [vR E 77, vI x, vI y, vI w] M (fun v M1 => ((0 ≤ x ∧ x < 12 ∧ 0 ≤ y ∧ y < 12) ∧ (0 ≤ w ∧ w < 7)) ∧ v = some (vI (f_prop M (f_pl x y) w)) ∧ (-2147483648 ≤ f_prop M (f_pl x y) w ∧ f_prop M (f_pl x y) w < 2147483648) ∧ M = M1) := by
  refine ct_of (L0 := [(0, vR E 77), (1, vI x), (2, vI y), (3, vI w)]) (by decide +kernel) rfl (Nat.le_of_ble_eq_true rfl) ?_
  intro zp ze zs zm za zb zt zc zA hC
  have hpb := f_pl_bd x y
  refine jw_iload_n hC dX4_place_0 1 rfl rfl ?_
  refine jw_i2l hC dX4_place_1 (by omega) (by omega) ?_
  refine jw_iload_n hC dX4_place_2 2 rfl rfl ?_
  refine jw_i2l hC dX4_place_3 (by omega) (by omega) ?_
  refine jw_callS hC (c_X4_placeIndex l E _ _ _ (by omega) (by omega) (by omega) (by omega)) sS_X4_82 dX4_place_4 rfl rfl ⟨Nat.le_of_ble_eq_true rfl, Nat.le_of_ble_eq_true rfl⟩ ⟨Nat.zero_le _, Nat.zero_le _⟩ (Nat.le_of_ble_eq_true rfl) (fun v4 M4 g4 => ?_)
  obtain ⟨rfl, rfl⟩ := g4
  refine jw_istore (L' := [(4, _), (0, _), (1, _), (2, _), (3, _)]) hC dX4_place_7 (by decide) rfl ?_
  refine jw_iload hC dX4_place_9 0 rfl ?_
  refine jw_iconst hC dX4_place_11 ?_
  refine jw_icmp_ne (tgt := 25) hC dX4_place_12 (by decide) (by omega) (by omega) (by omega) (by omega) (fun h12 => ?_) (fun h12 => ?_)
  · skip
    have z12 := f_pl_2 h12
    refine jw_iload_n hC dX4_place_25 4 rfl rfl ?_
    refine jw_if_lt (tgt := 35) hC dX4_place_26 (by decide) (by omega) (by omega) (fun h26 => ?_) (fun h26 => ?_)
    · skip
      exfalso; omega
    · skip
      refine jw_iload_n hC dX4_place_29 4 rfl rfl ?_
      refine jw_bipush hC dX4_place_30 (by decide) ?_
      refine jw_icmp_lt (tgt := 45) hC dX4_place_32 (by decide) (by omega) (by omega) (by omega) (by omega) (fun h32 => ?_) (fun h32 => ?_)
      · skip
        refine jw_aload_n hC dX4_place_45 1 rfl rfl ?_
        refine jw_iload hC dX4_place_46 0 rfl ?_
        refine jw_iload_n hC dX4_place_48 4 rfl rfl ?_
        have hpe := f_pl_3 z12
        refine jw_callV hC (c_X4_propertyOf l E M h0 _ (by omega) w (by omega)) sV_X4_253 ewF_x4.o dX4_place_49 rfl rfl ⟨Nat.le_of_ble_eq_true rfl, Nat.le_of_ble_eq_true rfl⟩ ⟨Nat.zero_le _, Nat.zero_le _⟩ (Nat.le_of_ble_eq_true rfl) (fun v49 M49 g49 => ?_)
        obtain ⟨rfl, hnb, rfl⟩ := g49
        refine jw_iret hC dX4_place_52 ?_
        exact ⟨by omega, rfl, hnb, rfl⟩
      · skip
        exfalso; omega
  · skip
    have z12 := f_pl_1 h12
    exfalso; omega
set_option maxRecDepth 100000 in
set_option maxHeartbeats 4000000 in
theorem c_X4_count (l : Launch) (E : ewE) (M : ewM) (h0 : st0 M) (w : Int) (w1 : -2147483648 ≤ w) (w2 : w < 2147483648) (hok : 0 ≤ w ∧ w < 14) : Ct l E yX4_count (.code yX4_count cX4_count 2 (some .int)) 5 [vR E 77, vI w] M (fun v M1 => (0 ≤ w ∧ w < 14) ∧ v = some (vI (f_num M w)) ∧ (-2147483648 ≤ f_num M w ∧ f_num M w < 2147483648) ∧ M = M1) := by
  refine ct_of (L0 := [(0, vR E 77), (1, vI w)]) (by decide +kernel) rfl (Nat.le_of_ble_eq_true rfl) ?_
  intro zp ze zs zm za zb zt zc zA hC
  skip
  refine jw_iload_n hC dX4_count_0 1 rfl rfl ?_
  refine jw_if_lt (tgt := 10) hC dX4_count_1 (by decide) (by omega) (by omega) (fun h1 => ?_) (fun h1 => ?_)
  · skip
    exfalso; omega
  · skip
    refine jw_iload_n hC dX4_count_4 1 rfl rfl ?_
    refine jw_bipush hC dX4_count_5 (by decide) ?_
    refine jw_icmp_lt (tgt := 21) hC dX4_count_7 (by decide) (by omega) (by omega) (by omega) (by omega) (fun h7 => ?_) (fun h7 => ?_)
    · skip
      refine jw_aload_n hC dX4_count_21 0 rfl rfl ?_
      refine jw_iload_n hC dX4_count_22 1 rfl rfl ?_
      refine jw_callV hC (c_X4_numberOf l E M h0 w (by omega)) sV_X4_258 ewF_x4.o dX4_count_23 rfl rfl ⟨Nat.le_of_ble_eq_true rfl, Nat.le_of_ble_eq_true rfl⟩ ⟨Nat.zero_le _, Nat.zero_le _⟩ (Nat.le_of_ble_eq_true rfl) (fun v23 M23 g23 => ?_)
      obtain ⟨rfl, hnb, rfl⟩ := g23
      refine jw_iret hC dX4_count_26 ?_
      exact ⟨by omega, rfl, hnb, rfl⟩
    · skip
      exfalso; omega
set_option maxRecDepth 100000 in
set_option maxHeartbeats 4000000 in
theorem c_X4_setting (l : Launch) (E : ewE) (M : ewM) (w : Int) (w1 : -2147483648 ≤ w) (w2 : w < 2147483648) (hok : 0 ≤ w ∧ w < 4) : Ct l E yX4_setting (.code yX4_setting cX4_setting 2 (some .int)) 5 [vR E 77, vI w] M (fun v M1 => (0 ≤ w ∧ w < 4) ∧ v = some (vI (M 52 w)) ∧ M = M1) := by
  refine ct_of (L0 := [(0, vR E 77), (1, vI w)]) (by decide +kernel) rfl (Nat.le_of_ble_eq_true rfl) ?_
  intro zp ze zs zm za zb zt zc zA hC
  have hz4 := ite_z (0 ≤ w ∧ w < 4)
  refine jw_iload_n hC dX4_setting_0 1 rfl rfl ?_
  refine jw_callS hC (c_X4_isSetting l E _ _ (by omega) (by omega)) sS_X4_182 dX4_setting_1 rfl rfl ⟨Nat.le_of_ble_eq_true rfl, Nat.le_of_ble_eq_true rfl⟩ ⟨Nat.zero_le _, Nat.zero_le _⟩ (Nat.le_of_ble_eq_true rfl) (fun v1 M1 g1 => ?_)
  obtain ⟨rfl, rfl⟩ := g1
  refine jw_if_ne (tgt := 17) hC dX4_setting_4 (by decide) (by omega) (by omega) (fun h4 => ?_) (fun h4 => ?_)
  · skip
    have z4 := ite_1 (C := 0 ≤ w ∧ w < 4) h4
    refine jw_aload_n hC dX4_setting_17 0 rfl rfl ?_
    refine jw_getr hC fL_X4_12 ewR_x0 dX4_setting_18 ?_
    refine jw_getr hC fL_X4_165 (show ewR 50 6 1 52 from ewR_t1 (j := 0) (by decide)) dX4_setting_21 ?_
    refine jw_iload_n hC dX4_setting_24 1 rfl rfl ?_
    refine jw_iald hC (show ewA 52 0 4 from ewA_settings (j := 0) (by decide)) dX4_setting_25 (by omega) (by omega) (by decide) (fun b25 c25 => ?_)
    refine jw_iret hC dX4_setting_26 ?_
    exact ⟨by omega, rfl, rfl⟩
  · skip
    have z4 := ite_0 (C := 0 ≤ w ∧ w < 4) h4
    exfalso; omega
set_option maxRecDepth 100000 in
set_option maxHeartbeats 4000000 in
theorem c_X4_wholeShare (l : Launch) (E : ewE) (M : ewM) (h0 : st0 M) : Ct l E yX4_wholeShare (.code yX4_wholeShare cX4_wholeShare 1 (some .double)) 5 [vR E 77] M (fun v M1 => v = some (Value.double (f_sh (144 - f_sum (M 3) 144))) ∧ M = M1) := by
  refine ct_of (L0 := [(0, vR E 77)]) (by decide +kernel) rfl (Nat.le_of_ble_eq_true rfl) ?_
  intro zp ze zs zm za zb zt zc zA hC
  have hb := f_sum_C h0.2.1
  refine jw_sipush hC dX4_wholeShare_0 (by decide) ?_
  refine jw_aload_n hC dX4_wholeShare_3 0 rfl rfl ?_
  refine jw_getr hC fL_X4_12 ewR_x0 dX4_wholeShare_4 ?_
  refine jw_getr hC fL_X4_88 (show ewR 50 6 2 0 from ewR_t2 (j := 0) (by decide)) dX4_wholeShare_7 ?_
  refine jw_callV hC (c_X2_cracked l E M 0 (by decide)) sV_X4_104 (show ewO 0 5 from ewO_sheet (j := 0) (by decide)) dX4_wholeShare_10 rfl rfl ⟨Nat.le_of_ble_eq_true rfl, Nat.le_of_ble_eq_true rfl⟩ ⟨Nat.zero_le _, Nat.zero_le _⟩ (Nat.le_of_ble_eq_true rfl) (fun v10 M10 g10 => ?_)
  obtain ⟨rfl, rfl⟩ := g10
  show jJ _ _ _ _ _ _ _ _ _ _ _ _ _ _ _ _ _ _ (vI (f_sum (M 3) 144) :: _) _
  refine jw_isub hC dX4_wholeShare_13 ?_
  refine jw_i2d hC dX4_wholeShare_14 ?_
  refine jw_ldc2d hC w3_83 dX4_wholeShare_15 ?_
  refine jw_ddiv hC (f_sh_n (by omega) (by omega)) dX4_wholeShare_18 ?_
  refine jw_dret hC dX4_wholeShare_19 ?_
  exact ⟨rfl, rfl⟩
