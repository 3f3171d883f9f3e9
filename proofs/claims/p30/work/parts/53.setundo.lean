/-! THE CLASS: set, undo -/
theorem g_bnd (k : Nat) : (0 ≤ g_least k ∧ g_least k ≤ 1) ∧ 9 ≤ g_great k ∧ g_great k ≤ 99 := by
  unfold g_least g_great
  split <;> split <;> (try split) <;> omega
set_option maxRecDepth 100000 in
set_option maxHeartbeats 4000000 in
theorem c_X4_set (l : Launch) (E : ewE) (M : ewM) (q4 : 0 ≤ M 77 4 ∧ M 77 4 ≤ 5) (q5 : 0 ≤ M 77 5 ∧ M 77 5 ≤ 6) (a : Int) (a1 : -2147483648 ≤ a) (a2 : a < 2147483648) (x : Int) (x1 : -2147483648 ≤ x) (x2 : x < 2147483648) (hok : (0 ≤ a ∧ a < 4) ∧ (g_least a.toNat ≤ x ∧ x ≤ g_great a.toNat)) : Ct l E yX4_set (.code yX4_set cX4_set 4 (some .int)) 5 [vR E 77, vI a, vI x] M (fun v M1 => ((0 ≤ a ∧ a < 4) ∧ (g_least a.toNat ≤ x ∧ x ≤ g_great a.toNat)) ∧ ∃ N : ewM, svc M N ∧ v = some (vI (M 52 a)) ∧ M1 = mu N 52 a x) := by
  refine ct_of (L0 := [(0, vR E 77), (1, vI a), (2, vI x)]) (by decide +kernel) rfl (Nat.le_of_ble_eq_true rfl) ?_
  intro zp ze zs zm za zb zt zc zA hC
  have hz4 := ite_z (0 ≤ a ∧ a < 4)
  have hgb := g_bnd a.toNat
  refine jw_iload_n hC dX4_set_0 1 rfl rfl ?_
  refine jw_callS hC (c_X4_isSetting l E _ _ (by omega) (by omega)) sS_X4_182 dX4_set_1 rfl rfl ⟨Nat.le_of_ble_eq_true rfl, Nat.le_of_ble_eq_true rfl⟩ ⟨Nat.zero_le _, Nat.zero_le _⟩ (Nat.le_of_ble_eq_true rfl) (fun v1 M1 g1 => ?_)
  obtain ⟨rfl, rfl⟩ := g1
  refine jw_if_ne (tgt := 17) hC dX4_set_4 (by decide) (by omega) (by omega) (fun h4 => ?_) (fun h4 => ?_)
  · skip
    have z4 := ite_1 (C := 0 ≤ a ∧ a < 4) h4
    refine jw_iload_n hC dX4_set_17 2 rfl rfl ?_
    refine jw_gets_least hC w3_6 dX4_set_18 ?_
    refine jw_iload_n hC dX4_set_21 1 rfl rfl ?_
    refine jw_ild_least hC (by omega) (by omega) dX4_set_22 ?_
    refine jw_icmp_lt (tgt := 35) hC dX4_set_23 (by decide) (by omega) (by omega) (by omega) (by omega) (fun h23 => ?_) (fun h23 => ?_)
    · skip
      exfalso; omega
    · skip
      refine jw_iload_n hC dX4_set_26 2 rfl rfl ?_
      refine jw_gets_great hC w3_8 dX4_set_27 ?_
      refine jw_iload_n hC dX4_set_30 1 rfl rfl ?_
      refine jw_ild_great hC (by omega) (by omega) dX4_set_31 ?_
      refine jw_icmp_le (tgt := 45) hC dX4_set_32 (by decide) (by omega) (by omega) (by omega) (by omega) (fun h32 => ?_) (fun h32 => ?_)
      · skip
        refine jw_aload_n hC dX4_set_45 0 rfl rfl ?_
        refine jw_callV hC (c_X4_saveState l E M q4 q5) sV_X4_72 ewF_x4.o dX4_set_46 rfl rfl ⟨Nat.le_of_ble_eq_true rfl, Nat.le_of_ble_eq_true rfl⟩ ⟨Nat.zero_le _, Nat.zero_le _⟩ (Nat.le_of_ble_eq_true rfl) (fun v46 M46 g46 => ?_)
        obtain ⟨rfl, s1, s2⟩ := g46
        have hsv : svc M M46 := ⟨s1, s2⟩
        have e1 := svc_o hsv 1 (by omega)
        have e2 := svc_o hsv 2 (by omega)
        have e3 := svc_o hsv 3 (by omega)
        have e4 := svc_o hsv 4 (by omega)
        have e50 := svc_o hsv 50 (by omega)
        have e51 := svc_o hsv 51 (by omega)
        have e52 := svc_o hsv 52 (by omega)
        have e79 := svc_o hsv 79 (by omega)
        have e81 := svc_o hsv 81 (by omega)
        have e82 := svc_o hsv 82 (by omega)
        refine jw_aload_n hC dX4_set_49 0 rfl rfl ?_
        refine jw_getr hC fL_X4_12 ewR_x0 dX4_set_50 ?_
        refine jw_getr hC fL_X4_165 (show ewR 50 6 1 52 from ewR_t1 (j := 0) (by decide)) dX4_set_53 ?_
        refine jw_iload_n hC dX4_set_56 1 rfl rfl ?_
        refine jw_iald hC (show ewA 52 0 4 from ewA_settings (j := 0) (by decide)) dX4_set_57 (by omega) (by omega) (by decide) (fun b57 c57 => ?_)
        rw [e52] at b57 c57 ⊢
        refine jw_istore_n (L' := [(3, _), (0, _), (1, _), (2, _)]) hC dX4_set_58 rfl (by decide) rfl ?_
        refine jw_aload_n hC dX4_set_59 1 rfl rfl ?_
        refine jw_getr hC fL_X4_12 ewR_x0 dX4_set_60 ?_
        refine jw_getr hC fL_X4_165 (show ewR 50 6 1 52 from ewR_t1 (j := 0) (by decide)) dX4_set_63 ?_
        refine jw_iload_n hC dX4_set_66 2 rfl rfl ?_
        refine jw_iload_n hC dX4_set_67 3 rfl rfl ?_
        refine jw_iast hC (show ewA 52 0 4 from ewA_settings (j := 0) (by decide)) dX4_set_68 (by omega) (by omega) (by decide) (by omega) (by omega) ?_
        refine jw_iload_n hC dX4_set_69 0 rfl rfl ?_
        refine jw_iret hC dX4_set_70 ?_
        exact ⟨by omega, M46, hsv, rfl, rfl⟩
      · skip
        exfalso; omega
  · skip
    have z4 := ite_0 (C := 0 ≤ a ∧ a < 4) h4
    exfalso; omega
set_option maxRecDepth 100000 in
set_option maxHeartbeats 4000000 in
theorem c_X4_undo (l : Launch) (E : ewE) (M : ewM) (q4 : 0 ≤ M 77 4 ∧ M 77 4 ≤ 5) (q5 : 0 ≤ M 77 5 ∧ M 77 5 ≤ 6)  (hok : ¬ M 77 5 = 0) : Ct l E yX4_undo (.code yX4_undo cX4_undo 1 (some .int)) 5 [vR E 77] M (fun v M1 => (¬ M 77 5 = 0) ∧ v = some (vI (M 77 5 - 1)) ∧ ∀ j : Nat, (j : Int) = 3 + (M 77 4 + (M 77 5 - 1)) % 6 → cpS M j M1 0 ∧ M1 77 = (mu M 77 5 (M 77 5 - 1)) 77 ∧ ∀ o, o ≠ 77 → (o < 1 ∨ 4 < o) → (o < 50 ∨ 52 < o) → M1 o = M o) := by
  refine ct_of (L0 := [(0, vR E 77)]) (by decide +kernel) rfl (Nat.le_of_ble_eq_true rfl) ?_
  intro zp ze zs zm za zb zt zc zA hC
  skip
  refine jw_aload_n hC dX4_undo_0 0 rfl rfl ?_
  refine jw_geti hC fL_X4_239.r ewF_x5 (kI := 5) rfl dX4_undo_1 (by omega) (fun b1 c1 => ?_)
  refine jw_if_ne (tgt := 17) hC dX4_undo_4 (by decide) (by omega) (by omega) (fun h4 => ?_) (fun h4 => ?_)
  · skip
    refine jw_aload_n hC dX4_undo_17 0 rfl rfl ?_
    refine jw_dupr hC dX4_undo_18 ?_
    refine jw_geti hC fL_X4_239.r ewF_x5 (kI := 5) rfl dX4_undo_19 (by omega) (fun b19 c19 => ?_)
    refine jw_iconst hC dX4_undo_22 ?_
    refine jw_isub hC dX4_undo_23 ?_
    refine jw_puti hC fL_X4_239 ewF_x5 (kI := 5) rfl dX4_undo_24 (by omega) (by omega) ?_
    refine jw_aload_n hC dX4_undo_27 0 rfl rfl ?_
    refine jw_getr hC fL_X4_12 ewR_x0 dX4_undo_28 ?_
    refine jw_aload_n hC dX4_undo_31 0 rfl rfl ?_
    refine jw_getr hC fL_X4_24 ewR_x3 dX4_undo_32 ?_
    refine jw_aload_n hC dX4_undo_35 0 rfl rfl ?_
    refine jw_geti hC fL_X4_244.r ewF_x4 (kI := 4) rfl dX4_undo_36 (by omega) (fun b36 c36 => ?_)
    rw [mu_nk _ _ _ (by decide)] at b36 c36 ⊢
    refine jw_aload_n hC dX4_undo_39 0 rfl rfl ?_
    refine jw_geti hC fL_X4_239.r ewF_x5 (kI := 5) rfl dX4_undo_40 (by omega) (fun b40 c40 => ?_)
    rw [mu_eq] at b40 c40 ⊢
    refine jw_iadd hC dX4_undo_43 ?_
    refine jw_bipush hC dX4_undo_44 (by decide) ?_
    refine jw_irem hC dX4_undo_46 (by omega) (by omega) (by omega) (by omega) ?_
    obtain ⟨jj, hjv⟩ : ∃ jj : Nat, (jj : Int) = 3 + (M 77 4 + (M 77 5 - 1)) % 6 := ⟨(3 + (M 77 4 + (M 77 5 - 1)) % 6).toNat, by omega⟩
    refine jw_aald_saved hC (jj - 3) (by omega) (by omega) dX4_undo_47 ?_
    rw [show 59 + 3 * (jj - 3) = 50 + 3 * jj by omega]
    refine jw_callV hC (c_X3_copyFrom l E (mu M 77 5 (M 77 5 - 1)) 0 (by decide) jj (by omega) (by omega)) sV_X4_230 (show ewO 50 6 from ewO_state (j := 0) (by decide)) dX4_undo_48 rfl rfl ⟨Nat.le_of_ble_eq_true rfl, Nat.le_of_ble_eq_true rfl⟩ ⟨Nat.zero_le _, Nat.zero_le _⟩ (Nat.le_of_ble_eq_true rfl) (fun v48 M48 g48 => ?_)
    obtain ⟨rfl, c1, c2, c3, c4, c5⟩ := g48
    have e77 : M48 77 = (mu M 77 5 (M 77 5 - 1)) 77 := c5 77 (by omega) (by omega)
    refine jw_aload_n hC dX4_undo_51 0 rfl rfl ?_
    refine jw_geti hC fL_X4_239.r ewF_x5 (kI := 5) rfl dX4_undo_52 (by omega) (fun b52 c52 => ?_)
    rw [e77, mu_eq] at b52 c52 ⊢
    refine jw_iret hC dX4_undo_55 ?_
    refine ⟨by omega, rfl, fun j9 hj9 => ?_⟩
    have e9 : j9 = jj := by omega
    rw [e9]
    exact ⟨⟨by rw [c1, mu_ne _ _ _ (by omega)], by rw [c2, mu_ne _ _ _ (by omega)], fun r r0 r1 => by rw [c3 r r0 r1, mu_ne _ _ _ (by omega)], fun k k0 k1 => by rw [c4 k k0 k1, mu_ne _ _ _ (by omega)]⟩, c5 77 (by omega) (by omega), fun o o1 o2 o3 => by rw [c5 o (by omega) (by omega), mu_ne _ _ _ o1]⟩
  · skip
    exfalso; omega
