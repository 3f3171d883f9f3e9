/-! THE REFERENCE: settings, going back -/
set_option maxRecDepth 100000 in
set_option maxHeartbeats 4000000 in
theorem c_X5_goBack (l : Launch) (E : ewE) (M : ewM) (hc : 0 ≤ M 88 4 ∧ M 88 4 ≤ 6) (a : Int) (a1 : -2147483648 ≤ a) (a2 : a < 2147483648) : Ct l E yX5_goBack (.code yX5_goBack cX5_goBack 3 (some .int)) 2 [vR E 88, vI a] M (fun v M1 => (¬ (0 ≤ a ∧ a ≤ 1) → v = some (vI 0) ∧ M1 = mu (mu M 88 0 0) 88 0 1) ∧ (0 ≤ a ∧ a ≤ 1 → M 93 a = 0 → v = some (vI 0) ∧ M1 = mu (mu M 88 0 0) 88 0 2) ∧ (0 ≤ a ∧ a ≤ 1 → M 93 a ≠ 0 → ∃ N : ewM, svs (mu M 88 0 0) N ∧ v = some (vI (M 92 (667 * a + 6))) ∧ (∀ i : Int, M1 89 i = if 0 ≤ i ∧ i < 667 then M 92 (667 * a + i) else M 89 i) ∧ ∀ o, o ≠ 89 → M1 o = N o)) := by
  refine ct_of (L0 := [(0, vR E 88), (1, vI a)]) (by decide +kernel) rfl (Nat.le_of_ble_eq_true rfl) ?_
  intro zp ze zs zm za zb zt zc zA hC
  have hz0 := ite_z (0 ≤ a ∧ a ≤ 1)
  have K41 : ∀ (q0 : 0 ≤ a ∧ a ≤ 1) (hs : M 93 a ≠ 0) (N : ewM) (hsv : svs (mu M 88 0 0) N) (n : Nat) (k : Int) (M1 : ewM), 667 - k < n → 0 ≤ k → k ≤ 667 → (∀ i : Int, M1 89 i = if 0 ≤ i ∧ i < k then M 92 (667 * a + i) else M 89 i) → (∀ o, o ≠ 89 → M1 o = N o) → jJ zp l ze (ct_rm 2) zs zm za zb zt zc E zA 3 0 0 (MQ zb (ct_Q E zA (fun v M1 => (¬ (0 ≤ a ∧ a ≤ 1) → v = some (vI 0) ∧ M1 = mu (mu M 88 0 0) 88 0 1) ∧ (0 ≤ a ∧ a ≤ 1 → M 93 a = 0 → v = some (vI 0) ∧ M1 = mu (mu M 88 0 0) 88 0 2) ∧ (0 ≤ a ∧ a ≤ 1 → M 93 a ≠ 0 → ∃ N : ewM, svs (mu M 88 0 0) N ∧ v = some (vI (M 92 (667 * a + 6))) ∧ (∀ i : Int, M1 89 i = if 0 ≤ i ∧ i < 667 then M 92 (667 * a + i) else M 89 i) ∧ ∀ o, o ≠ 89 → M1 o = N o))) za zs 0 0 zA) 41 [(0, vR E 88), (1, vI a), (2, vI k)] [] M1 := by
    intro q0 hs N hsv n
    induction n with
    | zero => intros; omega
    | succ n ih =>
      intro k M1 i1 i2 i3 g1 g2
      refine jw_iload_n hC dX5_goBack_41 2 rfl rfl ?_
      refine jw_sipush hC dX5_goBack_42 (by decide) ?_
      refine jw_icmp_ge (tgt := 72) hC dX5_goBack_45 (by decide) (by omega) (by omega) (by omega) (by omega) (fun h45 => ?_) (fun h45 => ?_)
      · skip
        refine jw_aload_n hC dX5_goBack_72 0 rfl rfl ?_
        refine jw_getr hC fL_X5_7 ewR_m1 dX5_goBack_73 ?_
        refine jw_bipush hC dX5_goBack_76 (by decide) ?_
        refine jw_iald hC ewA_89 dX5_goBack_78 (by omega) (by omega) (by decide) (fun b78 c78 => ?_)
        have e78 : M1 89 6 = M 92 (667 * a + 6) := by rw [g1 6, if_pos (by omega)]
        refine jw_iret hC dX5_goBack_79 ?_
        have e9 : k = 667 := by omega
        subst e9
        exact ⟨fun z => absurd q0 z, fun _ z => absurd z hs, fun _ _ => ⟨N, hsv, by rw [e78], g1, g2⟩⟩
      · skip
        refine jw_aload_n hC dX5_goBack_48 0 rfl rfl ?_
        refine jw_getr hC fL_X5_7 ewR_m1 dX5_goBack_49 ?_
        refine jw_iload_n hC dX5_goBack_52 2 rfl rfl ?_
        refine jw_aload_n hC dX5_goBack_53 0 rfl rfl ?_
        refine jw_getr hC fL_X5_19 ewR_m5 dX5_goBack_54 ?_
        refine jw_sipush hC dX5_goBack_57 (by decide) ?_
        refine jw_iload_n hC dX5_goBack_60 1 rfl rfl ?_
        refine jw_imul hC dX5_goBack_61 ?_
        refine jw_iload_n hC dX5_goBack_62 2 rfl rfl ?_
        refine jw_iadd hC dX5_goBack_63 ?_
        refine jw_iald hC ewA_92 dX5_goBack_64 (by omega) (by omega) (by decide) (fun b64 c64 => ?_)
        have e64 : M1 92 (667 * a + k) = M 92 (667 * a + k) := by rw [g2 92 (by decide), hsv.2.2 92 (by decide) (by decide), mu_ne _ _ _ (by decide)]
        rw [e64] at b64 c64 ⊢
        refine jw_iast hC ewA_89 dX5_goBack_65 (by omega) (by omega) (by decide) (by omega) (by omega) ?_
        refine jw_iinc (L' := [(2, _), (0, _), (1, _)]) hC dX5_goBack_66 2 rfl (by decide) rfl ?_
        refine jw_goto (tgt := 41) hC dX5_goBack_69 (by decide) ?_
        refine jw_loc (L' := [(0, _), (1, _), (2, _)]) [1, 2, 0] rfl ?_
        refine ih _ _ (by omega) (by omega) (by omega) (fun q => ?_) (fun o o1 => by rw [mu_ne _ _ _ o1]; exact g2 o o1)
        by_cases hq : q = k
        · subst hq
          rw [mu_eq, if_pos (by omega)]
        · rw [mu_nk _ _ _ hq, g1]
          by_cases h9 : 0 ≤ q ∧ q < k
          · rw [if_pos h9, if_pos (by omega)]
          · rw [if_neg h9, if_neg (by omega)]
  refine jw_aload_n hC dX5_goBack_0 0 rfl rfl ?_
  refine jw_iconst hC dX5_goBack_1 ?_
  refine jw_puti hC fL_X5_35 ewF_m0 (kI := 0) rfl dX5_goBack_2 (by omega) (by omega) ?_
  refine jw_iload_n hC dX5_goBack_5 1 rfl rfl ?_
  refine jw_iconst hC dX5_goBack_6 ?_
  refine jw_iconst hC dX5_goBack_7 ?_
  refine jw_callS hC (c_X5_in l E _ _ _ _ (by omega) (by omega) (by omega) (by omega) (by omega) (by omega)) sS_X5_39 dX5_goBack_8 rfl rfl ⟨Nat.le_of_ble_eq_true rfl, Nat.le_of_ble_eq_true rfl⟩ ⟨Nat.zero_le _, Nat.zero_le _⟩ (Nat.le_of_ble_eq_true rfl) (fun v8 M8 g8 => ?_)
  obtain ⟨rfl, rfl⟩ := g8
  refine jw_if_ne (tgt := 20) hC dX5_goBack_11 (by decide) (by omega) (by omega) (fun h11 => ?_) (fun h11 => ?_)
  · skip
    have q0 := ite_1 (C := 0 ≤ a ∧ a ≤ 1) h11
    refine jw_aload_n hC dX5_goBack_20 0 rfl rfl ?_
    refine jw_getr hC fL_X5_22 ewR_m6 dX5_goBack_21 ?_
    refine jw_iload_n hC dX5_goBack_24 1 rfl rfl ?_
    refine jw_zald hC ewA_93 dX5_goBack_25 (by omega) (by omega) (by decide) (fun b25 c25 => ?_)
    rw [mu_ne _ _ _ (show (93 : Nat) ≠ 88 by decide)] at b25 c25 ⊢
    refine jw_if_ne (tgt := 35) hC dX5_goBack_26 (by decide) (by omega) (by omega) (fun h26 => ?_) (fun h26 => ?_)
    · skip
      refine jw_aload_n hC dX5_goBack_35 0 rfl rfl ?_
      refine jw_callV hC (c_X5_saves l E (mu M 88 0 0) (svs_c hc)) sV_X5_104 ewF_m0.o dX5_goBack_36 rfl rfl ⟨Nat.le_of_ble_eq_true rfl, Nat.le_of_ble_eq_true rfl⟩ ⟨Nat.zero_le _, Nat.zero_le _⟩ (Nat.le_of_ble_eq_true rfl) (fun v36 M36 g36 => ?_)
      obtain ⟨rfl, s1, s2, s3⟩ := g36
      have hsv : svs (mu M 88 0 0) M36 := ⟨s1, s2, s3⟩
      have e89 := svs_89 hsv
      refine jw_iconst hC dX5_goBack_39 ?_
      refine jw_istore_n (L' := [(2, _), (0, _), (1, _)]) hC dX5_goBack_40 rfl (by decide) rfl ?_
      refine jw_loc (L' := [(0, _), (1, _), (2, _)]) [1, 2, 0] rfl ?_
      exact K41 q0 h26 M36 hsv 668 0 _ (by omega) (by omega) (by omega) (fun i => by rw [e89, if_neg (by omega)]) (fun o o1 => rfl)
    · skip
      refine jw_aload_n hC dX5_goBack_29 0 rfl rfl ?_
      refine jw_iconst hC dX5_goBack_30 ?_
      refine jw_callV hC (c_X5_fails l E _ _ (by decide) (by decide)) sV_X5_101 ewF_m0.o dX5_goBack_31 rfl rfl ⟨Nat.le_of_ble_eq_true rfl, Nat.le_of_ble_eq_true rfl⟩ ⟨Nat.zero_le _, Nat.zero_le _⟩ (Nat.le_of_ble_eq_true rfl) (fun v31 M31 g31 => ?_)
      obtain ⟨rfl, rfl⟩ := g31
      refine jw_iret hC dX5_goBack_34 ?_
      exact ⟨fun z => absurd (ite_1 (C := 0 ≤ a ∧ a ≤ 1) h11) z, fun _ _ => ⟨rfl, rfl⟩, fun _ z => absurd h26 z⟩
  · skip
    refine jw_aload_n hC dX5_goBack_14 0 rfl rfl ?_
    refine jw_iconst hC dX5_goBack_15 ?_
    refine jw_callV hC (c_X5_fails l E _ _ (by decide) (by decide)) sV_X5_101 ewF_m0.o dX5_goBack_16 rfl rfl ⟨Nat.le_of_ble_eq_true rfl, Nat.le_of_ble_eq_true rfl⟩ ⟨Nat.zero_le _, Nat.zero_le _⟩ (Nat.le_of_ble_eq_true rfl) (fun v16 M16 g16 => ?_)
    obtain ⟨rfl, rfl⟩ := g16
    refine jw_iret hC dX5_goBack_19 ?_
    exact ⟨fun _ => ⟨rfl, rfl⟩, fun z => absurd z (ite_0 h11), fun z => absurd z (ite_0 h11)⟩
set_option maxRecDepth 100000 in
set_option maxHeartbeats 4000000 in
theorem c_X5_undo (l : Launch) (E : ewE) (M : ewM) (hc : 0 ≤ M 88 4 ∧ M 88 4 ≤ 6) : Ct l E yX5_undo (.code yX5_undo cX5_undo 2 (some .int)) 2 [vR E 88] M (fun v M1 => (M 88 4 = 0 → v = some (vI 0) ∧ M1 = mu (mu M 88 0 0) 88 0 1) ∧ (M 88 4 ≠ 0 → v = some (vI (M 88 4 - 1)) ∧ M1 88 = mu (mu M 88 0 0) 88 4 (M 88 4 - 1) 88 ∧ (∀ i : Int, M1 89 i = if 0 ≤ i ∧ i < 667 then M 91 (667 * (M 88 4 - 1) + i) else M 89 i) ∧ ∀ o, o ≠ 88 → o ≠ 89 → M1 o = M o)) := by
  refine ct_of (L0 := [(0, vR E 88)]) (by decide +kernel) rfl (Nat.le_of_ble_eq_true rfl) ?_
  intro zp ze zs zm za zb zt zc zA hC
  have K30 : ∀ (hs : M 88 4 ≠ 0) (n : Nat) (k : Int) (M1 : ewM), 667 - k < n → 0 ≤ k → k ≤ 667 → (∀ i : Int, M1 89 i = if 0 ≤ i ∧ i < k then M 91 (667 * (M 88 4 - 1) + i) else M 89 i) → (∀ o, o ≠ 88 → o ≠ 89 → M1 o = M o) → M1 88 = mu (mu M 88 0 0) 88 4 (M 88 4 - 1) 88 → jJ zp l ze (ct_rm 2) zs zm za zb zt zc E zA 2 0 0 (MQ zb (ct_Q E zA (fun v M1 => (M 88 4 = 0 → v = some (vI 0) ∧ M1 = mu (mu M 88 0 0) 88 0 1) ∧ (M 88 4 ≠ 0 → v = some (vI (M 88 4 - 1)) ∧ M1 88 = mu (mu M 88 0 0) 88 4 (M 88 4 - 1) 88 ∧ (∀ i : Int, M1 89 i = if 0 ≤ i ∧ i < 667 then M 91 (667 * (M 88 4 - 1) + i) else M 89 i) ∧ ∀ o, o ≠ 88 → o ≠ 89 → M1 o = M o))) za zs 0 0 zA) 30 [(0, vR E 88), (1, vI k)] [] M1 := by
    intro hs n
    induction n with
    | zero => intros; omega
    | succ n ih =>
      intro k M1 i1 i2 i3 g1 g2 g3
      have h84 : M1 88 4 = M 88 4 - 1 := by rw [g3, mu_eq]
      refine jw_iload_n hC dX5_undo_30 1 rfl rfl ?_
      refine jw_sipush hC dX5_undo_31 (by decide) ?_
      refine jw_icmp_ge (tgt := 64) hC dX5_undo_34 (by decide) (by omega) (by omega) (by omega) (by omega) (fun h34 => ?_) (fun h34 => ?_)
      · skip
        refine jw_aload_n hC dX5_undo_64 0 rfl rfl ?_
        refine jw_geti hC fL_X5_43.r ewF_m4 (kI := 4) rfl dX5_undo_65 (by omega) (fun b65 c65 => ?_)
        rw [h84] at b65 c65 ⊢
        refine jw_iret hC dX5_undo_68 ?_
        have e9 : k = 667 := by omega
        subst e9
        exact ⟨fun z => absurd z hs, fun _ => ⟨rfl, g3, g1, g2⟩⟩
      · skip
        refine jw_aload_n hC dX5_undo_37 0 rfl rfl ?_
        refine jw_getr hC fL_X5_7 ewR_m1 dX5_undo_38 ?_
        refine jw_iload_n hC dX5_undo_41 1 rfl rfl ?_
        refine jw_aload_n hC dX5_undo_42 0 rfl rfl ?_
        refine jw_getr hC fL_X5_16 ewR_m3 dX5_undo_43 ?_
        refine jw_sipush hC dX5_undo_46 (by decide) ?_
        refine jw_aload_n hC dX5_undo_49 0 rfl rfl ?_
        refine jw_geti hC fL_X5_43.r ewF_m4 (kI := 4) rfl dX5_undo_50 (by omega) (fun b50 c50 => ?_)
        rw [h84] at b50 c50 ⊢
        refine jw_imul hC dX5_undo_53 ?_
        refine jw_iload_n hC dX5_undo_54 1 rfl rfl ?_
        refine jw_iadd hC dX5_undo_55 ?_
        refine jw_iald hC ewA_91 dX5_undo_56 (by omega) (by omega) (by decide) (fun b56 c56 => ?_)
        rw [g2 91 (by decide) (by decide)] at b56 c56 ⊢
        refine jw_iast hC ewA_89 dX5_undo_57 (by omega) (by omega) (by decide) (by omega) (by omega) ?_
        refine jw_iinc (L' := [(1, _), (0, _)]) hC dX5_undo_58 1 rfl (by decide) rfl ?_
        refine jw_goto (tgt := 30) hC dX5_undo_61 (by decide) ?_
        refine jw_loc (L' := [(0, _), (1, _)]) [1, 0] rfl ?_
        refine ih _ _ (by omega) (by omega) (by omega) (fun q => ?_) (fun o o1 o2 => by rw [mu_ne _ _ _ o2]; exact g2 o o1 o2) (by rw [mu_ne _ _ _ (by decide)]; exact g3)
        by_cases hq : q = k
        · subst hq
          rw [mu_eq, if_pos (by omega)]
        · rw [mu_nk _ _ _ hq, g1]
          by_cases h9 : 0 ≤ q ∧ q < k
          · rw [if_pos h9, if_pos (by omega)]
          · rw [if_neg h9, if_neg (by omega)]
  refine jw_aload_n hC dX5_undo_0 0 rfl rfl ?_
  refine jw_iconst hC dX5_undo_1 ?_
  refine jw_puti hC fL_X5_35 ewF_m0 (kI := 0) rfl dX5_undo_2 (by omega) (by omega) ?_
  refine jw_aload_n hC dX5_undo_5 0 rfl rfl ?_
  refine jw_geti hC fL_X5_43.r ewF_m4 (kI := 4) rfl dX5_undo_6 (by omega) (fun b6 c6 => ?_)
  rw [mu_nk _ _ _ (by decide)] at b6 c6 ⊢
  refine jw_if_ne (tgt := 18) hC dX5_undo_9 (by decide) (by omega) (by omega) (fun h9 => ?_) (fun h9 => ?_)
  · skip
    refine jw_aload_n hC dX5_undo_18 0 rfl rfl ?_
    refine jw_dupr hC dX5_undo_19 ?_
    refine jw_geti hC fL_X5_43.r ewF_m4 (kI := 4) rfl dX5_undo_20 (by omega) (fun b20 c20 => ?_)
    rw [mu_nk _ _ _ (by decide)] at b20 c20 ⊢
    refine jw_iconst hC dX5_undo_23 ?_
    refine jw_isub hC dX5_undo_24 ?_
    refine jw_puti hC fL_X5_43 ewF_m4 (kI := 4) rfl dX5_undo_25 (by omega) (by omega) ?_
    refine jw_iconst hC dX5_undo_28 ?_
    refine jw_istore_n (L' := [(1, _), (0, _)]) hC dX5_undo_29 rfl (by decide) rfl ?_
    refine jw_loc (L' := [(0, _), (1, _)]) [1, 0] rfl ?_
    exact K30 h9 668 0 _ (by omega) (by omega) (by omega) (fun i => by rw [mu_ne _ _ _ (by decide), mu_ne _ _ _ (by decide), if_neg (by omega)]) (fun o o1 o2 => by rw [mu_ne _ _ _ o1, mu_ne _ _ _ o1]) rfl
  · skip
    refine jw_aload_n hC dX5_undo_12 0 rfl rfl ?_
    refine jw_iconst hC dX5_undo_13 ?_
    refine jw_callV hC (c_X5_fails l E _ _ (by decide) (by decide)) sV_X5_101 ewF_m0.o dX5_undo_14 rfl rfl ⟨Nat.le_of_ble_eq_true rfl, Nat.le_of_ble_eq_true rfl⟩ ⟨Nat.zero_le _, Nat.zero_le _⟩ (Nat.le_of_ble_eq_true rfl) (fun v14 M14 g14 => ?_)
    obtain ⟨rfl, rfl⟩ := g14
    refine jw_iret hC dX5_undo_17 ?_
    exact ⟨fun _ => ⟨rfl, rfl⟩, fun z => absurd h9 z⟩
set_option maxRecDepth 100000 in
set_option maxHeartbeats 4000000 in
theorem c_X5_firstError (l : Launch) (E : ewE) (M : ewM) (hl : 0 ≤ M 88 8 ∧ M 88 8 ≤ 40) : Ct l E yX5_firstError (.code yX5_firstError cX5_firstError 1 (some .int)) 9 [vR E 88] M (fun v M1 => ∃ x : Int, f_fw (M 94) (M 88 8) x ∧ v = some (vI x) ∧ M1 88 0 = 0 ∧ (∀ k : Int, k ≠ 0 → k ≠ 10 → k ≠ 11 → M1 88 k = M 88 k) ∧ ∀ o, o ≠ 88 → o ≠ 96 → M1 o = M o) := by
  refine ct_of (L0 := [(0, vR E 88)]) (by decide +kernel) rfl (Nat.le_of_ble_eq_true rfl) ?_
  intro zp ze zs zm za zb zt zc zA hC
  refine jw_aload_n hC dX5_firstError_0 0 rfl rfl ?_
  refine jw_iconst hC dX5_firstError_1 ?_
  refine jw_puti hC fL_X5_35 ewF_m0 (kI := 0) rfl dX5_firstError_2 (by omega) (by omega) ?_
  refine jw_aload_n hC dX5_firstError_5 0 rfl rfl ?_
  refine jw_callV hC (c_X5_readsAll l E (mu M 88 0 0) (by rw [mu_nk _ _ _ (by decide)]; exact hl)) sV_X5_143 ewF_m0.o dX5_firstError_6 rfl rfl ⟨Nat.le_of_ble_eq_true rfl, Nat.le_of_ble_eq_true rfl⟩ ⟨Nat.zero_le _, Nat.zero_le _⟩ (Nat.le_of_ble_eq_true rfl) (fun v6 M6 g6 => ?_)
  obtain ⟨rfl, x, r1, r2, r3, r4, r5, r6⟩ := g6
  rw [mu_ne M _ _ (show (94 : Nat) ≠ 88 by decide), mu_nk M _ _ (show (8 : Int) ≠ 0 by decide)] at r1
  refine jw_aload_n hC dX5_firstError_9 0 rfl rfl ?_
  refine jw_geti hC fL_X5_125.r ewF_m10 (kI := 10) rfl dX5_firstError_10 (by omega) (fun b10 c10 => ?_)
  refine jw_iret hC dX5_firstError_13 ?_
  exact ⟨x, r1, by rw [r2], by rw [r5 0 (by decide) (by decide), mu_eq], fun k k0 k1 k2 => by rw [r5 k k1 k2, mu_nk _ _ _ k0], fun o o1 o2 => by rw [r6 o o1 o2, mu_ne _ _ _ o1]⟩
