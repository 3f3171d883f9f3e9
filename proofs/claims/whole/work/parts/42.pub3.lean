/-! THE REFERENCE: points, settings, texts, slots -/
set_option maxRecDepth 100000 in
set_option maxHeartbeats 4000000 in
theorem o_X5_point (l : Launch) (E : ewE) (M : ewM) (hc : 0 ≤ M 88 4 ∧ M 88 4 ≤ 6) (a : Int) (a1 : -2147483648 ≤ a) (a2 : a < 2147483648) (x : Int) (x1 : -2147483648 ≤ x) (x2 : x < 2147483648) (y : Int) (y1 : -2147483648 ≤ y) (y2 : y < 2147483648) (dd : Int) (dd1 : -2147483648 ≤ dd) (dd2 : dd < 2147483648) (q0 : 0 ≤ a ∧ a ≤ 2) (q1 : (0 ≤ x ∧ x ≤ 4) ∧ (0 ≤ y ∧ y ≤ 4)) (q2 : 0 ≤ dd ∧ dd ≤ 9) : Ct l E yX5_point (.code yX5_point cX5_point 6 (some .int)) 9 [vR E 88, vI a, vI x, vI y, vI dd] M (fun v M1 => ∃ N : ewM, svs (mu M 88 0 0) N ∧ v = some (vI (M 89 (16 + 25 * a + (5 * y + x)))) ∧ M1 = mu N 89 (16 + 25 * a + (5 * y + x)) dd) := by
  refine ct_of (L0 := [(0, vR E 88), (1, vI a), (2, vI x), (3, vI y), (4, vI dd)]) (by decide +kernel) rfl (Nat.le_of_ble_eq_true rfl) ?_
  intro zp ze zs zm za zb zt zc zA hC
  have hz0 := ite_z (0 ≤ a ∧ a ≤ 2)
  have hz1 := ite_z ((0 ≤ x ∧ x ≤ 4) ∧ (0 ≤ y ∧ y ≤ 4))
  have hz2 := ite_z (0 ≤ dd ∧ dd ≤ 9)
  refine jw_aload_n hC dX5_point_0 0 rfl rfl ?_
  refine jw_iconst hC dX5_point_1 ?_
  refine jw_puti hC fL_X5_35 ewF_m0 (kI := 0) rfl dX5_point_2 (by omega) (by omega) ?_
  refine jw_iload_n hC dX5_point_5 1 rfl rfl ?_
  refine jw_callS hC (c_X5_isDie l E _ _ (by omega) (by omega)) sS_X5_94 dX5_point_6 rfl rfl ⟨Nat.le_of_ble_eq_true rfl, Nat.le_of_ble_eq_true rfl⟩ ⟨Nat.zero_le _, Nat.zero_le _⟩ (Nat.le_of_ble_eq_true rfl) (fun v6 M6 g6 => ?_)
  obtain ⟨rfl, rfl⟩ := g6
  refine jw_if_eq (tgt := 20) hC dX5_point_9 (by decide) (by omega) (by omega) (fun h9 => ?_) (fun h9 => ?_)
  · skip
    exact absurd q0 (ite_0 (C := 0 ≤ a ∧ a ≤ 2) h9)
  · skip
    refine jw_iload_n hC dX5_point_12 2 rfl rfl ?_
    refine jw_iload_n hC dX5_point_13 3 rfl rfl ?_
    refine jw_callS hC (c_X5_isPoint l E _ _ _ (by omega) (by omega) (by omega) (by omega)) sS_X5_98 dX5_point_14 rfl rfl ⟨Nat.le_of_ble_eq_true rfl, Nat.le_of_ble_eq_true rfl⟩ ⟨Nat.zero_le _, Nat.zero_le _⟩ (Nat.le_of_ble_eq_true rfl) (fun v14 M14 g14 => ?_)
    obtain ⟨rfl, rfl⟩ := g14
    refine jw_if_ne (tgt := 26) hC dX5_point_17 (by decide) (by omega) (by omega) (fun h17 => ?_) (fun h17 => ?_)
    · skip
      refine jw_iload hC dX5_point_26 4 rfl ?_
      refine jw_iconst hC dX5_point_28 ?_
      refine jw_bipush hC dX5_point_29 (by decide) ?_
      refine jw_callS hC (c_X5_in l E _ _ _ _ (by omega) (by omega) (by omega) (by omega) (by omega) (by omega)) sS_X5_39 dX5_point_31 rfl rfl ⟨Nat.le_of_ble_eq_true rfl, Nat.le_of_ble_eq_true rfl⟩ ⟨Nat.zero_le _, Nat.zero_le _⟩ (Nat.le_of_ble_eq_true rfl) (fun v31 M31 g31 => ?_)
      obtain ⟨rfl, rfl⟩ := g31
      refine jw_if_ne (tgt := 43) hC dX5_point_34 (by decide) (by omega) (by omega) (fun h34 => ?_) (fun h34 => ?_)
      · skip
        refine jw_aload_n hC dX5_point_43 0 rfl rfl ?_
        refine jw_callV hC (c_X5_saves l E (mu M 88 0 0) (svs_c hc)) sV_X5_104 ewF_m0.o dX5_point_44 rfl rfl ⟨Nat.le_of_ble_eq_true rfl, Nat.le_of_ble_eq_true rfl⟩ ⟨Nat.zero_le _, Nat.zero_le _⟩ (Nat.le_of_ble_eq_true rfl) (fun v44 M44 g44 => ?_)
        obtain ⟨rfl, s1, s2, s3⟩ := g44
        have hsv : svs (mu M 88 0 0) M44 := ⟨s1, s2, s3⟩
        have e89 := svs_89 hsv
        refine jw_aload_n hC dX5_point_47 0 rfl rfl ?_
        refine jw_getr hC fL_X5_7 ewR_m1 dX5_point_48 ?_
        refine jw_bipush hC dX5_point_51 (by decide) ?_
        refine jw_bipush hC dX5_point_53 (by decide) ?_
        refine jw_iload_n hC dX5_point_55 1 rfl rfl ?_
        refine jw_imul hC dX5_point_56 ?_
        refine jw_iadd hC dX5_point_57 ?_
        refine jw_iconst hC dX5_point_58 ?_
        refine jw_iload_n hC dX5_point_59 3 rfl rfl ?_
        refine jw_imul hC dX5_point_60 ?_
        refine jw_iadd hC dX5_point_61 ?_
        refine jw_iload_n hC dX5_point_62 2 rfl rfl ?_
        refine jw_iadd hC dX5_point_63 ?_
        refine jw_iald hC ewA_89 dX5_point_64 (by omega) (by omega) (by decide) (fun b64 c64 => ?_)
        rw [e89] at b64 c64 ⊢
        refine jw_istore (L' := [(5, _), (0, _), (1, _), (2, _), (3, _), (4, _)]) hC dX5_point_65 (by decide) rfl ?_
        refine jw_aload_n hC dX5_point_67 1 rfl rfl ?_
        refine jw_getr hC fL_X5_7 ewR_m1 dX5_point_68 ?_
        refine jw_bipush hC dX5_point_71 (by decide) ?_
        refine jw_bipush hC dX5_point_73 (by decide) ?_
        refine jw_iload_n hC dX5_point_75 2 rfl rfl ?_
        refine jw_imul hC dX5_point_76 ?_
        refine jw_iadd hC dX5_point_77 ?_
        refine jw_iconst hC dX5_point_78 ?_
        refine jw_iload_n hC dX5_point_79 4 rfl rfl ?_
        refine jw_imul hC dX5_point_80 ?_
        refine jw_iadd hC dX5_point_81 ?_
        refine jw_iload_n hC dX5_point_82 3 rfl rfl ?_
        refine jw_iadd hC dX5_point_83 ?_
        refine jw_iload hC dX5_point_84 5 rfl ?_
        refine jw_iast hC ewA_89 dX5_point_86 (by omega) (by omega) (by decide) (by omega) (by omega) ?_
        refine jw_iload hC dX5_point_87 0 rfl ?_
        refine jw_iret hC dX5_point_89 ?_
        refine ⟨M44, hsv, ?_, ?_⟩
        · rw [show 16 + 25 * a + (5 * y + x) = 16 + 25 * a + 5 * y + x by omega]
        · rw [show 16 + 25 * a + (5 * y + x) = 16 + 25 * a + 5 * y + x by omega]
      · skip
        exact absurd q2 (ite_0 (C := 0 ≤ dd ∧ dd ≤ 9) h34)
    · skip
      exact absurd q1 (ite_0 (C := (0 ≤ x ∧ x ≤ 4) ∧ (0 ≤ y ∧ y ≤ 4)) h17)
set_option maxRecDepth 100000 in
set_option maxHeartbeats 4000000 in
theorem n_X5_point (l : Launch) (E : ewE) (M : ewM) (a : Int) (a1 : -2147483648 ≤ a) (a2 : a < 2147483648) (x : Int) (x1 : -2147483648 ≤ x) (x2 : x < 2147483648) (y : Int) (y1 : -2147483648 ≤ y) (y2 : y < 2147483648) (dd : Int) (dd1 : -2147483648 ≤ dd) (dd2 : dd < 2147483648) (hn : ¬ ((0 ≤ a ∧ a ≤ 2) ∧ ((0 ≤ x ∧ x ≤ 4) ∧ (0 ≤ y ∧ y ≤ 4)) ∧ (0 ≤ dd ∧ dd ≤ 9))) : Ct l E yX5_point (.code yX5_point cX5_point 6 (some .int)) 9 [vR E 88, vI a, vI x, vI y, vI dd] M (fun v M1 => v = some (vI 0) ∧ M1 = mu (mu M 88 0 0) 88 0 (if 0 ≤ a ∧ a ≤ 2 then if (0 ≤ x ∧ x ≤ 4) ∧ (0 ≤ y ∧ y ≤ 4) then 2 else 1 else 1)) := by
  refine ct_of (L0 := [(0, vR E 88), (1, vI a), (2, vI x), (3, vI y), (4, vI dd)]) (by decide +kernel) rfl (Nat.le_of_ble_eq_true rfl) ?_
  intro zp ze zs zm za zb zt zc zA hC
  have hz0 := ite_z (0 ≤ a ∧ a ≤ 2)
  have hz1 := ite_z ((0 ≤ x ∧ x ≤ 4) ∧ (0 ≤ y ∧ y ≤ 4))
  have hz2 := ite_z (0 ≤ dd ∧ dd ≤ 9)
  refine jw_aload_n hC dX5_point_0 0 rfl rfl ?_
  refine jw_iconst hC dX5_point_1 ?_
  refine jw_puti hC fL_X5_35 ewF_m0 (kI := 0) rfl dX5_point_2 (by omega) (by omega) ?_
  refine jw_iload_n hC dX5_point_5 1 rfl rfl ?_
  refine jw_callS hC (c_X5_isDie l E _ _ (by omega) (by omega)) sS_X5_94 dX5_point_6 rfl rfl ⟨Nat.le_of_ble_eq_true rfl, Nat.le_of_ble_eq_true rfl⟩ ⟨Nat.zero_le _, Nat.zero_le _⟩ (Nat.le_of_ble_eq_true rfl) (fun v6 M6 g6 => ?_)
  obtain ⟨rfl, rfl⟩ := g6
  refine jw_if_eq (tgt := 20) hC dX5_point_9 (by decide) (by omega) (by omega) (fun h9 => ?_) (fun h9 => ?_)
  · skip
    refine jw_aload_n hC dX5_point_20 0 rfl rfl ?_
    refine jw_iconst hC dX5_point_21 ?_
    refine jw_callV hC (c_X5_fails l E _ _ (by decide) (by decide)) sV_X5_101 ewF_m0.o dX5_point_22 rfl rfl ⟨Nat.le_of_ble_eq_true rfl, Nat.le_of_ble_eq_true rfl⟩ ⟨Nat.zero_le _, Nat.zero_le _⟩ (Nat.le_of_ble_eq_true rfl) (fun v22 M22 g22 => ?_)
    obtain ⟨rfl, rfl⟩ := g22
    refine jw_iret hC dX5_point_25 ?_
    refine ⟨rfl, ?_⟩
    rw [if_neg (ite_0 (C := 0 ≤ a ∧ a ≤ 2) h9)]
  · skip
    refine jw_iload_n hC dX5_point_12 2 rfl rfl ?_
    refine jw_iload_n hC dX5_point_13 3 rfl rfl ?_
    refine jw_callS hC (c_X5_isPoint l E _ _ _ (by omega) (by omega) (by omega) (by omega)) sS_X5_98 dX5_point_14 rfl rfl ⟨Nat.le_of_ble_eq_true rfl, Nat.le_of_ble_eq_true rfl⟩ ⟨Nat.zero_le _, Nat.zero_le _⟩ (Nat.le_of_ble_eq_true rfl) (fun v14 M14 g14 => ?_)
    obtain ⟨rfl, rfl⟩ := g14
    refine jw_if_ne (tgt := 26) hC dX5_point_17 (by decide) (by omega) (by omega) (fun h17 => ?_) (fun h17 => ?_)
    · skip
      refine jw_iload hC dX5_point_26 4 rfl ?_
      refine jw_iconst hC dX5_point_28 ?_
      refine jw_bipush hC dX5_point_29 (by decide) ?_
      refine jw_callS hC (c_X5_in l E _ _ _ _ (by omega) (by omega) (by omega) (by omega) (by omega) (by omega)) sS_X5_39 dX5_point_31 rfl rfl ⟨Nat.le_of_ble_eq_true rfl, Nat.le_of_ble_eq_true rfl⟩ ⟨Nat.zero_le _, Nat.zero_le _⟩ (Nat.le_of_ble_eq_true rfl) (fun v31 M31 g31 => ?_)
      obtain ⟨rfl, rfl⟩ := g31
      refine jw_if_ne (tgt := 43) hC dX5_point_34 (by decide) (by omega) (by omega) (fun h34 => ?_) (fun h34 => ?_)
      · skip
        exact absurd ⟨ite_1 (C := 0 ≤ a ∧ a ≤ 2) h9, ite_1 (C := (0 ≤ x ∧ x ≤ 4) ∧ (0 ≤ y ∧ y ≤ 4)) h17, ite_1 (C := 0 ≤ dd ∧ dd ≤ 9) h34⟩ hn
      · skip
        refine jw_aload_n hC dX5_point_37 0 rfl rfl ?_
        refine jw_iconst hC dX5_point_38 ?_
        refine jw_callV hC (c_X5_fails l E _ _ (by decide) (by decide)) sV_X5_101 ewF_m0.o dX5_point_39 rfl rfl ⟨Nat.le_of_ble_eq_true rfl, Nat.le_of_ble_eq_true rfl⟩ ⟨Nat.zero_le _, Nat.zero_le _⟩ (Nat.le_of_ble_eq_true rfl) (fun v39 M39 g39 => ?_)
        obtain ⟨rfl, rfl⟩ := g39
        refine jw_iret hC dX5_point_42 ?_
        refine ⟨rfl, ?_⟩
        rw [if_pos (ite_1 (C := 0 ≤ a ∧ a ≤ 2) h9)]
        rw [if_pos (ite_1 (C := (0 ≤ x ∧ x ≤ 4) ∧ (0 ≤ y ∧ y ≤ 4)) h17)]
    · skip
      refine jw_aload_n hC dX5_point_20 0 rfl rfl ?_
      refine jw_iconst hC dX5_point_21 ?_
      refine jw_callV hC (c_X5_fails l E _ _ (by decide) (by decide)) sV_X5_101 ewF_m0.o dX5_point_22 rfl rfl ⟨Nat.le_of_ble_eq_true rfl, Nat.le_of_ble_eq_true rfl⟩ ⟨Nat.zero_le _, Nat.zero_le _⟩ (Nat.le_of_ble_eq_true rfl) (fun v22 M22 g22 => ?_)
      obtain ⟨rfl, rfl⟩ := g22
      refine jw_iret hC dX5_point_25 ?_
      refine ⟨rfl, ?_⟩
      rw [if_pos (ite_1 (C := 0 ≤ a ∧ a ≤ 2) h9)]
      rw [if_neg (ite_0 (C := (0 ≤ x ∧ x ≤ 4) ∧ (0 ≤ y ∧ y ≤ 4)) h17)]
set_option maxRecDepth 100000 in
set_option maxHeartbeats 4000000 in
theorem o_X5_keep (l : Launch) (E : ewE) (M : ewM) (hc : 0 ≤ M 88 4 ∧ M 88 4 ≤ 6) (a : Int) (a1 : -2147483648 ≤ a) (a2 : a < 2147483648) (q0 : 0 ≤ a ∧ a ≤ 1) : Ct l E yX5_keep (.code yX5_keep cX5_keep 3 (some .int)) 9 [vR E 88, vI a] M (fun v M1 => v = some (vI (M 89 6)) ∧ M1 93 = (fun q => if q = a then 1 else M 93 q) ∧ M1 88 = (mu M 88 0 0) 88 ∧ (∀ i : Int, M1 92 i = if 667 * a ≤ i ∧ i < 667 * a + 667 then M 89 (i - 667 * a) else M 92 i) ∧ ∀ o, o ≠ 88 → o ≠ 92 → o ≠ 93 → M1 o = M o) := by
  refine ct_of (L0 := [(0, vR E 88), (1, vI a)]) (by decide +kernel) rfl (Nat.le_of_ble_eq_true rfl) ?_
  intro zp ze zs zm za zb zt zc zA hC
  have hz0 := ite_z (0 ≤ a ∧ a ≤ 1)
  have K22 : ∀ (n : Nat) (k : Int) (M1 : ewM), 667 - k < n → 0 ≤ k → k ≤ 667 → (∀ i : Int, M1 92 i = if 667 * a ≤ i ∧ i < 667 * a + k then M 89 (i - 667 * a) else M 92 i) → (∀ o, o ≠ 88 → o ≠ 92 → M1 o = M o) → M1 88 = (mu M 88 0 0) 88 → jJ zp l ze (ct_rm 9) zs zm za zb zt zc E zA 3 0 0 (MQ zb (ct_Q E zA (fun v M1 => v = some (vI (M 89 6)) ∧ M1 93 = (fun q => if q = a then 1 else M 93 q) ∧ M1 88 = (mu M 88 0 0) 88 ∧ (∀ i : Int, M1 92 i = if 667 * a ≤ i ∧ i < 667 * a + 667 then M 89 (i - 667 * a) else M 92 i) ∧ ∀ o, o ≠ 88 → o ≠ 92 → o ≠ 93 → M1 o = M o)) za zs 0 0 zA) 22 [(0, vR E 88), (1, vI a), (2, vI k)] [] M1 := by
    intro n
    induction n with
    | zero => intros; omega
    | succ n ih =>
      intro k M1 i1 i2 i3 g1 g2 g3
      refine jw_iload_n hC dX5_keep_22 2 rfl rfl ?_
      refine jw_sipush hC dX5_keep_23 (by decide) ?_
      refine jw_icmp_ge (tgt := 53) hC dX5_keep_26 (by decide) (by omega) (by omega) (by omega) (by omega) (fun h26 => ?_) (fun h26 => ?_)
      · skip
        refine jw_aload_n hC dX5_keep_53 0 rfl rfl ?_
        refine jw_getr hC fL_X5_22 ewR_m6 dX5_keep_54 ?_
        refine jw_iload_n hC dX5_keep_57 1 rfl rfl ?_
        refine jw_iconst hC dX5_keep_58 ?_
        refine jw_zast hC ewA_93 dX5_keep_59 (by omega) (by omega) (by decide) (by omega) ?_
        refine jw_aload_n hC dX5_keep_60 0 rfl rfl ?_
        refine jw_getr hC fL_X5_7 ewR_m1 dX5_keep_61 ?_
        refine jw_bipush hC dX5_keep_64 (by decide) ?_
        refine jw_iald hC ewA_89 dX5_keep_66 (by omega) (by omega) (by decide) (fun b66 c66 => ?_)
        have e66 : (mu M1 93 a 1) 89 6 = M 89 6 := by rw [mu_ne M1 _ _ (show (89 : Nat) ≠ 93 by decide), g2 89 (by decide) (by decide)]
        rw [e66] at b66 c66 ⊢
        refine jw_iret hC dX5_keep_67 ?_
        have e9 : k = 667 := by omega
        subst e9
        refine ⟨rfl, ?_, ?_, fun i => ?_, fun o o1 o2 o3 => ?_⟩
        · funext q
          by_cases hq : q = a
          · rw [if_pos hq, hq, mu_eq]
          · rw [if_neg hq, mu_nk _ _ _ hq, g2 93 (by decide) (by decide)]
        · rw [mu_ne _ _ _ (by decide), g3]
        · rw [mu_ne _ _ _ (by decide), g1]
        · rw [mu_ne _ _ _ o3, g2 o o1 o2]
      · skip
        refine jw_aload_n hC dX5_keep_29 0 rfl rfl ?_
        refine jw_getr hC fL_X5_19 ewR_m5 dX5_keep_30 ?_
        refine jw_sipush hC dX5_keep_33 (by decide) ?_
        refine jw_iload_n hC dX5_keep_36 1 rfl rfl ?_
        refine jw_imul hC dX5_keep_37 ?_
        refine jw_iload_n hC dX5_keep_38 2 rfl rfl ?_
        refine jw_iadd hC dX5_keep_39 ?_
        refine jw_aload_n hC dX5_keep_40 0 rfl rfl ?_
        refine jw_getr hC fL_X5_7 ewR_m1 dX5_keep_41 ?_
        refine jw_iload_n hC dX5_keep_44 2 rfl rfl ?_
        refine jw_iald hC ewA_89 dX5_keep_45 (by omega) (by omega) (by decide) (fun b45 c45 => ?_)
        rw [g2 89 (by decide) (by decide)] at b45 c45 ⊢
        refine jw_iast hC ewA_92 dX5_keep_46 (by omega) (by omega) (by decide) (by omega) (by omega) ?_
        refine jw_iinc (L' := [(2, _), (0, _), (1, _)]) hC dX5_keep_47 2 rfl (by decide) rfl ?_
        refine jw_goto (tgt := 22) hC dX5_keep_50 (by decide) ?_
        refine jw_loc (L' := [(0, _), (1, _), (2, _)]) [1, 2, 0] rfl ?_
        refine ih _ _ (by omega) (by omega) (by omega) (fun q => ?_) (fun o o1 o2 => by rw [mu_ne _ _ _ o2]; exact g2 o o1 o2) (by rw [mu_ne _ _ _ (by decide)]; exact g3)
        by_cases hq : q = 667 * a + k
        · subst hq
          rw [mu_eq, if_pos (by omega)]
          congr 1
          omega
        · rw [mu_nk _ _ _ hq, g1]
          by_cases h9 : 667 * a ≤ q ∧ q < 667 * a + k
          · rw [if_pos h9, if_pos (by omega)]
          · rw [if_neg h9, if_neg (by omega)]
  refine jw_aload_n hC dX5_keep_0 0 rfl rfl ?_
  refine jw_iconst hC dX5_keep_1 ?_
  refine jw_puti hC fL_X5_35 ewF_m0 (kI := 0) rfl dX5_keep_2 (by omega) (by omega) ?_
  refine jw_iload_n hC dX5_keep_5 1 rfl rfl ?_
  refine jw_iconst hC dX5_keep_6 ?_
  refine jw_iconst hC dX5_keep_7 ?_
  refine jw_callS hC (c_X5_in l E _ _ _ _ (by omega) (by omega) (by omega) (by omega) (by omega) (by omega)) sS_X5_39 dX5_keep_8 rfl rfl ⟨Nat.le_of_ble_eq_true rfl, Nat.le_of_ble_eq_true rfl⟩ ⟨Nat.zero_le _, Nat.zero_le _⟩ (Nat.le_of_ble_eq_true rfl) (fun v8 M8 g8 => ?_)
  obtain ⟨rfl, rfl⟩ := g8
  refine jw_if_ne (tgt := 20) hC dX5_keep_11 (by decide) (by omega) (by omega) (fun h11 => ?_) (fun h11 => ?_)
  · skip
    refine jw_iconst hC dX5_keep_20 ?_
    refine jw_istore_n (L' := [(2, _), (0, _), (1, _)]) hC dX5_keep_21 rfl (by decide) rfl ?_
    refine jw_loc (L' := [(0, _), (1, _), (2, _)]) [1, 2, 0] rfl ?_
    exact K22 668 0 _ (by omega) (by omega) (by omega) (fun i => by rw [mu_ne _ _ _ (by decide), if_neg (by omega)]) (fun o o1 o2 => mu_ne _ _ _ o1) rfl
  · skip
    exact absurd q0 (ite_0 (C := 0 ≤ a ∧ a ≤ 1) h11)
set_option maxRecDepth 100000 in
set_option maxHeartbeats 4000000 in
theorem n_X5_keep (l : Launch) (E : ewE) (M : ewM) (a : Int) (a1 : -2147483648 ≤ a) (a2 : a < 2147483648) (hn : ¬ ((0 ≤ a ∧ a ≤ 1))) : Ct l E yX5_keep (.code yX5_keep cX5_keep 3 (some .int)) 9 [vR E 88, vI a] M (fun v M1 => v = some (vI 0) ∧ M1 = mu (mu M 88 0 0) 88 0 (1)) := by
  refine ct_of (L0 := [(0, vR E 88), (1, vI a)]) (by decide +kernel) rfl (Nat.le_of_ble_eq_true rfl) ?_
  intro zp ze zs zm za zb zt zc zA hC
  have hz0 := ite_z (0 ≤ a ∧ a ≤ 1)
  refine jw_aload_n hC dX5_keep_0 0 rfl rfl ?_
  refine jw_iconst hC dX5_keep_1 ?_
  refine jw_puti hC fL_X5_35 ewF_m0 (kI := 0) rfl dX5_keep_2 (by omega) (by omega) ?_
  refine jw_iload_n hC dX5_keep_5 1 rfl rfl ?_
  refine jw_iconst hC dX5_keep_6 ?_
  refine jw_iconst hC dX5_keep_7 ?_
  refine jw_callS hC (c_X5_in l E _ _ _ _ (by omega) (by omega) (by omega) (by omega) (by omega) (by omega)) sS_X5_39 dX5_keep_8 rfl rfl ⟨Nat.le_of_ble_eq_true rfl, Nat.le_of_ble_eq_true rfl⟩ ⟨Nat.zero_le _, Nat.zero_le _⟩ (Nat.le_of_ble_eq_true rfl) (fun v8 M8 g8 => ?_)
  obtain ⟨rfl, rfl⟩ := g8
  refine jw_if_ne (tgt := 20) hC dX5_keep_11 (by decide) (by omega) (by omega) (fun h11 => ?_) (fun h11 => ?_)
  · skip
    exact absurd (ite_1 (C := 0 ≤ a ∧ a ≤ 1) h11) hn
  · skip
    refine jw_aload_n hC dX5_keep_14 0 rfl rfl ?_
    refine jw_iconst hC dX5_keep_15 ?_
    refine jw_callV hC (c_X5_fails l E _ _ (by decide) (by decide)) sV_X5_101 ewF_m0.o dX5_keep_16 rfl rfl ⟨Nat.le_of_ble_eq_true rfl, Nat.le_of_ble_eq_true rfl⟩ ⟨Nat.zero_le _, Nat.zero_le _⟩ (Nat.le_of_ble_eq_true rfl) (fun v16 M16 g16 => ?_)
    obtain ⟨rfl, rfl⟩ := g16
    refine jw_iret hC dX5_keep_19 ?_
    refine ⟨rfl, ?_⟩
    rfl
set_option maxRecDepth 100000 in
set_option maxHeartbeats 4000000 in
theorem c_X5_clearBuffer (l : Launch) (E : ewE) (M : ewM)  (hl : 0 ≤ M 88 8 ∧ M 88 8 ≤ 40) : Ct l E yX5_clearBuffer (.code yX5_clearBuffer cX5_clearBuffer 2 (some .int)) 0 [vR E 88] M (fun v M1 => v = some (vI (M 88 8)) ∧ M1 = mu (mu M 88 0 0) 88 8 0) := by
  refine ct_of (L0 := [(0, vR E 88)]) (by decide +kernel) rfl (Nat.le_of_ble_eq_true rfl) ?_
  intro zp ze zs zm za zb zt zc zA hC
  refine jw_aload_n hC dX5_clearBuffer_0 0 rfl rfl ?_
  refine jw_iconst hC dX5_clearBuffer_1 ?_
  refine jw_puti hC fL_X5_35 ewF_m0 (kI := 0) rfl dX5_clearBuffer_2 (by omega) (by omega) ?_
  refine jw_aload_n hC dX5_clearBuffer_5 0 rfl rfl ?_
  refine jw_geti hC fL_X5_122.r ewF_m8 (kI := 8) rfl dX5_clearBuffer_6 (by omega) (fun b6 c6 => ?_)
  rw [mu_nk _ _ _ (by decide)] at b6 c6 ⊢
  refine jw_istore_n (L' := [(1, _), (0, _)]) hC dX5_clearBuffer_9 rfl (by decide) rfl ?_
  refine jw_aload_n hC dX5_clearBuffer_10 1 rfl rfl ?_
  refine jw_iconst hC dX5_clearBuffer_11 ?_
  refine jw_puti hC fL_X5_122 ewF_m8 (kI := 8) rfl dX5_clearBuffer_12 (by omega) (by omega) ?_
  refine jw_iload_n hC dX5_clearBuffer_15 0 rfl rfl ?_
  refine jw_iret hC dX5_clearBuffer_16 ?_
  exact ⟨rfl, rfl⟩
set_option maxRecDepth 100000 in
set_option maxHeartbeats 4000000 in
theorem c_X5_append (l : Launch) (E : ewE) (M : ewM) (a : Int) (a1 : -2147483648 ≤ a) (a2 : a < 2147483648) (hl : 0 ≤ M 88 8 ∧ M 88 8 ≤ 40) : Ct l E yX5_append (.code yX5_append cX5_append 2 (some .int)) 2 [vR E 88, vI a] M (fun v M1 => (¬ (33 ≤ a ∧ a ≤ 126) → v = some (vI 0) ∧ M1 = mu (mu M 88 0 0) 88 0 1) ∧ ((33 ≤ a ∧ a ≤ 126) → M 88 8 = 40 → v = some (vI 0) ∧ M1 = mu (mu M 88 0 0) 88 0 2) ∧ ((33 ≤ a ∧ a ≤ 126) → M 88 8 < 40 → v = some (vI (M 88 8 + 1)) ∧ M1 = mu (mu (mu M 88 0 0) 94 (M 88 8) a) 88 8 (M 88 8 + 1))) := by
  refine ct_of (L0 := [(0, vR E 88), (1, vI a)]) (by decide +kernel) rfl (Nat.le_of_ble_eq_true rfl) ?_
  intro zp ze zs zm za zb zt zc zA hC
  have hz0 := ite_z (33 ≤ a ∧ a ≤ 126)
  refine jw_aload_n hC dX5_append_0 0 rfl rfl ?_
  refine jw_iconst hC dX5_append_1 ?_
  refine jw_puti hC fL_X5_35 ewF_m0 (kI := 0) rfl dX5_append_2 (by omega) (by omega) ?_
  refine jw_iload_n hC dX5_append_5 1 rfl rfl ?_
  refine jw_bipush hC dX5_append_6 (by decide) ?_
  refine jw_bipush hC dX5_append_8 (by decide) ?_
  refine jw_callS hC (c_X5_in l E _ _ _ _ (by omega) (by omega) (by omega) (by omega) (by omega) (by omega)) sS_X5_39 dX5_append_10 rfl rfl ⟨Nat.le_of_ble_eq_true rfl, Nat.le_of_ble_eq_true rfl⟩ ⟨Nat.zero_le _, Nat.zero_le _⟩ (Nat.le_of_ble_eq_true rfl) (fun v10 M10 g10 => ?_)
  obtain ⟨rfl, rfl⟩ := g10
  refine jw_if_ne (tgt := 22) hC dX5_append_13 (by decide) (by omega) (by omega) (fun h13 => ?_) (fun h13 => ?_)
  · skip
    refine jw_aload_n hC dX5_append_22 0 rfl rfl ?_
    refine jw_geti hC fL_X5_122.r ewF_m8 (kI := 8) rfl dX5_append_23 (by omega) (fun b23 c23 => ?_)
    rw [mu_nk _ _ _ (by decide)] at b23 c23 ⊢
    refine jw_bipush hC dX5_append_26 (by decide) ?_
    refine jw_icmp_ne (tgt := 37) hC dX5_append_28 (by decide) (by omega) (by omega) (by omega) (by omega) (fun h28 => ?_) (fun h28 => ?_)
    · skip
      refine jw_aload_n hC dX5_append_37 0 rfl rfl ?_
      refine jw_getr hC fL_X5_26 ewR_m7 dX5_append_38 ?_
      refine jw_aload_n hC dX5_append_41 0 rfl rfl ?_
      refine jw_geti hC fL_X5_122.r ewF_m8 (kI := 8) rfl dX5_append_42 (by omega) (fun b42 c42 => ?_)
      rw [mu_nk _ _ _ (by decide)] at b42 c42 ⊢
      refine jw_iload_n hC dX5_append_45 1 rfl rfl ?_
      refine jw_iast hC ewA_94 dX5_append_46 (by omega) (by omega) (by decide) (by omega) (by omega) ?_
      refine jw_aload_n hC dX5_append_47 0 rfl rfl ?_
      refine jw_dupr hC dX5_append_48 ?_
      refine jw_geti hC fL_X5_122.r ewF_m8 (kI := 8) rfl dX5_append_49 (by omega) (fun b49 c49 => ?_)
      rw [mu_ne _ _ _ (by decide), mu_nk _ _ _ (by decide)] at b49 c49 ⊢
      refine jw_iconst hC dX5_append_52 ?_
      refine jw_iadd hC dX5_append_53 ?_
      refine jw_puti hC fL_X5_122 ewF_m8 (kI := 8) rfl dX5_append_54 (by omega) (by omega) ?_
      refine jw_aload_n hC dX5_append_57 0 rfl rfl ?_
      refine jw_geti hC fL_X5_122.r ewF_m8 (kI := 8) rfl dX5_append_58 (by omega) (fun b58 c58 => ?_)
      rw [mu_eq] at b58 c58 ⊢
      refine jw_iret hC dX5_append_61 ?_
      first
      | (refine ⟨fun z => absurd (ite_1 (C := 33 ≤ a ∧ a ≤ 126) h13) z, fun _ z => ?_, fun _ z => ?_⟩
         all_goals first | (exfalso; omega) | exact ⟨rfl, rfl⟩)
      | exact ⟨fun _ => ⟨rfl, rfl⟩, fun z => absurd z (ite_0 h13), fun z => absurd z (ite_0 h13)⟩
    · skip
      refine jw_aload_n hC dX5_append_31 0 rfl rfl ?_
      refine jw_iconst hC dX5_append_32 ?_
      refine jw_callV hC (c_X5_fails l E _ _ (by decide) (by decide)) sV_X5_101 ewF_m0.o dX5_append_33 rfl rfl ⟨Nat.le_of_ble_eq_true rfl, Nat.le_of_ble_eq_true rfl⟩ ⟨Nat.zero_le _, Nat.zero_le _⟩ (Nat.le_of_ble_eq_true rfl) (fun v33 M33 g33 => ?_)
      obtain ⟨rfl, rfl⟩ := g33
      refine jw_iret hC dX5_append_36 ?_
      first
      | (refine ⟨fun z => absurd (ite_1 (C := 33 ≤ a ∧ a ≤ 126) h13) z, fun _ z => ?_, fun _ z => ?_⟩
         all_goals first | (exfalso; omega) | exact ⟨rfl, rfl⟩)
      | exact ⟨fun _ => ⟨rfl, rfl⟩, fun z => absurd z (ite_0 h13), fun z => absurd z (ite_0 h13)⟩
  · skip
    refine jw_aload_n hC dX5_append_16 0 rfl rfl ?_
    refine jw_iconst hC dX5_append_17 ?_
    refine jw_callV hC (c_X5_fails l E _ _ (by decide) (by decide)) sV_X5_101 ewF_m0.o dX5_append_18 rfl rfl ⟨Nat.le_of_ble_eq_true rfl, Nat.le_of_ble_eq_true rfl⟩ ⟨Nat.zero_le _, Nat.zero_le _⟩ (Nat.le_of_ble_eq_true rfl) (fun v18 M18 g18 => ?_)
    obtain ⟨rfl, rfl⟩ := g18
    refine jw_iret hC dX5_append_21 ?_
    first
    | (refine ⟨fun z => absurd (ite_1 (C := 33 ≤ a ∧ a ≤ 126) h13) z, fun _ z => ?_, fun _ z => ?_⟩
       all_goals first | (exfalso; omega) | exact ⟨rfl, rfl⟩)
    | exact ⟨fun _ => ⟨rfl, rfl⟩, fun z => absurd z (ite_0 h13), fun z => absurd z (ite_0 h13)⟩
