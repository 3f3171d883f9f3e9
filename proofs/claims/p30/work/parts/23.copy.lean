/-! THE STATE: copies -/
set_option maxRecDepth 100000 in
set_option maxHeartbeats 4000000 in
theorem c_X3_copyFrom (l : Launch) (E : ewE) (M : ewM) (j : Nat) (hj : j < 9) (i : Nat) (hi : i < 9) (hij : i ≠ j) : Ct l E yX3_copyFrom (.code yX3_copyFrom cX3_copyFrom 2 none) 3 [vR E (50 + 3 * j), vR E (50 + 3 * i)] M (fun v M1 => v = none ∧ M1 (50 + 3 * j + 1) = M (50 + 3 * i + 1) ∧ M1 (50 + 3 * j + 2) = M (50 + 3 * i + 2) ∧ (∀ r, 1 ≤ r → r ≤ 4 → M1 (5 * j + r) = M (5 * i + r)) ∧ (∀ k : Int, 3 ≤ k → k ≤ 14 → M1 (50 + 3 * j) k = M (50 + 3 * i) k) ∧ ∀ o, (o < 5 * j + 1 ∨ 5 * j + 4 < o) → (o < 50 + 3 * j ∨ 50 + 3 * j + 2 < o) → M1 o = M o) := by
  refine ct_of (L0 := [(0, vR E (50 + 3 * j)), (1, vR E (50 + 3 * i))]) (by decide +kernel) rfl (Nat.le_of_ble_eq_true rfl) ?_
  intro zp ze zs zm za zb zt zc zA hC
  refine jw_aload_n hC dX3_copyFrom_0 1 rfl rfl ?_
  refine jw_getr hC fL_X3_9 (ewR_t0 (j := i) (by omega)) dX3_copyFrom_1 ?_
  refine jw_iconst hC dX3_copyFrom_4 ?_
  refine jw_aload_n hC dX3_copyFrom_5 0 rfl rfl ?_
  refine jw_getr hC fL_X3_9 (ewR_t0 (j := j) (by omega)) dX3_copyFrom_6 ?_
  refine jw_iconst hC dX3_copyFrom_9 ?_
  refine jw_bipush hC dX3_copyFrom_10 (by decide) ?_
  refine jw_copy hC (ewA_points (j := i) (by omega)) (ewA_points (j := j) (by omega)) (by decide) dX3_copyFrom_12 w2_27 w2_29 w2_28 w1_12 ⟨Nat.le_of_ble_eq_true rfl, Nat.le_of_ble_eq_true rfl⟩ ?_
  refine jw_aload_n hC dX3_copyFrom_15 1 rfl rfl ?_
  refine jw_getr hC fL_X3_23 (ewR_t1 (j := i) (by omega)) dX3_copyFrom_16 ?_
  refine jw_iconst hC dX3_copyFrom_19 ?_
  refine jw_aload_n hC dX3_copyFrom_20 0 rfl rfl ?_
  refine jw_getr hC fL_X3_23 (ewR_t1 (j := j) (by omega)) dX3_copyFrom_21 ?_
  refine jw_iconst hC dX3_copyFrom_24 ?_
  refine jw_iconst hC dX3_copyFrom_25 ?_
  refine jw_copy hC (ewA_settings (j := i) (by omega)) (ewA_settings (j := j) (by omega)) (by decide) dX3_copyFrom_26 w2_27 w2_29 w2_28 w1_12 ⟨Nat.le_of_ble_eq_true rfl, Nat.le_of_ble_eq_true rfl⟩ ?_
  refine jw_aload_n hC dX3_copyFrom_29 0 rfl rfl ?_
  refine jw_getr hC fL_X3_29 (ewR_t2 (j := j) (by omega)) dX3_copyFrom_30 ?_
  refine jw_aload_n hC dX3_copyFrom_33 1 rfl rfl ?_
  refine jw_getr hC fL_X3_29 (ewR_t2 (j := i) (by omega)) dX3_copyFrom_34 ?_
  refine jw_callV hC (c_X2_copyFrom l E _ j (by omega) i (by omega)) sV_X3_43 (ewO_sheet (j := j) (by omega)) dX3_copyFrom_37 rfl rfl ⟨Nat.le_of_ble_eq_true rfl, Nat.le_of_ble_eq_true rfl⟩ ⟨Nat.zero_le _, Nat.zero_le _⟩ (Nat.le_of_ble_eq_true rfl) (fun v37 M37 g37 => ?_)
  rw [mset_ne M _ (show 50 + 3 * i + 2 ≠ 50 + 3 * j + 1 by omega)] at g37
  obtain ⟨rfl, g37⟩ := g37
  have hne : 50 + 3 * i ≠ 50 + 3 * j := by omega
  have hS0 : M37 (50 + 3 * i) = M (50 + 3 * i) := by rw [g37.2 _ (by omega), mset_ne _ _ (by omega), mset_ne _ _ (by omega)]
  refine jw_aload_n hC dX3_copyFrom_40 0 rfl rfl ?_
  refine jw_aload_n hC dX3_copyFrom_41 1 rfl rfl ?_
  refine jw_geti hC fL_X3_47.r (ewF_t (j := i) (k := 3) (by omega) (by decide) (by decide)) (kI := 3) rfl dX3_copyFrom_42 (by omega) (fun b42 c42 => ?_)
  simp only [mu_ne _ _ _ hne, hS0] at b42 c42 ⊢
  refine jw_puti hC fL_X3_47 (ewF_t (j := j) (k := 3) (by omega) (by decide) (by decide)) (kI := 3) rfl dX3_copyFrom_45 (by omega) (by omega) ?_
  refine jw_aload_n hC dX3_copyFrom_48 0 rfl rfl ?_
  refine jw_aload_n hC dX3_copyFrom_49 1 rfl rfl ?_
  refine jw_geti hC fL_X3_50.r (ewF_t (j := i) (k := 4) (by omega) (by decide) (by decide)) (kI := 4) rfl dX3_copyFrom_50 (by omega) (fun b50 c50 => ?_)
  simp only [mu_ne _ _ _ hne, hS0] at b50 c50 ⊢
  refine jw_puti hC fL_X3_50 (ewF_t (j := j) (k := 4) (by omega) (by decide) (by decide)) (kI := 4) rfl dX3_copyFrom_53 (by omega) (by omega) ?_
  refine jw_aload_n hC dX3_copyFrom_56 0 rfl rfl ?_
  refine jw_aload_n hC dX3_copyFrom_57 1 rfl rfl ?_
  refine jw_geti hC fL_X3_53.r (ewF_t (j := i) (k := 5) (by omega) (by decide) (by decide)) (kI := 5) rfl dX3_copyFrom_58 (by omega) (fun b58 c58 => ?_)
  simp only [mu_ne _ _ _ hne, hS0] at b58 c58 ⊢
  refine jw_puti hC fL_X3_53 (ewF_t (j := j) (k := 5) (by omega) (by decide) (by decide)) (kI := 5) rfl dX3_copyFrom_61 (by omega) (by omega) ?_
  refine jw_aload_n hC dX3_copyFrom_64 0 rfl rfl ?_
  refine jw_aload_n hC dX3_copyFrom_65 1 rfl rfl ?_
  refine jw_geti hC fL_X3_56.r (ewF_t (j := i) (k := 6) (by omega) (by decide) (by decide)) (kI := 6) rfl dX3_copyFrom_66 (by omega) (fun b66 c66 => ?_)
  simp only [mu_ne _ _ _ hne, hS0] at b66 c66 ⊢
  refine jw_puti hC fL_X3_56 (ewF_t (j := j) (k := 6) (by omega) (by decide) (by decide)) (kI := 6) rfl dX3_copyFrom_69 (by omega) (by omega) ?_
  refine jw_aload_n hC dX3_copyFrom_72 0 rfl rfl ?_
  refine jw_aload_n hC dX3_copyFrom_73 1 rfl rfl ?_
  refine jw_geti hC fL_X3_59.r (ewF_t (j := i) (k := 7) (by omega) (by decide) (by decide)) (kI := 7) rfl dX3_copyFrom_74 (by omega) (fun b74 c74 => ?_)
  simp only [mu_ne _ _ _ hne, hS0] at b74 c74 ⊢
  refine jw_puti hC fL_X3_59 (ewF_t (j := j) (k := 7) (by omega) (by decide) (by decide)) (kI := 7) rfl dX3_copyFrom_77 (by omega) (by omega) ?_
  refine jw_aload_n hC dX3_copyFrom_80 0 rfl rfl ?_
  refine jw_aload_n hC dX3_copyFrom_81 1 rfl rfl ?_
  refine jw_geti hC fL_X3_33.r (ewF_t (j := i) (k := 8) (by omega) (by decide) (by decide)) (kI := 8) rfl dX3_copyFrom_82 (by omega) (fun b82 c82 => ?_)
  simp only [mu_ne _ _ _ hne, hS0] at b82 c82 ⊢
  refine jw_puti hC fL_X3_33 (ewF_t (j := j) (k := 8) (by omega) (by decide) (by decide)) (kI := 8) rfl dX3_copyFrom_85 (by omega) (by omega) ?_
  refine jw_aload_n hC dX3_copyFrom_88 0 rfl rfl ?_
  refine jw_aload_n hC dX3_copyFrom_89 1 rfl rfl ?_
  refine jw_geti hC fL_X3_62.r (ewF_t (j := i) (k := 9) (by omega) (by decide) (by decide)) (kI := 9) rfl dX3_copyFrom_90 (by omega) (fun b90 c90 => ?_)
  simp only [mu_ne _ _ _ hne, hS0] at b90 c90 ⊢
  refine jw_puti hC fL_X3_62 (ewF_t (j := j) (k := 9) (by omega) (by decide) (by decide)) (kI := 9) rfl dX3_copyFrom_93 (by omega) (by omega) ?_
  refine jw_aload_n hC dX3_copyFrom_96 0 rfl rfl ?_
  refine jw_aload_n hC dX3_copyFrom_97 1 rfl rfl ?_
  refine jw_geti hC fL_X3_65.r (ewF_t (j := i) (k := 10) (by omega) (by decide) (by decide)) (kI := 10) rfl dX3_copyFrom_98 (by omega) (fun b98 c98 => ?_)
  simp only [mu_ne _ _ _ hne, hS0] at b98 c98 ⊢
  refine jw_puti hC fL_X3_65 (ewF_t (j := j) (k := 10) (by omega) (by decide) (by decide)) (kI := 10) rfl dX3_copyFrom_101 (by omega) (by omega) ?_
  refine jw_aload_n hC dX3_copyFrom_104 0 rfl rfl ?_
  refine jw_aload_n hC dX3_copyFrom_105 1 rfl rfl ?_
  refine jw_geti hC fL_X3_68.r (ewF_t (j := i) (k := 11) (by omega) (by decide) (by decide)) (kI := 11) rfl dX3_copyFrom_106 (by omega) (fun b106 c106 => ?_)
  simp only [mu_ne _ _ _ hne, hS0] at b106 c106 ⊢
  refine jw_puti hC fL_X3_68 (ewF_t (j := j) (k := 11) (by omega) (by decide) (by decide)) (kI := 11) rfl dX3_copyFrom_109 (by omega) (by omega) ?_
  refine jw_aload_n hC dX3_copyFrom_112 0 rfl rfl ?_
  refine jw_aload_n hC dX3_copyFrom_113 1 rfl rfl ?_
  refine jw_geti hC fL_X3_71.r (ewF_t (j := i) (k := 12) (by omega) (by decide) (by decide)) (kI := 12) rfl dX3_copyFrom_114 (by omega) (fun b114 c114 => ?_)
  simp only [mu_ne _ _ _ hne, hS0] at b114 c114 ⊢
  refine jw_puti hC fL_X3_71 (ewF_t (j := j) (k := 12) (by omega) (by decide) (by decide)) (kI := 12) rfl dX3_copyFrom_117 (by omega) (by omega) ?_
  refine jw_aload_n hC dX3_copyFrom_120 0 rfl rfl ?_
  refine jw_aload_n hC dX3_copyFrom_121 1 rfl rfl ?_
  refine jw_geti hC fL_X3_74.r (ewF_t (j := i) (k := 13) (by omega) (by decide) (by decide)) (kI := 13) rfl dX3_copyFrom_122 (by omega) (fun b122 c122 => ?_)
  simp only [mu_ne _ _ _ hne, hS0] at b122 c122 ⊢
  refine jw_puti hC fL_X3_74 (ewF_t (j := j) (k := 13) (by omega) (by decide) (by decide)) (kI := 13) rfl dX3_copyFrom_125 (by omega) (by omega) ?_
  refine jw_aload_n hC dX3_copyFrom_128 0 rfl rfl ?_
  refine jw_aload_n hC dX3_copyFrom_129 1 rfl rfl ?_
  refine jw_geti hC fL_X3_77.r (ewF_t (j := i) (k := 14) (by omega) (by decide) (by decide)) (kI := 14) rfl dX3_copyFrom_130 (by omega) (fun b130 c130 => ?_)
  simp only [mu_ne _ _ _ hne, hS0] at b130 c130 ⊢
  refine jw_puti hC fL_X3_77 (ewF_t (j := j) (k := 14) (by omega) (by decide) (by decide)) (kI := 14) rfl dX3_copyFrom_133 (by omega) (by omega) ?_
  refine jw_vret hC dX3_copyFrom_136 ?_
  have e1 : ∀ o, o ≠ 50 + 3 * j → (o < 5 * j + 1 ∨ 5 * j + 4 < o) → M37 o = mset (mset M (50 + 3 * j + 1) (M (50 + 3 * i + 1))) (50 + 3 * j + 2) (M (50 + 3 * i + 2)) o := fun o _ h => g37.2 o h
  refine ⟨rfl, ?_, ?_, fun r r1 r4 => ?_, fun k k3 k14 => ?_, fun o o1 o2 => ?_⟩
  · repeat rw [mu_ne _ _ _ (by omega)]
    rw [e1 _ (by omega) (by omega), mset_ne _ _ (by omega), mset_at]
  · repeat rw [mu_ne _ _ _ (by omega)]
    rw [e1 _ (by omega) (by omega), mset_at]
  · repeat rw [mu_ne _ _ _ (by omega)]
    rw [g37.1 r r1 r4, mset_ne _ _ (by omega), mset_ne _ _ (by omega)]
  · rcases (show k = 3 ∨ k = 4 ∨ k = 5 ∨ k = 6 ∨ k = 7 ∨ k = 8 ∨ k = 9 ∨ k = 10 ∨ k = 11 ∨ k = 12 ∨ k = 13 ∨ k = 14 by omega) with rfl | rfl | rfl | rfl | rfl | rfl | rfl | rfl | rfl | rfl | rfl | rfl <;> simp [mu_at, hS0]
  · repeat rw [mu_ne _ _ _ (by omega)]
    rw [e1 _ (by omega) o1, mset_ne _ _ (by omega), mset_ne _ _ (by omega)]
