/-! THE SAVED STATES of EmbossPress -/
def rg_o (M : ewM) : Int := if M 77 5 = 6 then (M 77 4 + 1) % 6 else M 77 4
def rg_n (M : ewM) : Int := if M 77 5 = 6 then 5 else M 77 5
theorem rg_b {M : ewM} (h4 : 0 ≤ M 77 4 ∧ M 77 4 ≤ 5) (h5 : 0 ≤ M 77 5 ∧ M 77 5 ≤ 6) : (0 ≤ rg_o M ∧ rg_o M ≤ 5) ∧ 0 ≤ rg_n M ∧ rg_n M ≤ 5 := by
  unfold rg_o rg_n
  split <;> omega
set_option maxRecDepth 100000 in
set_option maxHeartbeats 4000000 in
theorem c_X4_saveState (l : Launch) (E : ewE) (M : ewM) (h4 : 0 ≤ M 77 4 ∧ M 77 4 ≤ 5) (h5 : 0 ≤ M 77 5 ∧ M 77 5 ≤ 6) : Ct l E yX4_saveState (.code yX4_saveState cX4_saveState 1 none) 4 [vR E 77] M (fun v M1 => v = none ∧ (∀ k : Int, M1 77 k = if k = 4 then rg_o M else if k = 5 then rg_n M + 1 else M 77 k) ∧ ∀ j : Nat, (j : Int) = 3 + (rg_o M + rg_n M) % 6 → M1 (50 + 3 * j + 1) = M 51 ∧ M1 (50 + 3 * j + 2) = M 52 ∧ (∀ r, 1 ≤ r → r ≤ 4 → M1 (5 * j + r) = M r) ∧ (∀ k : Int, 3 ≤ k → k ≤ 14 → M1 (50 + 3 * j) k = M 50 k) ∧ ∀ o, o ≠ 77 → (o < 5 * j + 1 ∨ 5 * j + 4 < o) → (o < 50 + 3 * j ∨ 50 + 3 * j + 2 < o) → M1 o = M o) := by
  refine ct_of (L0 := [(0, vR E 77)]) (by decide +kernel) rfl (Nat.le_of_ble_eq_true rfl) ?_
  intro zp ze zs zm za zb zt zc zA hC
  have hb := rg_b h4 h5
  have K32 : ∀ (M1 : ewM), (∀ k : Int, M1 77 k = if k = 4 then rg_o M else if k = 5 then rg_n M else M 77 k) → (∀ o, o ≠ 77 → M1 o = M o) → jJ zp l ze (ct_rm 4) zs zm za zb zt zc E zA 1 0 0 (MQ zb (ct_Q E zA (fun v M1 => v = none ∧ (∀ k : Int, M1 77 k = if k = 4 then rg_o M else if k = 5 then rg_n M + 1 else M 77 k) ∧ ∀ j : Nat, (j : Int) = 3 + (rg_o M + rg_n M) % 6 → M1 (50 + 3 * j + 1) = M 51 ∧ M1 (50 + 3 * j + 2) = M 52 ∧ (∀ r, 1 ≤ r → r ≤ 4 → M1 (5 * j + r) = M r) ∧ (∀ k : Int, 3 ≤ k → k ≤ 14 → M1 (50 + 3 * j) k = M 50 k) ∧ ∀ o, o ≠ 77 → (o < 5 * j + 1 ∨ 5 * j + 4 < o) → (o < 50 + 3 * j ∨ 50 + 3 * j + 2 < o) → M1 o = M o)) za zs 0 0 zA) 32 [(0, vR E 77)] [] M1 := by
    intro M1 g1 g2
    refine jw_aload_n hC dX4_saveState_32 0 rfl rfl ?_
    refine jw_getr hC fL_X4_24 ewR_x3 dX4_saveState_33 ?_
    refine jw_aload_n hC dX4_saveState_36 0 rfl rfl ?_
    refine jw_geti hC fL_X4_244.r ewF_x4 (kI := 4) rfl dX4_saveState_37 (by omega) (fun b37 c37 => ?_)
    rw [g1 4, if_pos rfl] at b37 c37 ⊢
    refine jw_aload_n hC dX4_saveState_40 0 rfl rfl ?_
    refine jw_geti hC fL_X4_239.r ewF_x5 (kI := 5) rfl dX4_saveState_41 (by omega) (fun b41 c41 => ?_)
    rw [g1 5, if_neg (by decide), if_pos rfl] at b41 c41 ⊢
    refine jw_iadd hC dX4_saveState_44 ?_
    refine jw_bipush hC dX4_saveState_45 (by decide) ?_
    refine jw_irem hC dX4_saveState_47 (by omega) (by omega) (by omega) (by omega) ?_
    obtain ⟨jj, hjv⟩ : ∃ jj : Nat, (jj : Int) = 3 + (rg_o M + rg_n M) % 6 := ⟨(3 + (rg_o M + rg_n M) % 6).toNat, by omega⟩
    refine jw_aald_saved hC (jj - 3) (by omega) (by omega) dX4_saveState_48 ?_
    rw [show 59 + 3 * (jj - 3) = 50 + 3 * jj by omega]
    refine jw_aload_n hC dX4_saveState_49 0 rfl rfl ?_
    refine jw_getr hC fL_X4_12 ewR_x0 dX4_saveState_50 ?_
    refine jw_callV hC (c_X3_copyFrom l E M1 jj (by omega) 0 (by decide) (by omega)) sV_X4_230 (ewO_state (j := jj) (by omega)) dX4_saveState_53 rfl rfl ⟨Nat.le_of_ble_eq_true rfl, Nat.le_of_ble_eq_true rfl⟩ ⟨Nat.zero_le _, Nat.zero_le _⟩ (Nat.le_of_ble_eq_true rfl) (fun v53 M53 g53 => ?_)
    obtain ⟨rfl, c1, c2, c3, c4, c5⟩ := g53
    have e77 : M53 77 = M1 77 := c5 77 (by omega) (by omega)
    refine jw_aload_n hC dX4_saveState_56 0 rfl rfl ?_
    refine jw_dupr hC dX4_saveState_57 ?_
    refine jw_geti hC fL_X4_239.r ewF_x5 (kI := 5) rfl dX4_saveState_58 (by omega) (fun b58 c58 => ?_)
    rw [e77, g1 5, if_neg (by decide), if_pos rfl] at b58 c58 ⊢
    refine jw_iconst hC dX4_saveState_61 ?_
    refine jw_iadd hC dX4_saveState_62 ?_
    refine jw_puti hC fL_X4_239 ewF_x5 (kI := 5) rfl dX4_saveState_63 (by omega) (by omega) ?_
    refine jw_vret hC dX4_saveState_66 ?_
    refine ⟨rfl, fun k => ?_, fun j9 hj9 => ?_⟩
    · by_cases k5 : k = 5
      · rw [k5, mu_eq, if_neg (by decide), if_pos rfl]
      · rw [mu_nk _ _ _ k5, e77, g1 k, if_neg k5, if_neg k5]
    · have e9 : j9 = jj := by omega
      rw [e9]
      refine ⟨?_, ?_, fun r r0 r1 => ?_, fun k k0 k1 => ?_, fun o o1 o2 o3 => ?_⟩
      · rw [mu_ne _ _ _ (by omega), c1]; exact g2 51 (by decide)
      · rw [mu_ne _ _ _ (by omega), c2]; exact g2 52 (by decide)
      · rw [mu_ne _ _ _ (by omega), c3 r r0 r1, g2 _ (by omega), show 5 * 0 + r = r by omega]
      · rw [mu_ne _ _ _ (by omega), c4 k k0 k1]; exact congrFun (g2 50 (by decide)) k
      · rw [mu_ne _ _ _ o1, c5 o o2 o3, g2 o o1]
  refine jw_aload_n hC dX4_saveState_0 0 rfl rfl ?_
  refine jw_geti hC fL_X4_239.r ewF_x5 (kI := 5) rfl dX4_saveState_1 (by omega) (fun b1 c1 => ?_)
  refine jw_bipush hC dX4_saveState_4 (by decide) ?_
  refine jw_icmp_ne (tgt := 32) hC dX4_saveState_6 (by decide) (by omega) (by omega) (by omega) (by omega) (fun h6 => ?_) (fun h6 => ?_)
  · skip
    refine K32 M (fun k => ?_) (fun _ _ => rfl)
    unfold rg_o rg_n
    rw [if_neg (show ¬ M 77 5 = 6 by omega), if_neg (show ¬ M 77 5 = 6 by omega)]
    by_cases k4 : k = 4
    · rw [if_pos k4, k4]
    · rw [if_neg k4]
      by_cases k5 : k = 5
      · rw [if_pos k5, k5]
      · rw [if_neg k5]
  · skip
    refine jw_aload_n hC dX4_saveState_9 0 rfl rfl ?_
    refine jw_aload_n hC dX4_saveState_10 0 rfl rfl ?_
    refine jw_geti hC fL_X4_244.r ewF_x4 (kI := 4) rfl dX4_saveState_11 (by omega) (fun b11 c11 => ?_)
    refine jw_iconst hC dX4_saveState_14 ?_
    refine jw_iadd hC dX4_saveState_15 ?_
    refine jw_bipush hC dX4_saveState_16 (by decide) ?_
    refine jw_irem hC dX4_saveState_18 (by omega) (by omega) (by omega) (by omega) ?_
    refine jw_puti hC fL_X4_244 ewF_x4 (kI := 4) rfl dX4_saveState_19 (by omega) (by omega) ?_
    refine jw_aload_n hC dX4_saveState_22 0 rfl rfl ?_
    refine jw_dupr hC dX4_saveState_23 ?_
    refine jw_geti hC fL_X4_239.r ewF_x5 (kI := 5) rfl dX4_saveState_24 (by omega) (fun b24 c24 => ?_)
    rw [mu_nk _ _ _ (by decide)] at b24 c24 ⊢
    refine jw_iconst hC dX4_saveState_27 ?_
    refine jw_isub hC dX4_saveState_28 ?_
    refine jw_puti hC fL_X4_239 ewF_x5 (kI := 5) rfl dX4_saveState_29 (by omega) (by omega) ?_
    refine K32 _ (fun k => ?_) (fun o o1 => by rw [mu_ne _ _ _ o1, mu_ne _ _ _ o1])
    unfold rg_o rg_n
    rw [if_pos (show M 77 5 = 6 by omega), if_pos (show M 77 5 = 6 by omega)]
    by_cases k5 : k = 5
    · rw [k5, mu_eq, if_neg (by decide), if_pos rfl]
      omega
    · rw [mu_nk _ _ _ k5, if_neg k5]
      by_cases k4 : k = 4
      · rw [k4, mu_eq, if_pos rfl]
      · rw [mu_nk _ _ _ k4, if_neg k4]
