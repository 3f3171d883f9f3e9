/-! THE REFERENCE: a text loaded -/
def rdd (M R : ewM) (th : Int) : Prop := R 88 0 = th ∧ (∀ k : Int, k ≠ 0 → k ≠ 10 → k ≠ 11 → R 88 k = M 88 k) ∧ ∀ o, o ≠ 88 → o ≠ 96 → R o = M o
set_option maxRecDepth 100000 in
set_option maxHeartbeats 4000000 in
theorem c_X5_load (l : Launch) (E : ewE) (M : ewM) (hc : 0 ≤ M 88 4 ∧ M 88 4 ≤ 6) (a : Int) (a1 : -2147483648 ≤ a) (a2 : a < 2147483648) (hl : 0 ≤ M 88 8 ∧ M 88 8 ≤ 40) : Ct l E yX5_load (.code yX5_load cX5_load 3 (some .int)) 9 [vR E 88, vI a] M (fun v M1 => (¬ (0 ≤ a ∧ a ≤ 2) → v = some (vI 0) ∧ M1 = mu (mu M 88 0 0) 88 0 1) ∧ (0 ≤ a ∧ a ≤ 2 → ∃ x : Int, f_fw (M 94) (M 88 8) x ∧ ((rd_w (M 94) (M 88 8) x = 0 ∧ v = some (vI 0) ∧ rdd M M1 2) ∨ (rd_w (M 94) (M 88 8) x = 1 ∧ ∃ R N : ewM, rdd M R 0 ∧ svs R N ∧ v = some (vI (f_sum (fun q => if 0 < vQ (M1 89) (a * 25 + q) then 1 else 0) 25)) ∧ (∀ i : Int, M1 89 i = if 16 + 25 * a ≤ i ∧ i < 16 + 25 * a + 25 then f_rp (M 94) (M 88 8).toNat (i - (16 + 25 * a)) else M 89 i) ∧ M1 88 = mu N 88 8 0 88 ∧ ∀ o, o ≠ 88 → o ≠ 89 → M1 o = N o)))) := by
  refine ct_of (L0 := [(0, vR E 88), (1, vI a)]) (by decide +kernel) rfl (Nat.le_of_ble_eq_true rfl) ?_
  intro zp ze zs zm za zb zt zc zA hC
  have hz0 := ite_z (0 ≤ a ∧ a ≤ 2)
  have K46 : ∀ (q0 : 0 ≤ a ∧ a ≤ 2) (x : Int) (r1 : f_fw (M 94) (M 88 8) x) (hw : rd_w (M 94) (M 88 8) x = 1) (R N : ewM) (hR : rdd M R 0) (r4 : ∀ q : Int, 0 ≤ q → q < 25 → R 96 q = f_rp (M 94) (M 88 8).toNat q) (hsv : svs R N) (n : Nat) (k : Int) (M1 : ewM), 25 - k < n → 0 ≤ k → k ≤ 25 → (∀ i : Int, M1 89 i = if 16 + 25 * a ≤ i ∧ i < 16 + 25 * a + k then f_rp (M 94) (M 88 8).toNat (i - (16 + 25 * a)) else M 89 i) → (∀ o, o ≠ 88 → o ≠ 89 → M1 o = N o) → M1 88 = mu N 88 8 0 88 → jJ zp l ze (ct_rm 9) zs zm za zb zt zc E zA 3 0 0 (MQ zb (ct_Q E zA (fun v M1 => (¬ (0 ≤ a ∧ a ≤ 2) → v = some (vI 0) ∧ M1 = mu (mu M 88 0 0) 88 0 1) ∧ (0 ≤ a ∧ a ≤ 2 → ∃ x : Int, f_fw (M 94) (M 88 8) x ∧ ((rd_w (M 94) (M 88 8) x = 0 ∧ v = some (vI 0) ∧ rdd M M1 2) ∨ (rd_w (M 94) (M 88 8) x = 1 ∧ ∃ R N : ewM, rdd M R 0 ∧ svs R N ∧ v = some (vI (f_sum (fun q => if 0 < vQ (M1 89) (a * 25 + q) then 1 else 0) 25)) ∧ (∀ i : Int, M1 89 i = if 16 + 25 * a ≤ i ∧ i < 16 + 25 * a + 25 then f_rp (M 94) (M 88 8).toNat (i - (16 + 25 * a)) else M 89 i) ∧ M1 88 = mu N 88 8 0 88 ∧ ∀ o, o ≠ 88 → o ≠ 89 → M1 o = N o))))) za zs 0 0 zA) 46 [(0, vR E 88), (1, vI a), (2, vI k)] [] M1 := by
    intro q0 x r1 hw R N hR r4 hsv n
    induction n with
    | zero => intros; omega
    | succ n ih =>
      intro k M1 i1 i2 i3 g1 g2 g3
      refine jw_iload_n hC dX5_load_46 2 rfl rfl ?_
      refine jw_bipush hC dX5_load_47 (by decide) ?_
      refine jw_icmp_ge (tgt := 78) hC dX5_load_49 (by decide) (by omega) (by omega) (by omega) (by omega) (fun h49 => ?_) (fun h49 => ?_)
      · skip
        refine jw_aload_n hC dX5_load_78 0 rfl rfl ?_
        refine jw_iload_n hC dX5_load_79 1 rfl rfl ?_
        refine jw_callV hC (c_X5_raised l E M1 a (by omega)) sV_X5_107 ewF_m0.o dX5_load_80 rfl rfl ⟨Nat.le_of_ble_eq_true rfl, Nat.le_of_ble_eq_true rfl⟩ ⟨Nat.zero_le _, Nat.zero_le _⟩ (Nat.le_of_ble_eq_true rfl) (fun v80 M80 g80 => ?_)
        obtain ⟨rfl, rfl⟩ := g80
        refine jw_iret hC dX5_load_83 ?_
        have e9 : k = 25 := by omega
        subst e9
        exact ⟨fun z => absurd q0 z, fun _ => ⟨x, r1, Or.inr ⟨hw, R, N, hR, hsv, rfl, g1, g3, g2⟩⟩⟩
      · skip
        refine jw_aload_n hC dX5_load_52 0 rfl rfl ?_
        refine jw_getr hC fL_X5_7 ewR_m1 dX5_load_53 ?_
        refine jw_bipush hC dX5_load_56 (by decide) ?_
        refine jw_bipush hC dX5_load_58 (by decide) ?_
        refine jw_iload_n hC dX5_load_60 1 rfl rfl ?_
        refine jw_imul hC dX5_load_61 ?_
        refine jw_iadd hC dX5_load_62 ?_
        refine jw_iload_n hC dX5_load_63 2 rfl rfl ?_
        refine jw_iadd hC dX5_load_64 ?_
        refine jw_aload_n hC dX5_load_65 0 rfl rfl ?_
        refine jw_getr hC fL_X5_32 ewR_m12 dX5_load_66 ?_
        refine jw_iload_n hC dX5_load_69 2 rfl rfl ?_
        refine jw_iald hC ewA_96 dX5_load_70 (by omega) (by omega) (by decide) (fun b70 c70 => ?_)
        have e70 : M1 96 k = f_rp (M 94) (M 88 8).toNat k := by rw [g2 96 (by decide) (by decide), hsv.2.2 96 (by decide) (by decide)]; exact r4 k (by omega) (by omega)
        rw [e70] at b70 c70 ⊢
        refine jw_iast hC ewA_89 dX5_load_71 (by omega) (by omega) (by decide) (by omega) (by omega) ?_
        refine jw_iinc (L' := [(2, _), (0, _), (1, _)]) hC dX5_load_72 2 rfl (by decide) rfl ?_
        refine jw_goto (tgt := 46) hC dX5_load_75 (by decide) ?_
        refine jw_loc (L' := [(0, _), (1, _), (2, _)]) [1, 2, 0] rfl ?_
        refine ih _ _ (by omega) (by omega) (by omega) (fun q => ?_) (fun o o1 o2 => by rw [mu_ne _ _ _ o2]; exact g2 o o1 o2) (by rw [mu_ne _ _ _ (by decide)]; exact g3)
        by_cases hq : q = 16 + 25 * a + k
        · subst hq
          rw [mu_eq, if_pos (by omega)]
          congr 1
          omega
        · rw [mu_nk _ _ _ hq, g1]
          by_cases h9 : 16 + 25 * a ≤ q ∧ q < 16 + 25 * a + k
          · rw [if_pos h9, if_pos (by omega)]
          · rw [if_neg h9, if_neg (by omega)]
  refine jw_aload_n hC dX5_load_0 0 rfl rfl ?_
  refine jw_iconst hC dX5_load_1 ?_
  refine jw_puti hC fL_X5_35 ewF_m0 (kI := 0) rfl dX5_load_2 (by omega) (by omega) ?_
  refine jw_iload_n hC dX5_load_5 1 rfl rfl ?_
  refine jw_callS hC (c_X5_isDie l E _ _ (by omega) (by omega)) sS_X5_94 dX5_load_6 rfl rfl ⟨Nat.le_of_ble_eq_true rfl, Nat.le_of_ble_eq_true rfl⟩ ⟨Nat.zero_le _, Nat.zero_le _⟩ (Nat.le_of_ble_eq_true rfl) (fun v6 M6 g6 => ?_)
  obtain ⟨rfl, rfl⟩ := g6
  refine jw_if_ne (tgt := 18) hC dX5_load_9 (by decide) (by omega) (by omega) (fun h9 => ?_) (fun h9 => ?_)
  · skip
    refine jw_aload_n hC dX5_load_18 0 rfl rfl ?_
    refine jw_callV hC (c_X5_readsAll l E (mu M 88 0 0) (by rw [mu_nk _ _ _ (by decide)]; exact hl)) sV_X5_143 ewF_m0.o dX5_load_19 rfl rfl ⟨Nat.le_of_ble_eq_true rfl, Nat.le_of_ble_eq_true rfl⟩ ⟨Nat.zero_le _, Nat.zero_le _⟩ (Nat.le_of_ble_eq_true rfl) (fun v19 M19 g19 => ?_)
    obtain ⟨rfl, x, r1, r2, r3, r4, r5, r6⟩ := g19
    have q0 := ite_1 (C := 0 ≤ a ∧ a ≤ 2) h9
    have e94 : (mu M 88 0 0) 94 = M 94 := mu_ne _ _ _ (by decide)
    have e888 : (mu M 88 0 0) 88 8 = M 88 8 := mu_nk _ _ _ (by decide)
    rw [e94, e888] at r1 r3 r4
    have hR : rdd M M19 0 := ⟨by rw [r5 0 (by decide) (by decide), mu_eq], fun k k0 k1 k2 => by rw [r5 k k1 k2, mu_nk _ _ _ k0], fun o o1 o2 => by rw [r6 o o1 o2, mu_ne _ _ _ o1]⟩
    have hw01 : rd_w (M 94) (M 88 8) x = 0 ∨ rd_w (M 94) (M 88 8) x = 1 := ite_z _
    refine jw_aload_n hC dX5_load_22 0 rfl rfl ?_
    refine jw_geti hC fL_X5_135.r ewF_m11 (kI := 11) rfl dX5_load_23 (by omega) (fun b23 c23 => ?_)
    refine jw_if_ne (tgt := 35) hC dX5_load_26 (by decide) (by omega) (by omega) (fun h26 => ?_) (fun h26 => ?_)
    · skip
      refine jw_aload_n hC dX5_load_35 0 rfl rfl ?_
      refine jw_callV hC (c_X5_saves l E M19 (by rw [hR.2.1 4 (by decide) (by decide) (by decide)]; exact hc)) sV_X5_104 ewF_m0.o dX5_load_36 rfl rfl ⟨Nat.le_of_ble_eq_true rfl, Nat.le_of_ble_eq_true rfl⟩ ⟨Nat.zero_le _, Nat.zero_le _⟩ (Nat.le_of_ble_eq_true rfl) (fun v36 M36 g36 => ?_)
      obtain ⟨rfl, s1, s2, s3⟩ := g36
      have hsv : svs M19 M36 := ⟨s1, s2, s3⟩
      have hw : rd_w (M 94) (M 88 8) x = 1 := by rw [← r3]; omega
      refine jw_aload_n hC dX5_load_39 0 rfl rfl ?_
      refine jw_iconst hC dX5_load_40 ?_
      refine jw_puti hC fL_X5_122 ewF_m8 (kI := 8) rfl dX5_load_41 (by omega) (by omega) ?_
      refine jw_iconst hC dX5_load_44 ?_
      refine jw_istore_n (L' := [(2, _), (0, _), (1, _)]) hC dX5_load_45 rfl (by decide) rfl ?_
      refine jw_loc (L' := [(0, _), (1, _), (2, _)]) [1, 2, 0] rfl ?_
      exact K46 q0 x r1 hw M19 M36 hR (r4 (by rw [r3]; exact hw)) hsv 26 0 _ (by omega) (by omega) (by omega) (fun i => by rw [mu_ne _ _ _ (by decide), hsv.2.2 89 (by decide) (by decide), hR.2.2 89 (by decide) (by decide), if_neg (by omega)]) (fun o o1 o2 => mu_ne _ _ _ o1) rfl
    · skip
      refine jw_aload_n hC dX5_load_29 0 rfl rfl ?_
      refine jw_iconst hC dX5_load_30 ?_
      refine jw_callV hC (c_X5_fails l E _ _ (by decide) (by decide)) sV_X5_101 ewF_m0.o dX5_load_31 rfl rfl ⟨Nat.le_of_ble_eq_true rfl, Nat.le_of_ble_eq_true rfl⟩ ⟨Nat.zero_le _, Nat.zero_le _⟩ (Nat.le_of_ble_eq_true rfl) (fun v31 M31 g31 => ?_)
      obtain ⟨rfl, rfl⟩ := g31
      refine jw_iret hC dX5_load_34 ?_
      refine ⟨fun z => absurd q0 z, fun _ => ⟨x, r1, Or.inl ⟨by rw [← r3]; exact h26, rfl, mu_eq _ _ _ _, fun k k0 k1 k2 => by rw [mu_nk _ _ _ k0]; exact hR.2.1 k k0 k1 k2, fun o o1 o2 => by rw [mu_ne _ _ _ o1]; exact hR.2.2 o o1 o2⟩⟩⟩
  · skip
    refine jw_aload_n hC dX5_load_12 0 rfl rfl ?_
    refine jw_iconst hC dX5_load_13 ?_
    refine jw_callV hC (c_X5_fails l E _ _ (by decide) (by decide)) sV_X5_101 ewF_m0.o dX5_load_14 rfl rfl ⟨Nat.le_of_ble_eq_true rfl, Nat.le_of_ble_eq_true rfl⟩ ⟨Nat.zero_le _, Nat.zero_le _⟩ (Nat.le_of_ble_eq_true rfl) (fun v14 M14 g14 => ?_)
    obtain ⟨rfl, rfl⟩ := g14
    refine jw_iret hC dX5_load_17 ?_
    exact ⟨fun _ => ⟨rfl, rfl⟩, fun z => absurd z (ite_0 h9)⟩
