/-! THE REFERENCE: a new sheet, a text loaded -/
set_option maxRecDepth 100000 in
set_option maxHeartbeats 4000000 in
theorem o_X5_sheet (l : Launch) (E : ewE) (M : ewM) (h0 : svI (M 89)) (hc : 0 ≤ M 88 4 ∧ M 88 4 ≤ 6)   : Ct l E yX5_sheet (.code yX5_sheet cX5_sheet 3 (some .int)) 9 [vR E 88] M (fun v M1 => ∃ N : ewM, svs (mu M 88 0 0) N ∧ v = some (vI (f_sum (vC (M 89)) 144)) ∧ (∀ i : Int, M1 89 i = if 91 ≤ i ∧ i < 667 then 0 else if i = 4 ∨ i = 5 ∨ i = 8 then 0 else if i = 14 then wr (M 89 14 + 1) else M 89 i) ∧ ∀ o, o ≠ 89 → M1 o = N o) := by
  refine ct_of (L0 := [(0, vR E 88)]) (by decide +kernel) rfl (Nat.le_of_ble_eq_true rfl) ?_
  intro zp ze zs zm za zb zt zc zA hC
  skip
  have K17 : ∀ (N : ewM) (hsv : svs (mu M 88 0 0) N) (n : Nat) (k : Int) (M1 : ewM), 667 - k < n → 91 ≤ k → k ≤ 667 → (∀ i : Int, M1 89 i = if 91 ≤ i ∧ i < k then 0 else M 89 i) → (∀ o, o ≠ 89 → M1 o = N o) → jJ zp l ze (ct_rm 9) zs zm za zb zt zc E zA 3 0 0 (MQ zb (ct_Q E zA (fun v M1 => ∃ N : ewM, svs (mu M 88 0 0) N ∧ v = some (vI (f_sum (vC (M 89)) 144)) ∧ (∀ i : Int, M1 89 i = if 91 ≤ i ∧ i < 667 then 0 else if i = 4 ∨ i = 5 ∨ i = 8 then 0 else if i = 14 then wr (M 89 14 + 1) else M 89 i) ∧ ∀ o, o ≠ 89 → M1 o = N o)) za zs 0 0 zA) 17 [(0, vR E 88), (1, vI (f_sum (vC (M 89)) 144)), (2, vI k)] [] M1 := by
    intro N hsv n
    induction n with
    | zero => intros; omega
    | succ n ih =>
      intro k M1 i1 i2 i3 g1 g2
      refine jw_iload_n hC dX5_sheet_17 2 rfl rfl ?_
      refine jw_sipush hC dX5_sheet_18 (by decide) ?_
      refine jw_icmp_ge (tgt := 37) hC dX5_sheet_21 (by decide) (by omega) (by omega) (by omega) (by omega) (fun h21 => ?_) (fun h21 => ?_)
      · skip
        refine jw_aload_n hC dX5_sheet_37 0 rfl rfl ?_
        refine jw_getr hC fL_X5_7 ewR_m1 dX5_sheet_38 ?_
        refine jw_iconst hC dX5_sheet_41 ?_
        refine jw_iconst hC dX5_sheet_42 ?_
        refine jw_iast hC ewA_89 dX5_sheet_43 (by omega) (by omega) (by decide) (by omega) (by omega) ?_
        refine jw_aload_n hC dX5_sheet_44 0 rfl rfl ?_
        refine jw_getr hC fL_X5_7 ewR_m1 dX5_sheet_45 ?_
        refine jw_iconst hC dX5_sheet_48 ?_
        refine jw_iconst hC dX5_sheet_49 ?_
        refine jw_iast hC ewA_89 dX5_sheet_50 (by omega) (by omega) (by decide) (by omega) (by omega) ?_
        refine jw_aload_n hC dX5_sheet_51 0 rfl rfl ?_
        refine jw_getr hC fL_X5_7 ewR_m1 dX5_sheet_52 ?_
        refine jw_bipush hC dX5_sheet_55 (by decide) ?_
        refine jw_iconst hC dX5_sheet_57 ?_
        refine jw_iast hC ewA_89 dX5_sheet_58 (by omega) (by omega) (by decide) (by omega) (by omega) ?_
        refine jw_aload_n hC dX5_sheet_59 0 rfl rfl ?_
        refine jw_getr hC fL_X5_7 ewR_m1 dX5_sheet_60 ?_
        refine jw_bipush hC dX5_sheet_63 (by decide) ?_
        refine jw_dup2 hC dX5_sheet_65 ?_
        refine jw_iald hC ewA_89 dX5_sheet_66 (by omega) (by omega) (by decide) (fun b66 c66 => ?_)
        have e66 : mu (mu (mu M1 89 4 0) 89 5 0) 89 8 0 89 14 = M 89 14 := by rw [mu_nk _ _ _ (by decide), mu_nk _ _ _ (by decide), mu_nk _ _ _ (by decide), g1, if_neg (by omega)]
        rw [e66] at b66 c66 ⊢
        refine jw_iconst hC dX5_sheet_67 ?_
        refine jw_iadd hC dX5_sheet_68 ?_
        refine jw_iastw hC ewA_89 dX5_sheet_69 (by omega) (by omega) (by decide)  ?_
        refine jw_iload_n hC dX5_sheet_70 1 rfl rfl ?_
        refine jw_iret hC dX5_sheet_71 ?_
        have e9 : k = 667 := by omega
        subst e9
        refine ⟨N, hsv, rfl, fun i => ?_, fun o o1 => by rw [mu_ne _ _ _ o1, mu_ne _ _ _ o1, mu_ne _ _ _ o1, mu_ne _ _ _ o1]; exact g2 o o1⟩
        by_cases i14 : i = 14
        · subst i14
          rw [mu_eq, if_neg (by decide), if_neg (by decide), if_pos rfl]
        · rw [mu_nk _ _ _ i14]
          by_cases i8 : i = 8
          · subst i8
            rw [mu_eq, if_neg (by decide), if_pos (by decide)]
          · rw [mu_nk _ _ _ i8]
            by_cases i5 : i = 5
            · subst i5
              rw [mu_eq, if_neg (by decide), if_pos (by decide)]
            · rw [mu_nk _ _ _ i5]
              by_cases i4 : i = 4
              · subst i4
                rw [mu_eq, if_neg (by decide), if_pos (by decide)]
              · rw [mu_nk _ _ _ i4, g1]
                by_cases hi : 91 ≤ i ∧ i < 667
                · rw [if_pos hi, if_pos hi]
                · rw [if_neg hi, if_neg hi, if_neg (by omega), if_neg i14]
      · skip
        refine jw_aload_n hC dX5_sheet_24 0 rfl rfl ?_
        refine jw_getr hC fL_X5_7 ewR_m1 dX5_sheet_25 ?_
        refine jw_iload_n hC dX5_sheet_28 2 rfl rfl ?_
        refine jw_iconst hC dX5_sheet_29 ?_
        refine jw_iast hC ewA_89 dX5_sheet_30 (by omega) (by omega) (by decide) (by omega) (by omega) ?_
        refine jw_iinc (L' := [(2, _), (0, _), (1, _)]) hC dX5_sheet_31 2 rfl (by decide) rfl ?_
        refine jw_goto (tgt := 17) hC dX5_sheet_34 (by decide) ?_
        refine jw_loc (L' := [(0, _), (1, _), (2, _)]) [1, 2, 0] rfl ?_
        refine ih _ _ (by omega) (by omega) (by omega) (fun q => ?_) (fun o o1 => by rw [mu_ne _ _ _ o1]; exact g2 o o1)
        by_cases hq : q = k
        · subst hq
          rw [mu_eq, if_pos (by omega)]
        · rw [mu_nk _ _ _ hq, g1]
          by_cases h9 : 91 ≤ q ∧ q < k
          · rw [if_pos h9, if_pos (by omega)]
          · rw [if_neg h9, if_neg (by omega)]
  refine jw_aload_n hC dX5_sheet_0 0 rfl rfl ?_
  refine jw_iconst hC dX5_sheet_1 ?_
  refine jw_puti hC fL_X5_35 ewF_m0 (kI := 0) rfl dX5_sheet_2 (by omega) (by omega) ?_
  refine jw_aload_n hC dX5_sheet_5 0 rfl rfl ?_
  refine jw_callV hC (c_X5_saves l E (mu M 88 0 0) (svs_c hc)) sV_X5_104 ewF_m0.o dX5_sheet_6 rfl rfl ⟨Nat.le_of_ble_eq_true rfl, Nat.le_of_ble_eq_true rfl⟩ ⟨Nat.zero_le _, Nat.zero_le _⟩ (Nat.le_of_ble_eq_true rfl) (fun v6 M6 g6 => ?_)
  obtain ⟨rfl, s1, s2, s3⟩ := g6
  have hsv : svs (mu M 88 0 0) M6 := ⟨s1, s2, s3⟩
  have e89 := svs_89 hsv
  refine jw_aload_n hC dX5_sheet_9 0 rfl rfl ?_
  refine jw_callV hC (c_X5_cracked l E M6 (by rw [e89]; exact h0)) sV_X5_110 ewF_m0.o dX5_sheet_10 rfl rfl ⟨Nat.le_of_ble_eq_true rfl, Nat.le_of_ble_eq_true rfl⟩ ⟨Nat.zero_le _, Nat.zero_le _⟩ (Nat.le_of_ble_eq_true rfl) (fun v10 M10 g10 => ?_)
  obtain ⟨rfl, rfl⟩ := g10
  rw [e89]
  refine jw_istore_n (L' := [(1, _), (0, _)]) hC dX5_sheet_13 rfl (by decide) rfl ?_
  refine jw_bipush hC dX5_sheet_14 (by decide) ?_
  refine jw_istore_n (L' := [(2, _), (1, _), (0, _)]) hC dX5_sheet_16 rfl (by decide) rfl ?_
  refine jw_loc (L' := [(0, _), (1, _), (2, _)]) [2, 1, 0] rfl ?_
  exact K17 M6 hsv 668 91 _ (by omega) (by omega) (by omega) (fun i => by rw [e89, if_neg (by omega)]) (fun o o1 => rfl)
