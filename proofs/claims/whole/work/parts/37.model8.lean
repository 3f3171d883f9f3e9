/-! THE REFERENCE: saved states, texts, hashes -/
/-- the texts' own words of the reference: buffer, its length, where it reads -/
abbrev tI (M : ewM) : Prop := (0 ≤ M 88 8 ∧ M 88 8 ≤ 40) ∧ (0 ≤ M 88 10 ∧ M 88 10 ≤ M 88 8)
def f_si (M : ewM) : Int := if M 88 10 < M 88 8 then M 94 (M 88 10) else 0
set_option maxRecDepth 100000 in
set_option maxHeartbeats 4000000 in
theorem c_X5_saves (l : Launch) (E : ewE) (M : ewM) (hc : 0 ≤ M 88 4 ∧ M 88 4 ≤ 6) : Ct l E yX5_saves (.code yX5_saves cX5_saves 2 none) 1 [vR E 88] M (fun v M1 => v = none ∧ (∀ i : Int, M1 91 i = if 667 * (if M 88 4 = 6 then 5 else M 88 4) ≤ i ∧ i < 667 * (if M 88 4 = 6 then 5 else M 88 4) + 667 then M 89 (i - 667 * (if M 88 4 = 6 then 5 else M 88 4)) else if M 88 4 = 6 ∧ 0 ≤ i ∧ i < 3335 then M 91 (i + 667) else M 91 i) ∧ (∀ k : Int, M1 88 k = if k = 4 then (if M 88 4 = 6 then 6 else M 88 4 + 1) else M 88 k) ∧ ∀ o, o ≠ 88 → o ≠ 91 → M1 o = M o) := by
  refine ct_of (L0 := [(0, vR E 88)]) (by decide +kernel) rfl (Nat.le_of_ble_eq_true rfl) ?_
  intro zp ze zs zm za zb zt zc zA hC
  have K52 : ∀ (n : Nat) (k mm : Int) (base h8 : Int → Int) (M1 : ewM), 667 - k < n → 0 ≤ k → k ≤ 667 → 0 ≤ mm → mm ≤ 5 → h8 4 = mm → ((M 88 4 = 6 ∧ mm = 5 ∧ (∀ q : Int, base q = if 0 ≤ q ∧ q < 3335 then M 91 (q + 667) else M 91 q) ∧ h8 = mu M 88 4 5 88) ∨ (M 88 4 < 6 ∧ mm = M 88 4 ∧ base = M 91 ∧ h8 = M 88)) → (∀ q : Int, M1 91 q = if 667 * mm ≤ q ∧ q < 667 * mm + k then M 89 (q - 667 * mm) else base q) → M1 88 = h8 → (∀ o, o ≠ 88 → o ≠ 91 → M1 o = M o) → jJ zp l ze (ct_rm 1) zs zm za zb zt zc E zA 2 0 0 (MQ zb (ct_Q E zA (fun v M1 => v = none ∧ (∀ i : Int, M1 91 i = if 667 * (if M 88 4 = 6 then 5 else M 88 4) ≤ i ∧ i < 667 * (if M 88 4 = 6 then 5 else M 88 4) + 667 then M 89 (i - 667 * (if M 88 4 = 6 then 5 else M 88 4)) else if M 88 4 = 6 ∧ 0 ≤ i ∧ i < 3335 then M 91 (i + 667) else M 91 i) ∧ (∀ k : Int, M1 88 k = if k = 4 then (if M 88 4 = 6 then 6 else M 88 4 + 1) else M 88 k) ∧ ∀ o, o ≠ 88 → o ≠ 91 → M1 o = M o)) za zs 0 0 zA) 52 [(0, vR E 88), (1, vI k)] [] M1 := by
    intro n
    induction n with
    | zero => intros; omega
    | succ n ih =>
      intro k mm base h8 M1 i1 i2 i3 m0 m5 h84 hcs g1 g2 g3
      refine jw_iload_n hC dX5_saves_52 1 rfl rfl ?_
      refine jw_sipush hC dX5_saves_53 (by decide) ?_
      refine jw_icmp_ge (tgt := 86) hC dX5_saves_56 (by decide) (by omega) (by omega) (by omega) (by omega) (fun h56 => ?_) (fun h56 => ?_)
      · skip
        refine jw_aload_n hC dX5_saves_86 0 rfl rfl ?_
        refine jw_dupr hC dX5_saves_87 ?_
        refine jw_geti hC fL_X5_43.r ewF_m4 (kI := 4) rfl dX5_saves_88 (by omega) (fun b88 c88 => ?_)
        rw [g2, h84] at b88 c88 ⊢
        refine jw_iconst hC dX5_saves_91 ?_
        refine jw_iadd hC dX5_saves_92 ?_
        refine jw_puti hC fL_X5_43 ewF_m4 (kI := 4) rfl dX5_saves_93 (by omega) (by omega) ?_
        refine jw_vret hC dX5_saves_96 ?_
        have e9 : k = 667 := by omega
        subst e9
        refine ⟨rfl, fun i => ?_, fun k => ?_, fun o o1 o2 => by rw [mu_ne _ _ _ o1]; exact g3 o o1 o2⟩
        · rw [mu_ne _ _ _ (by decide), g1]
          rcases hcs with ⟨c1, c2, c3, c4⟩ | ⟨c1, c2, c3, c4⟩
          · rw [c2, if_pos c1]
            by_cases hi : 667 * 5 ≤ i ∧ i < 667 * 5 + 667
            · rw [if_pos hi, if_pos hi]
            · rw [if_neg hi, if_neg hi, c3]
              by_cases hj : 0 ≤ i ∧ i < 3335
              · rw [if_pos hj, if_pos ⟨c1, hj⟩]
              · rw [if_neg hj, if_neg (fun z => hj z.2)]
          · rw [c2, if_neg (show ¬ M 88 4 = 6 by omega)]
            by_cases hi : 667 * M 88 4 ≤ i ∧ i < 667 * M 88 4 + 667
            · rw [if_pos hi, if_pos hi]
            · rw [if_neg hi, if_neg hi, c3, if_neg (fun z => by omega)]
        · by_cases k4 : k = 4
          · subst k4
            rw [mu_eq, if_pos rfl]
            rcases hcs with ⟨c1, c2, c3, c4⟩ | ⟨c1, c2, c3, c4⟩
            · rw [if_pos c1]; omega
            · rw [if_neg (show ¬ M 88 4 = 6 by omega)]; omega
          · rw [mu_nk _ _ _ k4, if_neg k4, g2]
            rcases hcs with ⟨c1, c2, c3, c4⟩ | ⟨c1, c2, c3, c4⟩
            · rw [c4, mu_nk _ _ _ k4]
            · rw [c4]
      · skip
        refine jw_aload_n hC dX5_saves_59 0 rfl rfl ?_
        refine jw_getr hC fL_X5_16 ewR_m3 dX5_saves_60 ?_
        refine jw_sipush hC dX5_saves_63 (by decide) ?_
        refine jw_aload_n hC dX5_saves_66 0 rfl rfl ?_
        refine jw_geti hC fL_X5_43.r ewF_m4 (kI := 4) rfl dX5_saves_67 (by omega) (fun b67 c67 => ?_)
        rw [g2, h84] at b67 c67 ⊢
        refine jw_imul hC dX5_saves_70 ?_
        refine jw_iload_n hC dX5_saves_71 1 rfl rfl ?_
        refine jw_iadd hC dX5_saves_72 ?_
        refine jw_aload_n hC dX5_saves_73 0 rfl rfl ?_
        refine jw_getr hC fL_X5_7 ewR_m1 dX5_saves_74 ?_
        refine jw_iload_n hC dX5_saves_77 1 rfl rfl ?_
        refine jw_iald hC ewA_89 dX5_saves_78 (by omega) (by omega) (by decide) (fun b78 c78 => ?_)
        rw [g3 89 (by decide) (by decide)] at b78 c78 ⊢
        refine jw_iast hC ewA_91 dX5_saves_79 (by omega) (by omega) (by decide) (by omega) (by omega) ?_
        refine jw_iinc (L' := [(1, _), (0, _)]) hC dX5_saves_80 1 rfl (by decide) rfl ?_
        refine jw_goto (tgt := 52) hC dX5_saves_83 (by decide) ?_
        refine jw_loc (L' := [(0, _), (1, _)]) [1, 0] rfl ?_
        refine ih _ mm base h8 _ (by omega) (by omega) (by omega) m0 m5 h84 hcs (fun q => ?_) (by rw [mu_ne _ _ _ (by decide)]; exact g2) (fun o o1 o2 => by rw [mu_ne _ _ _ o2]; exact g3 o o1 o2)
        by_cases hq : q = 667 * mm + k
        · subst hq
          rw [mu_eq, if_pos (by omega)]
          congr 1
          omega
        · rw [mu_nk _ _ _ hq, g1]
          by_cases h9 : 667 * mm ≤ q ∧ q < 667 * mm + k
          · rw [if_pos h9, if_pos (by omega)]
          · rw [if_neg h9, if_neg (by omega)]
  have K11 : ∀ (n : Nat) (k : Int) (g : Int → Int), 3335 - k < n → 0 ≤ k → k ≤ 3335 → M 88 4 = 6 → (∀ q : Int, g q = if 0 ≤ q ∧ q < k then M 91 (q + 667) else M 91 q) → jJ zp l ze (ct_rm 1) zs zm za zb zt zc E zA 2 0 0 (MQ zb (ct_Q E zA (fun v M1 => v = none ∧ (∀ i : Int, M1 91 i = if 667 * (if M 88 4 = 6 then 5 else M 88 4) ≤ i ∧ i < 667 * (if M 88 4 = 6 then 5 else M 88 4) + 667 then M 89 (i - 667 * (if M 88 4 = 6 then 5 else M 88 4)) else if M 88 4 = 6 ∧ 0 ≤ i ∧ i < 3335 then M 91 (i + 667) else M 91 i) ∧ (∀ k : Int, M1 88 k = if k = 4 then (if M 88 4 = 6 then 6 else M 88 4 + 1) else M 88 k) ∧ ∀ o, o ≠ 88 → o ≠ 91 → M1 o = M o)) za zs 0 0 zA) 11 [(0, vR E 88), (1, vI k)] [] (mset M 91 g) := by
    intro n
    induction n with
    | zero => intros; omega
    | succ n ih =>
      intro k g i1 i2 i3 c6 hg
      refine jw_iload_n hC dX5_saves_11 1 rfl rfl ?_
      refine jw_sipush hC dX5_saves_12 (by decide) ?_
      refine jw_icmp_ge (tgt := 40) hC dX5_saves_15 (by decide) (by omega) (by omega) (by omega) (by omega) (fun h15 => ?_) (fun h15 => ?_)
      · skip
        refine jw_aload_n hC dX5_saves_40 0 rfl rfl ?_
        refine jw_dupr hC dX5_saves_41 ?_
        refine jw_geti hC fL_X5_43.r ewF_m4 (kI := 4) rfl dX5_saves_42 (by omega) (fun b42 c42 => ?_)
        rw [mset_ne M g (by decide)] at b42 c42 ⊢
        refine jw_iconst hC dX5_saves_45 ?_
        refine jw_isub hC dX5_saves_46 ?_
        refine jw_puti hC fL_X5_43 ewF_m4 (kI := 4) rfl dX5_saves_47 (by omega) (by omega) ?_
        refine jw_iconst hC dX5_saves_50 ?_
        refine jw_istore_n (L' := [(1, _), (0, _)]) hC dX5_saves_51 rfl (by decide) rfl ?_
        refine jw_loc (L' := [(0, _), (1, _)]) [1, 0] rfl ?_
        have e35 : k = 3335 := by omega
        refine K52 668 0 5 g (mu M 88 4 5 88) _ (by omega) (by omega) (by omega) (by decide) (by decide) (mu_eq _ _ _ _) (Or.inl ⟨c6, rfl, fun q => by rw [hg, e35], rfl⟩) (fun q => ?_) ?_ (fun o o1 o2 => ?_)
        · rw [if_neg (by omega), mu_ne _ _ _ (by decide), mset_at]
        · funext i
          by_cases hi : i = 4
          · subst hi; rw [mu_eq, mu_eq]; omega
          · rw [mu_nk _ _ _ hi, mu_nk _ _ _ hi, mset_ne _ _ (by decide)]
        · rw [mu_ne _ _ _ o1, mset_ne _ _ o2]
      · skip
        refine jw_aload_n hC dX5_saves_18 0 rfl rfl ?_
        refine jw_getr hC fL_X5_16 ewR_m3 dX5_saves_19 ?_
        refine jw_iload_n hC dX5_saves_22 1 rfl rfl ?_
        refine jw_aload_n hC dX5_saves_23 0 rfl rfl ?_
        refine jw_getr hC fL_X5_16 ewR_m3 dX5_saves_24 ?_
        refine jw_iload_n hC dX5_saves_27 1 rfl rfl ?_
        refine jw_sipush hC dX5_saves_28 (by decide) ?_
        refine jw_iadd hC dX5_saves_31 ?_
        refine jw_iald hC ewA_91 dX5_saves_32 (by omega) (by omega) (by decide) (fun b32 c32 => ?_)
        rw [mset_at] at b32 c32 ⊢
        refine jw_iast hC ewA_91 dX5_saves_33 (by omega) (by omega) (by decide) (by omega) (by omega) ?_
        refine jw_iinc (L' := [(1, _), (0, _)]) hC dX5_saves_34 1 rfl (by decide) rfl ?_
        refine jw_goto (tgt := 11) hC dX5_saves_37 (by decide) ?_
        refine jw_loc (L' := [(0, _), (1, _)]) [1, 0] rfl ?_
        refine jw_M (mu_mset _ _ _ _ _) ?_
        exact ih _ _ (by omega) (by omega) (by omega) c6 (fun q => by
          by_cases hq : q = k
          · rw [if_pos hq, if_pos (by omega), hg, if_neg (by omega), hq]
          · rw [if_neg hq, hg]
            by_cases h9 : 0 ≤ q ∧ q < k
            · rw [if_pos h9, if_pos (by omega)]
            · rw [if_neg h9, if_neg (by omega)])
  refine jw_aload_n hC dX5_saves_0 0 rfl rfl ?_
  refine jw_geti hC fL_X5_43.r ewF_m4 (kI := 4) rfl dX5_saves_1 (by omega) (fun b1 c1 => ?_)
  refine jw_bipush hC dX5_saves_4 (by decide) ?_
  refine jw_icmp_ne (tgt := 50) hC dX5_saves_6 (by decide) (by omega) (by omega) (by omega) (by omega) (fun h6 => ?_) (fun h6 => ?_)
  · skip
    refine jw_iconst hC dX5_saves_50 ?_
    refine jw_istore_n (L' := [(1, _), (0, _)]) hC dX5_saves_51 rfl (by decide) rfl ?_
    refine jw_loc (L' := [(0, _), (1, _)]) [1, 0] rfl ?_
    exact K52 668 0 _ (M 91) (M 88) M (by omega) (by omega) (by omega) hc.1 (by omega) rfl (Or.inr ⟨by omega, rfl, rfl, rfl⟩) (fun q => by rw [if_neg (by omega)]) rfl (fun _ _ _ => rfl)
  · skip
    refine jw_iconst hC dX5_saves_9 ?_
    refine jw_istore_n (L' := [(1, _), (0, _)]) hC dX5_saves_10 rfl (by decide) rfl ?_
    refine jw_loc (L' := [(0, _), (1, _)]) [1, 0] rfl ?_
    refine jw_M (M2 := mset M 91 (M 91)) (mset_id (fun _ => rfl)).symm ?_
    exact K11 3336 0 _ (by omega) (by omega) (by omega) (by omega) (fun q => by rw [if_neg (by omega)])
set_option maxRecDepth 100000 in
set_option maxHeartbeats 4000000 in
theorem c_X5_sign (l : Launch) (E : ewE) (M : ewM) (ht : tI M) : Ct l E yX5_sign (.code yX5_sign cX5_sign 1 (some .int)) 1 [vR E 88] M (fun v M1 => v = some (vI (f_si M)) ∧ M = M1) := by
  refine ct_of (L0 := [(0, vR E 88)]) (by decide +kernel) rfl (Nat.le_of_ble_eq_true rfl) ?_
  intro zp ze zs zm za zb zt zc zA hC
  refine jw_aload_n hC dX5_sign_0 0 rfl rfl ?_
  refine jw_geti hC fL_X5_125.r ewF_m10 (kI := 10) rfl dX5_sign_1 (by omega) (fun b1 c1 => ?_)
  refine jw_aload_n hC dX5_sign_4 0 rfl rfl ?_
  refine jw_geti hC fL_X5_122.r ewF_m8 (kI := 8) rfl dX5_sign_5 (by omega) (fun b5 c5 => ?_)
  refine jw_icmp_ge (tgt := 23) hC dX5_sign_8 (by decide) (by omega) (by omega) (by omega) (by omega) (fun h8 => ?_) (fun h8 => ?_)
  · skip
    refine jw_iconst hC dX5_sign_23 ?_
    refine jw_iret hC dX5_sign_24 ?_
    refine ⟨?_, rfl⟩
    unfold f_si
    first | rw [if_pos (by omega)] | rw [if_neg (by omega)]
  · skip
    refine jw_aload_n hC dX5_sign_11 0 rfl rfl ?_
    refine jw_getr hC fL_X5_26 ewR_m7 dX5_sign_12 ?_
    refine jw_aload_n hC dX5_sign_15 0 rfl rfl ?_
    refine jw_geti hC fL_X5_125.r ewF_m10 (kI := 10) rfl dX5_sign_16 (by omega) (fun b16 c16 => ?_)
    refine jw_iald hC ewA_94 dX5_sign_19 (by omega) (by omega) (by decide) (fun b19 c19 => ?_)
    refine jw_goto (tgt := 24) hC dX5_sign_20 (by decide) ?_
    refine jw_iret hC dX5_sign_24 ?_
    refine ⟨?_, rfl⟩
    unfold f_si
    first | rw [if_pos (by omega)] | rw [if_neg (by omega)]
set_option maxRecDepth 100000 in
set_option maxHeartbeats 4000000 in
theorem c_X5_isSign (l : Launch) (E : ewE) (M : ewM) (ht : tI M) : Ct l E yX5_isSign (.code yX5_isSign cX5_isSign 1 (some .boolean)) 2 [vR E 88] M (fun v M1 => v = some (vI (if f_sg (f_si M) then 1 else 0)) ∧ M = M1) := by
  refine ct_of (L0 := [(0, vR E 88)]) (by decide +kernel) rfl (Nat.le_of_ble_eq_true rfl) ?_
  intro zp ze zs zm za zb zt zc zA hC
  have hb : -2147483648 ≤ f_si M ∧ f_si M < 2147483648 → True := fun _ => trivial
  refine jw_S (fun hS => ?_)
  have hsb : -2147483648 ≤ f_si M ∧ f_si M < 2147483648 := by
    unfold f_si
    split
    · exact hS 94 _ (by decide) (by omega)
    · omega
  refine jw_aload_n hC dX5_isSign_0 0 rfl rfl ?_
  refine jw_callV hC (c_X5_sign l E M ht) sV_X5_128 ewF_m0.o dX5_isSign_1 rfl rfl ⟨Nat.le_of_ble_eq_true rfl, Nat.le_of_ble_eq_true rfl⟩ ⟨Nat.zero_le _, Nat.zero_le _⟩ (Nat.le_of_ble_eq_true rfl) (fun v1 M1 g1 => ?_)
  obtain ⟨rfl, rfl⟩ := g1
  refine jw_bipush hC dX5_isSign_4 (by decide) ?_
  refine jw_bipush hC dX5_isSign_6 (by decide) ?_
  refine jw_callS hC (c_X5_in l E M _ _ _ hsb.1 hsb.2 (by omega) (by omega) (by omega) (by omega)) sS_X5_39 dX5_isSign_8 rfl rfl ⟨Nat.le_of_ble_eq_true rfl, Nat.le_of_ble_eq_true rfl⟩ ⟨Nat.zero_le _, Nat.zero_le _⟩ (Nat.le_of_ble_eq_true rfl) (fun v8 M8 g8 => ?_)
  obtain ⟨rfl, rfl⟩ := g8
  have hz : (if 48 ≤ f_si M ∧ f_si M ≤ 57 then (1 : Int) else 0) = 0 ∨ (if 48 ≤ f_si M ∧ f_si M ≤ 57 then (1 : Int) else 0) = 1 := by split <;> omega
  refine jw_if_ne (tgt := 23) hC dX5_isSign_11 (by decide) (by omega) (by omega) (fun h11 => ?_) (fun h11 => ?_)
  · skip
    refine jw_iconst hC dX5_isSign_23 ?_
    refine jw_goto (tgt := 28) hC dX5_isSign_24 (by decide) ?_
    refine jw_zret hC (by omega) dX5_isSign_28 ?_
    refine ⟨?_, rfl⟩
    by_cases za : 48 ≤ f_si M ∧ f_si M ≤ 57
    · rw [if_pos za] at h11
      rw [if_pos (Or.inr za)]
      all_goals (exfalso; omega)
    · rw [if_neg za] at h11
      by_cases zb : f_si M = 46
      · rw [if_pos (Or.inl zb)]
        all_goals (exfalso; omega)
      · rw [if_neg (by omega)]
        all_goals (exfalso; omega)
  · skip
    refine jw_aload_n hC dX5_isSign_14 0 rfl rfl ?_
    refine jw_callV hC (c_X5_sign l E M ht) sV_X5_128 ewF_m0.o dX5_isSign_15 rfl rfl ⟨Nat.le_of_ble_eq_true rfl, Nat.le_of_ble_eq_true rfl⟩ ⟨Nat.zero_le _, Nat.zero_le _⟩ (Nat.le_of_ble_eq_true rfl) (fun v15 M15 g15 => ?_)
    obtain ⟨rfl, rfl⟩ := g15
    refine jw_bipush hC dX5_isSign_18 (by decide) ?_
    refine jw_icmp_ne (tgt := 27) hC dX5_isSign_20 (by decide) (by omega) (by omega) (by omega) (by omega) (fun h20 => ?_) (fun h20 => ?_)
    · skip
      refine jw_iconst hC dX5_isSign_27 ?_
      refine jw_zret hC (by omega) dX5_isSign_28 ?_
      refine ⟨?_, rfl⟩
      by_cases za : 48 ≤ f_si M ∧ f_si M ≤ 57
      · rw [if_pos za] at h11
        rw [if_pos (Or.inr za)]
        all_goals (exfalso; omega)
      · rw [if_neg za] at h11
        by_cases zb : f_si M = 46
        · rw [if_pos (Or.inl zb)]
          all_goals (exfalso; omega)
        · rw [if_neg (by omega)]
          all_goals (exfalso; omega)
    · skip
      refine jw_iconst hC dX5_isSign_23 ?_
      refine jw_goto (tgt := 28) hC dX5_isSign_24 (by decide) ?_
      refine jw_zret hC (by omega) dX5_isSign_28 ?_
      refine ⟨?_, rfl⟩
      by_cases za : 48 ≤ f_si M ∧ f_si M ≤ 57
      · rw [if_pos za] at h11
        rw [if_pos (Or.inr za)]
        all_goals (exfalso; omega)
      · rw [if_neg za] at h11
        by_cases zb : f_si M = 46
        · rw [if_pos (Or.inl zb)]
          all_goals (exfalso; omega)
        · rw [if_neg (by omega)]
          all_goals (exfalso; omega)
set_option maxRecDepth 100000 in
set_option maxHeartbeats 4000000 in
theorem c_X5_readsRow (l : Launch) (E : ewE) (M : ewM) (ht : tI M) (row : Int) (hrow : 0 ≤ row ∧ row ≤ 4) (hcd : ∀ i : Nat, (i : Int) < M 88 10 → ¬ f_er (M 94) i) (hr : f_tr_ (M 94) (M 88 10).toNat = row) (hc : f_tc_ (M 94) (M 88 10).toNat = 0) (hp : ∀ q : Int, 0 ≤ q → q < 25 → M 96 q = f_rp (M 94) (M 88 10).toNat q) : Ct l E yX5_readsRow (.code yX5_readsRow cX5_readsRow 3 none) 3 [vR E 88, vI row] M (fun v M1 => v = none ∧ ∃ z : Int, M 88 10 ≤ z ∧ z ≤ M 88 8 ∧ (∀ i : Nat, (i : Int) < z → ¬ f_er (M 94) i) ∧ f_tr_ (M 94) z.toNat = row ∧ f_tc_ (M 94) z.toNat = z - M 88 10 ∧ (z = M 88 8 ∨ ¬ f_sg (M 94 z) ∨ f_tc_ (M 94) z.toNat = 5) ∧ (∀ k : Int, M1 88 k = if k = 10 then z else if k = 11 then (if M 88 10 < z then 1 else 0) else M 88 k) ∧ (∀ q : Int, 0 ≤ q → q < 25 → M1 96 q = f_rp (M 94) z.toNat q) ∧ (M 88 10 < z → f_sg (M 94 (z - 1))) ∧ ∀ o, o ≠ 88 → o ≠ 96 → M1 o = M o) := by
  refine ct_of (L0 := [(0, vR E 88), (1, vI row)]) (by decide +kernel) rfl (Nat.le_of_ble_eq_true rfl) ?_
  intro zp ze zs zm za zb zt zc zA hC
  have K10 : ∀ (n : Nat) (k : Int) (M1 : ewM), 5 - k < n → 0 ≤ k → k ≤ 5 → M 88 10 + k ≤ M 88 8 → (∀ i : Nat, (i : Int) < M 88 10 + k → ¬ f_er (M 94) i) → (∀ q : Int, q ≠ 11 → M1 88 q = if q = 10 then M 88 10 + k else M 88 q) → M1 88 11 = (if f_sg (f_si M) then 1 else 0) → (∀ o, o ≠ 88 → o ≠ 96 → M1 o = M o) → f_tr_ (M 94) (M 88 10 + k).toNat = row → f_tc_ (M 94) (M 88 10 + k).toNat = k → (∀ q : Int, 0 ≤ q → q < 25 → M1 96 q = f_rp (M 94) (M 88 10 + k).toNat q) → (M 88 10 < M 88 10 + k → f_sg (M 94 (M 88 10 + k - 1))) → (0 < k → f_sg (f_si M)) → jJ zp l ze (ct_rm 3) zs zm za zb zt zc E zA 3 0 0 (MQ zb (ct_Q E zA (fun v M1 => v = none ∧ ∃ z : Int, M 88 10 ≤ z ∧ z ≤ M 88 8 ∧ (∀ i : Nat, (i : Int) < z → ¬ f_er (M 94) i) ∧ f_tr_ (M 94) z.toNat = row ∧ f_tc_ (M 94) z.toNat = z - M 88 10 ∧ (z = M 88 8 ∨ ¬ f_sg (M 94 z) ∨ f_tc_ (M 94) z.toNat = 5) ∧ (∀ k : Int, M1 88 k = if k = 10 then z else if k = 11 then (if M 88 10 < z then 1 else 0) else M 88 k) ∧ (∀ q : Int, 0 ≤ q → q < 25 → M1 96 q = f_rp (M 94) z.toNat q) ∧ (M 88 10 < z → f_sg (M 94 (z - 1))) ∧ ∀ o, o ≠ 88 → o ≠ 96 → M1 o = M o)) za zs 0 0 zA) 10 [(0, vR E 88), (1, vI row), (2, vI k)] [] M1 := by
    intro n
    induction n with
    | zero => intros; omega
    | succ n ih =>
      intro k M1 i1 i2 i3 i4 he g2 g8 g3 g4 g5 g6 g7 g9
      have hm10 : M1 88 10 = M 88 10 + k := by rw [g2 10 (by decide), if_pos rfl]
      have hm8 : M1 88 8 = M 88 8 := by rw [g2 8 (by decide), if_neg (by decide)]
      have htm : tI M1 := by unfold tI; rw [hm10, hm8]; omega
      refine jw_iload_n hC dX5_readsRow_10 2 rfl rfl ?_
      refine jw_iconst hC dX5_readsRow_11 ?_
      refine jw_icmp_ge (tgt := 68) hC dX5_readsRow_12 (by decide) (by omega) (by omega) (by omega) (by omega) (fun h12 => ?_) (fun h12 => ?_)
      · skip
        refine jw_vret hC dX5_readsRow_68 ?_
        refine ⟨rfl, M 88 10 + k, by omega, by omega, he, g4, by rw [g5]; omega, ?_, fun q => ?_, g6, g7, g3⟩
        · first
          | (right; right; rw [g5]; omega)
          | (by_cases hz : M 88 10 + k < M 88 8
             · right; left
               intro hsg
               unfold f_si at h19
               rw [hm10, hm8, if_pos hz, g3 94 (by decide) (by decide), if_pos hsg] at h19
               omega
             · left; omega)
        · by_cases q11 : q = 11
          · subst q11
            rw [if_neg (by decide), if_pos rfl, g8]
            by_cases k0 : 0 < k
            · rw [if_pos (g9 k0), if_pos (by omega)]
            · first
              | (exfalso; omega)
              | (have k9 : k = 0 := by omega
                 have esi : f_si M1 = f_si M := by
                   unfold f_si
                   rw [hm10, hm8, g3 94 (by decide) (by decide), k9, show M 88 10 + 0 = M 88 10 by omega]
                 rw [if_neg (show ¬ f_sg (f_si M) from fun z => by rw [esi, if_pos z] at h19; omega), if_neg (by omega)])
          · rw [g2 q q11]
            by_cases q10 : q = 10
            · rw [if_pos q10, if_pos q10]
            · rw [if_neg q10, if_neg q10, if_neg q11]
      · skip
        refine jw_aload_n hC dX5_readsRow_15 0 rfl rfl ?_
        refine jw_callV hC (c_X5_isSign l E M1 htm) sV_X5_131 ewF_m0.o dX5_readsRow_16 rfl rfl ⟨Nat.le_of_ble_eq_true rfl, Nat.le_of_ble_eq_true rfl⟩ ⟨Nat.zero_le _, Nat.zero_le _⟩ (Nat.le_of_ble_eq_true rfl) (fun v16 M16 g16 => ?_)
        obtain ⟨rfl, rfl⟩ := g16
        have hw16 : (if f_sg (f_si M1) then (1 : Int) else 0) = 0 ∨ (if f_sg (f_si M1) then (1 : Int) else 0) = 1 := by split <;> omega
        refine jw_if_eq (tgt := 68) hC dX5_readsRow_19 (by decide) (by omega) (by omega) (fun h19 => ?_) (fun h19 => ?_)
        · skip
          refine jw_vret hC dX5_readsRow_68 ?_
          refine ⟨rfl, M 88 10 + k, by omega, by omega, he, g4, by rw [g5]; omega, ?_, fun q => ?_, g6, g7, g3⟩
          · first
            | (right; right; rw [g5]; omega)
            | (by_cases hz : M 88 10 + k < M 88 8
               · right; left
                 intro hsg
                 unfold f_si at h19
                 rw [hm10, hm8, if_pos hz, g3 94 (by decide) (by decide), if_pos hsg] at h19
                 omega
               · left; omega)
          · by_cases q11 : q = 11
            · subst q11
              rw [if_neg (by decide), if_pos rfl, g8]
              by_cases k0 : 0 < k
              · rw [if_pos (g9 k0), if_pos (by omega)]
              · first
                | (exfalso; omega)
                | (have k9 : k = 0 := by omega
                   have esi : f_si M1 = f_si M := by
                     unfold f_si
                     rw [hm10, hm8, g3 94 (by decide) (by decide), k9, show M 88 10 + 0 = M 88 10 by omega]
                   rw [if_neg (show ¬ f_sg (f_si M) from fun z => by rw [esi, if_pos z] at h19; omega), if_neg (by omega)])
            · rw [g2 q q11]
              by_cases q10 : q = 10
              · rw [if_pos q10, if_pos q10]
              · rw [if_neg q10, if_neg q10, if_neg q11]
        · skip
          have hlt : M 88 10 + k < M 88 8 := Decidable.by_contra (fun z => by
            have e0 : f_si M1 = 0 := by unfold f_si; rw [hm10, hm8, if_neg (by omega)]
            rw [e0, if_neg (by omega)] at h19
            omega)
          have esi : f_si M1 = M 94 (M 88 10 + k) := by unfold f_si; rw [hm10, hm8, if_pos hlt, g3 94 (by decide) (by decide)]
          have hsg : f_sg (M 94 (M 88 10 + k)) := Decidable.by_contra (fun z => by rw [esi, if_neg z] at h19; omega)
          refine jw_aload_n hC dX5_readsRow_22 0 rfl rfl ?_
          refine jw_getr hC fL_X5_32 ewR_m12 dX5_readsRow_23 ?_
          refine jw_iconst hC dX5_readsRow_26 ?_
          refine jw_iload_n hC dX5_readsRow_27 1 rfl rfl ?_
          refine jw_imul hC dX5_readsRow_28 ?_
          refine jw_iload_n hC dX5_readsRow_29 2 rfl rfl ?_
          refine jw_iadd hC dX5_readsRow_30 ?_
          refine jw_aload_n hC dX5_readsRow_31 0 rfl rfl ?_
          refine jw_callV hC (c_X5_sign l E M1 htm) sV_X5_128 ewF_m0.o dX5_readsRow_32 rfl rfl ⟨Nat.le_of_ble_eq_true rfl, Nat.le_of_ble_eq_true rfl⟩ ⟨Nat.zero_le _, Nat.zero_le _⟩ (Nat.le_of_ble_eq_true rfl) (fun v32 M32 g32 => ?_)
          obtain ⟨rfl, rfl⟩ := g32
          rw [esi]
          refine jw_bipush hC dX5_readsRow_35 (by decide) ?_
          refine jw_icmp_ne (tgt := 44) hC dX5_readsRow_37 (by decide) (by omega) (by omega) (by omega) (by omega) (fun h37 => ?_) (fun h37 => ?_)
          · skip
            refine jw_aload_n hC dX5_readsRow_44 0 rfl rfl ?_
            refine jw_callV hC (c_X5_sign l E M1 htm) sV_X5_128 ewF_m0.o dX5_readsRow_45 rfl rfl ⟨Nat.le_of_ble_eq_true rfl, Nat.le_of_ble_eq_true rfl⟩ ⟨Nat.zero_le _, Nat.zero_le _⟩ (Nat.le_of_ble_eq_true rfl) (fun v45 M45 g45 => ?_)
            obtain ⟨rfl, rfl⟩ := g45
            rw [esi]
            refine jw_bipush hC dX5_readsRow_48 (by decide) ?_
            refine jw_isub hC dX5_readsRow_50 ?_
            refine jw_iast hC ewA_96 dX5_readsRow_51 (by omega) (by omega) (by decide) (by omega) (by omega) ?_
            refine jw_aload_n hC dX5_readsRow_52 0 rfl rfl ?_
            refine jw_dupr hC dX5_readsRow_53 ?_
            refine jw_geti hC fL_X5_125.r ewF_m10 (kI := 10) rfl dX5_readsRow_54 (by omega) (fun b54 c54 => ?_)
            rw [mu_ne _ _ _ (by decide), hm10] at b54 c54 ⊢
            refine jw_iconst hC dX5_readsRow_57 ?_
            refine jw_iadd hC dX5_readsRow_58 ?_
            refine jw_puti hC fL_X5_125 ewF_m10 (kI := 10) rfl dX5_readsRow_59 (by omega) (by omega) ?_
            refine jw_iinc (L' := [(2, _), (0, _), (1, _)]) hC dX5_readsRow_62 2 rfl (by decide) rfl ?_
            refine jw_goto (tgt := 10) hC dX5_readsRow_65 (by decide) ?_
            refine jw_loc (L' := [(0, _), (1, _), (2, _)]) [1, 2, 0] rfl ?_
            have hn47 : ¬ M 94 (M 88 10 + k) = 47 := by omega
            have hts := f_t_s (M 94) (k := M 88 10 + k) (by omega)
            rw [if_neg hn47, if_neg hn47] at hts
            have hrp := f_rp_s (M 94) (k := M 88 10 + k) (by omega)
            rw [if_neg hn47, g4, g5] at hrp
            have ek : M 88 10 + (k + 1) = M 88 10 + k + 1 := by omega
            refine ih (k + 1) _ (by omega) (by omega) (by omega) (by omega) (fun i hi => ?_) (fun q hq => ?_) (by rw [mu_nk _ _ _ (by decide), mu_ne _ _ _ (by decide)]; exact g8) (fun o o1 o2 => by rw [mu_ne _ _ _ o1, mu_ne _ _ _ o2]; exact g3 o o1 o2) (by rw [ek, hts.1]; exact g4) (by rw [ek, hts.2, g5]) (fun q q0 q1 => ?_) (fun _ => by rw [show M 88 10 + (k + 1) - 1 = M 88 10 + k by omega]; exact hsg) (fun _ => ?_)
            · by_cases hi2 : (i : Int) = M 88 10 + k
              · have e9 : i = (M 88 10 + k).toNat := by omega
                rw [e9, f_er_k (by omega), if_neg hn47, g5]
                rintro (z | z)
                · exact z hsg
                · omega
              · exact he i (by omega)
            · by_cases h10 : q = 10
              · subst h10
                rw [mu_eq, if_pos rfl]; omega
              · rw [mu_nk _ _ _ h10, mu_ne _ _ _ (by decide), g2 q hq, if_neg h10, if_neg h10]
            · rw [mu_ne _ _ _ (by decide), mu_at, ek, hrp]
              dsimp only
              by_cases hq : q = 5 * row + k
              · rw [if_pos hq, if_pos (by omega)]
                unfold f_ds
                first
                | rw [if_pos (by omega)]
                | rw [if_neg (by omega)]
              · rw [if_neg hq, if_neg (by omega)]
                exact g6 q q0 q1
            · by_cases k0 : k = 0
              · subst k0
                rw [show M 88 10 + 0 = M 88 10 by omega] at hsg hlt
                unfold f_si
                rw [if_pos hlt]
                exact hsg
              · exact g9 (by omega)
          · skip
            refine jw_iconst hC dX5_readsRow_40 ?_
            refine jw_goto (tgt := 51) hC dX5_readsRow_41 (by decide) ?_
            refine jw_iast hC ewA_96 dX5_readsRow_51 (by omega) (by omega) (by decide) (by omega) (by omega) ?_
            refine jw_aload_n hC dX5_readsRow_52 0 rfl rfl ?_
            refine jw_dupr hC dX5_readsRow_53 ?_
            refine jw_geti hC fL_X5_125.r ewF_m10 (kI := 10) rfl dX5_readsRow_54 (by omega) (fun b54 c54 => ?_)
            rw [mu_ne _ _ _ (by decide), hm10] at b54 c54 ⊢
            refine jw_iconst hC dX5_readsRow_57 ?_
            refine jw_iadd hC dX5_readsRow_58 ?_
            refine jw_puti hC fL_X5_125 ewF_m10 (kI := 10) rfl dX5_readsRow_59 (by omega) (by omega) ?_
            refine jw_iinc (L' := [(2, _), (0, _), (1, _)]) hC dX5_readsRow_62 2 rfl (by decide) rfl ?_
            refine jw_goto (tgt := 10) hC dX5_readsRow_65 (by decide) ?_
            refine jw_loc (L' := [(0, _), (1, _), (2, _)]) [1, 2, 0] rfl ?_
            have hn47 : ¬ M 94 (M 88 10 + k) = 47 := by omega
            have hts := f_t_s (M 94) (k := M 88 10 + k) (by omega)
            rw [if_neg hn47, if_neg hn47] at hts
            have hrp := f_rp_s (M 94) (k := M 88 10 + k) (by omega)
            rw [if_neg hn47, g4, g5] at hrp
            have ek : M 88 10 + (k + 1) = M 88 10 + k + 1 := by omega
            refine ih (k + 1) _ (by omega) (by omega) (by omega) (by omega) (fun i hi => ?_) (fun q hq => ?_) (by rw [mu_nk _ _ _ (by decide), mu_ne _ _ _ (by decide)]; exact g8) (fun o o1 o2 => by rw [mu_ne _ _ _ o1, mu_ne _ _ _ o2]; exact g3 o o1 o2) (by rw [ek, hts.1]; exact g4) (by rw [ek, hts.2, g5]) (fun q q0 q1 => ?_) (fun _ => by rw [show M 88 10 + (k + 1) - 1 = M 88 10 + k by omega]; exact hsg) (fun _ => ?_)
            · by_cases hi2 : (i : Int) = M 88 10 + k
              · have e9 : i = (M 88 10 + k).toNat := by omega
                rw [e9, f_er_k (by omega), if_neg hn47, g5]
                rintro (z | z)
                · exact z hsg
                · omega
              · exact he i (by omega)
            · by_cases h10 : q = 10
              · subst h10
                rw [mu_eq, if_pos rfl]; omega
              · rw [mu_nk _ _ _ h10, mu_ne _ _ _ (by decide), g2 q hq, if_neg h10, if_neg h10]
            · rw [mu_ne _ _ _ (by decide), mu_at, ek, hrp]
              dsimp only
              by_cases hq : q = 5 * row + k
              · rw [if_pos hq, if_pos (by omega)]
                unfold f_ds
                first
                | rw [if_pos (by omega)]
                | rw [if_neg (by omega)]
              · rw [if_neg hq, if_neg (by omega)]
                exact g6 q q0 q1
            · by_cases k0 : k = 0
              · subst k0
                rw [show M 88 10 + 0 = M 88 10 by omega] at hsg hlt
                unfold f_si
                rw [if_pos hlt]
                exact hsg
              · exact g9 (by omega)
  refine jw_aload_n hC dX5_readsRow_0 0 rfl rfl ?_
  refine jw_aload_n hC dX5_readsRow_1 0 rfl rfl ?_
  refine jw_callV hC (c_X5_isSign l E M ht) sV_X5_131 ewF_m0.o dX5_readsRow_2 rfl rfl ⟨Nat.le_of_ble_eq_true rfl, Nat.le_of_ble_eq_true rfl⟩ ⟨Nat.zero_le _, Nat.zero_le _⟩ (Nat.le_of_ble_eq_true rfl) (fun v2 M2 g2 => ?_)
  obtain ⟨rfl, rfl⟩ := g2
  have hw2 : (if f_sg (f_si M) then (1 : Int) else 0) = 0 ∨ (if f_sg (f_si M) then (1 : Int) else 0) = 1 := by split <;> omega
  refine jw_putz hC fL_X5_135 ewF_m11 (kI := 11) rfl dX5_readsRow_5 (by omega) ?_
  refine jw_iconst hC dX5_readsRow_8 ?_
  refine jw_istore_n (L' := [(2, _), (0, _), (1, _)]) hC dX5_readsRow_9 rfl (by decide) rfl ?_
  refine jw_loc (L' := [(0, _), (1, _), (2, _)]) [1, 2, 0] rfl ?_
  refine K10 6 0 _ (by omega) (by omega) (by omega) (by omega) (fun i hi => hcd i (by omega)) (fun q hq => ?_) (mu_eq _ _ _ _) (fun o o1 o2 => mu_ne _ _ _ o1) (by rw [show M 88 10 + 0 = M 88 10 by omega]; exact hr) (by rw [show M 88 10 + 0 = M 88 10 by omega]; exact hc) (fun q q0 q1 => by rw [mu_ne _ _ _ (by decide), show M 88 10 + 0 = M 88 10 by omega]; exact hp q q0 q1) (fun z => by omega) (fun z => by omega)
  rw [mu_nk _ _ _ hq]
  by_cases h10 : q = 10
  · rw [if_pos h10, h10]; omega
  · rw [if_neg h10]
