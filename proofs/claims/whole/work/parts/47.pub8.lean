/-! THE REFERENCE: a cast -/
theorem svI_q {f g : Int → Int} (h : svI f) (hg : ∀ k : Int, ¬ (16 ≤ k ∧ k < 91) → g k = f k) (hq : ∀ k : Int, 16 ≤ k → k < 91 → 0 ≤ g k ∧ g k ≤ 9) : svI g ∧ vD g = vD f := by
  obtain ⟨p1, p2, p3, p4, p5, p6, p7, p8, p9, pf⟩ := h
  have d1 : vD g = vD f := cut_cg fun k k0 k1 => hg _ (by omega)
  have d2 : vC g = vC f := cut_cg fun k k0 k1 => hg _ (by omega)
  have d3 : vF g = vF f := cut_cg fun k k0 k1 => hg _ (by omega)
  have d4 : pD (vQ g) := fun k => by
    by_cases hk : 0 ≤ k ∧ k < 75
    · rw [← vQ_in g hk.1 hk.2]
      exact hq _ (by omega) (by omega)
    · unfold vQ cut
      rw [if_neg (show ¬ (0 ≤ k ∧ k < ((75 : Nat) : Int)) from fun z => hk ⟨z.1, by have := z.2; omega⟩)]
      omega
  refine ⟨?_, d1⟩
  unfold svI
  rw [d1, d2, d3, hg 0 (by omega), hg 1 (by omega), hg 2 (by omega), hg 3 (by omega), hg 4 (by omega), hg 8 (by omega)]
  exact ⟨p1, p2, d4, p4, p5, p6, p7, p8, p9, pf⟩
/-- the depth that a cast takes at the point j -/
def f_cv (d : Int → Int) (x y j : Int) : Int := if (0 ≤ x + j % 5 ∧ x + j % 5 ≤ 11) ∧ (0 ≤ y + j / 5 ∧ y + j / 5 ≤ 11) then d (12 * (y + j / 5) + (x + j % 5)) else 0
theorem f_cv_b {d : Int → Int} (h : pD d) (x y j : Int) : 0 ≤ f_cv d x y j ∧ f_cv d x y j ≤ 9 := by
  unfold f_cv
  split
  · exact h _
  · omega
theorem svI_in {f : Int → Int} (h : svI f) {k : Int} (h1 : 16 ≤ k) (h2 : k < 91) : 0 ≤ f k ∧ f k ≤ 9 := by
  have := h.2.2.1 (k - 16)
  rw [← vQ_in f (by omega) (by omega), show 16 + (k - 16) = k by omega] at this
  exact this
set_option maxRecDepth 100000 in
set_option maxHeartbeats 4000000 in
theorem o_X5_cast (l : Launch) (E : ewE) (M : ewM) (h0 : svI (M 89)) (hc : 0 ≤ M 88 4 ∧ M 88 4 ≤ 6) (a : Int) (a1 : -2147483648 ≤ a) (a2 : a < 2147483648) (x : Int) (x1 : -2147483648 ≤ x) (x2 : x < 2147483648) (y : Int) (y1 : -2147483648 ≤ y) (y2 : y < 2147483648) (q0 : 0 ≤ a ∧ a ≤ 2) (q1 : (0 ≤ x ∧ x ≤ 11) ∧ (0 ≤ y ∧ y ≤ 11)) : Ct l E yX5_cast (.code yX5_cast cX5_cast 7 (some .int)) 9 [vR E 88, vI a, vI x, vI y] M (fun v M1 => ∃ N : ewM, svs (mu M 88 0 0) N ∧ v = some (vI (f_sum (fun q => if 0 < vQ (M1 89) (a * 25 + q) then 1 else 0) 25)) ∧ (∀ i : Int, M1 89 i = if 16 + 25 * a ≤ i ∧ i < 16 + 25 * a + 25 then f_cv (vD (M 89)) x y (i - (16 + 25 * a)) else M 89 i) ∧ ∀ o, o ≠ 89 → M1 o = N o) := by
  refine ct_of (L0 := [(0, vR E 88), (1, vI a), (2, vI x), (3, vI y)]) (by decide +kernel) rfl (Nat.le_of_ble_eq_true rfl) ?_
  intro zp ze zs zm za zb zt zc zA hC
  have hz0 := ite_z (0 ≤ a ∧ a ≤ 2)
  have hz1 := ite_z ((0 ≤ x ∧ x ≤ 11) ∧ (0 ≤ y ∧ y ≤ 11))
  have K33 : ∀ (N : ewM) (hsv : svs (mu M 88 0 0) N) (n : Nat) (k : Int) (M1 : ewM), 25 - k < n → 0 ≤ k → k ≤ 25 → (∀ i : Int, M1 89 i = if 16 + 25 * a ≤ i ∧ i < 16 + 25 * a + k then f_cv (vD (M 89)) x y (i - (16 + 25 * a)) else M 89 i) → (∀ o, o ≠ 89 → M1 o = N o) → jJ zp l ze (ct_rm 9) zs zm za zb zt zc E zA 7 0 0 (MQ zb (ct_Q E zA (fun v M1 => ∃ N : ewM, svs (mu M 88 0 0) N ∧ v = some (vI (f_sum (fun q => if 0 < vQ (M1 89) (a * 25 + q) then 1 else 0) 25)) ∧ (∀ i : Int, M1 89 i = if 16 + 25 * a ≤ i ∧ i < 16 + 25 * a + 25 then f_cv (vD (M 89)) x y (i - (16 + 25 * a)) else M 89 i) ∧ ∀ o, o ≠ 89 → M1 o = N o)) za zs 0 0 zA) 33 [(0, vR E 88), (1, vI a), (2, vI x), (3, vI y), (4, vI k)] [] M1 := by
    intro N hsv n
    induction n with
    | zero => intros; omega
    | succ n ih =>
      intro k M1 i1 i2 i3 g1 g2
      obtain ⟨hIv, hdv⟩ := svI_q (g := M1 89) h0 (fun q hq => by rw [g1, if_neg (by omega)]) (fun q k0 k1 => by
        rw [g1]
        split
        · exact f_cv_b h0.1 _ _ _
        · exact svI_in h0 k0 k1)
      refine jw_iload hC dX5_cast_33 4 rfl ?_
      refine jw_bipush hC dX5_cast_35 (by decide) ?_
      refine jw_icmp_ge (tgt := 99) hC dX5_cast_37 (by decide) (by omega) (by omega) (by omega) (by omega) (fun h37 => ?_) (fun h37 => ?_)
      · skip
        refine jw_aload_n hC dX5_cast_99 0 rfl rfl ?_
        refine jw_iload_n hC dX5_cast_100 1 rfl rfl ?_
        refine jw_callV hC (c_X5_raised l E M1 a (by omega)) sV_X5_107 ewF_m0.o dX5_cast_101 rfl rfl ⟨Nat.le_of_ble_eq_true rfl, Nat.le_of_ble_eq_true rfl⟩ ⟨Nat.zero_le _, Nat.zero_le _⟩ (Nat.le_of_ble_eq_true rfl) (fun v101 M101 g101 => ?_)
        obtain ⟨rfl, rfl⟩ := g101
        refine jw_iret hC dX5_cast_104 ?_
        have e9 : k = 25 := by omega
        subst e9
        exact ⟨N, hsv, rfl, g1, g2⟩
      · skip
        refine jw_iload_n hC dX5_cast_40 2 rfl rfl ?_
        refine jw_iload hC dX5_cast_41 4 rfl ?_
        refine jw_iconst hC dX5_cast_43 ?_
        refine jw_irem hC dX5_cast_44 (by omega) (by omega) (by omega) (by omega) ?_
        refine jw_iadd hC dX5_cast_45 ?_
        refine jw_istore (L' := [(5, _), (0, _), (1, _), (2, _), (3, _), (4, _)]) hC dX5_cast_46 (by decide) rfl ?_
        refine jw_iload_n hC dX5_cast_48 4 rfl rfl ?_
        refine jw_iload hC dX5_cast_49 5 rfl ?_
        refine jw_iconst hC dX5_cast_51 ?_
        refine jw_idiv hC dX5_cast_52 (by omega) (by omega) (by omega) (by omega) ?_
        refine jw_iadd hC dX5_cast_53 ?_
        refine jw_istore (L' := [(6, _), (5, _), (0, _), (1, _), (2, _), (3, _), (4, _)]) hC dX5_cast_54 (by decide) rfl ?_
        refine jw_aload_n hC dX5_cast_56 2 rfl rfl ?_
        refine jw_getr hC fL_X5_7 ewR_m1 dX5_cast_57 ?_
        refine jw_bipush hC dX5_cast_60 (by decide) ?_
        refine jw_bipush hC dX5_cast_62 (by decide) ?_
        refine jw_iload_n hC dX5_cast_64 3 rfl rfl ?_
        refine jw_imul hC dX5_cast_65 ?_
        refine jw_iadd hC dX5_cast_66 ?_
        refine jw_iload hC dX5_cast_67 6 rfl ?_
        refine jw_iadd hC dX5_cast_69 ?_
        refine jw_iload hC dX5_cast_70 1 rfl ?_
        refine jw_iload hC dX5_cast_72 0 rfl ?_
        have hzk := ite_z ((0 ≤ x + k % 5 ∧ x + k % 5 ≤ 11) ∧ (0 ≤ y + k / 5 ∧ y + k / 5 ≤ 11))
        refine jw_callS hC (c_X5_isPlace l E _ _ _ (by omega) (by omega) (by omega) (by omega)) sS_X5_53 dX5_cast_74 rfl rfl ⟨Nat.le_of_ble_eq_true rfl, Nat.le_of_ble_eq_true rfl⟩ ⟨Nat.zero_le _, Nat.zero_le _⟩ (Nat.le_of_ble_eq_true rfl) (fun v74 M74 g74 => ?_)
        obtain ⟨rfl, rfl⟩ := g74
        refine jw_if_eq (tgt := 91) hC dX5_cast_77 (by decide) (by omega) (by omega) (fun h77 => ?_) (fun h77 => ?_)
        · skip
          refine jw_iconst hC dX5_cast_91 ?_
          refine jw_iast hC ewA_89 dX5_cast_92 (by omega) (by omega) (by decide) (by omega) (by omega) ?_
          refine jw_iinc (L' := [(4, _), (6, _), (5, _), (0, _), (1, _), (2, _), (3, _)]) hC dX5_cast_93 6 rfl (by decide) rfl ?_
          refine jw_goto (tgt := 33) hC dX5_cast_96 (by decide) ?_
          refine jw_loc (L' := [(0, _), (1, _), (2, _), (3, _), (4, _)]) [3, 4, 5, 6, 0] rfl ?_
          refine ih _ _ (by omega) (by omega) (by omega) (fun q => ?_) (fun o o1 => by rw [mu_ne _ _ _ o1]; exact g2 o o1)
          by_cases hq : q = 16 + 25 * a + k
          · subst hq
            rw [mu_eq, if_pos (by omega), show 16 + 25 * a + k - (16 + 25 * a) = k by omega]
            unfold f_cv
            first
            | rw [if_pos qk9]
            | rw [if_neg (ite_0 h77)]
          · rw [mu_nk _ _ _ hq, g1]
            by_cases h9 : 16 + 25 * a ≤ q ∧ q < 16 + 25 * a + k
            · rw [if_pos h9, if_pos (by omega)]
            · rw [if_neg h9, if_neg (by omega)]
        · skip
          have qk9 := ite_1 (C := (0 ≤ x + k % 5 ∧ x + k % 5 ≤ 11) ∧ (0 ≤ y + k / 5 ∧ y + k / 5 ≤ 11)) h77
          refine jw_aload_n hC dX5_cast_80 2 rfl rfl ?_
          refine jw_iload hC dX5_cast_81 1 rfl ?_
          refine jw_iload hC dX5_cast_83 0 rfl ?_
          refine jw_callV hC (c_X5_depth l E M1 hIv _ _ (by omega) (by omega)) sV_X5_57 ewF_m0.o dX5_cast_85 rfl rfl ⟨Nat.le_of_ble_eq_true rfl, Nat.le_of_ble_eq_true rfl⟩ ⟨Nat.zero_le _, Nat.zero_le _⟩ (Nat.le_of_ble_eq_true rfl) (fun v85 M85 g85 => ?_)
          obtain ⟨rfl, rfl⟩ := g85
          rw [hdv]
          have bd := h0.1 (12 * (y + k / 5) + (x + k % 5))
          refine jw_goto (tgt := 92) hC dX5_cast_88 (by decide) ?_
          refine jw_iast hC ewA_89 dX5_cast_92 (by omega) (by omega) (by decide) (by omega) (by omega) ?_
          refine jw_iinc (L' := [(4, _), (6, _), (5, _), (0, _), (1, _), (2, _), (3, _)]) hC dX5_cast_93 6 rfl (by decide) rfl ?_
          refine jw_goto (tgt := 33) hC dX5_cast_96 (by decide) ?_
          refine jw_loc (L' := [(0, _), (1, _), (2, _), (3, _), (4, _)]) [3, 4, 5, 6, 0] rfl ?_
          refine ih _ _ (by omega) (by omega) (by omega) (fun q => ?_) (fun o o1 => by rw [mu_ne _ _ _ o1]; exact g2 o o1)
          by_cases hq : q = 16 + 25 * a + k
          · subst hq
            rw [mu_eq, if_pos (by omega), show 16 + 25 * a + k - (16 + 25 * a) = k by omega]
            unfold f_cv
            first
            | rw [if_pos qk9]
            | rw [if_neg (ite_0 h77)]
          · rw [mu_nk _ _ _ hq, g1]
            by_cases h9 : 16 + 25 * a ≤ q ∧ q < 16 + 25 * a + k
            · rw [if_pos h9, if_pos (by omega)]
            · rw [if_neg h9, if_neg (by omega)]
  refine jw_aload_n hC dX5_cast_0 0 rfl rfl ?_
  refine jw_iconst hC dX5_cast_1 ?_
  refine jw_puti hC fL_X5_35 ewF_m0 (kI := 0) rfl dX5_cast_2 (by omega) (by omega) ?_
  refine jw_iload_n hC dX5_cast_5 1 rfl rfl ?_
  refine jw_callS hC (c_X5_isDie l E _ _ (by omega) (by omega)) sS_X5_94 dX5_cast_6 rfl rfl ⟨Nat.le_of_ble_eq_true rfl, Nat.le_of_ble_eq_true rfl⟩ ⟨Nat.zero_le _, Nat.zero_le _⟩ (Nat.le_of_ble_eq_true rfl) (fun v6 M6 g6 => ?_)
  obtain ⟨rfl, rfl⟩ := g6
  refine jw_if_eq (tgt := 20) hC dX5_cast_9 (by decide) (by omega) (by omega) (fun h9 => ?_) (fun h9 => ?_)
  · skip
    exact absurd q0 (ite_0 (C := 0 ≤ a ∧ a ≤ 2) h9)
  · skip
    refine jw_iload_n hC dX5_cast_12 2 rfl rfl ?_
    refine jw_iload_n hC dX5_cast_13 3 rfl rfl ?_
    refine jw_callS hC (c_X5_isPlace l E _ _ _ (by omega) (by omega) (by omega) (by omega)) sS_X5_53 dX5_cast_14 rfl rfl ⟨Nat.le_of_ble_eq_true rfl, Nat.le_of_ble_eq_true rfl⟩ ⟨Nat.zero_le _, Nat.zero_le _⟩ (Nat.le_of_ble_eq_true rfl) (fun v14 M14 g14 => ?_)
    obtain ⟨rfl, rfl⟩ := g14
    refine jw_if_ne (tgt := 26) hC dX5_cast_17 (by decide) (by omega) (by omega) (fun h17 => ?_) (fun h17 => ?_)
    · skip
      refine jw_aload_n hC dX5_cast_26 0 rfl rfl ?_
      refine jw_callV hC (c_X5_saves l E (mu M 88 0 0) (svs_c hc)) sV_X5_104 ewF_m0.o dX5_cast_27 rfl rfl ⟨Nat.le_of_ble_eq_true rfl, Nat.le_of_ble_eq_true rfl⟩ ⟨Nat.zero_le _, Nat.zero_le _⟩ (Nat.le_of_ble_eq_true rfl) (fun v27 M27 g27 => ?_)
      obtain ⟨rfl, s1, s2, s3⟩ := g27
      have hsv : svs (mu M 88 0 0) M27 := ⟨s1, s2, s3⟩
      have e89 := svs_89 hsv
      refine jw_iconst hC dX5_cast_30 ?_
      refine jw_istore (L' := [(4, _), (0, _), (1, _), (2, _), (3, _)]) hC dX5_cast_31 (by decide) rfl ?_
      refine jw_loc (L' := [(0, _), (1, _), (2, _), (3, _), (4, _)]) [1, 2, 3, 4, 0] rfl ?_
      exact K33 M27 hsv 26 0 _ (by omega) (by omega) (by omega) (fun i => by rw [e89, if_neg (by omega)]) (fun o o1 => rfl)
    · skip
      exact absurd q1 (ite_0 (C := (0 ≤ x ∧ x ≤ 11) ∧ (0 ≤ y ∧ y ≤ 11)) h17)
set_option maxRecDepth 100000 in
set_option maxHeartbeats 4000000 in
theorem n_X5_cast (l : Launch) (E : ewE) (M : ewM) (a : Int) (a1 : -2147483648 ≤ a) (a2 : a < 2147483648) (x : Int) (x1 : -2147483648 ≤ x) (x2 : x < 2147483648) (y : Int) (y1 : -2147483648 ≤ y) (y2 : y < 2147483648) (hn : ¬ ((0 ≤ a ∧ a ≤ 2) ∧ ((0 ≤ x ∧ x ≤ 11) ∧ (0 ≤ y ∧ y ≤ 11)))) : Ct l E yX5_cast (.code yX5_cast cX5_cast 7 (some .int)) 9 [vR E 88, vI a, vI x, vI y] M (fun v M1 => v = some (vI 0) ∧ M1 = mu (mu M 88 0 0) 88 0 (if 0 ≤ a ∧ a ≤ 2 then 1 else 1)) := by
  refine ct_of (L0 := [(0, vR E 88), (1, vI a), (2, vI x), (3, vI y)]) (by decide +kernel) rfl (Nat.le_of_ble_eq_true rfl) ?_
  intro zp ze zs zm za zb zt zc zA hC
  have hz0 := ite_z (0 ≤ a ∧ a ≤ 2)
  have hz1 := ite_z ((0 ≤ x ∧ x ≤ 11) ∧ (0 ≤ y ∧ y ≤ 11))
  refine jw_aload_n hC dX5_cast_0 0 rfl rfl ?_
  refine jw_iconst hC dX5_cast_1 ?_
  refine jw_puti hC fL_X5_35 ewF_m0 (kI := 0) rfl dX5_cast_2 (by omega) (by omega) ?_
  refine jw_iload_n hC dX5_cast_5 1 rfl rfl ?_
  refine jw_callS hC (c_X5_isDie l E _ _ (by omega) (by omega)) sS_X5_94 dX5_cast_6 rfl rfl ⟨Nat.le_of_ble_eq_true rfl, Nat.le_of_ble_eq_true rfl⟩ ⟨Nat.zero_le _, Nat.zero_le _⟩ (Nat.le_of_ble_eq_true rfl) (fun v6 M6 g6 => ?_)
  obtain ⟨rfl, rfl⟩ := g6
  refine jw_if_eq (tgt := 20) hC dX5_cast_9 (by decide) (by omega) (by omega) (fun h9 => ?_) (fun h9 => ?_)
  · skip
    refine jw_aload_n hC dX5_cast_20 0 rfl rfl ?_
    refine jw_iconst hC dX5_cast_21 ?_
    refine jw_callV hC (c_X5_fails l E _ _ (by decide) (by decide)) sV_X5_101 ewF_m0.o dX5_cast_22 rfl rfl ⟨Nat.le_of_ble_eq_true rfl, Nat.le_of_ble_eq_true rfl⟩ ⟨Nat.zero_le _, Nat.zero_le _⟩ (Nat.le_of_ble_eq_true rfl) (fun v22 M22 g22 => ?_)
    obtain ⟨rfl, rfl⟩ := g22
    refine jw_iret hC dX5_cast_25 ?_
    refine ⟨rfl, ?_⟩
    rw [if_neg (ite_0 (C := 0 ≤ a ∧ a ≤ 2) h9)]
  · skip
    refine jw_iload_n hC dX5_cast_12 2 rfl rfl ?_
    refine jw_iload_n hC dX5_cast_13 3 rfl rfl ?_
    refine jw_callS hC (c_X5_isPlace l E _ _ _ (by omega) (by omega) (by omega) (by omega)) sS_X5_53 dX5_cast_14 rfl rfl ⟨Nat.le_of_ble_eq_true rfl, Nat.le_of_ble_eq_true rfl⟩ ⟨Nat.zero_le _, Nat.zero_le _⟩ (Nat.le_of_ble_eq_true rfl) (fun v14 M14 g14 => ?_)
    obtain ⟨rfl, rfl⟩ := g14
    refine jw_if_ne (tgt := 26) hC dX5_cast_17 (by decide) (by omega) (by omega) (fun h17 => ?_) (fun h17 => ?_)
    · skip
      exact absurd ⟨ite_1 (C := 0 ≤ a ∧ a ≤ 2) h9, ite_1 (C := (0 ≤ x ∧ x ≤ 11) ∧ (0 ≤ y ∧ y ≤ 11)) h17⟩ hn
    · skip
      refine jw_aload_n hC dX5_cast_20 0 rfl rfl ?_
      refine jw_iconst hC dX5_cast_21 ?_
      refine jw_callV hC (c_X5_fails l E _ _ (by decide) (by decide)) sV_X5_101 ewF_m0.o dX5_cast_22 rfl rfl ⟨Nat.le_of_ble_eq_true rfl, Nat.le_of_ble_eq_true rfl⟩ ⟨Nat.zero_le _, Nat.zero_le _⟩ (Nat.le_of_ble_eq_true rfl) (fun v22 M22 g22 => ?_)
      obtain ⟨rfl, rfl⟩ := g22
      refine jw_iret hC dX5_cast_25 ?_
      refine ⟨rfl, ?_⟩
      rw [if_pos (ite_1 (C := 0 ≤ a ∧ a ≤ 2) h9)]
