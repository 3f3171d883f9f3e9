/-! THE REFERENCE: the public methods that change -/
/-- N is M saved -/
def svs (M N : ewM) : Prop := (∀ i : Int, N 91 i = if 667 * (if M 88 4 = 6 then 5 else M 88 4) ≤ i ∧ i < 667 * (if M 88 4 = 6 then 5 else M 88 4) + 667 then M 89 (i - 667 * (if M 88 4 = 6 then 5 else M 88 4)) else if M 88 4 = 6 ∧ 0 ≤ i ∧ i < 3335 then M 91 (i + 667) else M 91 i) ∧ (∀ k : Int, N 88 k = if k = 4 then (if M 88 4 = 6 then 6 else M 88 4 + 1) else M 88 k) ∧ ∀ o, o ≠ 88 → o ≠ 91 → N o = M o
theorem svs_89 {M N : ewM} (h : svs (mu M 88 0 0) N) : N 89 = M 89 := by rw [h.2.2 89 (by decide) (by decide), mu_ne _ _ _ (by decide)]
theorem svs_c {M : ewM} (h : 0 ≤ M 88 4 ∧ M 88 4 ≤ 6) : 0 ≤ (mu M 88 0 0) 88 4 ∧ (mu M 88 0 0) 88 4 ≤ 6 := by
  rw [mu_nk _ _ _ (by decide)]
  exact h
set_option maxRecDepth 100000 in
set_option maxHeartbeats 4000000 in
theorem o_X5_fold (l : Launch) (E : ewE) (M : ewM) (h0 : svI (M 89)) (hc : 0 ≤ M 88 4 ∧ M 88 4 ≤ 6) (r : Int) (r1 : -2147483648 ≤ r) (r2 : r < 2147483648) (q0 : 1 ≤ r ∧ r ≤ 11) : Ct l E yX5_fold (.code yX5_fold cX5_fold 2 (some .int)) 9 [vR E 88, vI r] M (fun v M1 => ∃ N : ewM, svs (mu M 88 0 0) N ∧ v = some (vI (f_fc (vD (M 89)) (vC (M 89)) r (M 89 0) (M 89 1))) ∧ vC (M1 89) = f_it (vD (M 89)) (M 89 0) (M 89 1) (f_brk (f_ovf (vD (M 89)) (vC (M 89)) r (M 89 0) (M 89 1)) (vC (M 89))) 144 ∧ vD (M1 89) = vD (M 89) ∧ vF (M1 89) = vF (M 89) ∧ vP (M1 89) = vP (M 89) ∧ vQ (M1 89) = vQ (M 89) ∧ (∀ k : Int, 0 ≤ k → k < 4 → M1 89 k = M 89 k) ∧ (∀ k : Int, vS (M1 89) k = if k = 7 then wr (M 89 13 + f_fc (vD (M 89)) (vC (M 89)) r (M 89 0) (M 89 1)) else if k = 9 then wr (M 89 15 + 1) else vS (M 89) k) ∧ ∀ o, o ≠ 89 → o ≠ 95 → M1 o = N o) := by
  refine ct_of (L0 := [(0, vR E 88), (1, vI r)]) (by decide +kernel) rfl (Nat.le_of_ble_eq_true rfl) ?_
  intro zp ze zs zm za zb zt zc zA hC
  have hz0 := ite_z (1 ≤ r ∧ r ≤ 11)
  refine jw_aload_n hC dX5_fold_0 0 rfl rfl ?_
  refine jw_iconst hC dX5_fold_1 ?_
  refine jw_puti hC fL_X5_35 ewF_m0 (kI := 0) rfl dX5_fold_2 (by omega) (by omega) ?_
  refine jw_iload_n hC dX5_fold_5 1 rfl rfl ?_
  refine jw_iconst hC dX5_fold_6 ?_
  refine jw_bipush hC dX5_fold_7 (by decide) ?_
  refine jw_callS hC (c_X5_in l E _ _ _ _ (by omega) (by omega) (by omega) (by omega) (by omega) (by omega)) sS_X5_39 dX5_fold_9 rfl rfl ⟨Nat.le_of_ble_eq_true rfl, Nat.le_of_ble_eq_true rfl⟩ ⟨Nat.zero_le _, Nat.zero_le _⟩ (Nat.le_of_ble_eq_true rfl) (fun v9 M9 g9 => ?_)
  obtain ⟨rfl, rfl⟩ := g9
  refine jw_if_ne (tgt := 21) hC dX5_fold_12 (by decide) (by omega) (by omega) (fun h12 => ?_) (fun h12 => ?_)
  · skip
    refine jw_aload_n hC dX5_fold_21 0 rfl rfl ?_
    refine jw_callV hC (c_X5_saves l E (mu M 88 0 0) (svs_c hc)) sV_X5_104 ewF_m0.o dX5_fold_22 rfl rfl ⟨Nat.le_of_ble_eq_true rfl, Nat.le_of_ble_eq_true rfl⟩ ⟨Nat.zero_le _, Nat.zero_le _⟩ (Nat.le_of_ble_eq_true rfl) (fun v22 M22 g22 => ?_)
    obtain ⟨rfl, s1, s2, s3⟩ := g22
    have hsv : svs (mu M 88 0 0) M22 := ⟨s1, s2, s3⟩
    have e89 := svs_89 hsv
    refine jw_aload_n hC dX5_fold_25 0 rfl rfl ?_
    refine jw_iload_n hC dX5_fold_26 1 rfl rfl ?_
    refine jw_callV hC (c_X5_folds l E M22 (by rw [e89]; exact h0) r (by omega)) sV_X5_119 ewF_m0.o dX5_fold_27 rfl rfl ⟨Nat.le_of_ble_eq_true rfl, Nat.le_of_ble_eq_true rfl⟩ ⟨Nat.zero_le _, Nat.zero_le _⟩ (Nat.le_of_ble_eq_true rfl) (fun v27 M27 g27 => ?_)
    obtain ⟨rfl, b⟩ := g27
    rw [e89] at b ⊢
    refine jw_iret hC dX5_fold_30 ?_
    exact ⟨M22, hsv, rfl, b⟩
  · skip
    exact absurd q0 (ite_0 (C := 1 ≤ r ∧ r ≤ 11) h12)
set_option maxRecDepth 100000 in
set_option maxHeartbeats 4000000 in
theorem n_X5_fold (l : Launch) (E : ewE) (M : ewM) (r : Int) (r1 : -2147483648 ≤ r) (r2 : r < 2147483648) (hn : ¬ ((1 ≤ r ∧ r ≤ 11))) : Ct l E yX5_fold (.code yX5_fold cX5_fold 2 (some .int)) 9 [vR E 88, vI r] M (fun v M1 => v = some (vI 0) ∧ M1 = mu (mu M 88 0 0) 88 0 (1)) := by
  refine ct_of (L0 := [(0, vR E 88), (1, vI r)]) (by decide +kernel) rfl (Nat.le_of_ble_eq_true rfl) ?_
  intro zp ze zs zm za zb zt zc zA hC
  have hz0 := ite_z (1 ≤ r ∧ r ≤ 11)
  refine jw_aload_n hC dX5_fold_0 0 rfl rfl ?_
  refine jw_iconst hC dX5_fold_1 ?_
  refine jw_puti hC fL_X5_35 ewF_m0 (kI := 0) rfl dX5_fold_2 (by omega) (by omega) ?_
  refine jw_iload_n hC dX5_fold_5 1 rfl rfl ?_
  refine jw_iconst hC dX5_fold_6 ?_
  refine jw_bipush hC dX5_fold_7 (by decide) ?_
  refine jw_callS hC (c_X5_in l E _ _ _ _ (by omega) (by omega) (by omega) (by omega) (by omega) (by omega)) sS_X5_39 dX5_fold_9 rfl rfl ⟨Nat.le_of_ble_eq_true rfl, Nat.le_of_ble_eq_true rfl⟩ ⟨Nat.zero_le _, Nat.zero_le _⟩ (Nat.le_of_ble_eq_true rfl) (fun v9 M9 g9 => ?_)
  obtain ⟨rfl, rfl⟩ := g9
  refine jw_if_ne (tgt := 21) hC dX5_fold_12 (by decide) (by omega) (by omega) (fun h12 => ?_) (fun h12 => ?_)
  · skip
    exact absurd (ite_1 (C := 1 ≤ r ∧ r ≤ 11) h12) hn
  · skip
    refine jw_aload_n hC dX5_fold_15 0 rfl rfl ?_
    refine jw_iconst hC dX5_fold_16 ?_
    refine jw_callV hC (c_X5_fails l E _ _ (by decide) (by decide)) sV_X5_101 ewF_m0.o dX5_fold_17 rfl rfl ⟨Nat.le_of_ble_eq_true rfl, Nat.le_of_ble_eq_true rfl⟩ ⟨Nat.zero_le _, Nat.zero_le _⟩ (Nat.le_of_ble_eq_true rfl) (fun v17 M17 g17 => ?_)
    obtain ⟨rfl, rfl⟩ := g17
    refine jw_iret hC dX5_fold_20 ?_
    refine ⟨rfl, ?_⟩
    rfl
set_option maxRecDepth 100000 in
set_option maxHeartbeats 4000000 in
theorem o_X5_press (l : Launch) (E : ewE) (M : ewM) (h0 : svI (M 89)) (hc : 0 ≤ M 88 4 ∧ M 88 4 ≤ 6) (a : Int) (a1 : -2147483648 ≤ a) (a2 : a < 2147483648) (x : Int) (x1 : -2147483648 ≤ x) (x2 : x < 2147483648) (y : Int) (y1 : -2147483648 ≤ y) (y2 : y < 2147483648) (t : Int) (t1 : -2147483648 ≤ t) (t2 : t < 2147483648) (q0 : 0 ≤ a ∧ a ≤ 2) (q1 : 0 ≤ t ∧ t ≤ 7) : Ct l E yX5_press (.code yX5_press cX5_press 6 (some .int)) 9 [vR E 88, vI a, vI x, vI y, vI t] M (fun v M1 => ∃ N : ewM, svs (mu M 88 0 0) N ∧ ((0 < f_rsn (f_rel (vQ (M 89)) a t) (x + M 89 4) y (M 89 2) ∧ v = some (vI (f_rsn (f_rel (vQ (M 89)) a t) (x + M 89 4) y (M 89 2))) ∧ M1 = mu N 89 7 (wr (M 89 7 + 1))) ∨ (f_rsn (f_rel (vQ (M 89)) a t) (x + M 89 4) y (M 89 2) = 0 ∧ v = some (vI (100 + f_cks (f_rel (vQ (M 89)) a t) (x + M 89 4) y (vD (M 89)) (vC (M 89)) (M 89 0) (M 89 1))) ∧ vD (M1 89) = f_emb (f_rel (vQ (M 89)) a t) (x + M 89 4) y (vD (M 89)) 25 ∧ vF (M1 89) = f_stk (vS (M 89)) (f_rel (vQ (M 89)) a t) (x + M 89 4) y (vF (M 89)) 25 ∧ vC (M1 89) = f_it (f_emb (f_rel (vQ (M 89)) a t) (x + M 89 4) y (vD (M 89)) 25) (M 89 0) (M 89 1) (vC (M 89)) 144 ∧ vP (M1 89) = f_prs (f_rel (vQ (M 89)) a t) (x + M 89 4) y (vP (M 89)) 25 ∧ vQ (M1 89) = vQ (M 89) ∧ (∀ k : Int, 0 ≤ k → k < 4 → M1 89 k = M 89 k) ∧ (∀ k : Int, vS (M1 89) k = if k = 3 then f_sl (M 89 3) (wr (M 89 5 + 1)) (M 89 4) else if k = 4 then wr (M 89 6 + 1) else if k = 5 then wr (M 89 5 + 1) else if k = 7 then wr (M 89 13 + f_cks (f_rel (vQ (M 89)) a t) (x + M 89 4) y (vD (M 89)) (vC (M 89)) (M 89 0) (M 89 1)) else if k = 10 then 0 else vS (M 89) k) ∧ ∀ o, o ≠ 89 → o ≠ 95 → M1 o = N o))) := by
  refine ct_of (L0 := [(0, vR E 88), (1, vI a), (2, vI x), (3, vI y), (4, vI t)]) (by decide +kernel) rfl (Nat.le_of_ble_eq_true rfl) ?_
  intro zp ze zs zm za zb zt zc zA hC
  have hz0 := ite_z (0 ≤ a ∧ a ≤ 2)
  have hz1 := ite_z (0 ≤ t ∧ t ≤ 7)
  refine jw_aload_n hC dX5_press_0 0 rfl rfl ?_
  refine jw_iconst hC dX5_press_1 ?_
  refine jw_puti hC fL_X5_35 ewF_m0 (kI := 0) rfl dX5_press_2 (by omega) (by omega) ?_
  refine jw_iload_n hC dX5_press_5 1 rfl rfl ?_
  refine jw_callS hC (c_X5_isDie l E _ _ (by omega) (by omega)) sS_X5_94 dX5_press_6 rfl rfl ⟨Nat.le_of_ble_eq_true rfl, Nat.le_of_ble_eq_true rfl⟩ ⟨Nat.zero_le _, Nat.zero_le _⟩ (Nat.le_of_ble_eq_true rfl) (fun v6 M6 g6 => ?_)
  obtain ⟨rfl, rfl⟩ := g6
  refine jw_if_ne (tgt := 18) hC dX5_press_9 (by decide) (by omega) (by omega) (fun h9 => ?_) (fun h9 => ?_)
  · skip
    refine jw_iload hC dX5_press_18 4 rfl ?_
    refine jw_iconst hC dX5_press_20 ?_
    refine jw_bipush hC dX5_press_21 (by decide) ?_
    refine jw_callS hC (c_X5_in l E _ _ _ _ (by omega) (by omega) (by omega) (by omega) (by omega) (by omega)) sS_X5_39 dX5_press_23 rfl rfl ⟨Nat.le_of_ble_eq_true rfl, Nat.le_of_ble_eq_true rfl⟩ ⟨Nat.zero_le _, Nat.zero_le _⟩ (Nat.le_of_ble_eq_true rfl) (fun v23 M23 g23 => ?_)
    obtain ⟨rfl, rfl⟩ := g23
    refine jw_if_ne (tgt := 35) hC dX5_press_26 (by decide) (by omega) (by omega) (fun h26 => ?_) (fun h26 => ?_)
    · skip
      refine jw_aload_n hC dX5_press_35 0 rfl rfl ?_
      refine jw_callV hC (c_X5_saves l E (mu M 88 0 0) (svs_c hc)) sV_X5_104 ewF_m0.o dX5_press_36 rfl rfl ⟨Nat.le_of_ble_eq_true rfl, Nat.le_of_ble_eq_true rfl⟩ ⟨Nat.zero_le _, Nat.zero_le _⟩ (Nat.le_of_ble_eq_true rfl) (fun v36 M36 g36 => ?_)
      obtain ⟨rfl, s1, s2, s3⟩ := g36
      have hsv : svs (mu M 88 0 0) M36 := ⟨s1, s2, s3⟩
      have e89 := svs_89 hsv
      refine jw_aload_n hC dX5_press_39 0 rfl rfl ?_
      refine jw_iload_n hC dX5_press_40 1 rfl rfl ?_
      refine jw_iload_n hC dX5_press_41 2 rfl rfl ?_
      refine jw_iload_n hC dX5_press_42 3 rfl rfl ?_
      refine jw_iload hC dX5_press_43 4 rfl ?_
      refine jw_callV hC (c_X5_reason l E M36 (by rw [e89]; exact h0) a (by omega) x y x1 x2 y1 y2 t (by omega)) sV_X5_113 ewF_m0.o dX5_press_45 rfl rfl ⟨Nat.le_of_ble_eq_true rfl, Nat.le_of_ble_eq_true rfl⟩ ⟨Nat.zero_le _, Nat.zero_le _⟩ (Nat.le_of_ble_eq_true rfl) (fun v45 M45 g45 => ?_)
      obtain ⟨rfl, rfl⟩ := g45
      rw [e89]
      have hrb := f_rsn_b (f_rel (vQ (M 89)) a t) (x + M 89 4) y (M 89 2)
      refine jw_istore (L' := [(5, _), (0, _), (1, _), (2, _), (3, _), (4, _)]) hC dX5_press_48 (by decide) rfl ?_
      refine jw_iload hC dX5_press_50 0 rfl ?_
      refine jw_if_le (tgt := 69) hC dX5_press_52 (by decide) (by omega) (by omega) (fun h52 => ?_) (fun h52 => ?_)
      · skip
        refine jw_bipush hC dX5_press_69 (by decide) ?_
        refine jw_aload_n hC dX5_press_71 1 rfl rfl ?_
        refine jw_iload_n hC dX5_press_72 2 rfl rfl ?_
        refine jw_iload_n hC dX5_press_73 3 rfl rfl ?_
        refine jw_iload_n hC dX5_press_74 4 rfl rfl ?_
        refine jw_iload hC dX5_press_75 5 rfl ?_
        refine jw_callV hC (c_X5_presses l E M36 (by rw [e89]; exact h0) a (by omega) x y x1 x2 y1 y2 t (by omega) (by rw [e89]; exact f_rsn_0 (d := M 89 2) (by omega))) sV_X5_116 ewF_m0.o dX5_press_77 rfl rfl ⟨Nat.le_of_ble_eq_true rfl, Nat.le_of_ble_eq_true rfl⟩ ⟨Nat.zero_le _, Nat.zero_le _⟩ (Nat.le_of_ble_eq_true rfl) (fun v77 M77 g77 => ?_)
        obtain ⟨rfl, b⟩ := g77
        rw [e89] at b ⊢
        refine jw_iadd hC dX5_press_80 ?_
        refine jw_iret hC dX5_press_81 ?_
        first
        | (refine ⟨M36, hsv, Or.inl ⟨by omega, rfl, ?_⟩⟩
           rw [e89])
        | exact ⟨M36, hsv, Or.inr ⟨by omega, rfl, b⟩⟩
      · skip
        refine jw_aload_n hC dX5_press_55 1 rfl rfl ?_
        refine jw_getr hC fL_X5_7 ewR_m1 dX5_press_56 ?_
        refine jw_bipush hC dX5_press_59 (by decide) ?_
        refine jw_dup2 hC dX5_press_61 ?_
        refine jw_iald hC ewA_89 dX5_press_62 (by omega) (by omega) (by decide) (fun b62 c62 => ?_)
        refine jw_iconst hC dX5_press_63 ?_
        refine jw_iadd hC dX5_press_64 ?_
        refine jw_iastw hC ewA_89 dX5_press_65 (by omega) (by omega) (by decide)  ?_
        refine jw_iload hC dX5_press_66 0 rfl ?_
        refine jw_iret hC dX5_press_68 ?_
        first
        | (refine ⟨M36, hsv, Or.inl ⟨by omega, rfl, ?_⟩⟩
           rw [e89])
        | exact ⟨M36, hsv, Or.inr ⟨by omega, rfl, b⟩⟩
    · skip
      exact absurd q1 (ite_0 (C := 0 ≤ t ∧ t ≤ 7) h26)
  · skip
    exact absurd q0 (ite_0 (C := 0 ≤ a ∧ a ≤ 2) h9)
set_option maxRecDepth 100000 in
set_option maxHeartbeats 4000000 in
theorem n_X5_press (l : Launch) (E : ewE) (M : ewM) (a : Int) (a1 : -2147483648 ≤ a) (a2 : a < 2147483648) (x : Int) (x1 : -2147483648 ≤ x) (x2 : x < 2147483648) (y : Int) (y1 : -2147483648 ≤ y) (y2 : y < 2147483648) (t : Int) (t1 : -2147483648 ≤ t) (t2 : t < 2147483648) (hn : ¬ ((0 ≤ a ∧ a ≤ 2) ∧ (0 ≤ t ∧ t ≤ 7))) : Ct l E yX5_press (.code yX5_press cX5_press 6 (some .int)) 9 [vR E 88, vI a, vI x, vI y, vI t] M (fun v M1 => v = some (vI 0) ∧ M1 = mu (mu M 88 0 0) 88 0 (if 0 ≤ a ∧ a ≤ 2 then 2 else 1)) := by
  refine ct_of (L0 := [(0, vR E 88), (1, vI a), (2, vI x), (3, vI y), (4, vI t)]) (by decide +kernel) rfl (Nat.le_of_ble_eq_true rfl) ?_
  intro zp ze zs zm za zb zt zc zA hC
  have hz0 := ite_z (0 ≤ a ∧ a ≤ 2)
  have hz1 := ite_z (0 ≤ t ∧ t ≤ 7)
  refine jw_aload_n hC dX5_press_0 0 rfl rfl ?_
  refine jw_iconst hC dX5_press_1 ?_
  refine jw_puti hC fL_X5_35 ewF_m0 (kI := 0) rfl dX5_press_2 (by omega) (by omega) ?_
  refine jw_iload_n hC dX5_press_5 1 rfl rfl ?_
  refine jw_callS hC (c_X5_isDie l E _ _ (by omega) (by omega)) sS_X5_94 dX5_press_6 rfl rfl ⟨Nat.le_of_ble_eq_true rfl, Nat.le_of_ble_eq_true rfl⟩ ⟨Nat.zero_le _, Nat.zero_le _⟩ (Nat.le_of_ble_eq_true rfl) (fun v6 M6 g6 => ?_)
  obtain ⟨rfl, rfl⟩ := g6
  refine jw_if_ne (tgt := 18) hC dX5_press_9 (by decide) (by omega) (by omega) (fun h9 => ?_) (fun h9 => ?_)
  · skip
    refine jw_iload hC dX5_press_18 4 rfl ?_
    refine jw_iconst hC dX5_press_20 ?_
    refine jw_bipush hC dX5_press_21 (by decide) ?_
    refine jw_callS hC (c_X5_in l E _ _ _ _ (by omega) (by omega) (by omega) (by omega) (by omega) (by omega)) sS_X5_39 dX5_press_23 rfl rfl ⟨Nat.le_of_ble_eq_true rfl, Nat.le_of_ble_eq_true rfl⟩ ⟨Nat.zero_le _, Nat.zero_le _⟩ (Nat.le_of_ble_eq_true rfl) (fun v23 M23 g23 => ?_)
    obtain ⟨rfl, rfl⟩ := g23
    refine jw_if_ne (tgt := 35) hC dX5_press_26 (by decide) (by omega) (by omega) (fun h26 => ?_) (fun h26 => ?_)
    · skip
      exact absurd ⟨ite_1 (C := 0 ≤ a ∧ a ≤ 2) h9, ite_1 (C := 0 ≤ t ∧ t ≤ 7) h26⟩ hn
    · skip
      refine jw_aload_n hC dX5_press_29 0 rfl rfl ?_
      refine jw_iconst hC dX5_press_30 ?_
      refine jw_callV hC (c_X5_fails l E _ _ (by decide) (by decide)) sV_X5_101 ewF_m0.o dX5_press_31 rfl rfl ⟨Nat.le_of_ble_eq_true rfl, Nat.le_of_ble_eq_true rfl⟩ ⟨Nat.zero_le _, Nat.zero_le _⟩ (Nat.le_of_ble_eq_true rfl) (fun v31 M31 g31 => ?_)
      obtain ⟨rfl, rfl⟩ := g31
      refine jw_iret hC dX5_press_34 ?_
      refine ⟨rfl, ?_⟩
      rw [if_pos (ite_1 (C := 0 ≤ a ∧ a ≤ 2) h9)]
  · skip
    refine jw_aload_n hC dX5_press_12 0 rfl rfl ?_
    refine jw_iconst hC dX5_press_13 ?_
    refine jw_callV hC (c_X5_fails l E _ _ (by decide) (by decide)) sV_X5_101 ewF_m0.o dX5_press_14 rfl rfl ⟨Nat.le_of_ble_eq_true rfl, Nat.le_of_ble_eq_true rfl⟩ ⟨Nat.zero_le _, Nat.zero_le _⟩ (Nat.le_of_ble_eq_true rfl) (fun v14 M14 g14 => ?_)
    obtain ⟨rfl, rfl⟩ := g14
    refine jw_iret hC dX5_press_17 ?_
    refine ⟨rfl, ?_⟩
    rw [if_neg (ite_0 (C := 0 ≤ a ∧ a ≤ 2) h9)]
set_option maxRecDepth 100000 in
set_option maxHeartbeats 4000000 in
theorem o_X5_pin (l : Launch) (E : ewE) (M : ewM) (hc : 0 ≤ M 88 4 ∧ M 88 4 ≤ 6)   : Ct l E yX5_pin (.code yX5_pin cX5_pin 2 (some .int)) 9 [vR E 88] M (fun v M1 => ∃ N : ewM, svs (mu M 88 0 0) N ∧ v = some (vI (M 89 4)) ∧ M1 = mu (mu N 89 4 0) 89 5 0) := by
  refine ct_of (L0 := [(0, vR E 88)]) (by decide +kernel) rfl (Nat.le_of_ble_eq_true rfl) ?_
  intro zp ze zs zm za zb zt zc zA hC
  skip
  refine jw_aload_n hC dX5_pin_0 0 rfl rfl ?_
  refine jw_iconst hC dX5_pin_1 ?_
  refine jw_puti hC fL_X5_35 ewF_m0 (kI := 0) rfl dX5_pin_2 (by omega) (by omega) ?_
  refine jw_aload_n hC dX5_pin_5 0 rfl rfl ?_
  refine jw_callV hC (c_X5_saves l E (mu M 88 0 0) (svs_c hc)) sV_X5_104 ewF_m0.o dX5_pin_6 rfl rfl ⟨Nat.le_of_ble_eq_true rfl, Nat.le_of_ble_eq_true rfl⟩ ⟨Nat.zero_le _, Nat.zero_le _⟩ (Nat.le_of_ble_eq_true rfl) (fun v6 M6 g6 => ?_)
  obtain ⟨rfl, s1, s2, s3⟩ := g6
  have hsv : svs (mu M 88 0 0) M6 := ⟨s1, s2, s3⟩
  have e89 := svs_89 hsv
  refine jw_aload_n hC dX5_pin_9 0 rfl rfl ?_
  refine jw_getr hC fL_X5_7 ewR_m1 dX5_pin_10 ?_
  refine jw_iconst hC dX5_pin_13 ?_
  refine jw_iald hC ewA_89 dX5_pin_14 (by omega) (by omega) (by decide) (fun b14 c14 => ?_)
  rw [e89] at b14 c14 ⊢
  refine jw_istore_n (L' := [(1, _), (0, _)]) hC dX5_pin_15 rfl (by decide) rfl ?_
  refine jw_aload_n hC dX5_pin_16 1 rfl rfl ?_
  refine jw_getr hC fL_X5_7 ewR_m1 dX5_pin_17 ?_
  refine jw_iconst hC dX5_pin_20 ?_
  refine jw_iconst hC dX5_pin_21 ?_
  refine jw_iast hC ewA_89 dX5_pin_22 (by omega) (by omega) (by decide) (by omega) (by omega) ?_
  refine jw_aload_n hC dX5_pin_23 1 rfl rfl ?_
  refine jw_getr hC fL_X5_7 ewR_m1 dX5_pin_24 ?_
  refine jw_iconst hC dX5_pin_27 ?_
  refine jw_iconst hC dX5_pin_28 ?_
  refine jw_iast hC ewA_89 dX5_pin_29 (by omega) (by omega) (by decide) (by omega) (by omega) ?_
  refine jw_iload_n hC dX5_pin_30 0 rfl rfl ?_
  refine jw_iret hC dX5_pin_31 ?_
  exact ⟨M6, hsv, rfl, rfl⟩
