/-! THE REFERENCE: presses, folds, what would be -/
set_option maxRecDepth 100000 in
set_option maxHeartbeats 4000000 in
theorem c_X5_presses (l : Launch) (E : ewE) (M : ewM) (h0 : svI (M 89)) (a : Int) (ha : 0 ≤ a ∧ a < 3) (x y : Int) (x1 : -2147483648 ≤ x) (x2 : x < 2147483648) (y1 : -2147483648 ≤ y) (y2 : y < 2147483648) (t : Int) (ht : 0 ≤ t ∧ t < 8) (hof : f_off (f_rel (vQ (M 89)) a t) (x + M 89 4) y 25 = false) : Ct l E yX5_presses (.code yX5_presses cX5_presses 7 (some .int)) 6 [vR E 88, vI a, vI x, vI y, vI t] M (fun v M1 => v = some (vI (f_cks (f_rel (vQ (M 89)) a t) (x + M 89 4) y (vD (M 89)) (vC (M 89)) (M 89 0) (M 89 1))) ∧ vD (M1 89) = f_emb (f_rel (vQ (M 89)) a t) (x + M 89 4) y (vD (M 89)) 25 ∧ vF (M1 89) = f_stk (vS (M 89)) (f_rel (vQ (M 89)) a t) (x + M 89 4) y (vF (M 89)) 25 ∧ vC (M1 89) = f_it (f_emb (f_rel (vQ (M 89)) a t) (x + M 89 4) y (vD (M 89)) 25) (M 89 0) (M 89 1) (vC (M 89)) 144 ∧ vP (M1 89) = f_prs (f_rel (vQ (M 89)) a t) (x + M 89 4) y (vP (M 89)) 25 ∧ vQ (M1 89) = vQ (M 89) ∧ (∀ k : Int, 0 ≤ k → k < 4 → M1 89 k = M 89 k) ∧ (∀ k : Int, vS (M1 89) k = if k = 3 then f_sl (M 89 3) (wr (M 89 5 + 1)) (M 89 4) else if k = 4 then wr (M 89 6 + 1) else if k = 5 then wr (M 89 5 + 1) else if k = 7 then wr (M 89 13 + f_cks (f_rel (vQ (M 89)) a t) (x + M 89 4) y (vD (M 89)) (vC (M 89)) (M 89 0) (M 89 1)) else if k = 10 then 0 else vS (M 89) k) ∧ ∀ o, o ≠ 89 → o ≠ 95 → M1 o = M o) := by
  refine ct_of (L0 := [(0, vR E 88), (1, vI a), (2, vI x), (3, vI y), (4, vI t)]) (by decide +kernel) rfl (Nat.le_of_ble_eq_true rfl) ?_
  intro zp ze zs zm za zb zt zc zA hC
  obtain ⟨p1, p2, p3, p4, p5, p6, p7, p8, p9, pf⟩ := id h0
  have hrD := f_rel_D p3 a t
  have K3 : ∀ (n : Nat) (k : Int) (M1 : ewM), 25 - k < n → 0 ≤ k → k ≤ 25 → sv_pp (M 89) (M1 89) (f_rel (vQ (M 89)) a t) (x + M 89 4) y k.toNat → (∀ o, o ≠ 89 → M1 o = M o) → jJ zp l ze (ct_rm 6) zs zm za zb zt zc E zA 7 0 0 (MQ zb (ct_Q E zA (fun v M1 => v = some (vI (f_cks (f_rel (vQ (M 89)) a t) (x + M 89 4) y (vD (M 89)) (vC (M 89)) (M 89 0) (M 89 1))) ∧ vD (M1 89) = f_emb (f_rel (vQ (M 89)) a t) (x + M 89 4) y (vD (M 89)) 25 ∧ vF (M1 89) = f_stk (vS (M 89)) (f_rel (vQ (M 89)) a t) (x + M 89 4) y (vF (M 89)) 25 ∧ vC (M1 89) = f_it (f_emb (f_rel (vQ (M 89)) a t) (x + M 89 4) y (vD (M 89)) 25) (M 89 0) (M 89 1) (vC (M 89)) 144 ∧ vP (M1 89) = f_prs (f_rel (vQ (M 89)) a t) (x + M 89 4) y (vP (M 89)) 25 ∧ vQ (M1 89) = vQ (M 89) ∧ (∀ k : Int, 0 ≤ k → k < 4 → M1 89 k = M 89 k) ∧ (∀ k : Int, vS (M1 89) k = if k = 3 then f_sl (M 89 3) (wr (M 89 5 + 1)) (M 89 4) else if k = 4 then wr (M 89 6 + 1) else if k = 5 then wr (M 89 5 + 1) else if k = 7 then wr (M 89 13 + f_cks (f_rel (vQ (M 89)) a t) (x + M 89 4) y (vD (M 89)) (vC (M 89)) (M 89 0) (M 89 1)) else if k = 10 then 0 else vS (M 89) k) ∧ ∀ o, o ≠ 89 → o ≠ 95 → M1 o = M o)) za zs 0 0 zA) 3 [(0, vR E 88), (1, vI a), (2, vI x), (3, vI y), (4, vI t), (5, vI k)] [] M1 := by
    intro n
    induction n with
    | zero => intros; omega
    | succ n ih =>
      intro k M1 i1 i2 i3 g1 g2
      refine jw_iload hC dX5_presses_3 5 rfl ?_
      refine jw_bipush hC dX5_presses_5 (by decide) ?_
      refine jw_icmp_ge (tgt := 67) hC dX5_presses_7 (by decide) (by omega) (by omega) (by omega) (by omega) (fun h7 => ?_) (fun h7 => ?_)
      · skip
        have e25 : k = 25 := by omega
        subst e25
        have g1 : sv_pp (M 89) (M1 89) (f_rel (vQ (M 89)) a t) (x + M 89 4) y 25 := g1
        have e11 := g1
        have hv2 : vD (mu M1 89 8 0 89) = vD (M1 89) ∧ vF (mu M1 89 8 0 89) = vF (M1 89) ∧ vC (mu M1 89 8 0 89) = vC (M1 89) ∧ vP (mu M1 89 8 0 89) = vP (M1 89) ∧ vQ (mu M1 89 8 0 89) = vQ (M1 89) := sv_hi fun i hi => mu_nk _ _ _ (by omega)
        have hI1 := sv_pp_I g1 h0 hrD
        have hI2 : svI (mu M1 89 8 0 89) := by
          obtain ⟨a1, a2, a3, a4, a5, a6, a7, a8, a9, af⟩ := hI1
          exact sv_hiI (fun i hi => mu_nk _ _ _ (by omega)) (sv_pp_I g1 h0 hrD) (by rw [mu_nk _ _ _ (by decide)]; exact a4) (by rw [mu_nk _ _ _ (by decide)]; exact a5) (by rw [mu_nk _ _ _ (by decide)]; exact a6) (by rw [mu_nk _ _ _ (by decide)]; exact a7) (by rw [mu_nk _ _ _ (by decide)]; exact a8) (by rw [mu_eq]; decide)
        refine jw_aload_n hC dX5_presses_67 0 rfl rfl ?_
        refine jw_getr hC fL_X5_7 ewR_m1 dX5_presses_68 ?_
        refine jw_bipush hC dX5_presses_71 (by decide) ?_
        refine jw_iconst hC dX5_presses_73 ?_
        refine jw_iast hC ewA_89 dX5_presses_74 (by omega) (by omega) (by decide) (by omega) (by omega) ?_
        refine jw_aload_n hC dX5_presses_75 0 rfl rfl ?_
        refine jw_callV hC (c_X5_cracksAll l E _ hI2) sV_X5_91 ewF_m0.o dX5_presses_76 rfl rfl ⟨Nat.le_of_ble_eq_true rfl, Nat.le_of_ble_eq_true rfl⟩ ⟨Nat.zero_le _, Nat.zero_le _⟩ (Nat.le_of_ble_eq_true rfl) (fun v76 M76 g76 => ?_)
        obtain ⟨rfl, r1, r2, r3⟩ := g76
        rw [hv2.1, hv2.2.2.1, e11.1, (sv_pp_o g1).1, mu_nk _ _ _ (by decide), mu_nk _ _ _ (by decide), g1.2.2.2 0 (by omega) (by omega), g1.2.2.2 1 (by omega) (by omega)] at r1
        rw [hv2.1, hv2.2.2.1, e11.1, (sv_pp_o g1).1, mu_nk _ _ _ (by decide), mu_nk _ _ _ (by decide), g1.2.2.2 0 (by omega) (by omega), g1.2.2.2 1 (by omega) (by omega)]
        have hck : f_sum (f_it (f_emb (f_rel (vQ (M 89)) a t) (x + M 89 4) y (vD (M 89)) 25) (M 89 0) (M 89 1) (vC (M 89)) 144) 144 - f_sum (vC (M 89)) 144 = f_cks (f_rel (vQ (M 89)) a t) (x + M 89 4) y (vD (M 89)) (vC (M 89)) (M 89 0) (M 89 1) := rfl
        rw [hck]
        have y0 : ∀ i : Int, ¬ (379 ≤ i ∧ i < 379 + 144) → M76 89 i = if i = 8 then 0 else M1 89 i := fun i hi => by
          rw [r2 i hi]
          by_cases i8 : i = 8
          · rw [i8, mu_eq, if_pos rfl]
          · rw [mu_nk _ _ _ i8, if_neg i8]
        have y1 : ∀ i : Int, 0 ≤ i → i < 16 → i ≠ 8 → M76 89 i = M 89 i := fun i i0 i1 i8 => by rw [y0 i (by omega), if_neg i8, g1.2.2.2 i (by omega) (by omega)]
        refine jw_istore (L' := [(5, _), (0, _), (1, _), (2, _), (3, _), (4, _)]) hC dX5_presses_79 (by decide) rfl ?_
        refine jw_aload_n hC dX5_presses_81 1 rfl rfl ?_
        refine jw_getr hC fL_X5_7 ewR_m1 dX5_presses_82 ?_
        refine jw_bipush hC dX5_presses_85 (by decide) ?_
        refine jw_dup2 hC dX5_presses_87 ?_
        refine jw_iald hC ewA_89 dX5_presses_88 (by omega) (by omega) (by decide) (fun b88 c88 => ?_)
        rw [y1 13 (by decide) (by decide) (by decide)] at b88 c88 ⊢
        refine jw_iload hC dX5_presses_89 0 rfl ?_
        refine jw_iadd hC dX5_presses_91 ?_
        refine jw_iastw hC ewA_89 dX5_presses_92 (by omega) (by omega) (by decide)  ?_
        refine jw_aload_n hC dX5_presses_93 1 rfl rfl ?_
        refine jw_getr hC fL_X5_7 ewR_m1 dX5_presses_94 ?_
        refine jw_bipush hC dX5_presses_97 (by decide) ?_
        refine jw_dup2 hC dX5_presses_99 ?_
        refine jw_iald hC ewA_89 dX5_presses_100 (by omega) (by omega) (by decide) (fun b100 c100 => ?_)
        rw [mu_nk _ _ _ (by decide), y1 6 (by decide) (by decide) (by decide)] at b100 c100 ⊢
        refine jw_iconst hC dX5_presses_101 ?_
        refine jw_iadd hC dX5_presses_102 ?_
        refine jw_iastw hC ewA_89 dX5_presses_103 (by omega) (by omega) (by decide)  ?_
        refine jw_aload_n hC dX5_presses_104 1 rfl rfl ?_
        refine jw_getr hC fL_X5_7 ewR_m1 dX5_presses_105 ?_
        refine jw_iconst hC dX5_presses_108 ?_
        refine jw_dup2 hC dX5_presses_109 ?_
        refine jw_iald hC ewA_89 dX5_presses_110 (by omega) (by omega) (by decide) (fun b110 c110 => ?_)
        rw [mu_nk _ _ _ (by decide), mu_nk _ _ _ (by decide), y1 5 (by decide) (by decide) (by decide)] at b110 c110 ⊢
        refine jw_iconst hC dX5_presses_111 ?_
        refine jw_iadd hC dX5_presses_112 ?_
        refine jw_iastw hC ewA_89 dX5_presses_113 (by omega) (by omega) (by decide)  ?_
        have fin9 : ∀ sl : Int, ((0 < M 89 3 ∧ (wr (M 89 5 + 1)).tmod (M 89 3) = 0 ∧ M 89 4 < 3 ∧ sl = M 89 4 + 1) ∨ (¬ (0 < M 89 3 ∧ (wr (M 89 5 + 1)).tmod (M 89 3) = 0 ∧ M 89 4 < 3) ∧ sl = M 89 4)) → some (vI (f_cks (f_rel (vQ (M 89)) a t) (x + M 89 4) y (vD (M 89)) (vC (M 89)) (M 89 0) (M 89 1))) = some (vI (f_cks (f_rel (vQ (M 89)) a t) (x + M 89 4) y (vD (M 89)) (vC (M 89)) (M 89 0) (M 89 1))) ∧ vD ((mu (mu (mu (mu M76 89 13 (wr (M 89 13 + f_cks (f_rel (vQ (M 89)) a t) (x + M 89 4) y (vD (M 89)) (vC (M 89)) (M 89 0) (M 89 1)))) 89 6 (wr (M 89 6 + 1))) 89 5 (wr (M 89 5 + 1))) 89 4 sl) 89) = f_emb (f_rel (vQ (M 89)) a t) (x + M 89 4) y (vD (M 89)) 25 ∧ vF ((mu (mu (mu (mu M76 89 13 (wr (M 89 13 + f_cks (f_rel (vQ (M 89)) a t) (x + M 89 4) y (vD (M 89)) (vC (M 89)) (M 89 0) (M 89 1)))) 89 6 (wr (M 89 6 + 1))) 89 5 (wr (M 89 5 + 1))) 89 4 sl) 89) = f_stk (vS (M 89)) (f_rel (vQ (M 89)) a t) (x + M 89 4) y (vF (M 89)) 25 ∧ vC ((mu (mu (mu (mu M76 89 13 (wr (M 89 13 + f_cks (f_rel (vQ (M 89)) a t) (x + M 89 4) y (vD (M 89)) (vC (M 89)) (M 89 0) (M 89 1)))) 89 6 (wr (M 89 6 + 1))) 89 5 (wr (M 89 5 + 1))) 89 4 sl) 89) = f_it (f_emb (f_rel (vQ (M 89)) a t) (x + M 89 4) y (vD (M 89)) 25) (M 89 0) (M 89 1) (vC (M 89)) 144 ∧ vP ((mu (mu (mu (mu M76 89 13 (wr (M 89 13 + f_cks (f_rel (vQ (M 89)) a t) (x + M 89 4) y (vD (M 89)) (vC (M 89)) (M 89 0) (M 89 1)))) 89 6 (wr (M 89 6 + 1))) 89 5 (wr (M 89 5 + 1))) 89 4 sl) 89) = f_prs (f_rel (vQ (M 89)) a t) (x + M 89 4) y (vP (M 89)) 25 ∧ vQ ((mu (mu (mu (mu M76 89 13 (wr (M 89 13 + f_cks (f_rel (vQ (M 89)) a t) (x + M 89 4) y (vD (M 89)) (vC (M 89)) (M 89 0) (M 89 1)))) 89 6 (wr (M 89 6 + 1))) 89 5 (wr (M 89 5 + 1))) 89 4 sl) 89) = vQ (M 89) ∧ (∀ k : Int, 0 ≤ k → k < 4 → (mu (mu (mu (mu M76 89 13 (wr (M 89 13 + f_cks (f_rel (vQ (M 89)) a t) (x + M 89 4) y (vD (M 89)) (vC (M 89)) (M 89 0) (M 89 1)))) 89 6 (wr (M 89 6 + 1))) 89 5 (wr (M 89 5 + 1))) 89 4 sl) 89 k = M 89 k) ∧ (∀ k : Int, vS ((mu (mu (mu (mu M76 89 13 (wr (M 89 13 + f_cks (f_rel (vQ (M 89)) a t) (x + M 89 4) y (vD (M 89)) (vC (M 89)) (M 89 0) (M 89 1)))) 89 6 (wr (M 89 6 + 1))) 89 5 (wr (M 89 5 + 1))) 89 4 sl) 89) k = if k = 3 then f_sl (M 89 3) (wr (M 89 5 + 1)) (M 89 4) else if k = 4 then wr (M 89 6 + 1) else if k = 5 then wr (M 89 5 + 1) else if k = 7 then wr (M 89 13 + f_cks (f_rel (vQ (M 89)) a t) (x + M 89 4) y (vD (M 89)) (vC (M 89)) (M 89 0) (M 89 1)) else if k = 10 then 0 else vS (M 89) k) ∧ ∀ o, o ≠ 89 → o ≠ 95 → (mu (mu (mu (mu M76 89 13 (wr (M 89 13 + f_cks (f_rel (vQ (M 89)) a t) (x + M 89 4) y (vD (M 89)) (vC (M 89)) (M 89 0) (M 89 1)))) 89 6 (wr (M 89 6 + 1))) 89 5 (wr (M 89 5 + 1))) 89 4 sl) o = M o := by
          intro sl hsl
          have u0 : ∀ i : Int, i ≠ 13 → i ≠ 6 → i ≠ 5 → i ≠ 4 → (mu (mu (mu (mu M76 89 13 (wr (M 89 13 + f_cks (f_rel (vQ (M 89)) a t) (x + M 89 4) y (vD (M 89)) (vC (M 89)) (M 89 0) (M 89 1)))) 89 6 (wr (M 89 6 + 1))) 89 5 (wr (M 89 5 + 1))) 89 4 sl) 89 i = M76 89 i := fun i i1 i2 i3 i4 => by rw [mu_nk _ _ _ i4, mu_nk _ _ _ i3, mu_nk _ _ _ i2, mu_nk _ _ _ i1]
          obtain ⟨e1, e2, e3, e4, e5⟩ := sv_hi (f := M76 89) (g := (mu (mu (mu (mu M76 89 13 (wr (M 89 13 + f_cks (f_rel (vQ (M 89)) a t) (x + M 89 4) y (vD (M 89)) (vC (M 89)) (M 89 0) (M 89 1)))) 89 6 (wr (M 89 6 + 1))) 89 5 (wr (M 89 5 + 1))) 89 4 sl) 89) (fun i hi => u0 i (by omega) (by omega) (by omega) (by omega))
          obtain ⟨s1, s2, s3, s4, s5, s6⟩ := sv_o r2
          refine ⟨rfl, ?_, ?_, ?_, ?_, ?_, fun k k0 k4 => ?_, fun k => ?_, fun o o1 o2 => ?_⟩
          · rw [e1, s1, hv2.1, g1.1]
          · rw [e2, s2, hv2.2.1, g1.2.1]
          · rw [e3, r1]
          · rw [e4, s3, hv2.2.2.2.1, g1.2.2.1]
          · rw [e5, s4, hv2.2.2.2.2, (sv_pp_o g1).2.1]
          · rw [u0 k (by omega) (by omega) (by omega) (by omega), y1 k k0 (by omega) (by omega)]
          · have v4 : (mu (mu (mu (mu M76 89 13 (wr (M 89 13 + f_cks (f_rel (vQ (M 89)) a t) (x + M 89 4) y (vD (M 89)) (vC (M 89)) (M 89 0) (M 89 1)))) 89 6 (wr (M 89 6 + 1))) 89 5 (wr (M 89 5 + 1))) 89 4 sl) 89 4 = sl := mu_eq _ _ _ _
            have v5 : (mu (mu (mu (mu M76 89 13 (wr (M 89 13 + f_cks (f_rel (vQ (M 89)) a t) (x + M 89 4) y (vD (M 89)) (vC (M 89)) (M 89 0) (M 89 1)))) 89 6 (wr (M 89 6 + 1))) 89 5 (wr (M 89 5 + 1))) 89 4 sl) 89 5 = wr (M 89 5 + 1) := by rw [mu_nk _ _ _ (by decide), mu_eq]
            have v6 : (mu (mu (mu (mu M76 89 13 (wr (M 89 13 + f_cks (f_rel (vQ (M 89)) a t) (x + M 89 4) y (vD (M 89)) (vC (M 89)) (M 89 0) (M 89 1)))) 89 6 (wr (M 89 6 + 1))) 89 5 (wr (M 89 5 + 1))) 89 4 sl) 89 6 = wr (M 89 6 + 1) := by rw [mu_nk _ _ _ (by decide), mu_nk _ _ _ (by decide), mu_eq]
            have v13 : (mu (mu (mu (mu M76 89 13 (wr (M 89 13 + f_cks (f_rel (vQ (M 89)) a t) (x + M 89 4) y (vD (M 89)) (vC (M 89)) (M 89 0) (M 89 1)))) 89 6 (wr (M 89 6 + 1))) 89 5 (wr (M 89 5 + 1))) 89 4 sl) 89 13 = wr (M 89 13 + f_cks (f_rel (vQ (M 89)) a t) (x + M 89 4) y (vD (M 89)) (vC (M 89)) (M 89 0) (M 89 1)) := by rw [mu_nk _ _ _ (by decide), mu_nk _ _ _ (by decide), mu_nk _ _ _ (by decide), mu_eq]
            have v8 : (mu (mu (mu (mu M76 89 13 (wr (M 89 13 + f_cks (f_rel (vQ (M 89)) a t) (x + M 89 4) y (vD (M 89)) (vC (M 89)) (M 89 0) (M 89 1)))) 89 6 (wr (M 89 6 + 1))) 89 5 (wr (M 89 5 + 1))) 89 4 sl) 89 8 = 0 := by rw [u0 8 (by decide) (by decide) (by decide) (by decide), y0 8 (by decide), if_pos rfl]
            have v7 : (mu (mu (mu (mu M76 89 13 (wr (M 89 13 + f_cks (f_rel (vQ (M 89)) a t) (x + M 89 4) y (vD (M 89)) (vC (M 89)) (M 89 0) (M 89 1)))) 89 6 (wr (M 89 6 + 1))) 89 5 (wr (M 89 5 + 1))) 89 4 sl) 89 7 = M 89 7 := by rw [u0 7 (by decide) (by decide) (by decide) (by decide), y1 7 (by decide) (by decide) (by decide)]
            have v9 : (mu (mu (mu (mu M76 89 13 (wr (M 89 13 + f_cks (f_rel (vQ (M 89)) a t) (x + M 89 4) y (vD (M 89)) (vC (M 89)) (M 89 0) (M 89 1)))) 89 6 (wr (M 89 6 + 1))) 89 5 (wr (M 89 5 + 1))) 89 4 sl) 89 9 = M 89 9 := by rw [u0 9 (by decide) (by decide) (by decide) (by decide), y1 9 (by decide) (by decide) (by decide)]
            have v10 : (mu (mu (mu (mu M76 89 13 (wr (M 89 13 + f_cks (f_rel (vQ (M 89)) a t) (x + M 89 4) y (vD (M 89)) (vC (M 89)) (M 89 0) (M 89 1)))) 89 6 (wr (M 89 6 + 1))) 89 5 (wr (M 89 5 + 1))) 89 4 sl) 89 10 = M 89 10 := by rw [u0 10 (by decide) (by decide) (by decide) (by decide), y1 10 (by decide) (by decide) (by decide)]
            have v11 : (mu (mu (mu (mu M76 89 13 (wr (M 89 13 + f_cks (f_rel (vQ (M 89)) a t) (x + M 89 4) y (vD (M 89)) (vC (M 89)) (M 89 0) (M 89 1)))) 89 6 (wr (M 89 6 + 1))) 89 5 (wr (M 89 5 + 1))) 89 4 sl) 89 11 = M 89 11 := by rw [u0 11 (by decide) (by decide) (by decide) (by decide), y1 11 (by decide) (by decide) (by decide)]
            have v12 : (mu (mu (mu (mu M76 89 13 (wr (M 89 13 + f_cks (f_rel (vQ (M 89)) a t) (x + M 89 4) y (vD (M 89)) (vC (M 89)) (M 89 0) (M 89 1)))) 89 6 (wr (M 89 6 + 1))) 89 5 (wr (M 89 5 + 1))) 89 4 sl) 89 12 = M 89 12 := by rw [u0 12 (by decide) (by decide) (by decide) (by decide), y1 12 (by decide) (by decide) (by decide)]
            have v14 : (mu (mu (mu (mu M76 89 13 (wr (M 89 13 + f_cks (f_rel (vQ (M 89)) a t) (x + M 89 4) y (vD (M 89)) (vC (M 89)) (M 89 0) (M 89 1)))) 89 6 (wr (M 89 6 + 1))) 89 5 (wr (M 89 5 + 1))) 89 4 sl) 89 14 = M 89 14 := by rw [u0 14 (by decide) (by decide) (by decide) (by decide), y1 14 (by decide) (by decide) (by decide)]
            have v15 : (mu (mu (mu (mu M76 89 13 (wr (M 89 13 + f_cks (f_rel (vQ (M 89)) a t) (x + M 89 4) y (vD (M 89)) (vC (M 89)) (M 89 0) (M 89 1)))) 89 6 (wr (M 89 6 + 1))) 89 5 (wr (M 89 5 + 1))) 89 4 sl) 89 15 = M 89 15 := by rw [u0 15 (by decide) (by decide) (by decide) (by decide), y1 15 (by decide) (by decide) (by decide)]
            have hslv : sl = f_sl (M 89 3) (wr (M 89 5 + 1)) (M 89 4) := by unfold f_sl; split <;> omega
            unfold vS
            rw [v4, v5, v6, v7, v8, v9, v10, v11, v12, v13, v14, v15, hslv]
            by_cases k3 : k = 3
            · rw [if_pos k3, if_pos k3]
            · rw [if_neg k3, if_neg k3, if_neg k3]
              by_cases k4 : k = 4
              · rw [if_pos k4, if_pos k4]
              · rw [if_neg k4, if_neg k4, if_neg k4]
                by_cases k5 : k = 5
                · rw [if_pos k5, if_pos k5]
                · rw [if_neg k5, if_neg k5, if_neg k5]
                  by_cases k7 : k = 7
                  · subst k7; rfl
                  · by_cases k10 : k = 10
                    · subst k10; rfl
                    · rw [if_neg k7, if_neg k10, if_neg k7, if_neg k10]
                      simp only [if_neg k7, if_neg k10]
          · rw [mu_ne _ _ _ o1, mu_ne _ _ _ o1, mu_ne _ _ _ o1, mu_ne _ _ _ o1, r3 o o1 o2, mu_ne _ _ _ o1]; exact g2 o o1
        refine jw_aload_n hC dX5_presses_114 1 rfl rfl ?_
        refine jw_getr hC fL_X5_7 ewR_m1 dX5_presses_115 ?_
        refine jw_iconst hC dX5_presses_118 ?_
        refine jw_dup2 hC dX5_presses_119 ?_
        refine jw_iald hC ewA_89 dX5_presses_120 (by omega) (by omega) (by decide) (fun b120 c120 => ?_)
        rw [mu_nk _ _ _ (by decide), mu_nk _ _ _ (by decide), mu_nk _ _ _ (by decide), y1 4 (by decide) (by decide) (by decide)] at b120 c120 ⊢
        refine jw_aload_n hC dX5_presses_121 1 rfl rfl ?_
        refine jw_getr hC fL_X5_7 ewR_m1 dX5_presses_122 ?_
        refine jw_iconst hC dX5_presses_125 ?_
        refine jw_iald hC ewA_89 dX5_presses_126 (by omega) (by omega) (by decide) (fun b126 c126 => ?_)
        rw [mu_nk _ _ _ (by decide), mu_nk _ _ _ (by decide), mu_nk _ _ _ (by decide), y1 3 (by decide) (by decide) (by decide)] at b126 c126 ⊢
        refine jw_if_le (tgt := 160) hC dX5_presses_127 (by decide) (by omega) (by omega) (fun h127 => ?_) (fun h127 => ?_)
        · skip
          refine jw_iconst hC dX5_presses_160 ?_
          refine jw_iadd hC dX5_presses_161 ?_
          refine jw_iast hC ewA_89 dX5_presses_162 (by omega) (by omega) (by decide) (by omega) (by omega) ?_
          refine jw_iload hC dX5_presses_163 0 rfl ?_
          refine jw_iret hC dX5_presses_165 ?_
          exact fin9 _ (by first | exact Or.inl ⟨by omega, by omega, by omega, rfl⟩ | exact Or.inr ⟨by omega, by omega⟩)
        · skip
          refine jw_aload_n hC dX5_presses_130 1 rfl rfl ?_
          refine jw_getr hC fL_X5_7 ewR_m1 dX5_presses_131 ?_
          refine jw_iconst hC dX5_presses_134 ?_
          refine jw_iald hC ewA_89 dX5_presses_135 (by omega) (by omega) (by decide) (fun b135 c135 => ?_)
          rw [mu_eq] at b135 c135 ⊢
          refine jw_aload_n hC dX5_presses_136 1 rfl rfl ?_
          refine jw_getr hC fL_X5_7 ewR_m1 dX5_presses_137 ?_
          refine jw_iconst hC dX5_presses_140 ?_
          refine jw_iald hC ewA_89 dX5_presses_141 (by omega) (by omega) (by decide) (fun b141 c141 => ?_)
          rw [mu_nk _ _ _ (by decide), mu_nk _ _ _ (by decide), mu_nk _ _ _ (by decide), y1 3 (by decide) (by decide) (by decide)] at b141 c141 ⊢
          refine jw_iremt hC dX5_presses_142 (by omega) (by omega) (by omega) (by omega) (fun b142 c142 => ?_)
          refine jw_if_ne (tgt := 160) hC dX5_presses_143 (by decide) (by omega) (by omega) (fun h143 => ?_) (fun h143 => ?_)
          · skip
            refine jw_iconst hC dX5_presses_160 ?_
            refine jw_iadd hC dX5_presses_161 ?_
            refine jw_iast hC ewA_89 dX5_presses_162 (by omega) (by omega) (by decide) (by omega) (by omega) ?_
            refine jw_iload hC dX5_presses_163 0 rfl ?_
            refine jw_iret hC dX5_presses_165 ?_
            exact fin9 _ (by first | exact Or.inl ⟨by omega, by omega, by omega, rfl⟩ | exact Or.inr ⟨by omega, by omega⟩)
          · skip
            refine jw_aload_n hC dX5_presses_146 1 rfl rfl ?_
            refine jw_getr hC fL_X5_7 ewR_m1 dX5_presses_147 ?_
            refine jw_iconst hC dX5_presses_150 ?_
            refine jw_iald hC ewA_89 dX5_presses_151 (by omega) (by omega) (by decide) (fun b151 c151 => ?_)
            rw [mu_nk _ _ _ (by decide), mu_nk _ _ _ (by decide), mu_nk _ _ _ (by decide), y1 4 (by decide) (by decide) (by decide)] at b151 c151 ⊢
            refine jw_iconst hC dX5_presses_152 ?_
            refine jw_icmp_ge (tgt := 160) hC dX5_presses_153 (by decide) (by omega) (by omega) (by omega) (by omega) (fun h153 => ?_) (fun h153 => ?_)
            · skip
              refine jw_iconst hC dX5_presses_160 ?_
              refine jw_iadd hC dX5_presses_161 ?_
              refine jw_iast hC ewA_89 dX5_presses_162 (by omega) (by omega) (by decide) (by omega) (by omega) ?_
              refine jw_iload hC dX5_presses_163 0 rfl ?_
              refine jw_iret hC dX5_presses_165 ?_
              exact fin9 _ (by first | exact Or.inl ⟨by omega, by omega, by omega, rfl⟩ | exact Or.inr ⟨by omega, by omega⟩)
            · skip
              refine jw_iconst hC dX5_presses_156 ?_
              refine jw_goto (tgt := 161) hC dX5_presses_157 (by decide) ?_
              refine jw_iadd hC dX5_presses_161 ?_
              refine jw_iast hC ewA_89 dX5_presses_162 (by omega) (by omega) (by decide) (by omega) (by omega) ?_
              refine jw_iload hC dX5_presses_163 0 rfl ?_
              refine jw_iret hC dX5_presses_165 ?_
              exact fin9 _ (by first | exact Or.inl ⟨by omega, by omega, by omega, rfl⟩ | exact Or.inr ⟨by omega, by omega⟩)
      · skip
        refine jw_aload_n hC dX5_presses_10 0 rfl rfl ?_
        refine jw_iload_n hC dX5_presses_11 1 rfl rfl ?_
        refine jw_iload hC dX5_presses_12 5 rfl ?_
        refine jw_iconst hC dX5_presses_14 ?_
        refine jw_irem hC dX5_presses_15 (by omega) (by omega) (by omega) (by omega) ?_
        refine jw_iload hC dX5_presses_16 5 rfl ?_
        refine jw_iconst hC dX5_presses_18 ?_
        refine jw_idiv hC dX5_presses_19 (by omega) (by omega) (by omega) (by omega) ?_
        refine jw_iload hC dX5_presses_20 4 rfl ?_
        refine jw_callV hC (c_X5_turned l E M1 _ _ _ _ ha ⟨by omega, by omega⟩ ⟨by omega, by omega⟩ ht) sV_X5_80 ewF_m0.o dX5_presses_22 rfl rfl ⟨Nat.le_of_ble_eq_true rfl, Nat.le_of_ble_eq_true rfl⟩ ⟨Nat.zero_le _, Nat.zero_le _⟩ (Nat.le_of_ble_eq_true rfl) (fun v22 M22 g22 => ?_)
        obtain ⟨rfl, rfl⟩ := g22
        rw [show f_tp (vQ (M1 89)) a (k % 5) (k / 5) t = f_rel (vQ (M 89)) a t k from by rw [(sv_pp_o g1).2.1]; rfl]
        have hrk := hrD k
        refine jw_istore (L' := [(6, _), (0, _), (1, _), (2, _), (3, _), (4, _), (5, _)]) hC dX5_presses_25 (by decide) rfl ?_
        refine jw_iload hC dX5_presses_27 0 rfl ?_
        refine jw_if_le (tgt := 61) hC dX5_presses_29 (by decide) (by omega) (by omega) (fun h29 => ?_) (fun h29 => ?_)
        · skip
          refine jw_iinc (L' := [(5, _), (6, _), (0, _), (1, _), (2, _), (3, _), (4, _)]) hC dX5_presses_61 6 rfl (by decide) rfl ?_
          refine jw_goto (tgt := 3) hC dX5_presses_64 (by decide) ?_
          refine jw_loc (L' := [(0, _), (1, _), (2, _), (3, _), (4, _), (5, _)]) [2, 3, 4, 5, 6, 0] rfl ?_
          first
          | exact ih (k + 1) _ (by omega) (by omega) (by omega) (sv_pp_skip g1 i2 (by omega)) g2
          | exact ih (k + 1) _ (by omega) (by omega) (by omega) (sv_pp_step g1 i2 (by omega) rfl (by omega) (by omega) q1) (fun o o1 => (q2 o o1).trans (g2 o o1))
        · skip
          refine jw_aload_n hC dX5_presses_32 1 rfl rfl ?_
          refine jw_bipush hC dX5_presses_33 (by decide) ?_
          refine jw_iload_n hC dX5_presses_35 4 rfl rfl ?_
          refine jw_iload hC dX5_presses_36 6 rfl ?_
          refine jw_iconst hC dX5_presses_38 ?_
          refine jw_idiv hC dX5_presses_39 (by omega) (by omega) (by omega) (by omega) ?_
          refine jw_iadd hC dX5_presses_40 ?_
          refine jw_imul hC dX5_presses_41 ?_
          refine jw_iload_n hC dX5_presses_42 3 rfl rfl ?_
          refine jw_iadd hC dX5_presses_43 ?_
          refine jw_aload_n hC dX5_presses_44 1 rfl rfl ?_
          refine jw_getr hC fL_X5_7 ewR_m1 dX5_presses_45 ?_
          refine jw_iconst hC dX5_presses_48 ?_
          refine jw_iald hC ewA_89 dX5_presses_49 (by omega) (by omega) (by decide) (fun b49 c49 => ?_)
          rw [g1.2.2.2 4 (by omega) (by omega)] at b49 c49 ⊢
          refine jw_iadd hC dX5_presses_50 ?_
          refine jw_iload hC dX5_presses_51 6 rfl ?_
          refine jw_iconst hC dX5_presses_53 ?_
          refine jw_irem hC dX5_presses_54 (by omega) (by omega) (by omega) (by omega) ?_
          refine jw_iadd hC dX5_presses_55 ?_
          have hpn := f_off_k hof i2 (by omega) (by omega)
          obtain ⟨z1, z2, z3⟩ := f_pu_at hpn
          rw [show 12 * (y + k / 5) + x + M 89 4 + k % 5 = f_pu k (x + M 89 4) y by omega]
          have hpb := f_pu_b k (x + M 89 4) y
          refine jw_iload hC dX5_presses_56 0 rfl ?_
          refine jw_callV hC (c_X5_pressesPoint l E M1 (sv_pp_I g1 h0 hrD) _ _ ⟨by omega, by omega⟩ ⟨by omega, by omega⟩) sV_X5_87 ewF_m0.o dX5_presses_58 rfl rfl ⟨Nat.le_of_ble_eq_true rfl, Nat.le_of_ble_eq_true rfl⟩ ⟨Nat.zero_le _, Nat.zero_le _⟩ (Nat.le_of_ble_eq_true rfl) (fun v58 M58 g58 => ?_)
          obtain ⟨rfl, q1, q2⟩ := g58
          refine jw_iinc (L' := [(5, _), (6, _), (0, _), (1, _), (2, _), (3, _), (4, _)]) hC dX5_presses_61 6 rfl (by decide) rfl ?_
          refine jw_goto (tgt := 3) hC dX5_presses_64 (by decide) ?_
          refine jw_loc (L' := [(0, _), (1, _), (2, _), (3, _), (4, _), (5, _)]) [2, 3, 4, 5, 6, 0] rfl ?_
          first
          | exact ih (k + 1) _ (by omega) (by omega) (by omega) (sv_pp_skip g1 i2 (by omega)) g2
          | exact ih (k + 1) _ (by omega) (by omega) (by omega) (sv_pp_step g1 i2 (by omega) rfl (by omega) (by omega) q1) (fun o o1 => (q2 o o1).trans (g2 o o1))
  refine jw_iconst hC dX5_presses_0 ?_
  refine jw_istore (L' := [(5, _), (0, _), (1, _), (2, _), (3, _), (4, _)]) hC dX5_presses_1 (by decide) rfl ?_
  refine jw_loc (L' := [(0, _), (1, _), (2, _), (3, _), (4, _), (5, _)]) [1, 2, 3, 4, 5, 0] rfl ?_
  exact K3 26 0 M (by omega) (by omega) (by omega) ⟨rfl, rfl, rfl, fun _ _ _ => rfl⟩ (fun _ _ => rfl)
