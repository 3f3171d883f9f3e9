/-! THE REFERENCE: cracks, presses, folds -/
theorem sv_o {f g : Int → Int} (h : sv_fr 379 144 f g) : vD g = vD f ∧ vF g = vF f ∧ vP g = vP f ∧ vQ g = vQ f ∧ vT g = vT f ∧ vS g = vS f := by
  refine ⟨cut_cg fun k k0 k1 => h _ (by omega), cut_cg fun k k0 k1 => h _ (by omega), cut_cg fun k k0 k1 => h _ (by omega), cut_cg fun k k0 k1 => h _ (by omega), cut_cg fun k k0 k1 => h _ (by omega), ?_⟩
  funext k
  unfold vS
  rw [h 4 (by omega), h 6 (by omega), h 5 (by omega), h 7 (by omega), h 13 (by omega), h 14 (by omega), h 15 (by omega), h 8 (by omega), h 9 (by omega), h 10 (by omega), h 11 (by omega), h 12 (by omega)]
theorem sv_c {f g : Int → Int} (h : sv_fr 379 144 f g) (hi : svI f) (hc : pC (vC g)) : svI g := by
  obtain ⟨e1, e2, e3, e4, e5, e6⟩ := sv_o h
  obtain ⟨p1, p2, p3, p4, p5, p6, p7, p8, p9, pf⟩ := hi
  unfold svI
  rw [e1, e2, e4, h 0 (by omega), h 1 (by omega), h 2 (by omega), h 3 (by omega), h 4 (by omega), h 8 (by omega)]
  exact ⟨p1, hc, p3, p4, p5, p6, p7, p8, p9, pf⟩
theorem vC_brk {P : Int → Bool} {f g : Int → Int} (h : ∀ i : Int, g i = if (379 ≤ i ∧ i < 379 + 144) ∧ P (i - 379) = true then 1 else f i) : vC g = f_brk P (vC f) ∧ sv_fr 379 144 f g := by
  refine ⟨?_, fun i hi => by rw [h i, if_neg (fun z => hi z.1)]⟩
  funext p
  unfold f_brk
  by_cases hp : 0 ≤ p ∧ p < 144
  · rw [← vC_in g hp.1 hp.2, h, show 379 + p - 379 = p by omega]
    by_cases hP : P p = true
    · rw [if_pos ⟨by omega, hP⟩, if_pos ⟨hp.1, hp.2, hP⟩]
    · rw [if_neg (fun z => hP z.2), if_neg (fun z => hP z.2.2), vC_in f hp.1 hp.2]
  · rw [if_neg (fun z => hp ⟨z.1, z.2.1⟩)]
    show cut 144 _ p = cut 144 _ p
    rw [cut_out hp, cut_out hp]
theorem sv_tr {a n : Int} {f g h : Int → Int} (h1 : sv_fr a n f g) (h2 : sv_fr a n g h) : sv_fr a n f h := fun i hi => (h2 i hi).trans (h1 i hi)
set_option maxRecDepth 100000 in
set_option maxHeartbeats 4000000 in
theorem c_X5_cracksNow (l : Launch) (E : ewE) (M : ewM) (P : Int → Bool) (hb : ∀ q : Int, 0 ≤ q → q < 144 → M 95 q = f_ind P q) : Ct l E yX5_cracksNow (.code yX5_cracksNow cX5_cracksNow 3 (some .int)) 1 [vR E 88] M (fun v M1 => v = some (vI (f_sum (f_ind P) 144)) ∧ vC (M1 89) = f_brk P (vC (M 89)) ∧ sv_fr 379 144 (M 89) (M1 89) ∧ ∀ o, o ≠ 89 → M1 o = M o) := by
  refine ct_of (L0 := [(0, vR E 88)]) (by decide +kernel) rfl (Nat.le_of_ble_eq_true rfl) ?_
  intro zp ze zs zm za zb zt zc zA hC
  have K4 : ∀ (n : Nat) (k x : Int) (M1 : ewM), 144 - k < n → 0 ≤ k → k ≤ 144 → x = f_sum (f_ind P) k.toNat → (∀ i : Int, M1 89 i = if (379 ≤ i ∧ i < 379 + k) ∧ P (i - 379) = true then 1 else M 89 i) → (∀ o, o ≠ 89 → M1 o = M o) → jJ zp l ze (ct_rm 1) zs zm za zb zt zc E zA 3 0 0 (MQ zb (ct_Q E zA (fun v M1 => v = some (vI (f_sum (f_ind P) 144)) ∧ vC (M1 89) = f_brk P (vC (M 89)) ∧ sv_fr 379 144 (M 89) (M1 89) ∧ ∀ o, o ≠ 89 → M1 o = M o)) za zs 0 0 zA) 4 [(0, vR E 88), (1, vI x), (2, vI k)] [] M1 := by
    intro n
    induction n with
    | zero => intros; omega
    | succ n ih =>
      intro k x M1 i1 i2 i3 hx g1 g2
      refine jw_iload_n hC dX5_cracksNow_4 2 rfl rfl ?_
      refine jw_sipush hC dX5_cracksNow_5 (by decide) ?_
      refine jw_icmp_ge (tgt := 67) hC dX5_cracksNow_8 (by decide) (by omega) (by omega) (by omega) (by omega) (fun h8 => ?_) (fun h8 => ?_)
      · skip
        refine jw_iload_n hC dX5_cracksNow_67 1 rfl rfl ?_
        refine jw_iret hC dX5_cracksNow_68 ?_
        have e9 : k = 144 := by omega
        subst e9
        have hz := vC_brk g1
        exact ⟨by rw [hx]; rfl, hz.1, hz.2, g2⟩
      · skip
        refine jw_iload_n hC dX5_cracksNow_11 1 rfl rfl ?_
        refine jw_aload_n hC dX5_cracksNow_12 0 rfl rfl ?_
        refine jw_getr hC fL_X5_29 ewR_m9 dX5_cracksNow_13 ?_
        refine jw_iload_n hC dX5_cracksNow_16 2 rfl rfl ?_
        refine jw_zald hC ewA_95 dX5_cracksNow_17 (by omega) (by omega) (by decide) (fun b17 c17 => ?_)
        rw [g2 95 (by decide), hb k i2 (by omega)] at b17 c17 ⊢
        have hbk := f_ind_b P k
        refine jw_if_eq (tgt := 25) hC dX5_cracksNow_18 (by decide) (by omega) (by omega) (fun h18 => ?_) (fun h18 => ?_)
        · skip
          refine jw_iconst hC dX5_cracksNow_25 ?_
          refine jw_iadd hC dX5_cracksNow_26 ?_
          refine jw_istore_n (L' := [(1, _), (0, _), (2, _)]) hC dX5_cracksNow_27 rfl (by decide) rfl ?_
          refine jw_aload_n hC dX5_cracksNow_28 1 rfl rfl ?_
          refine jw_getr hC fL_X5_7 ewR_m1 dX5_cracksNow_29 ?_
          refine jw_sipush hC dX5_cracksNow_32 (by decide) ?_
          refine jw_iload_n hC dX5_cracksNow_35 2 rfl rfl ?_
          refine jw_iadd hC dX5_cracksNow_36 ?_
          refine jw_aload_n hC dX5_cracksNow_37 1 rfl rfl ?_
          refine jw_getr hC fL_X5_29 ewR_m9 dX5_cracksNow_38 ?_
          refine jw_iload_n hC dX5_cracksNow_41 2 rfl rfl ?_
          refine jw_zald hC ewA_95 dX5_cracksNow_42 (by omega) (by omega) (by decide) (fun b42 c42 => ?_)
          rw [g2 95 (by decide), hb k i2 (by omega)] at b42 c42 ⊢
          refine jw_if_eq (tgt := 50) hC dX5_cracksNow_43 (by decide) (by omega) (by omega) (fun h43 => ?_) (fun h43 => ?_)
          · skip
            refine jw_aload_n hC dX5_cracksNow_50 1 rfl rfl ?_
            refine jw_getr hC fL_X5_7 ewR_m1 dX5_cracksNow_51 ?_
            refine jw_sipush hC dX5_cracksNow_54 (by decide) ?_
            refine jw_iload_n hC dX5_cracksNow_57 2 rfl rfl ?_
            refine jw_iadd hC dX5_cracksNow_58 ?_
            refine jw_iald hC ewA_89 dX5_cracksNow_59 (by omega) (by omega) (by decide) (fun b59 c59 => ?_)
            refine jw_iast hC ewA_89 dX5_cracksNow_60 (by omega) (by omega) (by decide) (by omega) (by omega) ?_
            refine jw_iinc (L' := [(2, _), (1, _), (0, _)]) hC dX5_cracksNow_61 2 rfl (by decide) rfl ?_
            refine jw_goto (tgt := 4) hC dX5_cracksNow_64 (by decide) ?_
            refine jw_loc (L' := [(0, _), (1, _), (2, _)]) [2, 1, 0] rfl ?_
            refine ih _ _ _ (by omega) (by omega) (by omega) ?_ (fun i => ?_) (fun o o1 => ?_)
            · rw [f_sum_s _ i2, hx]; omega
            · by_cases hi : i = 379 + k
              · subst hi
                rw [mu_eq, show 379 + k - 379 = k by omega]
                by_cases hP : P k = true
                · rw [if_pos ⟨by omega, hP⟩]
                  all_goals first
                  | rfl
                  | (exfalso; have e0 : f_ind P k = 1 := by { unfold f_ind; rw [if_pos hP] }; omega)
                · rw [if_neg (fun z => hP z.2)]
                  first
                  | (exfalso; have e0 : f_ind P k = 0 := by { unfold f_ind; rw [if_neg hP] }; omega)
                  | rw [g1, if_neg (by omega)]
              · rw [mu_nk _ _ _ hi, g1]
                by_cases hc : (379 ≤ i ∧ i < 379 + k) ∧ P (i - 379) = true
                · rw [if_pos hc, if_pos ⟨by omega, hc.2⟩]
                · rw [if_neg hc, if_neg (fun z => hc ⟨by omega, z.2⟩)]
            · rw [mu_ne _ _ _ o1]; exact g2 o o1
          · skip
            refine jw_iconst hC dX5_cracksNow_46 ?_
            refine jw_goto (tgt := 60) hC dX5_cracksNow_47 (by decide) ?_
            refine jw_iast hC ewA_89 dX5_cracksNow_60 (by omega) (by omega) (by decide) (by omega) (by omega) ?_
            refine jw_iinc (L' := [(2, _), (1, _), (0, _)]) hC dX5_cracksNow_61 2 rfl (by decide) rfl ?_
            refine jw_goto (tgt := 4) hC dX5_cracksNow_64 (by decide) ?_
            refine jw_loc (L' := [(0, _), (1, _), (2, _)]) [2, 1, 0] rfl ?_
            refine ih _ _ _ (by omega) (by omega) (by omega) ?_ (fun i => ?_) (fun o o1 => ?_)
            · rw [f_sum_s _ i2, hx]; omega
            · by_cases hi : i = 379 + k
              · subst hi
                rw [mu_eq, show 379 + k - 379 = k by omega]
                by_cases hP : P k = true
                · rw [if_pos ⟨by omega, hP⟩]
                  all_goals first
                  | rfl
                  | (exfalso; have e0 : f_ind P k = 1 := by { unfold f_ind; rw [if_pos hP] }; omega)
                · rw [if_neg (fun z => hP z.2)]
                  first
                  | (exfalso; have e0 : f_ind P k = 0 := by { unfold f_ind; rw [if_neg hP] }; omega)
                  | rw [g1, if_neg (by omega)]
              · rw [mu_nk _ _ _ hi, g1]
                by_cases hc : (379 ≤ i ∧ i < 379 + k) ∧ P (i - 379) = true
                · rw [if_pos hc, if_pos ⟨by omega, hc.2⟩]
                · rw [if_neg hc, if_neg (fun z => hc ⟨by omega, z.2⟩)]
            · rw [mu_ne _ _ _ o1]; exact g2 o o1
        · skip
          refine jw_iconst hC dX5_cracksNow_21 ?_
          refine jw_goto (tgt := 26) hC dX5_cracksNow_22 (by decide) ?_
          refine jw_iadd hC dX5_cracksNow_26 ?_
          refine jw_istore_n (L' := [(1, _), (0, _), (2, _)]) hC dX5_cracksNow_27 rfl (by decide) rfl ?_
          refine jw_aload_n hC dX5_cracksNow_28 1 rfl rfl ?_
          refine jw_getr hC fL_X5_7 ewR_m1 dX5_cracksNow_29 ?_
          refine jw_sipush hC dX5_cracksNow_32 (by decide) ?_
          refine jw_iload_n hC dX5_cracksNow_35 2 rfl rfl ?_
          refine jw_iadd hC dX5_cracksNow_36 ?_
          refine jw_aload_n hC dX5_cracksNow_37 1 rfl rfl ?_
          refine jw_getr hC fL_X5_29 ewR_m9 dX5_cracksNow_38 ?_
          refine jw_iload_n hC dX5_cracksNow_41 2 rfl rfl ?_
          refine jw_zald hC ewA_95 dX5_cracksNow_42 (by omega) (by omega) (by decide) (fun b42 c42 => ?_)
          rw [g2 95 (by decide), hb k i2 (by omega)] at b42 c42 ⊢
          refine jw_if_eq (tgt := 50) hC dX5_cracksNow_43 (by decide) (by omega) (by omega) (fun h43 => ?_) (fun h43 => ?_)
          · skip
            refine jw_aload_n hC dX5_cracksNow_50 1 rfl rfl ?_
            refine jw_getr hC fL_X5_7 ewR_m1 dX5_cracksNow_51 ?_
            refine jw_sipush hC dX5_cracksNow_54 (by decide) ?_
            refine jw_iload_n hC dX5_cracksNow_57 2 rfl rfl ?_
            refine jw_iadd hC dX5_cracksNow_58 ?_
            refine jw_iald hC ewA_89 dX5_cracksNow_59 (by omega) (by omega) (by decide) (fun b59 c59 => ?_)
            refine jw_iast hC ewA_89 dX5_cracksNow_60 (by omega) (by omega) (by decide) (by omega) (by omega) ?_
            refine jw_iinc (L' := [(2, _), (1, _), (0, _)]) hC dX5_cracksNow_61 2 rfl (by decide) rfl ?_
            refine jw_goto (tgt := 4) hC dX5_cracksNow_64 (by decide) ?_
            refine jw_loc (L' := [(0, _), (1, _), (2, _)]) [2, 1, 0] rfl ?_
            refine ih _ _ _ (by omega) (by omega) (by omega) ?_ (fun i => ?_) (fun o o1 => ?_)
            · rw [f_sum_s _ i2, hx]; omega
            · by_cases hi : i = 379 + k
              · subst hi
                rw [mu_eq, show 379 + k - 379 = k by omega]
                by_cases hP : P k = true
                · rw [if_pos ⟨by omega, hP⟩]
                  all_goals first
                  | rfl
                  | (exfalso; have e0 : f_ind P k = 1 := by { unfold f_ind; rw [if_pos hP] }; omega)
                · rw [if_neg (fun z => hP z.2)]
                  first
                  | (exfalso; have e0 : f_ind P k = 0 := by { unfold f_ind; rw [if_neg hP] }; omega)
                  | rw [g1, if_neg (by omega)]
              · rw [mu_nk _ _ _ hi, g1]
                by_cases hc : (379 ≤ i ∧ i < 379 + k) ∧ P (i - 379) = true
                · rw [if_pos hc, if_pos ⟨by omega, hc.2⟩]
                · rw [if_neg hc, if_neg (fun z => hc ⟨by omega, z.2⟩)]
            · rw [mu_ne _ _ _ o1]; exact g2 o o1
          · skip
            refine jw_iconst hC dX5_cracksNow_46 ?_
            refine jw_goto (tgt := 60) hC dX5_cracksNow_47 (by decide) ?_
            refine jw_iast hC ewA_89 dX5_cracksNow_60 (by omega) (by omega) (by decide) (by omega) (by omega) ?_
            refine jw_iinc (L' := [(2, _), (1, _), (0, _)]) hC dX5_cracksNow_61 2 rfl (by decide) rfl ?_
            refine jw_goto (tgt := 4) hC dX5_cracksNow_64 (by decide) ?_
            refine jw_loc (L' := [(0, _), (1, _), (2, _)]) [2, 1, 0] rfl ?_
            refine ih _ _ _ (by omega) (by omega) (by omega) ?_ (fun i => ?_) (fun o o1 => ?_)
            · rw [f_sum_s _ i2, hx]; omega
            · by_cases hi : i = 379 + k
              · subst hi
                rw [mu_eq, show 379 + k - 379 = k by omega]
                by_cases hP : P k = true
                · rw [if_pos ⟨by omega, hP⟩]
                  all_goals first
                  | rfl
                  | (exfalso; have e0 : f_ind P k = 1 := by { unfold f_ind; rw [if_pos hP] }; omega)
                · rw [if_neg (fun z => hP z.2)]
                  first
                  | (exfalso; have e0 : f_ind P k = 0 := by { unfold f_ind; rw [if_neg hP] }; omega)
                  | rw [g1, if_neg (by omega)]
              · rw [mu_nk _ _ _ hi, g1]
                by_cases hc : (379 ≤ i ∧ i < 379 + k) ∧ P (i - 379) = true
                · rw [if_pos hc, if_pos ⟨by omega, hc.2⟩]
                · rw [if_neg hc, if_neg (fun z => hc ⟨by omega, z.2⟩)]
            · rw [mu_ne _ _ _ o1]; exact g2 o o1
  refine jw_iconst hC dX5_cracksNow_0 ?_
  refine jw_istore_n (L' := [(1, _), (0, _)]) hC dX5_cracksNow_1 rfl (by decide) rfl ?_
  refine jw_iconst hC dX5_cracksNow_2 ?_
  refine jw_istore_n (L' := [(2, _), (1, _), (0, _)]) hC dX5_cracksNow_3 rfl (by decide) rfl ?_
  refine jw_loc (L' := [(0, _), (1, _), (2, _)]) [2, 1, 0] rfl ?_
  exact K4 145 0 0 M (by omega) (by omega) (by omega) rfl (fun i => by rw [if_neg (by omega)]) (fun _ _ => rfl)
set_option maxRecDepth 100000 in
set_option maxHeartbeats 4000000 in
theorem c_X5_cracksRound (l : Launch) (E : ewE) (M : ewM) (h0 : svI (M 89)) : Ct l E yX5_cracksRound (.code yX5_cracksRound cX5_cracksRound 4 (some .int)) 4 [vR E 88] M (fun v M1 => v = some (vI (f_sum (f_ind (f_ovr (vD (M 89)) (M 89 0) (M 89 1) (vC (M 89)))) 144)) ∧ vC (M1 89) = f_rnd (vD (M 89)) (M 89 0) (M 89 1) (vC (M 89)) ∧ sv_fr 379 144 (M 89) (M1 89) ∧ ∀ o, o ≠ 89 → o ≠ 95 → M1 o = M o) := by
  refine ct_of (L0 := [(0, vR E 88)]) (by decide +kernel) rfl (Nat.le_of_ble_eq_true rfl) ?_
  intro zp ze zs zm za zb zt zc zA hC
  obtain ⟨p1, p2, p3, p4, p5, p6, p7, p8, p9, pf⟩ := id h0
  have K2 : ∀ (n : Nat) (k : Int) (M1 : ewM), 144 - k < n → 0 ≤ k → k ≤ 144 → (∀ q : Int, 0 ≤ q → q < k → M1 95 q = f_ind (f_ovr (vD (M 89)) (M 89 0) (M 89 1) (vC (M 89))) q) → (∀ o, o ≠ 95 → M1 o = M o) → jJ zp l ze (ct_rm 4) zs zm za zb zt zc E zA 4 0 0 (MQ zb (ct_Q E zA (fun v M1 => v = some (vI (f_sum (f_ind (f_ovr (vD (M 89)) (M 89 0) (M 89 1) (vC (M 89)))) 144)) ∧ vC (M1 89) = f_rnd (vD (M 89)) (M 89 0) (M 89 1) (vC (M 89)) ∧ sv_fr 379 144 (M 89) (M1 89) ∧ ∀ o, o ≠ 89 → o ≠ 95 → M1 o = M o)) za zs 0 0 zA) 2 [(0, vR E 88), (1, vI k)] [] M1 := by
    intro n
    induction n with
    | zero => intros; omega
    | succ n ih =>
      intro k M1 i1 i2 i3 g1 g2
      refine jw_iload_n hC dX5_cracksRound_2 1 rfl rfl ?_
      refine jw_sipush hC dX5_cracksRound_3 (by decide) ?_
      refine jw_icmp_ge (tgt := 60) hC dX5_cracksRound_6 (by decide) (by omega) (by omega) (by omega) (by omega) (fun h6 => ?_) (fun h6 => ?_)
      · skip
        refine jw_aload_n hC dX5_cracksRound_60 0 rfl rfl ?_
        refine jw_callV hC (c_X5_cracksNow l E M1 (f_ovr (vD (M 89)) (M 89 0) (M 89 1) (vC (M 89))) (fun q q0 q1 => g1 q q0 (by omega))) sV_X5_73 ewF_m0.o dX5_cracksRound_61 rfl rfl ⟨Nat.le_of_ble_eq_true rfl, Nat.le_of_ble_eq_true rfl⟩ ⟨Nat.zero_le _, Nat.zero_le _⟩ (Nat.le_of_ble_eq_true rfl) (fun v61 M61 g61 => ?_)
        obtain ⟨rfl, r1, r2, r3⟩ := g61
        rw [g2 89 (by decide)] at r1 r2
        refine jw_iret hC dX5_cracksRound_64 ?_
        exact ⟨rfl, r1, r2, fun o o1 o2 => (r3 o o1).trans (g2 o o2)⟩
      · skip
        refine jw_iload_n hC dX5_cracksRound_9 1 rfl rfl ?_
        refine jw_bipush hC dX5_cracksRound_10 (by decide) ?_
        refine jw_irem hC dX5_cracksRound_12 (by omega) (by omega) (by omega) (by omega) ?_
        refine jw_istore_n (L' := [(2, _), (0, _), (1, _)]) hC dX5_cracksRound_13 rfl (by decide) rfl ?_
        refine jw_iload_n hC dX5_cracksRound_14 2 rfl rfl ?_
        refine jw_bipush hC dX5_cracksRound_15 (by decide) ?_
        refine jw_idiv hC dX5_cracksRound_17 (by omega) (by omega) (by omega) (by omega) ?_
        refine jw_istore_n (L' := [(3, _), (2, _), (0, _), (1, _)]) hC dX5_cracksRound_18 rfl (by decide) rfl ?_
        refine jw_aload_n hC dX5_cracksRound_19 2 rfl rfl ?_
        refine jw_getr hC fL_X5_29 ewR_m9 dX5_cracksRound_20 ?_
        refine jw_iload_n hC dX5_cracksRound_23 3 rfl rfl ?_
        refine jw_aload_n hC dX5_cracksRound_24 2 rfl rfl ?_
        refine jw_iload_n hC dX5_cracksRound_25 1 rfl rfl ?_
        refine jw_iload_n hC dX5_cracksRound_26 0 rfl rfl ?_
        refine jw_callV hC (c_X5_isCracked l E M1 (by rw [g2 89 (by decide)]; exact h0) _ _ ⟨by omega, by omega⟩ ⟨by omega, by omega⟩) sV_X5_64 ewF_m0.o dX5_cracksRound_27 rfl rfl ⟨Nat.le_of_ble_eq_true rfl, Nat.le_of_ble_eq_true rfl⟩ ⟨Nat.zero_le _, Nat.zero_le _⟩ (Nat.le_of_ble_eq_true rfl) (fun v27 M27 g27 => ?_)
        obtain ⟨rfl, rfl⟩ := g27
        rw [g2 89 (by decide), show 12 * (k / 12) + k % 12 = k by omega]
        have hck := p2 k
        refine jw_if_ne (tgt := 52) hC dX5_cracksRound_30 (by decide) (by omega) (by omega) (fun h30 => ?_) (fun h30 => ?_)
        · skip
          refine jw_iconst hC dX5_cracksRound_52 ?_
          refine jw_zast hC ewA_95 dX5_cracksRound_53 (by omega) (by omega) (by decide) (by omega) ?_
          refine jw_iinc (L' := [(1, _), (3, _), (2, _), (0, _)]) hC dX5_cracksRound_54 3 rfl (by decide) rfl ?_
          refine jw_goto (tgt := 2) hC dX5_cracksRound_57 (by decide) ?_
          refine jw_loc (L' := [(0, _), (1, _)]) [3, 0] rfl ?_
          refine ih _ _ (by omega) (by omega) (by omega) (fun q q0 q1 => ?_) (fun o o1 => by rw [mu_ne _ _ _ o1]; exact g2 o o1)
          by_cases hq : q = k
          · subst hq
            rw [mu_eq]
            unfold f_ind f_ovr
            first
            | rw [if_pos (by simp; omega)]
            | rw [if_neg (by simp; omega)]
          · rw [mu_nk _ _ _ hq]; exact g1 q q0 (by omega)
        · skip
          refine jw_aload_n hC dX5_cracksRound_33 2 rfl rfl ?_
          refine jw_iload_n hC dX5_cracksRound_34 1 rfl rfl ?_
          refine jw_iload_n hC dX5_cracksRound_35 0 rfl rfl ?_
          refine jw_callV hC (c_X5_strain l E M1 (by rw [g2 89 (by decide)]; exact h0) _ _ ⟨by omega, by omega⟩ ⟨by omega, by omega⟩) sV_X5_67 ewF_m0.o dX5_cracksRound_36 rfl rfl ⟨Nat.le_of_ble_eq_true rfl, Nat.le_of_ble_eq_true rfl⟩ ⟨Nat.zero_le _, Nat.zero_le _⟩ (Nat.le_of_ble_eq_true rfl) (fun v36 M36 g36 => ?_)
          obtain ⟨rfl, rfl⟩ := g36
          rw [g2 89 (by decide), show 12 * (k / 12) + k % 12 = k by omega]
          have hsk := f_str_b p1 k
          refine jw_aload_n hC dX5_cracksRound_39 2 rfl rfl ?_
          refine jw_iload_n hC dX5_cracksRound_40 1 rfl rfl ?_
          refine jw_iload_n hC dX5_cracksRound_41 0 rfl rfl ?_
          refine jw_callV hC (c_X5_bears l E M1 (by rw [g2 89 (by decide)]; exact h0) _ _ ⟨by omega, by omega⟩ ⟨by omega, by omega⟩) sV_X5_70 ewF_m0.o dX5_cracksRound_42 rfl rfl ⟨Nat.le_of_ble_eq_true rfl, Nat.le_of_ble_eq_true rfl⟩ ⟨Nat.zero_le _, Nat.zero_le _⟩ (Nat.le_of_ble_eq_true rfl) (fun v42 M42 g42 => ?_)
          obtain ⟨rfl, rfl⟩ := g42
          rw [g2 89 (by decide), show 12 * (k / 12) + k % 12 = k by omega]
          have hbk := f_bear_b k p2 p4 p5
          refine jw_icmp_le (tgt := 52) hC dX5_cracksRound_45 (by decide) (by omega) (by omega) (by omega) (by omega) (fun h45 => ?_) (fun h45 => ?_)
          · skip
            refine jw_iconst hC dX5_cracksRound_52 ?_
            refine jw_zast hC ewA_95 dX5_cracksRound_53 (by omega) (by omega) (by decide) (by omega) ?_
            refine jw_iinc (L' := [(1, _), (3, _), (2, _), (0, _)]) hC dX5_cracksRound_54 3 rfl (by decide) rfl ?_
            refine jw_goto (tgt := 2) hC dX5_cracksRound_57 (by decide) ?_
            refine jw_loc (L' := [(0, _), (1, _)]) [3, 0] rfl ?_
            refine ih _ _ (by omega) (by omega) (by omega) (fun q q0 q1 => ?_) (fun o o1 => by rw [mu_ne _ _ _ o1]; exact g2 o o1)
            by_cases hq : q = k
            · subst hq
              rw [mu_eq]
              unfold f_ind f_ovr
              first
              | rw [if_pos (by simp; omega)]
              | rw [if_neg (by simp; omega)]
            · rw [mu_nk _ _ _ hq]; exact g1 q q0 (by omega)
          · skip
            refine jw_iconst hC dX5_cracksRound_48 ?_
            refine jw_goto (tgt := 53) hC dX5_cracksRound_49 (by decide) ?_
            refine jw_zast hC ewA_95 dX5_cracksRound_53 (by omega) (by omega) (by decide) (by omega) ?_
            refine jw_iinc (L' := [(1, _), (3, _), (2, _), (0, _)]) hC dX5_cracksRound_54 3 rfl (by decide) rfl ?_
            refine jw_goto (tgt := 2) hC dX5_cracksRound_57 (by decide) ?_
            refine jw_loc (L' := [(0, _), (1, _)]) [3, 0] rfl ?_
            refine ih _ _ (by omega) (by omega) (by omega) (fun q q0 q1 => ?_) (fun o o1 => by rw [mu_ne _ _ _ o1]; exact g2 o o1)
            by_cases hq : q = k
            · subst hq
              rw [mu_eq]
              unfold f_ind f_ovr
              first
              | rw [if_pos (by simp; omega)]
              | rw [if_neg (by simp; omega)]
            · rw [mu_nk _ _ _ hq]; exact g1 q q0 (by omega)
  refine jw_iconst hC dX5_cracksRound_0 ?_
  refine jw_istore_n (L' := [(1, _), (0, _)]) hC dX5_cracksRound_1 rfl (by decide) rfl ?_
  refine jw_loc (L' := [(0, _), (1, _)]) [1, 0] rfl ?_
  exact K2 145 0 M (by omega) (by omega) (by omega) (fun q q0 q1 => by omega) (fun _ _ => rfl)
set_option maxRecDepth 100000 in
set_option maxHeartbeats 4000000 in
theorem c_X5_cracksAll (l : Launch) (E : ewE) (M : ewM) (h0 : svI (M 89)) : Ct l E yX5_cracksAll (.code yX5_cracksAll cX5_cracksAll 3 (some .int)) 5 [vR E 88] M (fun v M1 => v = some (vI (f_sum (f_it (vD (M 89)) (M 89 0) (M 89 1) (vC (M 89)) 144) 144 - f_sum (vC (M 89)) 144)) ∧ vC (M1 89) = f_it (vD (M 89)) (M 89 0) (M 89 1) (vC (M 89)) 144 ∧ sv_fr 379 144 (M 89) (M1 89) ∧ ∀ o, o ≠ 89 → o ≠ 95 → M1 o = M o) := by
  refine ct_of (L0 := [(0, vR E 88)]) (by decide +kernel) rfl (Nat.le_of_ble_eq_true rfl) ?_
  intro zp ze zs zm za zb zt zc zA hC
  obtain ⟨p1, p2, p3, p4, p5, p6, p7, p8, p9, pf⟩ := id h0
  have K7 : ∀ (n : Nat) (i : Nat) (al nn : Int) (M1 : ewM), 145 - (i : Int) < n → vC (M1 89) = f_it (vD (M 89)) (M 89 0) (M 89 1) (vC (M 89)) (i + 1) → nn = f_sum (f_ind (f_ovr (vD (M 89)) (M 89 0) (M 89 1) (f_it (vD (M 89)) (M 89 0) (M 89 1) (vC (M 89)) i))) 144 → (i : Int) ≤ f_sum (f_it (vD (M 89)) (M 89 0) (M 89 1) (vC (M 89)) i) 144 → al + nn = f_sum (f_it (vD (M 89)) (M 89 0) (M 89 1) (vC (M 89)) (i + 1)) 144 - f_sum (vC (M 89)) 144 → f_sum (f_it (vD (M 89)) (M 89 0) (M 89 1) (vC (M 89)) (i + 1)) 144 = f_sum (f_it (vD (M 89)) (M 89 0) (M 89 1) (vC (M 89)) i) 144 + nn → sv_fr 379 144 (M 89) (M1 89) → (∀ o, o ≠ 89 → o ≠ 95 → M1 o = M o) → jJ zp l ze (ct_rm 5) zs zm za zb zt zc E zA 3 0 0 (MQ zb (ct_Q E zA (fun v M1 => v = some (vI (f_sum (f_it (vD (M 89)) (M 89 0) (M 89 1) (vC (M 89)) 144) 144 - f_sum (vC (M 89)) 144)) ∧ vC (M1 89) = f_it (vD (M 89)) (M 89 0) (M 89 1) (vC (M 89)) 144 ∧ sv_fr 379 144 (M 89) (M1 89) ∧ ∀ o, o ≠ 89 → o ≠ 95 → M1 o = M o)) za zs 0 0 zA) 7 [(0, vR E 88), (1, vI al), (2, vI nn)] [] M1 := by
    intro n
    induction n with
    | zero =>
      intro i al nn M1 i1 g1 g2 g3
      have := f_sum_C (f_it_C p2 (d := vD (M 89)) (b := M 89 0) (t := M 89 1) i)
      omega
    | succ n ih =>
      intro i al nn M1 i1 g1 g2 g3 g4 g7 g5 g6
      have hsI := f_sum_C (f_it_C p2 (d := vD (M 89)) (b := M 89 0) (t := M 89 1) i)
      have hnn := f_sum_le (g := f_ind (f_ovr (vD (M 89)) (M 89 0) (M 89 1) (f_it (vD (M 89)) (M 89 0) (M 89 1) (vC (M 89)) i))) (a := 0) (b := 1) (fun k _ _ => f_ind_b _ k) 144 (by decide)
      refine jw_iload_n hC dX5_cracksAll_7 2 rfl rfl ?_
      refine jw_if_le (tgt := 23) hC dX5_cracksAll_8 (by decide) (by omega) (by omega) (fun h8 => ?_) (fun h8 => ?_)
      · skip
        refine jw_iload_n hC dX5_cracksAll_23 1 rfl rfl ?_
        refine jw_iret hC dX5_cracksAll_24 ?_
        have hz : f_sum (f_ind (f_ovr (vD (M 89)) (M 89 0) (M 89 1) (f_it (vD (M 89)) (M 89 0) (M 89 1) (vC (M 89)) i))) 144 = 0 := by omega
        have hfx := f_it_fix hz
        have e1 := hfx 1
        have e2 := hfx (144 - i)
        rw [show i + (144 - i) = 144 by omega] at e2
        rw [e1] at g1 g4
        refine ⟨?_, by rw [g1, e2], g5, g6⟩
        rw [e2]
        congr 2
        omega
      · skip
        refine jw_iload_n hC dX5_cracksAll_11 1 rfl rfl ?_
        refine jw_iload_n hC dX5_cracksAll_12 2 rfl rfl ?_
        refine jw_iadd hC dX5_cracksAll_13 ?_
        refine jw_istore_n (L' := [(1, _), (0, _), (2, _)]) hC dX5_cracksAll_14 rfl (by decide) rfl ?_
        refine jw_aload_n hC dX5_cracksAll_15 1 rfl rfl ?_
        refine jw_callV hC (c_X5_cracksRound l E M1 (sv_c g5 h0 (by rw [g1]; exact f_it_C p2 _))) sV_X5_77 ewF_m0.o dX5_cracksAll_16 rfl rfl ⟨Nat.le_of_ble_eq_true rfl, Nat.le_of_ble_eq_true rfl⟩ ⟨Nat.zero_le _, Nat.zero_le _⟩ (Nat.le_of_ble_eq_true rfl) (fun v16 M16 g16 => ?_)
        obtain ⟨rfl, r1, r2, r3⟩ := g16
        have r1 : vC (M16 89) = f_it (vD (M 89)) (M 89 0) (M 89 1) (vC (M 89)) (i + 1 + 1) := by rw [r1, (sv_o g5).1, g5 0 (by omega), g5 1 (by omega), g1]; rfl
        rw [(sv_o g5).1, g5 0 (by omega), g5 1 (by omega), g1]
        have hsum := f_rnd_sum (vD (M 89)) (M 89 0) (M 89 1) (f_it (vD (M 89)) (M 89 0) (M 89 1) (vC (M 89)) (i + 1))
        have hsum : f_sum (f_it (vD (M 89)) (M 89 0) (M 89 1) (vC (M 89)) (i + 1 + 1)) 144 = f_sum (f_it (vD (M 89)) (M 89 0) (M 89 1) (vC (M 89)) (i + 1)) 144 + f_sum (f_ind (f_ovr (vD (M 89)) (M 89 0) (M 89 1) (f_it (vD (M 89)) (M 89 0) (M 89 1) (vC (M 89)) (i + 1)))) 144 := hsum
        refine jw_istore_n (L' := [(2, _), (1, _), (0, _)]) hC dX5_cracksAll_19 rfl (by decide) rfl ?_
        refine jw_goto (tgt := 7) hC dX5_cracksAll_20 (by decide) ?_
        refine jw_loc (L' := [(0, _), (1, _), (2, _)]) [2, 1, 0] rfl ?_
        exact ih (i + 1) _ _ _ (by omega) r1 rfl (by omega) (by omega) hsum (sv_tr g5 r2) (fun o o1 o2 => (r3 o o1 o2).trans (g6 o o1 o2))
  refine jw_iconst hC dX5_cracksAll_0 ?_
  refine jw_istore_n (L' := [(1, _), (0, _)]) hC dX5_cracksAll_1 rfl (by decide) rfl ?_
  refine jw_aload_n hC dX5_cracksAll_2 1 rfl rfl ?_
  refine jw_callV hC (c_X5_cracksRound l E M h0) sV_X5_77 ewF_m0.o dX5_cracksAll_3 rfl rfl ⟨Nat.le_of_ble_eq_true rfl, Nat.le_of_ble_eq_true rfl⟩ ⟨Nat.zero_le _, Nat.zero_le _⟩ (Nat.le_of_ble_eq_true rfl) (fun v3 M3 g3 => ?_)
  obtain ⟨rfl, r1, r2, r3⟩ := g3
  have hsum := f_rnd_sum (vD (M 89)) (M 89 0) (M 89 1) (vC (M 89))
  have hsC := f_sum_C p2
  have r1 : vC (M3 89) = f_it (vD (M 89)) (M 89 0) (M 89 1) (vC (M 89)) (0 + 1) := r1
  have hsum : f_sum (f_it (vD (M 89)) (M 89 0) (M 89 1) (vC (M 89)) (0 + 1)) 144 = f_sum (vC (M 89)) 144 + f_sum (f_ind (f_ovr (vD (M 89)) (M 89 0) (M 89 1) (vC (M 89)))) 144 := hsum
  refine jw_istore_n (L' := [(2, _), (1, _), (0, _)]) hC dX5_cracksAll_6 rfl (by decide) rfl ?_
  refine jw_loc (L' := [(0, _), (1, _), (2, _)]) [2, 1, 0] rfl ?_
  exact K7 147 0 0 _ M3 (by omega) r1 rfl hsC.1 (by omega) hsum r2 r3
set_option maxRecDepth 100000 in
set_option maxHeartbeats 4000000 in
theorem c_X5_turned (l : Launch) (E : ewE) (M : ewM) (a c r t : Int) (ha : 0 ≤ a ∧ a < 3) (hc : 0 ≤ c ∧ c < 5) (hr : 0 ≤ r ∧ r < 5) (ht : 0 ≤ t ∧ t < 8) : Ct l E yX5_turned (.code yX5_turned cX5_turned 9 (some .int)) 1 [vR E 88, vI a, vI c, vI r, vI t] M (fun v M1 => v = some (vI (f_tp (vQ (M 89)) a c r t)) ∧ M = M1) := by
  refine ct_of (L0 := [(0, vR E 88), (1, vI a), (2, vI c), (3, vI r), (4, vI t)]) (by decide +kernel) rfl (Nat.le_of_ble_eq_true rfl) ?_
  intro zp ze zs zm za zb zt zc zA hC
  have hfin := f_t_b (q := t % 4) hc hr
  have K12 : ∀ (n : Nat) (q x y : Int), 4 - q < n → 0 ≤ q → q ≤ t % 4 → x = f_ta q c r → y = f_tb q c r → jJ zp l ze (ct_rm 1) zs zm za zb zt zc E zA 9 0 0 (MQ zb (ct_Q E zA (fun v M1 => v = some (vI (f_tp (vQ (M 89)) a c r t)) ∧ M = M1)) za zs 0 0 zA) 12 [(0, vR E 88), (1, vI a), (2, vI c), (3, vI r), (4, vI t), (5, vI x), (6, vI y), (7, vI (t % 4 - q))] [] M := by
    intro n
    induction n with
    | zero => intros; omega
    | succ n ih =>
      intro q x y i1 i2 i3 hx hy
      have hb := f_t_b (q := q) hc hr
      rw [← hx, ← hy] at hb
      refine jw_iload hC dX5_turned_12 7 rfl ?_
      refine jw_if_le (tgt := 37) hC dX5_turned_14 (by decide) (by omega) (by omega) (fun h14 => ?_) (fun h14 => ?_)
      · skip
        refine jw_iload hC dX5_turned_37 4 rfl ?_
        refine jw_iconst hC dX5_turned_39 ?_
        refine jw_icmp_le (tgt := 50) hC dX5_turned_40 (by decide) (by omega) (by omega) (by omega) (by omega) (fun h40 => ?_) (fun h40 => ?_)
        · skip
          refine jw_iload hC dX5_turned_50 5 rfl ?_
          refine jw_istore (L' := [(5, _), (0, _), (1, _), (2, _), (3, _), (4, _), (6, _), (7, _)]) hC dX5_turned_52 (by decide) rfl ?_
          refine jw_aload_n hC dX5_turned_54 1 rfl rfl ?_
          refine jw_getr hC fL_X5_7 ewR_m1 dX5_turned_55 ?_
          refine jw_bipush hC dX5_turned_58 (by decide) ?_
          refine jw_bipush hC dX5_turned_60 (by decide) ?_
          refine jw_iload_n hC dX5_turned_62 2 rfl rfl ?_
          refine jw_imul hC dX5_turned_63 ?_
          refine jw_iadd hC dX5_turned_64 ?_
          refine jw_iconst hC dX5_turned_65 ?_
          refine jw_iload hC dX5_turned_66 6 rfl ?_
          refine jw_imul hC dX5_turned_68 ?_
          refine jw_iadd hC dX5_turned_69 ?_
          refine jw_iload hC dX5_turned_70 0 rfl ?_
          refine jw_iadd hC dX5_turned_72 ?_
          refine jw_iald hC ewA_89 dX5_turned_73 (by omega) (by omega) (by decide) (fun b73 c73 => ?_)
          refine jw_iret hC dX5_turned_74 ?_
          refine ⟨?_, rfl⟩
          unfold f_tp f_tc f_tr
          first
          | (rw [if_pos (by omega), ← vQ_in (M 89) (by omega) (by omega)]
             congr 3
             rw [← show q = t % 4 by omega, ← hx, ← hy]
             omega)
          | (rw [if_neg (by omega), ← vQ_in (M 89) (by omega) (by omega)]
             congr 3
             rw [← show q = t % 4 by omega, ← hx, ← hy]
             omega)
        · skip
          refine jw_iconst hC dX5_turned_43 ?_
          refine jw_iload hC dX5_turned_44 5 rfl ?_
          refine jw_isub hC dX5_turned_46 ?_
          refine jw_goto (tgt := 52) hC dX5_turned_47 (by decide) ?_
          refine jw_istore (L' := [(5, _), (0, _), (1, _), (2, _), (3, _), (4, _), (6, _), (7, _)]) hC dX5_turned_52 (by decide) rfl ?_
          refine jw_aload_n hC dX5_turned_54 1 rfl rfl ?_
          refine jw_getr hC fL_X5_7 ewR_m1 dX5_turned_55 ?_
          refine jw_bipush hC dX5_turned_58 (by decide) ?_
          refine jw_bipush hC dX5_turned_60 (by decide) ?_
          refine jw_iload_n hC dX5_turned_62 2 rfl rfl ?_
          refine jw_imul hC dX5_turned_63 ?_
          refine jw_iadd hC dX5_turned_64 ?_
          refine jw_iconst hC dX5_turned_65 ?_
          refine jw_iload hC dX5_turned_66 6 rfl ?_
          refine jw_imul hC dX5_turned_68 ?_
          refine jw_iadd hC dX5_turned_69 ?_
          refine jw_iload hC dX5_turned_70 0 rfl ?_
          refine jw_iadd hC dX5_turned_72 ?_
          refine jw_iald hC ewA_89 dX5_turned_73 (by omega) (by omega) (by decide) (fun b73 c73 => ?_)
          refine jw_iret hC dX5_turned_74 ?_
          refine ⟨?_, rfl⟩
          unfold f_tp f_tc f_tr
          first
          | (rw [if_pos (by omega), ← vQ_in (M 89) (by omega) (by omega)]
             congr 3
             rw [← show q = t % 4 by omega, ← hx, ← hy]
             omega)
          | (rw [if_neg (by omega), ← vQ_in (M 89) (by omega) (by omega)]
             congr 3
             rw [← show q = t % 4 by omega, ← hx, ← hy]
             omega)
      · skip
        refine jw_iload hC dX5_turned_17 5 rfl ?_
        refine jw_istore (L' := [(8, _), (0, _), (1, _), (2, _), (3, _), (4, _), (5, _), (6, _), (7, _)]) hC dX5_turned_19 (by decide) rfl ?_
        refine jw_iload hC dX5_turned_21 7 rfl ?_
        refine jw_istore (L' := [(5, _), (8, _), (0, _), (1, _), (2, _), (3, _), (4, _), (6, _), (7, _)]) hC dX5_turned_23 (by decide) rfl ?_
        refine jw_iconst hC dX5_turned_25 ?_
        refine jw_iload hC dX5_turned_26 1 rfl ?_
        refine jw_isub hC dX5_turned_28 ?_
        refine jw_istore (L' := [(6, _), (5, _), (8, _), (0, _), (1, _), (2, _), (3, _), (4, _), (7, _)]) hC dX5_turned_29 (by decide) rfl ?_
        refine jw_iinc (L' := [(7, _), (6, _), (5, _), (8, _), (0, _), (1, _), (2, _), (3, _), (4, _)]) hC dX5_turned_31 8 rfl (by decide) rfl ?_
        refine jw_goto (tgt := 12) hC dX5_turned_34 (by decide) ?_
        refine jw_loc (L' := [(0, _), (1, _), (2, _), (3, _), (4, _), (5, _), (6, _), (7, _)]) [4, 5, 6, 7, 8, 2, 1, 0] rfl ?_
        have hs := f_ta_s (q := q) (c := c) (r := r) i2 (by omega)
        rw [show t % 4 - q + -1 = t % 4 - (q + 1) by omega]
        exact ih (q + 1) _ _ (by omega) (by omega) (by omega) (by rw [hs.1, hy]) (by rw [hs.2, hx])
  refine jw_iload_n hC dX5_turned_0 2 rfl rfl ?_
  refine jw_istore (L' := [(5, _), (0, _), (1, _), (2, _), (3, _), (4, _)]) hC dX5_turned_1 (by decide) rfl ?_
  refine jw_iload_n hC dX5_turned_3 4 rfl rfl ?_
  refine jw_istore (L' := [(6, _), (5, _), (0, _), (1, _), (2, _), (3, _), (4, _)]) hC dX5_turned_4 (by decide) rfl ?_
  refine jw_iload hC dX5_turned_6 6 rfl ?_
  refine jw_iconst hC dX5_turned_8 ?_
  refine jw_irem hC dX5_turned_9 (by omega) (by omega) (by omega) (by omega) ?_
  refine jw_istore (L' := [(7, _), (6, _), (5, _), (0, _), (1, _), (2, _), (3, _), (4, _)]) hC dX5_turned_10 (by decide) rfl ?_
  refine jw_loc (L' := [(0, _), (1, _), (2, _), (3, _), (4, _), (5, _), (6, _), (7, _)]) [3, 4, 5, 6, 7, 2, 1, 0] rfl ?_
  rw [show t % 4 = t % 4 - 0 by omega]
  exact K12 5 0 _ _ (by omega) (by omega) (by omega) rfl rfl
set_option maxRecDepth 100000 in
set_option maxHeartbeats 4000000 in
theorem c_X5_raised (l : Launch) (E : ewE) (M : ewM) (a : Int) (ha : 0 ≤ a ∧ a < 3) : Ct l E yX5_raised (.code yX5_raised cX5_raised 4 (some .int)) 1 [vR E 88, vI a] M (fun v M1 => v = some (vI (f_sum (fun q => if 0 < vQ (M 89) (a * 25 + q) then 1 else 0) 25)) ∧ M = M1) := by
  refine ct_of (L0 := [(0, vR E 88), (1, vI a)]) (by decide +kernel) rfl (Nat.le_of_ble_eq_true rfl) ?_
  intro zp ze zs zm za zb zt zc zA hC
  have K4 : ∀ (n : Nat) (k x : Int), 25 - k < n → 0 ≤ k → k ≤ 25 → x = f_sum (fun q => if 0 < vQ (M 89) (a * 25 + q) then 1 else 0) k.toNat → jJ zp l ze (ct_rm 1) zs zm za zb zt zc E zA 4 0 0 (MQ zb (ct_Q E zA (fun v M1 => v = some (vI (f_sum (fun q => if 0 < vQ (M 89) (a * 25 + q) then 1 else 0) 25)) ∧ M = M1)) za zs 0 0 zA) 4 [(0, vR E 88), (1, vI a), (2, vI x), (3, vI k)] [] M := by
    intro n
    induction n with
    | zero => intros; omega
    | succ n ih =>
      intro k x i1 i2 i3 hx
      refine jw_iload_n hC dX5_raised_4 3 rfl rfl ?_
      refine jw_bipush hC dX5_raised_5 (by decide) ?_
      refine jw_icmp_ge (tgt := 41) hC dX5_raised_7 (by decide) (by omega) (by omega) (by omega) (by omega) (fun h7 => ?_) (fun h7 => ?_)
      · skip
        refine jw_iload_n hC dX5_raised_41 2 rfl rfl ?_
        refine jw_iret hC dX5_raised_42 ?_
        refine ⟨?_, rfl⟩
        rw [hx, show k = 25 by omega]
        rfl
      · skip
        refine jw_iload_n hC dX5_raised_10 2 rfl rfl ?_
        refine jw_aload_n hC dX5_raised_11 0 rfl rfl ?_
        refine jw_getr hC fL_X5_7 ewR_m1 dX5_raised_12 ?_
        refine jw_bipush hC dX5_raised_15 (by decide) ?_
        refine jw_bipush hC dX5_raised_17 (by decide) ?_
        refine jw_iload_n hC dX5_raised_19 1 rfl rfl ?_
        refine jw_imul hC dX5_raised_20 ?_
        refine jw_iadd hC dX5_raised_21 ?_
        refine jw_iload_n hC dX5_raised_22 3 rfl rfl ?_
        refine jw_iadd hC dX5_raised_23 ?_
        refine jw_iald hC ewA_89 dX5_raised_24 (by omega) (by omega) (by decide) (fun b24 c24 => ?_)
        rw [show 16 + 25 * a + k = 16 + (a * 25 + k) by omega, vQ_in (M 89) (k := a * 25 + k) (by omega) (by omega)] at b24 c24 ⊢
        refine jw_if_le (tgt := 32) hC dX5_raised_25 (by decide) (by omega) (by omega) (fun h25 => ?_) (fun h25 => ?_)
        · skip
          refine jw_iconst hC dX5_raised_32 ?_
          refine jw_iadd hC dX5_raised_33 ?_
          refine jw_istore_n (L' := [(2, _), (0, _), (1, _), (3, _)]) hC dX5_raised_34 rfl (by decide) rfl ?_
          refine jw_iinc (L' := [(3, _), (2, _), (0, _), (1, _)]) hC dX5_raised_35 3 rfl (by decide) rfl ?_
          refine jw_goto (tgt := 4) hC dX5_raised_38 (by decide) ?_
          refine jw_loc (L' := [(0, _), (1, _), (2, _), (3, _)]) [2, 3, 1, 0] rfl ?_
          refine ih _ _ (by omega) (by omega) (by omega) ?_
          rw [f_sum_s _ i2, hx]
          first | (rw [if_pos (by omega)]) | (rw [if_neg (by omega)])
        · skip
          refine jw_iconst hC dX5_raised_28 ?_
          refine jw_goto (tgt := 33) hC dX5_raised_29 (by decide) ?_
          refine jw_iadd hC dX5_raised_33 ?_
          refine jw_istore_n (L' := [(2, _), (0, _), (1, _), (3, _)]) hC dX5_raised_34 rfl (by decide) rfl ?_
          refine jw_iinc (L' := [(3, _), (2, _), (0, _), (1, _)]) hC dX5_raised_35 3 rfl (by decide) rfl ?_
          refine jw_goto (tgt := 4) hC dX5_raised_38 (by decide) ?_
          refine jw_loc (L' := [(0, _), (1, _), (2, _), (3, _)]) [2, 3, 1, 0] rfl ?_
          refine ih _ _ (by omega) (by omega) (by omega) ?_
          rw [f_sum_s _ i2, hx]
          first | (rw [if_pos (by omega)]) | (rw [if_neg (by omega)])
  refine jw_iconst hC dX5_raised_0 ?_
  refine jw_istore_n (L' := [(2, _), (0, _), (1, _)]) hC dX5_raised_1 rfl (by decide) rfl ?_
  refine jw_iconst hC dX5_raised_2 ?_
  refine jw_istore_n (L' := [(3, _), (2, _), (0, _), (1, _)]) hC dX5_raised_3 rfl (by decide) rfl ?_
  refine jw_loc (L' := [(0, _), (1, _), (2, _), (3, _)]) [2, 3, 1, 0] rfl ?_
  exact K4 26 0 0 (by omega) (by omega) (by omega) rfl
