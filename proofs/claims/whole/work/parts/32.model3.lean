/-! THE REFERENCE: presses, folds, what would be -/
/-- what a press does to the row: the numbers behind the first n points -/
def sv_pp (f g : Int → Int) (r : Int → Int) (l t : Int) (n : Nat) : Prop := vD g = f_emb r l t (vD f) n ∧ vF g = f_stk (vS f) r l t (vF f) n ∧ vP g = f_prs r l t (vP f) n ∧ ∀ i : Int, ¬ (91 ≤ i ∧ i < 379) → ¬ (523 ≤ i ∧ i < 667) → g i = f i
theorem sv_pp_o {f g r : Int → Int} {l t : Int} {n : Nat} (h : sv_pp f g r l t n) : vC g = vC f ∧ vQ g = vQ f ∧ vT g = vT f ∧ vS g = vS f := by
  obtain ⟨-, -, -, h⟩ := h
  refine ⟨cut_cg fun k k0 k1 => h _ (by omega) (by omega), cut_cg fun k k0 k1 => h _ (by omega) (by omega), cut_cg fun k k0 k1 => h _ (by omega) (by omega), ?_⟩
  funext k
  unfold vS
  rw [h 4 (by omega) (by omega), h 6 (by omega) (by omega), h 5 (by omega) (by omega), h 7 (by omega) (by omega), h 13 (by omega) (by omega), h 14 (by omega) (by omega), h 15 (by omega) (by omega), h 8 (by omega) (by omega), h 9 (by omega) (by omega), h 10 (by omega) (by omega), h 11 (by omega) (by omega), h 12 (by omega) (by omega)]
theorem f_stk_D {st r f : Int → Int} (h0 : 0 ≤ st 10 ∧ st 10 ≤ 9) (hf : ∀ p : Int, 0 ≤ f p ∧ f p ≤ 9) (left top : Int) : ∀ (n : Nat) (p : Int), 0 ≤ f_stk st r left top f n p ∧ f_stk st r left top f n p ≤ 9 := by
  intro n
  induction n with
  | zero => exact hf
  | succ n ih =>
    intro p
    rw [f_stk]
    split
    · dsimp only
      have := ih p
      split <;> omega
    · exact ih p
theorem sv_pp_I {f g r : Int → Int} {l t : Int} {n : Nat} (h : sv_pp f g r l t n) (hi : svI f) (hr : pD r) : svI g := by
  obtain ⟨e1, e2, e3, e4⟩ := sv_pp_o h
  obtain ⟨d1, d2, d3, d4⟩ := h
  obtain ⟨p1, p2, p3, p4, p5, p6, p7, p8, p9, pf⟩ := hi
  unfold svI
  rw [d1, e1, e2, d2, d4 0 (by omega) (by omega), d4 1 (by omega) (by omega), d4 2 (by omega) (by omega), d4 3 (by omega) (by omega), d4 4 (by omega) (by omega), d4 8 (by omega) (by omega)]
  exact ⟨f_emb_D hr p1 _ _ _, p2, p3, p4, p5, p6, p7, p8, p9, f_stk_D (st := vS f) p9 pf _ _ _⟩
set_option maxRecDepth 100000 in
set_option maxHeartbeats 4000000 in
theorem c_X5_isReadyOver (l : Launch) (E : ewE) (M : ewM) (h0 : svI (M 89)) (x y : Int) (hx : 0 ≤ x ∧ x < 12) (hy : 0 ≤ y ∧ y < 12) : Ct l E yX5_isReadyOver (.code yX5_isReadyOver cX5_isReadyOver 3 (some .boolean)) 2 [vR E 88, vI x, vI y] M (fun v M1 => v = some (vI (if f_ov (vS (M 89)) (12 * y + x) then 1 else 0)) ∧ M = M1) := by
  refine ct_of (L0 := [(0, vR E 88), (1, vI x), (2, vI y)]) (by decide +kernel) rfl (Nat.le_of_ble_eq_true rfl) ?_
  intro zp ze zs zm za zb zt zc zA hC
  obtain ⟨p1, p2, p3, p4, p5, p6, p7, p8, p9, pf⟩ := id h0
  refine jw_aload_n hC dX5_isReadyOver_0 0 rfl rfl ?_
  refine jw_getr hC fL_X5_7 ewR_m1 dX5_isReadyOver_1 ?_
  refine jw_bipush hC dX5_isReadyOver_4 (by decide) ?_
  refine jw_iald hC ewA_89 dX5_isReadyOver_6 (by omega) (by omega) (by decide) (fun b6 c6 => ?_)
  refine jw_if_le (tgt := 56) hC dX5_isReadyOver_7 (by decide) (by omega) (by omega) (fun h7 => ?_) (fun h7 => ?_)
  · skip
    refine jw_iconst hC dX5_isReadyOver_56 ?_
    refine jw_zret hC (by omega) dX5_isReadyOver_57 ?_
    refine ⟨?_, rfl⟩
    have e1 : vS (M 89) 10 = M 89 8 := rfl
    have e2 : vS (M 89) 11 = M 89 9 := rfl
    have e3 : vS (M 89) 12 = M 89 10 := rfl
    have e4 : vS (M 89) 13 = M 89 11 := rfl
    have e5 : vS (M 89) 14 = M 89 12 := rfl
    by_cases hz : f_ov (vS (M 89)) (12 * y + x)
    · rw [if_pos hz]
      all_goals
        obtain ⟨z1, z2, z3, z4, z5⟩ := hz
        rw [e1] at z1
        rw [e2] at z2
        rw [e4] at z3
        rw [e3] at z4
        rw [e5] at z5
        first
        | (exfalso; omega)
        | (exfalso; rw [if_pos (by omega)] at h28; omega)
        | (exfalso; rw [if_pos (by omega)] at h49; omega)
    · rw [if_neg hz]
      all_goals first
      | (exfalso
         have q1 : M 89 9 ≤ x ∧ x ≤ M 89 11 := Decidable.by_contra (fun z => by rw [if_neg z] at h28; omega)
         have q2 : M 89 10 ≤ y ∧ y ≤ M 89 12 := Decidable.by_contra (fun z => by rw [if_neg z] at h49; omega)
         refine hz ⟨?_, ?_, ?_, ?_, ?_⟩
         · rw [e1]; omega
         · rw [e2]; omega
         · rw [e4]; omega
         · rw [e3]; omega
         · rw [e5]; omega)
  · skip
    refine jw_iload_n hC dX5_isReadyOver_10 1 rfl rfl ?_
    refine jw_aload_n hC dX5_isReadyOver_11 0 rfl rfl ?_
    refine jw_getr hC fL_X5_7 ewR_m1 dX5_isReadyOver_12 ?_
    refine jw_bipush hC dX5_isReadyOver_15 (by decide) ?_
    refine jw_iald hC ewA_89 dX5_isReadyOver_17 (by omega) (by omega) (by decide) (fun b17 c17 => ?_)
    refine jw_aload_n hC dX5_isReadyOver_18 0 rfl rfl ?_
    refine jw_getr hC fL_X5_7 ewR_m1 dX5_isReadyOver_19 ?_
    refine jw_bipush hC dX5_isReadyOver_22 (by decide) ?_
    refine jw_iald hC ewA_89 dX5_isReadyOver_24 (by omega) (by omega) (by decide) (fun b24 c24 => ?_)
    refine jw_callS hC (c_X5_in l E M _ _ _ (by omega) (by omega) (by omega) (by omega) (by omega) (by omega)) sS_X5_39 dX5_isReadyOver_25 rfl rfl ⟨Nat.le_of_ble_eq_true rfl, Nat.le_of_ble_eq_true rfl⟩ ⟨Nat.zero_le _, Nat.zero_le _⟩ (Nat.le_of_ble_eq_true rfl) (fun v25 M25 g25 => ?_)
    obtain ⟨rfl, rfl⟩ := g25
    have hz25 : (if M 89 9 ≤ x ∧ x ≤ M 89 11 then (1 : Int) else 0) = 0 ∨ (if M 89 9 ≤ x ∧ x ≤ M 89 11 then (1 : Int) else 0) = 1 := by split <;> omega
    refine jw_if_eq (tgt := 56) hC dX5_isReadyOver_28 (by decide) (by omega) (by omega) (fun h28 => ?_) (fun h28 => ?_)
    · skip
      refine jw_iconst hC dX5_isReadyOver_56 ?_
      refine jw_zret hC (by omega) dX5_isReadyOver_57 ?_
      refine ⟨?_, rfl⟩
      have e1 : vS (M 89) 10 = M 89 8 := rfl
      have e2 : vS (M 89) 11 = M 89 9 := rfl
      have e3 : vS (M 89) 12 = M 89 10 := rfl
      have e4 : vS (M 89) 13 = M 89 11 := rfl
      have e5 : vS (M 89) 14 = M 89 12 := rfl
      by_cases hz : f_ov (vS (M 89)) (12 * y + x)
      · rw [if_pos hz]
        all_goals
          obtain ⟨z1, z2, z3, z4, z5⟩ := hz
          rw [e1] at z1
          rw [e2] at z2
          rw [e4] at z3
          rw [e3] at z4
          rw [e5] at z5
          first
          | (exfalso; omega)
          | (exfalso; rw [if_pos (by omega)] at h28; omega)
          | (exfalso; rw [if_pos (by omega)] at h49; omega)
      · rw [if_neg hz]
        all_goals first
        | (exfalso
           have q1 : M 89 9 ≤ x ∧ x ≤ M 89 11 := Decidable.by_contra (fun z => by rw [if_neg z] at h28; omega)
           have q2 : M 89 10 ≤ y ∧ y ≤ M 89 12 := Decidable.by_contra (fun z => by rw [if_neg z] at h49; omega)
           refine hz ⟨?_, ?_, ?_, ?_, ?_⟩
           · rw [e1]; omega
           · rw [e2]; omega
           · rw [e4]; omega
           · rw [e3]; omega
           · rw [e5]; omega)
    · skip
      refine jw_iload_n hC dX5_isReadyOver_31 2 rfl rfl ?_
      refine jw_aload_n hC dX5_isReadyOver_32 0 rfl rfl ?_
      refine jw_getr hC fL_X5_7 ewR_m1 dX5_isReadyOver_33 ?_
      refine jw_bipush hC dX5_isReadyOver_36 (by decide) ?_
      refine jw_iald hC ewA_89 dX5_isReadyOver_38 (by omega) (by omega) (by decide) (fun b38 c38 => ?_)
      refine jw_aload_n hC dX5_isReadyOver_39 0 rfl rfl ?_
      refine jw_getr hC fL_X5_7 ewR_m1 dX5_isReadyOver_40 ?_
      refine jw_bipush hC dX5_isReadyOver_43 (by decide) ?_
      refine jw_iald hC ewA_89 dX5_isReadyOver_45 (by omega) (by omega) (by decide) (fun b45 c45 => ?_)
      refine jw_callS hC (c_X5_in l E M _ _ _ (by omega) (by omega) (by omega) (by omega) (by omega) (by omega)) sS_X5_39 dX5_isReadyOver_46 rfl rfl ⟨Nat.le_of_ble_eq_true rfl, Nat.le_of_ble_eq_true rfl⟩ ⟨Nat.zero_le _, Nat.zero_le _⟩ (Nat.le_of_ble_eq_true rfl) (fun v46 M46 g46 => ?_)
      obtain ⟨rfl, rfl⟩ := g46
      have hz46 : (if M 89 10 ≤ y ∧ y ≤ M 89 12 then (1 : Int) else 0) = 0 ∨ (if M 89 10 ≤ y ∧ y ≤ M 89 12 then (1 : Int) else 0) = 1 := by split <;> omega
      refine jw_if_eq (tgt := 56) hC dX5_isReadyOver_49 (by decide) (by omega) (by omega) (fun h49 => ?_) (fun h49 => ?_)
      · skip
        refine jw_iconst hC dX5_isReadyOver_56 ?_
        refine jw_zret hC (by omega) dX5_isReadyOver_57 ?_
        refine ⟨?_, rfl⟩
        have e1 : vS (M 89) 10 = M 89 8 := rfl
        have e2 : vS (M 89) 11 = M 89 9 := rfl
        have e3 : vS (M 89) 12 = M 89 10 := rfl
        have e4 : vS (M 89) 13 = M 89 11 := rfl
        have e5 : vS (M 89) 14 = M 89 12 := rfl
        by_cases hz : f_ov (vS (M 89)) (12 * y + x)
        · rw [if_pos hz]
          all_goals
            obtain ⟨z1, z2, z3, z4, z5⟩ := hz
            rw [e1] at z1
            rw [e2] at z2
            rw [e4] at z3
            rw [e3] at z4
            rw [e5] at z5
            first
            | (exfalso; omega)
            | (exfalso; rw [if_pos (by omega)] at h28; omega)
            | (exfalso; rw [if_pos (by omega)] at h49; omega)
        · rw [if_neg hz]
          all_goals first
          | (exfalso
             have q1 : M 89 9 ≤ x ∧ x ≤ M 89 11 := Decidable.by_contra (fun z => by rw [if_neg z] at h28; omega)
             have q2 : M 89 10 ≤ y ∧ y ≤ M 89 12 := Decidable.by_contra (fun z => by rw [if_neg z] at h49; omega)
             refine hz ⟨?_, ?_, ?_, ?_, ?_⟩
             · rw [e1]; omega
             · rw [e2]; omega
             · rw [e4]; omega
             · rw [e3]; omega
             · rw [e5]; omega)
      · skip
        refine jw_iconst hC dX5_isReadyOver_52 ?_
        refine jw_goto (tgt := 57) hC dX5_isReadyOver_53 (by decide) ?_
        refine jw_zret hC (by omega) dX5_isReadyOver_57 ?_
        refine ⟨?_, rfl⟩
        have e1 : vS (M 89) 10 = M 89 8 := rfl
        have e2 : vS (M 89) 11 = M 89 9 := rfl
        have e3 : vS (M 89) 12 = M 89 10 := rfl
        have e4 : vS (M 89) 13 = M 89 11 := rfl
        have e5 : vS (M 89) 14 = M 89 12 := rfl
        by_cases hz : f_ov (vS (M 89)) (12 * y + x)
        · rw [if_pos hz]
          all_goals
            obtain ⟨z1, z2, z3, z4, z5⟩ := hz
            rw [e1] at z1
            rw [e2] at z2
            rw [e4] at z3
            rw [e3] at z4
            rw [e5] at z5
            first
            | (exfalso; omega)
            | (exfalso; rw [if_pos (by omega)] at h28; omega)
            | (exfalso; rw [if_pos (by omega)] at h49; omega)
        · rw [if_neg hz]
          all_goals first
          | (exfalso
             have q1 : M 89 9 ≤ x ∧ x ≤ M 89 11 := Decidable.by_contra (fun z => by rw [if_neg z] at h28; omega)
             have q2 : M 89 10 ≤ y ∧ y ≤ M 89 12 := Decidable.by_contra (fun z => by rw [if_neg z] at h49; omega)
             refine hz ⟨?_, ?_, ?_, ?_, ?_⟩
             · rw [e1]; omega
             · rw [e2]; omega
             · rw [e4]; omega
             · rw [e3]; omega
             · rw [e5]; omega)
set_option maxRecDepth 100000 in
set_option maxHeartbeats 4000000 in
theorem c_X5_pressesPoint (l : Launch) (E : ewE) (M : ewM) (h0 : svI (M 89)) (p dd : Int) (hp : 0 ≤ p ∧ p < 144) (hd : 0 ≤ dd ∧ dd ≤ 9) : Ct l E yX5_pressesPoint (.code yX5_pressesPoint cX5_pressesPoint 5 none) 3 [vR E 88, vI p, vI dd] M (fun v M1 => v = none ∧ (∀ i : Int, M1 89 i = if i = 91 + p then max (M 89 (91 + p)) dd else if i = 235 + p then (if f_ov (vS (M 89)) p then M 89 8 else M 89 (235 + p)) else if i = 523 + p then wr (M 89 (523 + p) + 1) else M 89 i) ∧ ∀ o, o ≠ 89 → M1 o = M o) := by
  refine ct_of (L0 := [(0, vR E 88), (1, vI p), (2, vI dd)]) (by decide +kernel) rfl (Nat.le_of_ble_eq_true rfl) ?_
  intro zp ze zs zm za zb zt zc zA hC
  obtain ⟨p1, p2, p3, p4, p5, p6, p7, p8, p9, pf⟩ := id h0
  have hdp := p1 p
  rw [← vD_in (M 89) (p := p) (by omega) (by omega)] at hdp
  refine jw_iload_n hC dX5_pressesPoint_0 1 rfl rfl ?_
  refine jw_bipush hC dX5_pressesPoint_1 (by decide) ?_
  refine jw_irem hC dX5_pressesPoint_3 (by omega) (by omega) (by omega) (by omega) ?_
  refine jw_istore_n (L' := [(3, _), (0, _), (1, _), (2, _)]) hC dX5_pressesPoint_4 rfl (by decide) rfl ?_
  refine jw_iload_n hC dX5_pressesPoint_5 2 rfl rfl ?_
  refine jw_bipush hC dX5_pressesPoint_6 (by decide) ?_
  refine jw_idiv hC dX5_pressesPoint_8 (by omega) (by omega) (by omega) (by omega) ?_
  refine jw_istore (L' := [(4, _), (3, _), (0, _), (1, _), (2, _)]) hC dX5_pressesPoint_9 (by decide) rfl ?_
  refine jw_aload_n hC dX5_pressesPoint_11 2 rfl rfl ?_
  refine jw_getr hC fL_X5_7 ewR_m1 dX5_pressesPoint_12 ?_
  refine jw_bipush hC dX5_pressesPoint_15 (by decide) ?_
  refine jw_iload_n hC dX5_pressesPoint_17 3 rfl rfl ?_
  refine jw_iadd hC dX5_pressesPoint_18 ?_
  refine jw_iload_n hC dX5_pressesPoint_19 4 rfl rfl ?_
  refine jw_aload_n hC dX5_pressesPoint_20 2 rfl rfl ?_
  refine jw_getr hC fL_X5_7 ewR_m1 dX5_pressesPoint_21 ?_
  refine jw_bipush hC dX5_pressesPoint_24 (by decide) ?_
  refine jw_iload_n hC dX5_pressesPoint_26 3 rfl rfl ?_
  refine jw_iadd hC dX5_pressesPoint_27 ?_
  refine jw_iald hC ewA_89 dX5_pressesPoint_28 (by omega) (by omega) (by decide) (fun b28 c28 => ?_)
  refine jw_icmp_le (tgt := 36) hC dX5_pressesPoint_29 (by decide) (by omega) (by omega) (by omega) (by omega) (fun h29 => ?_) (fun h29 => ?_)
  · skip
    refine jw_aload_n hC dX5_pressesPoint_36 2 rfl rfl ?_
    refine jw_getr hC fL_X5_7 ewR_m1 dX5_pressesPoint_37 ?_
    refine jw_bipush hC dX5_pressesPoint_40 (by decide) ?_
    refine jw_iload_n hC dX5_pressesPoint_42 3 rfl rfl ?_
    refine jw_iadd hC dX5_pressesPoint_43 ?_
    refine jw_iald hC ewA_89 dX5_pressesPoint_44 (by omega) (by omega) (by decide) (fun b44 c44 => ?_)
    refine jw_iast hC ewA_89 dX5_pressesPoint_45 (by omega) (by omega) (by decide) (by omega) (by omega) ?_
    obtain ⟨w9, hw9, hwb⟩ : ∃ w : Int, w = max (M 89 (91 + p)) dd ∧ 0 ≤ w ∧ w ≤ 9 := ⟨_, rfl, by omega, by omega⟩
    have hM9 : ∀ i : Int, mu M 89 (91 + p) w9 89 i = if i = 91 + p then w9 else M 89 i := fun i => by rw [mu_at]
    have hS9 : vS (mu M 89 (91 + p) w9 89) = vS (M 89) := by
      funext k
      unfold vS
      simp only [hM9]
      rw [if_neg (show ¬ (4 : Int) = 91 + p by omega), if_neg (show ¬ (6 : Int) = 91 + p by omega), if_neg (show ¬ (5 : Int) = 91 + p by omega), if_neg (show ¬ (7 : Int) = 91 + p by omega), if_neg (show ¬ (13 : Int) = 91 + p by omega), if_neg (show ¬ (14 : Int) = 91 + p by omega), if_neg (show ¬ (15 : Int) = 91 + p by omega), if_neg (show ¬ (8 : Int) = 91 + p by omega), if_neg (show ¬ (9 : Int) = 91 + p by omega), if_neg (show ¬ (10 : Int) = 91 + p by omega), if_neg (show ¬ (11 : Int) = 91 + p by omega), if_neg (show ¬ (12 : Int) = 91 + p by omega)]
    have hI9 : svI (mu M 89 (91 + p) w9 89) := by
      have o1 : ∀ i : Int, ¬ (91 ≤ i ∧ i < 235) → mu M 89 (91 + p) w9 89 i = M 89 i := fun i hi => by rw [hM9, if_neg (by omega)]
      have q1 : vC (mu M 89 (91 + p) w9 89) = vC (M 89) := cut_cg fun k k0 k1 => o1 _ (by omega)
      have q2 : vQ (mu M 89 (91 + p) w9 89) = vQ (M 89) := cut_cg fun k k0 k1 => o1 _ (by omega)
      have q3 : vF (mu M 89 (91 + p) w9 89) = vF (M 89) := cut_cg fun k k0 k1 => o1 _ (by omega)
      have q4 : pD (vD (mu M 89 (91 + p) w9 89)) := fun k => by
        by_cases hk : 0 ≤ k ∧ k < 144
        · rw [← vD_in _ hk.1 hk.2, hM9]
          have := p1 k
          rw [← vD_in (M 89) hk.1 hk.2] at this
          split <;> omega
        · have : vD (mu M 89 (91 + p) w9 89) k = 0 := cut_out hk
          rw [this]; omega
      unfold svI
      rw [q1, q2, q3, o1 0 (by omega), o1 1 (by omega), o1 2 (by omega), o1 3 (by omega), o1 4 (by omega), o1 8 (by omega)]
      exact ⟨q4, p2, p3, p4, p5, p6, p7, p8, p9, pf⟩
    refine jw_M (M2 := mu M 89 (91 + p) w9) (by rw [hw9]; congr 1; omega) ?_
    refine jw_aload_n hC dX5_pressesPoint_46 2 rfl rfl ?_
    refine jw_getr hC fL_X5_7 ewR_m1 dX5_pressesPoint_47 ?_
    refine jw_sipush hC dX5_pressesPoint_50 (by decide) ?_
    refine jw_iload_n hC dX5_pressesPoint_53 3 rfl rfl ?_
    refine jw_iadd hC dX5_pressesPoint_54 ?_
    refine jw_aload_n hC dX5_pressesPoint_55 2 rfl rfl ?_
    refine jw_iload_n hC dX5_pressesPoint_56 1 rfl rfl ?_
    refine jw_iload hC dX5_pressesPoint_57 0 rfl ?_
    refine jw_callV hC (c_X5_isReadyOver l E _ hI9 _ _ ⟨by omega, by omega⟩ ⟨by omega, by omega⟩) sV_X5_84 ewF_m0.o dX5_pressesPoint_59 rfl rfl ⟨Nat.le_of_ble_eq_true rfl, Nat.le_of_ble_eq_true rfl⟩ ⟨Nat.zero_le _, Nat.zero_le _⟩ (Nat.le_of_ble_eq_true rfl) (fun v59 M59 g59 => ?_)
    obtain ⟨rfl, rfl⟩ := g59
    rw [show 12 * (p / 12) + p % 12 = p by omega, hS9]
    have hov : (if f_ov (vS (M 89)) p then (1 : Int) else 0) = 0 ∨ (if f_ov (vS (M 89)) p then (1 : Int) else 0) = 1 := by split <;> omega
    refine jw_if_eq (tgt := 75) hC dX5_pressesPoint_62 (by decide) (by omega) (by omega) (fun h62 => ?_) (fun h62 => ?_)
    · skip
      have hov9 : ¬ f_ov (vS (M 89)) p := fun z => by rw [if_pos z] at h62; omega
      refine jw_aload_n hC dX5_pressesPoint_75 2 rfl rfl ?_
      refine jw_getr hC fL_X5_7 ewR_m1 dX5_pressesPoint_76 ?_
      refine jw_sipush hC dX5_pressesPoint_79 (by decide) ?_
      refine jw_iload_n hC dX5_pressesPoint_82 3 rfl rfl ?_
      refine jw_iadd hC dX5_pressesPoint_83 ?_
      refine jw_iald hC ewA_89 dX5_pressesPoint_84 (by omega) (by omega) (by decide) (fun b84 c84 => ?_)
      rw [mu_nk _ _ _ (show 235 + p ≠ 91 + p by omega)] at b84 c84 ⊢
      refine jw_iast hC ewA_89 dX5_pressesPoint_85 (by omega) (by omega) (by decide) (by omega) (by omega) ?_
      refine jw_aload_n hC dX5_pressesPoint_86 2 rfl rfl ?_
      refine jw_getr hC fL_X5_7 ewR_m1 dX5_pressesPoint_87 ?_
      refine jw_sipush hC dX5_pressesPoint_90 (by decide) ?_
      refine jw_iload_n hC dX5_pressesPoint_93 3 rfl rfl ?_
      refine jw_iadd hC dX5_pressesPoint_94 ?_
      refine jw_dup2 hC dX5_pressesPoint_95 ?_
      refine jw_iald hC ewA_89 dX5_pressesPoint_96 (by omega) (by omega) (by decide) (fun b96 c96 => ?_)
      rw [mu_nk _ _ _ (show 523 + p ≠ 235 + p by omega), mu_nk _ _ _ (show 523 + p ≠ 91 + p by omega)] at b96 c96 ⊢
      refine jw_iconst hC dX5_pressesPoint_97 ?_
      refine jw_iadd hC dX5_pressesPoint_98 ?_
      refine jw_iastw hC ewA_89 dX5_pressesPoint_99 (by omega) (by omega) (by decide)  ?_
      refine jw_vret hC dX5_pressesPoint_100 ?_
      refine ⟨rfl, fun i => ?_, fun o o1 => by rw [mu_ne _ _ _ o1, mu_ne _ _ _ o1, mu_ne _ _ _ o1]⟩
      by_cases i1 : i = 523 + p
      · subst i1
        rw [mu_eq, if_neg (by omega), if_neg (by omega), if_pos rfl]
      · rw [mu_nk _ _ _ i1]
        by_cases i2 : i = 235 + p
        · subst i2
          rw [mu_eq, if_neg (by omega), if_pos rfl]
          first
          | rw [if_pos hov9]
          | rw [if_neg hov9]
        · rw [mu_nk _ _ _ i2]
          by_cases i3 : i = 91 + p
          · subst i3
            rw [mu_eq, if_pos rfl]
            omega
          · rw [mu_nk _ _ _ i3, if_neg i3, if_neg i2, if_neg i1]
    · skip
      have hov9 : f_ov (vS (M 89)) p := Decidable.by_contra (fun z => by rw [if_neg z] at h62; omega)
      refine jw_aload_n hC dX5_pressesPoint_65 2 rfl rfl ?_
      refine jw_getr hC fL_X5_7 ewR_m1 dX5_pressesPoint_66 ?_
      refine jw_bipush hC dX5_pressesPoint_69 (by decide) ?_
      refine jw_iald hC ewA_89 dX5_pressesPoint_71 (by omega) (by omega) (by decide) (fun b71 c71 => ?_)
      rw [mu_nk _ _ _ (show (8 : Int) ≠ 91 + p by omega)] at b71 c71 ⊢
      refine jw_goto (tgt := 85) hC dX5_pressesPoint_72 (by decide) ?_
      refine jw_iast hC ewA_89 dX5_pressesPoint_85 (by omega) (by omega) (by decide) (by omega) (by omega) ?_
      refine jw_aload_n hC dX5_pressesPoint_86 2 rfl rfl ?_
      refine jw_getr hC fL_X5_7 ewR_m1 dX5_pressesPoint_87 ?_
      refine jw_sipush hC dX5_pressesPoint_90 (by decide) ?_
      refine jw_iload_n hC dX5_pressesPoint_93 3 rfl rfl ?_
      refine jw_iadd hC dX5_pressesPoint_94 ?_
      refine jw_dup2 hC dX5_pressesPoint_95 ?_
      refine jw_iald hC ewA_89 dX5_pressesPoint_96 (by omega) (by omega) (by decide) (fun b96 c96 => ?_)
      rw [mu_nk _ _ _ (show 523 + p ≠ 235 + p by omega), mu_nk _ _ _ (show 523 + p ≠ 91 + p by omega)] at b96 c96 ⊢
      refine jw_iconst hC dX5_pressesPoint_97 ?_
      refine jw_iadd hC dX5_pressesPoint_98 ?_
      refine jw_iastw hC ewA_89 dX5_pressesPoint_99 (by omega) (by omega) (by decide)  ?_
      refine jw_vret hC dX5_pressesPoint_100 ?_
      refine ⟨rfl, fun i => ?_, fun o o1 => by rw [mu_ne _ _ _ o1, mu_ne _ _ _ o1, mu_ne _ _ _ o1]⟩
      by_cases i1 : i = 523 + p
      · subst i1
        rw [mu_eq, if_neg (by omega), if_neg (by omega), if_pos rfl]
      · rw [mu_nk _ _ _ i1]
        by_cases i2 : i = 235 + p
        · subst i2
          rw [mu_eq, if_neg (by omega), if_pos rfl]
          first
          | rw [if_pos hov9]
          | rw [if_neg hov9]
        · rw [mu_nk _ _ _ i2]
          by_cases i3 : i = 91 + p
          · subst i3
            rw [mu_eq, if_pos rfl]
            omega
          · rw [mu_nk _ _ _ i3, if_neg i3, if_neg i2, if_neg i1]
  · skip
    refine jw_iload_n hC dX5_pressesPoint_32 4 rfl rfl ?_
    refine jw_goto (tgt := 45) hC dX5_pressesPoint_33 (by decide) ?_
    refine jw_iast hC ewA_89 dX5_pressesPoint_45 (by omega) (by omega) (by decide) (by omega) (by omega) ?_
    obtain ⟨w9, hw9, hwb⟩ : ∃ w : Int, w = max (M 89 (91 + p)) dd ∧ 0 ≤ w ∧ w ≤ 9 := ⟨_, rfl, by omega, by omega⟩
    have hM9 : ∀ i : Int, mu M 89 (91 + p) w9 89 i = if i = 91 + p then w9 else M 89 i := fun i => by rw [mu_at]
    have hS9 : vS (mu M 89 (91 + p) w9 89) = vS (M 89) := by
      funext k
      unfold vS
      simp only [hM9]
      rw [if_neg (show ¬ (4 : Int) = 91 + p by omega), if_neg (show ¬ (6 : Int) = 91 + p by omega), if_neg (show ¬ (5 : Int) = 91 + p by omega), if_neg (show ¬ (7 : Int) = 91 + p by omega), if_neg (show ¬ (13 : Int) = 91 + p by omega), if_neg (show ¬ (14 : Int) = 91 + p by omega), if_neg (show ¬ (15 : Int) = 91 + p by omega), if_neg (show ¬ (8 : Int) = 91 + p by omega), if_neg (show ¬ (9 : Int) = 91 + p by omega), if_neg (show ¬ (10 : Int) = 91 + p by omega), if_neg (show ¬ (11 : Int) = 91 + p by omega), if_neg (show ¬ (12 : Int) = 91 + p by omega)]
    have hI9 : svI (mu M 89 (91 + p) w9 89) := by
      have o1 : ∀ i : Int, ¬ (91 ≤ i ∧ i < 235) → mu M 89 (91 + p) w9 89 i = M 89 i := fun i hi => by rw [hM9, if_neg (by omega)]
      have q1 : vC (mu M 89 (91 + p) w9 89) = vC (M 89) := cut_cg fun k k0 k1 => o1 _ (by omega)
      have q2 : vQ (mu M 89 (91 + p) w9 89) = vQ (M 89) := cut_cg fun k k0 k1 => o1 _ (by omega)
      have q3 : vF (mu M 89 (91 + p) w9 89) = vF (M 89) := cut_cg fun k k0 k1 => o1 _ (by omega)
      have q4 : pD (vD (mu M 89 (91 + p) w9 89)) := fun k => by
        by_cases hk : 0 ≤ k ∧ k < 144
        · rw [← vD_in _ hk.1 hk.2, hM9]
          have := p1 k
          rw [← vD_in (M 89) hk.1 hk.2] at this
          split <;> omega
        · have : vD (mu M 89 (91 + p) w9 89) k = 0 := cut_out hk
          rw [this]; omega
      unfold svI
      rw [q1, q2, q3, o1 0 (by omega), o1 1 (by omega), o1 2 (by omega), o1 3 (by omega), o1 4 (by omega), o1 8 (by omega)]
      exact ⟨q4, p2, p3, p4, p5, p6, p7, p8, p9, pf⟩
    refine jw_M (M2 := mu M 89 (91 + p) w9) (by rw [hw9]; congr 1; omega) ?_
    refine jw_aload_n hC dX5_pressesPoint_46 2 rfl rfl ?_
    refine jw_getr hC fL_X5_7 ewR_m1 dX5_pressesPoint_47 ?_
    refine jw_sipush hC dX5_pressesPoint_50 (by decide) ?_
    refine jw_iload_n hC dX5_pressesPoint_53 3 rfl rfl ?_
    refine jw_iadd hC dX5_pressesPoint_54 ?_
    refine jw_aload_n hC dX5_pressesPoint_55 2 rfl rfl ?_
    refine jw_iload_n hC dX5_pressesPoint_56 1 rfl rfl ?_
    refine jw_iload hC dX5_pressesPoint_57 0 rfl ?_
    refine jw_callV hC (c_X5_isReadyOver l E _ hI9 _ _ ⟨by omega, by omega⟩ ⟨by omega, by omega⟩) sV_X5_84 ewF_m0.o dX5_pressesPoint_59 rfl rfl ⟨Nat.le_of_ble_eq_true rfl, Nat.le_of_ble_eq_true rfl⟩ ⟨Nat.zero_le _, Nat.zero_le _⟩ (Nat.le_of_ble_eq_true rfl) (fun v59 M59 g59 => ?_)
    obtain ⟨rfl, rfl⟩ := g59
    rw [show 12 * (p / 12) + p % 12 = p by omega, hS9]
    have hov : (if f_ov (vS (M 89)) p then (1 : Int) else 0) = 0 ∨ (if f_ov (vS (M 89)) p then (1 : Int) else 0) = 1 := by split <;> omega
    refine jw_if_eq (tgt := 75) hC dX5_pressesPoint_62 (by decide) (by omega) (by omega) (fun h62 => ?_) (fun h62 => ?_)
    · skip
      have hov9 : ¬ f_ov (vS (M 89)) p := fun z => by rw [if_pos z] at h62; omega
      refine jw_aload_n hC dX5_pressesPoint_75 2 rfl rfl ?_
      refine jw_getr hC fL_X5_7 ewR_m1 dX5_pressesPoint_76 ?_
      refine jw_sipush hC dX5_pressesPoint_79 (by decide) ?_
      refine jw_iload_n hC dX5_pressesPoint_82 3 rfl rfl ?_
      refine jw_iadd hC dX5_pressesPoint_83 ?_
      refine jw_iald hC ewA_89 dX5_pressesPoint_84 (by omega) (by omega) (by decide) (fun b84 c84 => ?_)
      rw [mu_nk _ _ _ (show 235 + p ≠ 91 + p by omega)] at b84 c84 ⊢
      refine jw_iast hC ewA_89 dX5_pressesPoint_85 (by omega) (by omega) (by decide) (by omega) (by omega) ?_
      refine jw_aload_n hC dX5_pressesPoint_86 2 rfl rfl ?_
      refine jw_getr hC fL_X5_7 ewR_m1 dX5_pressesPoint_87 ?_
      refine jw_sipush hC dX5_pressesPoint_90 (by decide) ?_
      refine jw_iload_n hC dX5_pressesPoint_93 3 rfl rfl ?_
      refine jw_iadd hC dX5_pressesPoint_94 ?_
      refine jw_dup2 hC dX5_pressesPoint_95 ?_
      refine jw_iald hC ewA_89 dX5_pressesPoint_96 (by omega) (by omega) (by decide) (fun b96 c96 => ?_)
      rw [mu_nk _ _ _ (show 523 + p ≠ 235 + p by omega), mu_nk _ _ _ (show 523 + p ≠ 91 + p by omega)] at b96 c96 ⊢
      refine jw_iconst hC dX5_pressesPoint_97 ?_
      refine jw_iadd hC dX5_pressesPoint_98 ?_
      refine jw_iastw hC ewA_89 dX5_pressesPoint_99 (by omega) (by omega) (by decide)  ?_
      refine jw_vret hC dX5_pressesPoint_100 ?_
      refine ⟨rfl, fun i => ?_, fun o o1 => by rw [mu_ne _ _ _ o1, mu_ne _ _ _ o1, mu_ne _ _ _ o1]⟩
      by_cases i1 : i = 523 + p
      · subst i1
        rw [mu_eq, if_neg (by omega), if_neg (by omega), if_pos rfl]
      · rw [mu_nk _ _ _ i1]
        by_cases i2 : i = 235 + p
        · subst i2
          rw [mu_eq, if_neg (by omega), if_pos rfl]
          first
          | rw [if_pos hov9]
          | rw [if_neg hov9]
        · rw [mu_nk _ _ _ i2]
          by_cases i3 : i = 91 + p
          · subst i3
            rw [mu_eq, if_pos rfl]
            omega
          · rw [mu_nk _ _ _ i3, if_neg i3, if_neg i2, if_neg i1]
    · skip
      have hov9 : f_ov (vS (M 89)) p := Decidable.by_contra (fun z => by rw [if_neg z] at h62; omega)
      refine jw_aload_n hC dX5_pressesPoint_65 2 rfl rfl ?_
      refine jw_getr hC fL_X5_7 ewR_m1 dX5_pressesPoint_66 ?_
      refine jw_bipush hC dX5_pressesPoint_69 (by decide) ?_
      refine jw_iald hC ewA_89 dX5_pressesPoint_71 (by omega) (by omega) (by decide) (fun b71 c71 => ?_)
      rw [mu_nk _ _ _ (show (8 : Int) ≠ 91 + p by omega)] at b71 c71 ⊢
      refine jw_goto (tgt := 85) hC dX5_pressesPoint_72 (by decide) ?_
      refine jw_iast hC ewA_89 dX5_pressesPoint_85 (by omega) (by omega) (by decide) (by omega) (by omega) ?_
      refine jw_aload_n hC dX5_pressesPoint_86 2 rfl rfl ?_
      refine jw_getr hC fL_X5_7 ewR_m1 dX5_pressesPoint_87 ?_
      refine jw_sipush hC dX5_pressesPoint_90 (by decide) ?_
      refine jw_iload_n hC dX5_pressesPoint_93 3 rfl rfl ?_
      refine jw_iadd hC dX5_pressesPoint_94 ?_
      refine jw_dup2 hC dX5_pressesPoint_95 ?_
      refine jw_iald hC ewA_89 dX5_pressesPoint_96 (by omega) (by omega) (by decide) (fun b96 c96 => ?_)
      rw [mu_nk _ _ _ (show 523 + p ≠ 235 + p by omega), mu_nk _ _ _ (show 523 + p ≠ 91 + p by omega)] at b96 c96 ⊢
      refine jw_iconst hC dX5_pressesPoint_97 ?_
      refine jw_iadd hC dX5_pressesPoint_98 ?_
      refine jw_iastw hC ewA_89 dX5_pressesPoint_99 (by omega) (by omega) (by decide)  ?_
      refine jw_vret hC dX5_pressesPoint_100 ?_
      refine ⟨rfl, fun i => ?_, fun o o1 => by rw [mu_ne _ _ _ o1, mu_ne _ _ _ o1, mu_ne _ _ _ o1]⟩
      by_cases i1 : i = 523 + p
      · subst i1
        rw [mu_eq, if_neg (by omega), if_neg (by omega), if_pos rfl]
      · rw [mu_nk _ _ _ i1]
        by_cases i2 : i = 235 + p
        · subst i2
          rw [mu_eq, if_neg (by omega), if_pos rfl]
          first
          | rw [if_pos hov9]
          | rw [if_neg hov9]
        · rw [mu_nk _ _ _ i2]
          by_cases i3 : i = 91 + p
          · subst i3
            rw [mu_eq, if_pos rfl]
            omega
          · rw [mu_nk _ _ _ i3, if_neg i3, if_neg i2, if_neg i1]
