/-! THE REFERENCE: what would be -/
theorem f_rsn_0 {r : Int → Int} {l t d : Int} (h : f_rsn r l t d = 0) : f_off r l t 25 = false := by
  unfold f_rsn at h
  cases ho : f_off r l t 25 with
  | false => rfl
  | true => rw [ho, if_pos rfl] at h; omega
def m_ans (f r : Int → Int) (x y : Int) : Int := f_ans r (x + f 4) y (vD f) (vC f) (f 0) (f 1) (f 2)
theorem m_ans_b {f : Int → Int} (h : svI f) (r : Int → Int) (x y : Int) : 0 ≤ m_ans f r x y ∧ m_ans f r x y ≤ 244 := by
  have h1 := f_rsn_b r (x + f 4) y (f 2)
  have h2 := f_cks_b (r := r) (left := x + f 4) (top := y) (d := vD f) (c := vC f) (b := f 0) (t := f 1) h.2.1
  unfold m_ans f_ans
  split <;> omega
theorem f_fl_fr (fc : Int → Int) : ∀ n : Nat, f_fl fc n = fc (f_fr fc n) := by
  intro n
  induction n with
  | zero => rfl
  | succ n ih =>
    rw [f_fl, f_fr]
    split
    · rfl
    · exact ih
/-- the worlds that the looks of the reference leave: all but aside and breaks -/
def mk (M M1 : ewM) : Prop := ∀ o : Nat, o ≠ 90 → o ≠ 95 → M1 o = M o
theorem mk_tr {M M1 M2 : ewM} (h : mk M M1) (h2 : mk M1 M2) : mk M M2 := fun o o1 o2 => (h2 o o1 o2).trans (h o o1 o2)
set_option maxRecDepth 100000 in
set_option maxHeartbeats 4000000 in
theorem c_X5_putAside (l : Launch) (E : ewE) (M : ewM)  : Ct l E yX5_putAside (.code yX5_putAside cX5_putAside 2 none) 1 [vR E 88] M (fun v M1 => v = none ∧ M1 = mset M 90 (M 89)) := by
  refine ct_of (L0 := [(0, vR E 88)]) (by decide +kernel) rfl (Nat.le_of_ble_eq_true rfl) ?_
  intro zp ze zs zm za zb zt zc zA hC
  have K2 : ∀ (n : Nat) (k : Int) (g : Int → Int), 667 - k < n → 0 ≤ k → k ≤ 667 → (∀ q : Int, 0 ≤ q → q < k → g q = M 89 q) → jJ zp l ze (ct_rm 1) zs zm za zb zt zc E zA 2 0 0 (MQ zb (ct_Q E zA (fun v M1 => v = none ∧ M1 = mset M 90 (M 89))) za zs 0 0 zA) 2 [(0, vR E 88), (1, vI k)] [] (mset M 90 g) := by
    intro n
    induction n with
    | zero => intros; omega
    | succ n ih =>
      intro k g i1 i2 i3 hg
      refine jw_iload_n hC dX5_putAside_2 1 rfl rfl ?_
      refine jw_sipush hC dX5_putAside_3 (by decide) ?_
      refine jw_icmp_ge (tgt := 27) hC dX5_putAside_6 (by decide) (by omega) (by omega) (by omega) (by omega) (fun h6 => ?_) (fun h6 => ?_)
      · skip
        refine jw_S (fun hS => ?_)
        refine jw_ext ewA_90 (g := M 89) (fun q q1 q2 => by rw [mset_at]; exact hg q q1 (by omega)) (fun q => by have := hS 89 q (by decide) (by omega); rwa [mset_ne _ _ (by decide)] at this) ?_
        refine jw_vret hC dX5_putAside_27 ?_
        exact ⟨rfl, mset_set _ _ _ _⟩
      · skip
        refine jw_aload_n hC dX5_putAside_9 0 rfl rfl ?_
        refine jw_getr hC fL_X5_13 ewR_m2 dX5_putAside_10 ?_
        refine jw_iload_n hC dX5_putAside_13 1 rfl rfl ?_
        refine jw_aload_n hC dX5_putAside_14 0 rfl rfl ?_
        refine jw_getr hC fL_X5_7 ewR_m1 dX5_putAside_15 ?_
        refine jw_iload_n hC dX5_putAside_18 1 rfl rfl ?_
        refine jw_iald hC ewA_89 dX5_putAside_19 (by omega) (by omega) (by decide) (fun b19 c19 => ?_)
        rw [mset_ne M g (by decide)] at b19 c19 ⊢
        refine jw_iast hC ewA_90 dX5_putAside_20 (by omega) (by omega) (by decide) (by omega) (by omega) ?_
        refine jw_iinc (L' := [(1, _), (0, _)]) hC dX5_putAside_21 1 rfl (by decide) rfl ?_
        refine jw_goto (tgt := 2) hC dX5_putAside_24 (by decide) ?_
        refine jw_loc (L' := [(0, _), (1, _)]) [1, 0] rfl ?_
        refine jw_M (mu_mset _ _ _ _ _) ?_
        exact ih _ _ (by omega) (by omega) (by omega) (fun q q1 q2 => by
          by_cases hq : q = k
          · rw [if_pos hq, hq]
          · rw [if_neg hq]; exact hg q q1 (by omega))
  refine jw_iconst hC dX5_putAside_0 ?_
  refine jw_istore_n (L' := [(1, _), (0, _)]) hC dX5_putAside_1 rfl (by decide) rfl ?_
  refine jw_loc (L' := [(0, _), (1, _)]) [1, 0] rfl ?_
  refine jw_M (M2 := mset M 90 (M 90)) (mset_id (fun _ => rfl)).symm ?_
  exact K2 668 0 _ (by omega) (by omega) (by omega) (fun q q1 q2 => by omega)
set_option maxRecDepth 100000 in
set_option maxHeartbeats 4000000 in
theorem c_X5_takeBack (l : Launch) (E : ewE) (M : ewM)  : Ct l E yX5_takeBack (.code yX5_takeBack cX5_takeBack 2 none) 1 [vR E 88] M (fun v M1 => v = none ∧ M1 = mset M 89 (M 90)) := by
  refine ct_of (L0 := [(0, vR E 88)]) (by decide +kernel) rfl (Nat.le_of_ble_eq_true rfl) ?_
  intro zp ze zs zm za zb zt zc zA hC
  have K2 : ∀ (n : Nat) (k : Int) (g : Int → Int), 667 - k < n → 0 ≤ k → k ≤ 667 → (∀ q : Int, 0 ≤ q → q < k → g q = M 90 q) → jJ zp l ze (ct_rm 1) zs zm za zb zt zc E zA 2 0 0 (MQ zb (ct_Q E zA (fun v M1 => v = none ∧ M1 = mset M 89 (M 90))) za zs 0 0 zA) 2 [(0, vR E 88), (1, vI k)] [] (mset M 89 g) := by
    intro n
    induction n with
    | zero => intros; omega
    | succ n ih =>
      intro k g i1 i2 i3 hg
      refine jw_iload_n hC dX5_takeBack_2 1 rfl rfl ?_
      refine jw_sipush hC dX5_takeBack_3 (by decide) ?_
      refine jw_icmp_ge (tgt := 27) hC dX5_takeBack_6 (by decide) (by omega) (by omega) (by omega) (by omega) (fun h6 => ?_) (fun h6 => ?_)
      · skip
        refine jw_S (fun hS => ?_)
        refine jw_ext ewA_89 (g := M 90) (fun q q1 q2 => by rw [mset_at]; exact hg q q1 (by omega)) (fun q => by have := hS 90 q (by decide) (by omega); rwa [mset_ne _ _ (by decide)] at this) ?_
        refine jw_vret hC dX5_takeBack_27 ?_
        exact ⟨rfl, mset_set _ _ _ _⟩
      · skip
        refine jw_aload_n hC dX5_takeBack_9 0 rfl rfl ?_
        refine jw_getr hC fL_X5_7 ewR_m1 dX5_takeBack_10 ?_
        refine jw_iload_n hC dX5_takeBack_13 1 rfl rfl ?_
        refine jw_aload_n hC dX5_takeBack_14 0 rfl rfl ?_
        refine jw_getr hC fL_X5_13 ewR_m2 dX5_takeBack_15 ?_
        refine jw_iload_n hC dX5_takeBack_18 1 rfl rfl ?_
        refine jw_iald hC ewA_90 dX5_takeBack_19 (by omega) (by omega) (by decide) (fun b19 c19 => ?_)
        rw [mset_ne M g (by decide)] at b19 c19 ⊢
        refine jw_iast hC ewA_89 dX5_takeBack_20 (by omega) (by omega) (by decide) (by omega) (by omega) ?_
        refine jw_iinc (L' := [(1, _), (0, _)]) hC dX5_takeBack_21 1 rfl (by decide) rfl ?_
        refine jw_goto (tgt := 2) hC dX5_takeBack_24 (by decide) ?_
        refine jw_loc (L' := [(0, _), (1, _)]) [1, 0] rfl ?_
        refine jw_M (mu_mset _ _ _ _ _) ?_
        exact ih _ _ (by omega) (by omega) (by omega) (fun q q1 q2 => by
          by_cases hq : q = k
          · rw [if_pos hq, hq]
          · rw [if_neg hq]; exact hg q q1 (by omega))
  refine jw_iconst hC dX5_takeBack_0 ?_
  refine jw_istore_n (L' := [(1, _), (0, _)]) hC dX5_takeBack_1 rfl (by decide) rfl ?_
  refine jw_loc (L' := [(0, _), (1, _)]) [1, 0] rfl ?_
  refine jw_M (M2 := mset M 89 (M 89)) (mset_id (fun _ => rfl)).symm ?_
  exact K2 668 0 _ (by omega) (by omega) (by omega) (fun q q1 q2 => by omega)
set_option maxRecDepth 100000 in
set_option maxHeartbeats 4000000 in
theorem c_X5_would (l : Launch) (E : ewE) (M : ewM) (h0 : svI (M 89)) (a : Int) (ha : 0 ≤ a ∧ a < 3) (x y : Int) (x1 : -2147483648 ≤ x) (x2 : x < 2147483648) (y1 : -2147483648 ≤ y) (y2 : y < 2147483648) (t : Int) (ht : 0 ≤ t ∧ t < 8) : Ct l E yX5_would (.code yX5_would cX5_would 7 (some .int)) 7 [vR E 88, vI a, vI x, vI y, vI t] M (fun v M1 => v = some (vI (m_ans (M 89) (f_rel (vQ (M 89)) a t) x y)) ∧ mk M M1) := by
  refine ct_of (L0 := [(0, vR E 88), (1, vI a), (2, vI x), (3, vI y), (4, vI t)]) (by decide +kernel) rfl (Nat.le_of_ble_eq_true rfl) ?_
  intro zp ze zs zm za zb zt zc zA hC
  obtain ⟨p1, p2, p3, p4, p5, p6, p7, p8, p9, pf⟩ := id h0
  refine jw_aload_n hC dX5_would_0 0 rfl rfl ?_
  refine jw_iload_n hC dX5_would_1 1 rfl rfl ?_
  refine jw_iload_n hC dX5_would_2 2 rfl rfl ?_
  refine jw_iload_n hC dX5_would_3 3 rfl rfl ?_
  refine jw_iload hC dX5_would_4 4 rfl ?_
  refine jw_callV hC (c_X5_reason l E M h0 _ ha _ _ (by omega) (by omega) (by omega) (by omega) _ ht) sV_X5_113 ewF_m0.o dX5_would_6 rfl rfl ⟨Nat.le_of_ble_eq_true rfl, Nat.le_of_ble_eq_true rfl⟩ ⟨Nat.zero_le _, Nat.zero_le _⟩ (Nat.le_of_ble_eq_true rfl) (fun v6 M6 g6 => ?_)
  obtain ⟨rfl, rfl⟩ := g6
  have hrb := f_rsn_b (f_rel (vQ (M 89)) a t) (x + M 89 4) y (M 89 2)
  refine jw_istore (L' := [(5, _), (0, _), (1, _), (2, _), (3, _), (4, _)]) hC dX5_would_9 (by decide) rfl ?_
  refine jw_iload hC dX5_would_11 0 rfl ?_
  refine jw_if_le (tgt := 19) hC dX5_would_13 (by decide) (by omega) (by omega) (fun h13 => ?_) (fun h13 => ?_)
  · skip
    refine jw_aload_n hC dX5_would_19 1 rfl rfl ?_
    refine jw_callV hC (c_X5_putAside l E M) sV_X5_165 ewF_m0.o dX5_would_20 rfl rfl ⟨Nat.le_of_ble_eq_true rfl, Nat.le_of_ble_eq_true rfl⟩ ⟨Nat.zero_le _, Nat.zero_le _⟩ (Nat.le_of_ble_eq_true rfl) (fun v20 M20 g20 => ?_)
    obtain ⟨rfl, hM20⟩ := g20
    have e89 : M20 89 = M 89 := by rw [hM20, mset_ne _ _ (by decide)]
    refine jw_bipush hC dX5_would_23 (by decide) ?_
    refine jw_aload_n hC dX5_would_25 1 rfl rfl ?_
    refine jw_iload_n hC dX5_would_26 2 rfl rfl ?_
    refine jw_iload_n hC dX5_would_27 3 rfl rfl ?_
    refine jw_iload_n hC dX5_would_28 4 rfl rfl ?_
    refine jw_iload hC dX5_would_29 5 rfl ?_
    refine jw_callV hC (c_X5_presses l E M20 (by rw [e89]; exact h0) _ ha _ _ (by omega) (by omega) (by omega) (by omega) _ ht (by rw [e89]; exact f_rsn_0 (d := M 89 2) (by omega))) sV_X5_116 ewF_m0.o dX5_would_31 rfl rfl ⟨Nat.le_of_ble_eq_true rfl, Nat.le_of_ble_eq_true rfl⟩ ⟨Nat.zero_le _, Nat.zero_le _⟩ (Nat.le_of_ble_eq_true rfl) (fun v31 M31 g31 => ?_)
    obtain ⟨rfl, -, -, -, -, -, -, -, q9⟩ := g31
    rw [e89]
    have hck9 : f_cks (f_rel (vQ (M 89)) a t) (x + M 89 4) y (vD (M 89)) (vC (M 89)) (M 89 0) (M 89 1) = f_cks (f_rel (vQ (M 89)) a t) (x + M 89 4) y (vD (M 89)) (vC (M 89)) (M 89 0) (M 89 1) := rfl
    refine jw_iadd hC dX5_would_34 ?_
    refine jw_istore (L' := [(6, _), (5, _), (0, _), (1, _), (2, _), (3, _), (4, _)]) hC dX5_would_35 (by decide) rfl ?_
    refine jw_aload_n hC dX5_would_37 2 rfl rfl ?_
    refine jw_callV hC (c_X5_takeBack l E _) sV_X5_168 ewF_m0.o dX5_would_38 rfl rfl ⟨Nat.le_of_ble_eq_true rfl, Nat.le_of_ble_eq_true rfl⟩ ⟨Nat.zero_le _, Nat.zero_le _⟩ (Nat.le_of_ble_eq_true rfl) (fun v38 M38 g38 => ?_)
    obtain ⟨rfl, rfl⟩ := g38
    refine jw_iload hC dX5_would_41 0 rfl ?_
    refine jw_iret hC dX5_would_43 ?_
    first
    | (refine ⟨?_, fun o _ _ => rfl⟩
       unfold m_ans f_ans
       rw [if_neg (by omega)])
    | (refine ⟨?_, fun o o1 o2 => ?_⟩
       · unfold m_ans f_ans
         rw [if_pos (by omega), hck9]
       · by_cases o9 : o = 89
         · rw [o9, mset_at, q9 90 (by decide) (by decide), hM20, mset_at]
         · rw [mset_ne _ _ o9, q9 o o9 o2, hM20, mset_ne _ _ o1])
  · skip
    refine jw_iload hC dX5_would_16 0 rfl ?_
    refine jw_iret hC dX5_would_18 ?_
    first
    | (refine ⟨?_, fun o _ _ => rfl⟩
       unfold m_ans f_ans
       rw [if_neg (by omega)])
    | (refine ⟨?_, fun o o1 o2 => ?_⟩
       · unfold m_ans f_ans
         rw [if_pos (by omega), hck9]
       · by_cases o9 : o = 89
         · rw [o9, mset_at, q9 90 (by decide) (by decide), hM20, mset_at]
         · rw [mset_ne _ _ o9, q9 o o9 o2, hM20, mset_ne _ _ o1])
set_option maxRecDepth 100000 in
set_option maxHeartbeats 4000000 in
theorem c_X5_folds (l : Launch) (E : ewE) (M : ewM) (h0 : svI (M 89)) (row : Int) (hrow : 1 ≤ row ∧ row < 12) : Ct l E yX5_folds (.code yX5_folds cX5_folds 6 (some .int)) 6 [vR E 88, vI row] M (fun v M1 => v = some (vI (f_fc (vD (M 89)) (vC (M 89)) row (M 89 0) (M 89 1))) ∧ vC (M1 89) = f_it (vD (M 89)) (M 89 0) (M 89 1) (f_brk (f_ovf (vD (M 89)) (vC (M 89)) row (M 89 0) (M 89 1)) (vC (M 89))) 144 ∧ vD (M1 89) = vD (M 89) ∧ vF (M1 89) = vF (M 89) ∧ vP (M1 89) = vP (M 89) ∧ vQ (M1 89) = vQ (M 89) ∧ (∀ k : Int, 0 ≤ k → k < 4 → M1 89 k = M 89 k) ∧ (∀ k : Int, vS (M1 89) k = if k = 7 then wr (M 89 13 + f_fc (vD (M 89)) (vC (M 89)) row (M 89 0) (M 89 1)) else if k = 9 then wr (M 89 15 + 1) else vS (M 89) k) ∧ ∀ o, o ≠ 89 → o ≠ 95 → M1 o = M o) := by
  refine ct_of (L0 := [(0, vR E 88), (1, vI row)]) (by decide +kernel) rfl (Nat.le_of_ble_eq_true rfl) ?_
  intro zp ze zs zm za zb zt zc zA hC
  obtain ⟨p1, p2, p3, p4, p5, p6, p7, p8, p9, pf⟩ := id h0
  have K2 : ∀ (n : Nat) (k : Int) (M1 : ewM), 144 - k < n → 0 ≤ k → k ≤ 144 → (∀ q : Int, 0 ≤ q → q < k → M1 95 q = f_ind (f_ovf (vD (M 89)) (vC (M 89)) row (M 89 0) (M 89 1)) q) → (∀ o, o ≠ 95 → M1 o = M o) → jJ zp l ze (ct_rm 6) zs zm za zb zt zc E zA 6 0 0 (MQ zb (ct_Q E zA (fun v M1 => v = some (vI (f_fc (vD (M 89)) (vC (M 89)) row (M 89 0) (M 89 1))) ∧ vC (M1 89) = f_it (vD (M 89)) (M 89 0) (M 89 1) (f_brk (f_ovf (vD (M 89)) (vC (M 89)) row (M 89 0) (M 89 1)) (vC (M 89))) 144 ∧ vD (M1 89) = vD (M 89) ∧ vF (M1 89) = vF (M 89) ∧ vP (M1 89) = vP (M 89) ∧ vQ (M1 89) = vQ (M 89) ∧ (∀ k : Int, 0 ≤ k → k < 4 → M1 89 k = M 89 k) ∧ (∀ k : Int, vS (M1 89) k = if k = 7 then wr (M 89 13 + f_fc (vD (M 89)) (vC (M 89)) row (M 89 0) (M 89 1)) else if k = 9 then wr (M 89 15 + 1) else vS (M 89) k) ∧ ∀ o, o ≠ 89 → o ≠ 95 → M1 o = M o)) za zs 0 0 zA) 2 [(0, vR E 88), (1, vI row), (2, vI k)] [] M1 := by
    intro n
    induction n with
    | zero => intros; omega
    | succ n ih =>
      intro k M1 i1 i2 i3 g1 g2
      refine jw_iload_n hC dX5_folds_2 2 rfl rfl ?_
      refine jw_sipush hC dX5_folds_3 (by decide) ?_
      refine jw_icmp_ge (tgt := 103) hC dX5_folds_6 (by decide) (by omega) (by omega) (by omega) (by omega) (fun h6 => ?_) (fun h6 => ?_)
      · skip
        refine jw_aload_n hC dX5_folds_103 0 rfl rfl ?_
        refine jw_callV hC (c_X5_cracksNow l E M1 (f_ovf (vD (M 89)) (vC (M 89)) row (M 89 0) (M 89 1)) (fun q q0 q1 => g1 q q0 (by omega))) sV_X5_73 ewF_m0.o dX5_folds_104 rfl rfl ⟨Nat.le_of_ble_eq_true rfl, Nat.le_of_ble_eq_true rfl⟩ ⟨Nat.zero_le _, Nat.zero_le _⟩ (Nat.le_of_ble_eq_true rfl) (fun v104 M104 g104 => ?_)
        obtain ⟨rfl, z1, z2, z3⟩ := g104
        rw [g2 89 (by decide)] at z1 z2
        have hsb := f_brk_sum (P := f_ovf (vD (M 89)) (vC (M 89)) row (M 89 0) (M 89 1)) (c := vC (M 89)) (fun q _ _ h => by unfold f_ovf at h; simp only [Bool.and_eq_true, decide_eq_true_eq] at h; exact h.1)
        refine jw_istore_n (L' := [(2, _), (0, _), (1, _)]) hC dX5_folds_107 rfl (by decide) rfl ?_
        refine jw_iload_n hC dX5_folds_108 0 rfl rfl ?_
        refine jw_aload_n hC dX5_folds_109 1 rfl rfl ?_
        refine jw_callV hC (c_X5_cracksAll l E _ (sv_c z2 h0 (by rw [z1]; exact f_brk_C p2))) sV_X5_91 ewF_m0.o dX5_folds_110 rfl rfl ⟨Nat.le_of_ble_eq_true rfl, Nat.le_of_ble_eq_true rfl⟩ ⟨Nat.zero_le _, Nat.zero_le _⟩ (Nat.le_of_ble_eq_true rfl) (fun v110 M110 g110 => ?_)
        obtain ⟨rfl, r1, r2, r3⟩ := g110
        rw [z1, (sv_o z2).1, z2 0 (by omega), z2 1 (by omega)] at r1
        rw [z1, (sv_o z2).1, z2 0 (by omega), z2 1 (by omega)]
        have hfc : f_sum (f_ind (f_ovf (vD (M 89)) (vC (M 89)) row (M 89 0) (M 89 1))) 144 + (f_sum (f_it (vD (M 89)) (M 89 0) (M 89 1) (f_brk (f_ovf (vD (M 89)) (vC (M 89)) row (M 89 0) (M 89 1)) (vC (M 89))) 144) 144 - f_sum (f_brk (f_ovf (vD (M 89)) (vC (M 89)) row (M 89 0) (M 89 1)) (vC (M 89))) 144) = f_fc (vD (M 89)) (vC (M 89)) row (M 89 0) (M 89 1) := by
          unfold f_fc
          omega
        refine jw_iadd hC dX5_folds_113 ?_
        rw [hfc]
        refine jw_istore_n (L' := [(2, _), (0, _), (1, _)]) hC dX5_folds_114 rfl (by decide) rfl ?_
        refine jw_aload_n hC dX5_folds_115 1 rfl rfl ?_
        refine jw_getr hC fL_X5_7 ewR_m1 dX5_folds_116 ?_
        refine jw_bipush hC dX5_folds_119 (by decide) ?_
        refine jw_dup2 hC dX5_folds_121 ?_
        refine jw_iald hC ewA_89 dX5_folds_122 (by omega) (by omega) (by decide) (fun b122 c122 => ?_)
        rw [r2 13 (by omega), z2 13 (by omega)] at b122 c122 ⊢
        refine jw_iload_n hC dX5_folds_123 0 rfl rfl ?_
        refine jw_iadd hC dX5_folds_124 ?_
        refine jw_iastw hC ewA_89 dX5_folds_125 (by omega) (by omega) (by decide)  ?_
        refine jw_aload_n hC dX5_folds_126 1 rfl rfl ?_
        refine jw_getr hC fL_X5_7 ewR_m1 dX5_folds_127 ?_
        refine jw_bipush hC dX5_folds_130 (by decide) ?_
        refine jw_dup2 hC dX5_folds_132 ?_
        refine jw_iald hC ewA_89 dX5_folds_133 (by omega) (by omega) (by decide) (fun b133 c133 => ?_)
        rw [mu_nk _ _ _ (by decide), r2 15 (by omega), z2 15 (by omega)] at b133 c133 ⊢
        refine jw_iconst hC dX5_folds_134 ?_
        refine jw_iadd hC dX5_folds_135 ?_
        refine jw_iastw hC ewA_89 dX5_folds_136 (by omega) (by omega) (by decide)  ?_
        refine jw_iload_n hC dX5_folds_137 0 rfl rfl ?_
        refine jw_iret hC dX5_folds_138 ?_
        have sf : sv_fr 379 144 (M 89) (M110 89) := fun i hi => (r2 i hi).trans (z2 i hi)
        obtain ⟨s1, s2, s3, s4, s5, s6⟩ := sv_o sf
        have u0 : ∀ i : Int, i ≠ 13 → i ≠ 15 → mu (mu M110 89 13 (wr (M 89 13 + f_fc (vD (M 89)) (vC (M 89)) row (M 89 0) (M 89 1)))) 89 15 (wr (M 89 15 + 1)) 89 i = M110 89 i := fun i i1 i2 => by rw [mu_nk _ _ _ i2, mu_nk _ _ _ i1]
        obtain ⟨e1, e2, e3, e4, e5⟩ := sv_hi (f := M110 89) (g := mu (mu M110 89 13 (wr (M 89 13 + f_fc (vD (M 89)) (vC (M 89)) row (M 89 0) (M 89 1)))) 89 15 (wr (M 89 15 + 1)) 89) (fun i hi => u0 i (by omega) (by omega))
        refine ⟨rfl, ?_, ?_, ?_, ?_, ?_, fun k k0 k4 => ?_, fun k => ?_, fun o o1 o2 => ?_⟩
        · rw [e3, r1]
        · rw [e1, s1]
        · rw [e2, s2]
        · rw [e4, s3]
        · rw [e5, s4]
        · rw [u0 k (by omega) (by omega), sf k (by omega)]
        · have v13 : mu (mu M110 89 13 (wr (M 89 13 + f_fc (vD (M 89)) (vC (M 89)) row (M 89 0) (M 89 1)))) 89 15 (wr (M 89 15 + 1)) 89 13 = wr (M 89 13 + f_fc (vD (M 89)) (vC (M 89)) row (M 89 0) (M 89 1)) := by rw [mu_nk _ _ _ (by decide), mu_eq]
          have v15 : mu (mu M110 89 13 (wr (M 89 13 + f_fc (vD (M 89)) (vC (M 89)) row (M 89 0) (M 89 1)))) 89 15 (wr (M 89 15 + 1)) 89 15 = wr (M 89 15 + 1) := mu_eq _ _ _ _
          by_cases k7 : k = 7
          · subst k7; exact v13
          · by_cases k9 : k = 9
            · subst k9; exact v15
            · rw [if_neg k7, if_neg k9, ← s6]
              unfold vS
              simp only [if_neg k7, if_neg k9]
              rw [u0 4 (by decide) (by decide), u0 6 (by decide) (by decide), u0 5 (by decide) (by decide), u0 7 (by decide) (by decide), u0 14 (by decide) (by decide), u0 8 (by decide) (by decide), u0 9 (by decide) (by decide), u0 10 (by decide) (by decide), u0 11 (by decide) (by decide), u0 12 (by decide) (by decide)]
        · rw [mu_ne _ _ _ o1, mu_ne _ _ _ o1, r3 o o1 o2, z3 o o1]; exact g2 o o2
      · skip
        refine jw_iload_n hC dX5_folds_9 2 rfl rfl ?_
        refine jw_bipush hC dX5_folds_10 (by decide) ?_
        refine jw_irem hC dX5_folds_12 (by omega) (by omega) (by omega) (by omega) ?_
        refine jw_istore_n (L' := [(3, _), (0, _), (1, _), (2, _)]) hC dX5_folds_13 rfl (by decide) rfl ?_
        refine jw_iload_n hC dX5_folds_14 3 rfl rfl ?_
        refine jw_bipush hC dX5_folds_15 (by decide) ?_
        refine jw_idiv hC dX5_folds_17 (by omega) (by omega) (by omega) (by omega) ?_
        refine jw_istore (L' := [(4, _), (3, _), (0, _), (1, _), (2, _)]) hC dX5_folds_18 (by decide) rfl ?_
        refine jw_iload hC dX5_folds_20 0 rfl ?_
        refine jw_iload_n hC dX5_folds_22 3 rfl rfl ?_
        refine jw_icmp_eq (tgt := 34) hC dX5_folds_23 (by decide) (by omega) (by omega) (by omega) (by omega) (fun h23 => ?_) (fun h23 => ?_)
        · skip
          refine jw_iconst hC dX5_folds_34 ?_
          refine jw_goto (tgt := 39) hC dX5_folds_35 (by decide) ?_
          refine jw_istore (L' := [(5, _), (4, _), (3, _), (0, _), (1, _), (2, _)]) hC dX5_folds_39 (by decide) rfl ?_
          refine jw_aload_n hC dX5_folds_41 3 rfl rfl ?_
          refine jw_getr hC fL_X5_29 ewR_m9 dX5_folds_42 ?_
          refine jw_iload_n hC dX5_folds_45 5 rfl rfl ?_
          refine jw_iload hC dX5_folds_46 0 rfl ?_
          refine jw_if_eq (tgt := 95) hC dX5_folds_48 (by decide) (by omega) (by omega) (fun h48 => ?_) (fun h48 => ?_)
          · skip
            refine jw_iconst hC dX5_folds_95 ?_
            refine jw_zast hC ewA_95 dX5_folds_96 (by omega) (by omega) (by decide) (by omega) ?_
            refine jw_iinc (L' := [(2, _), (5, _), (4, _), (3, _), (0, _), (1, _)]) hC dX5_folds_97 5 rfl (by decide) rfl ?_
            refine jw_goto (tgt := 2) hC dX5_folds_100 (by decide) ?_
            refine jw_loc (L' := [(0, _), (1, _), (2, _)]) [4, 5, 0] rfl ?_
            refine ih _ _ (by omega) (by omega) (by omega) (fun q q0 q1 => ?_) (fun o o1 => by rw [mu_ne _ _ _ o1]; exact g2 o o1)
            by_cases hq : q = k
            · subst hq
              rw [mu_eq]
              unfold f_ind f_ovf
              first
              | (exfalso; omega)
              | rw [if_pos (by simp; omega)]
              | rw [if_neg (by simp; omega)]
            · rw [mu_nk _ _ _ hq]; exact g1 q q0 (by omega)
          · skip
            refine jw_aload_n hC dX5_folds_51 3 rfl rfl ?_
            refine jw_iload_n hC dX5_folds_52 2 rfl rfl ?_
            refine jw_iload hC dX5_folds_53 1 rfl ?_
            refine jw_callV hC (c_X5_isCracked l E M1 (by rw [g2 89 (by decide)]; exact h0) _ _ ⟨by omega, by omega⟩ ⟨by omega, by omega⟩) sV_X5_64 ewF_m0.o dX5_folds_55 rfl rfl ⟨Nat.le_of_ble_eq_true rfl, Nat.le_of_ble_eq_true rfl⟩ ⟨Nat.zero_le _, Nat.zero_le _⟩ (Nat.le_of_ble_eq_true rfl) (fun v55 M55 g55 => ?_)
            obtain ⟨rfl, rfl⟩ := g55
            rw [g2 89 (by decide), show 12 * (k / 12) + k % 12 = k by omega]
            have hck := p2 k
            refine jw_if_ne (tgt := 95) hC dX5_folds_58 (by decide) (by omega) (by omega) (fun h58 => ?_) (fun h58 => ?_)
            · skip
              refine jw_iconst hC dX5_folds_95 ?_
              refine jw_zast hC ewA_95 dX5_folds_96 (by omega) (by omega) (by decide) (by omega) ?_
              refine jw_iinc (L' := [(2, _), (5, _), (4, _), (3, _), (0, _), (1, _)]) hC dX5_folds_97 5 rfl (by decide) rfl ?_
              refine jw_goto (tgt := 2) hC dX5_folds_100 (by decide) ?_
              refine jw_loc (L' := [(0, _), (1, _), (2, _)]) [4, 5, 0] rfl ?_
              refine ih _ _ (by omega) (by omega) (by omega) (fun q q0 q1 => ?_) (fun o o1 => by rw [mu_ne _ _ _ o1]; exact g2 o o1)
              by_cases hq : q = k
              · subst hq
                rw [mu_eq]
                unfold f_ind f_ovf
                first
                | (exfalso; omega)
                | rw [if_pos (by simp; omega)]
                | rw [if_neg (by simp; omega)]
              · rw [mu_nk _ _ _ hq]; exact g1 q q0 (by omega)
            · skip
              refine jw_aload_n hC dX5_folds_61 3 rfl rfl ?_
              refine jw_iload_n hC dX5_folds_62 2 rfl rfl ?_
              refine jw_iload_n hC dX5_folds_63 4 rfl rfl ?_
              refine jw_callV hC (c_X5_depth l E M1 (by rw [g2 89 (by decide)]; exact h0) _ _ ⟨by omega, by omega⟩ ⟨by omega, by omega⟩) sV_X5_57 ewF_m0.o dX5_folds_64 rfl rfl ⟨Nat.le_of_ble_eq_true rfl, Nat.le_of_ble_eq_true rfl⟩ ⟨Nat.zero_le _, Nat.zero_le _⟩ (Nat.le_of_ble_eq_true rfl) (fun v64 M64 g64 => ?_)
              obtain ⟨rfl, rfl⟩ := g64
              rw [g2 89 (by decide)]
              refine jw_aload_n hC dX5_folds_67 3 rfl rfl ?_
              refine jw_iload_n hC dX5_folds_68 2 rfl rfl ?_
              refine jw_iload_n hC dX5_folds_69 4 rfl rfl ?_
              refine jw_iconst hC dX5_folds_70 ?_
              refine jw_isub hC dX5_folds_71 ?_
              refine jw_callV hC (c_X5_depth l E M1 (by rw [g2 89 (by decide)]; exact h0) _ _ ⟨by omega, by omega⟩ ⟨by omega, by omega⟩) sV_X5_57 ewF_m0.o dX5_folds_72 rfl rfl ⟨Nat.le_of_ble_eq_true rfl, Nat.le_of_ble_eq_true rfl⟩ ⟨Nat.zero_le _, Nat.zero_le _⟩ (Nat.le_of_ble_eq_true rfl) (fun v72 M72 g72 => ?_)
              obtain ⟨rfl, rfl⟩ := g72
              rw [g2 89 (by decide)]
              refine jw_isub hC dX5_folds_75 ?_
              refine jw_callS hC (c_X5_abs l E M1 _ (by have z1 := p1 (12 * row + k % 12); have z2 := p1 (12 * (row - 1) + k % 12); omega) (by have z1 := p1 (12 * row + k % 12); have z2 := p1 (12 * (row - 1) + k % 12); omega)) sS_X5_60 dX5_folds_76 rfl rfl ⟨Nat.le_of_ble_eq_true rfl, Nat.le_of_ble_eq_true rfl⟩ ⟨Nat.zero_le _, Nat.zero_le _⟩ (Nat.le_of_ble_eq_true rfl) (fun v76 M76 g76 => ?_)
              obtain ⟨rfl, rfl⟩ := g76
              rw [show (if vD (M 89) (12 * row + k % 12) - vD (M 89) (12 * (row - 1) + k % 12) < 0 then -(vD (M 89) (12 * row + k % 12) - vD (M 89) (12 * (row - 1) + k % 12)) else vD (M 89) (12 * row + k % 12) - vD (M 89) (12 * (row - 1) + k % 12)) = f_diff (vD (M 89)) (row * 12 + k % 12) ((row - 1) * 12 + k % 12) from by rw [show 12 * row + k % 12 = row * 12 + k % 12 by omega, show 12 * (row - 1) + k % 12 = (row - 1) * 12 + k % 12 by omega]; rfl]
              have hdf := f_diff_b p1 (row * 12 + k % 12) ((row - 1) * 12 + k % 12)
              refine jw_aload_n hC dX5_folds_79 3 rfl rfl ?_
              refine jw_iload_n hC dX5_folds_80 2 rfl rfl ?_
              refine jw_iload hC dX5_folds_81 1 rfl ?_
              refine jw_callV hC (c_X5_bears l E M1 (by rw [g2 89 (by decide)]; exact h0) _ _ ⟨by omega, by omega⟩ ⟨by omega, by omega⟩) sV_X5_70 ewF_m0.o dX5_folds_83 rfl rfl ⟨Nat.le_of_ble_eq_true rfl, Nat.le_of_ble_eq_true rfl⟩ ⟨Nat.zero_le _, Nat.zero_le _⟩ (Nat.le_of_ble_eq_true rfl) (fun v83 M83 g83 => ?_)
              obtain ⟨rfl, rfl⟩ := g83
              rw [g2 89 (by decide), show 12 * (k / 12) + k % 12 = k by omega]
              have hbk := f_bear_b k p2 p4 p5
              refine jw_iconst hC dX5_folds_86 ?_
              refine jw_idiv hC dX5_folds_87 (by omega) (by omega) (by omega) (by omega) ?_
              refine jw_icmp_le (tgt := 95) hC dX5_folds_88 (by decide) (by omega) (by omega) (by omega) (by omega) (fun h88 => ?_) (fun h88 => ?_)
              · skip
                refine jw_iconst hC dX5_folds_95 ?_
                refine jw_zast hC ewA_95 dX5_folds_96 (by omega) (by omega) (by decide) (by omega) ?_
                refine jw_iinc (L' := [(2, _), (5, _), (4, _), (3, _), (0, _), (1, _)]) hC dX5_folds_97 5 rfl (by decide) rfl ?_
                refine jw_goto (tgt := 2) hC dX5_folds_100 (by decide) ?_
                refine jw_loc (L' := [(0, _), (1, _), (2, _)]) [4, 5, 0] rfl ?_
                refine ih _ _ (by omega) (by omega) (by omega) (fun q q0 q1 => ?_) (fun o o1 => by rw [mu_ne _ _ _ o1]; exact g2 o o1)
                by_cases hq : q = k
                · subst hq
                  rw [mu_eq]
                  unfold f_ind f_ovf
                  first
                  | (exfalso; omega)
                  | rw [if_pos (by simp; omega)]
                  | rw [if_neg (by simp; omega)]
                · rw [mu_nk _ _ _ hq]; exact g1 q q0 (by omega)
              · skip
                refine jw_iconst hC dX5_folds_91 ?_
                refine jw_goto (tgt := 96) hC dX5_folds_92 (by decide) ?_
                refine jw_zast hC ewA_95 dX5_folds_96 (by omega) (by omega) (by decide) (by omega) ?_
                refine jw_iinc (L' := [(2, _), (5, _), (4, _), (3, _), (0, _), (1, _)]) hC dX5_folds_97 5 rfl (by decide) rfl ?_
                refine jw_goto (tgt := 2) hC dX5_folds_100 (by decide) ?_
                refine jw_loc (L' := [(0, _), (1, _), (2, _)]) [4, 5, 0] rfl ?_
                refine ih _ _ (by omega) (by omega) (by omega) (fun q q0 q1 => ?_) (fun o o1 => by rw [mu_ne _ _ _ o1]; exact g2 o o1)
                by_cases hq : q = k
                · subst hq
                  rw [mu_eq]
                  unfold f_ind f_ovf
                  first
                  | (exfalso; omega)
                  | rw [if_pos (by simp; omega)]
                  | rw [if_neg (by simp; omega)]
                · rw [mu_nk _ _ _ hq]; exact g1 q q0 (by omega)
        · skip
          refine jw_iload hC dX5_folds_26 0 rfl ?_
          refine jw_iload_n hC dX5_folds_28 3 rfl rfl ?_
          refine jw_iconst hC dX5_folds_29 ?_
          refine jw_isub hC dX5_folds_30 ?_
          refine jw_icmp_ne (tgt := 38) hC dX5_folds_31 (by decide) (by omega) (by omega) (by omega) (by omega) (fun h31 => ?_) (fun h31 => ?_)
          · skip
            refine jw_iconst hC dX5_folds_38 ?_
            refine jw_istore (L' := [(5, _), (4, _), (3, _), (0, _), (1, _), (2, _)]) hC dX5_folds_39 (by decide) rfl ?_
            refine jw_aload_n hC dX5_folds_41 3 rfl rfl ?_
            refine jw_getr hC fL_X5_29 ewR_m9 dX5_folds_42 ?_
            refine jw_iload_n hC dX5_folds_45 5 rfl rfl ?_
            refine jw_iload hC dX5_folds_46 0 rfl ?_
            refine jw_if_eq (tgt := 95) hC dX5_folds_48 (by decide) (by omega) (by omega) (fun h48 => ?_) (fun h48 => ?_)
            · skip
              refine jw_iconst hC dX5_folds_95 ?_
              refine jw_zast hC ewA_95 dX5_folds_96 (by omega) (by omega) (by decide) (by omega) ?_
              refine jw_iinc (L' := [(2, _), (5, _), (4, _), (3, _), (0, _), (1, _)]) hC dX5_folds_97 5 rfl (by decide) rfl ?_
              refine jw_goto (tgt := 2) hC dX5_folds_100 (by decide) ?_
              refine jw_loc (L' := [(0, _), (1, _), (2, _)]) [4, 5, 0] rfl ?_
              refine ih _ _ (by omega) (by omega) (by omega) (fun q q0 q1 => ?_) (fun o o1 => by rw [mu_ne _ _ _ o1]; exact g2 o o1)
              by_cases hq : q = k
              · subst hq
                rw [mu_eq]
                unfold f_ind f_ovf
                first
                | (exfalso; omega)
                | rw [if_pos (by simp; omega)]
                | rw [if_neg (by simp; omega)]
              · rw [mu_nk _ _ _ hq]; exact g1 q q0 (by omega)
            · skip
              refine jw_aload_n hC dX5_folds_51 3 rfl rfl ?_
              refine jw_iload_n hC dX5_folds_52 2 rfl rfl ?_
              refine jw_iload hC dX5_folds_53 1 rfl ?_
              refine jw_callV hC (c_X5_isCracked l E M1 (by rw [g2 89 (by decide)]; exact h0) _ _ ⟨by omega, by omega⟩ ⟨by omega, by omega⟩) sV_X5_64 ewF_m0.o dX5_folds_55 rfl rfl ⟨Nat.le_of_ble_eq_true rfl, Nat.le_of_ble_eq_true rfl⟩ ⟨Nat.zero_le _, Nat.zero_le _⟩ (Nat.le_of_ble_eq_true rfl) (fun v55 M55 g55 => ?_)
              obtain ⟨rfl, rfl⟩ := g55
              rw [g2 89 (by decide), show 12 * (k / 12) + k % 12 = k by omega]
              have hck := p2 k
              refine jw_if_ne (tgt := 95) hC dX5_folds_58 (by decide) (by omega) (by omega) (fun h58 => ?_) (fun h58 => ?_)
              · skip
                refine jw_iconst hC dX5_folds_95 ?_
                refine jw_zast hC ewA_95 dX5_folds_96 (by omega) (by omega) (by decide) (by omega) ?_
                refine jw_iinc (L' := [(2, _), (5, _), (4, _), (3, _), (0, _), (1, _)]) hC dX5_folds_97 5 rfl (by decide) rfl ?_
                refine jw_goto (tgt := 2) hC dX5_folds_100 (by decide) ?_
                refine jw_loc (L' := [(0, _), (1, _), (2, _)]) [4, 5, 0] rfl ?_
                refine ih _ _ (by omega) (by omega) (by omega) (fun q q0 q1 => ?_) (fun o o1 => by rw [mu_ne _ _ _ o1]; exact g2 o o1)
                by_cases hq : q = k
                · subst hq
                  rw [mu_eq]
                  unfold f_ind f_ovf
                  first
                  | (exfalso; omega)
                  | rw [if_pos (by simp; omega)]
                  | rw [if_neg (by simp; omega)]
                · rw [mu_nk _ _ _ hq]; exact g1 q q0 (by omega)
              · skip
                refine jw_aload_n hC dX5_folds_61 3 rfl rfl ?_
                refine jw_iload_n hC dX5_folds_62 2 rfl rfl ?_
                refine jw_iload_n hC dX5_folds_63 4 rfl rfl ?_
                refine jw_callV hC (c_X5_depth l E M1 (by rw [g2 89 (by decide)]; exact h0) _ _ ⟨by omega, by omega⟩ ⟨by omega, by omega⟩) sV_X5_57 ewF_m0.o dX5_folds_64 rfl rfl ⟨Nat.le_of_ble_eq_true rfl, Nat.le_of_ble_eq_true rfl⟩ ⟨Nat.zero_le _, Nat.zero_le _⟩ (Nat.le_of_ble_eq_true rfl) (fun v64 M64 g64 => ?_)
                obtain ⟨rfl, rfl⟩ := g64
                rw [g2 89 (by decide)]
                refine jw_aload_n hC dX5_folds_67 3 rfl rfl ?_
                refine jw_iload_n hC dX5_folds_68 2 rfl rfl ?_
                refine jw_iload_n hC dX5_folds_69 4 rfl rfl ?_
                refine jw_iconst hC dX5_folds_70 ?_
                refine jw_isub hC dX5_folds_71 ?_
                refine jw_callV hC (c_X5_depth l E M1 (by rw [g2 89 (by decide)]; exact h0) _ _ ⟨by omega, by omega⟩ ⟨by omega, by omega⟩) sV_X5_57 ewF_m0.o dX5_folds_72 rfl rfl ⟨Nat.le_of_ble_eq_true rfl, Nat.le_of_ble_eq_true rfl⟩ ⟨Nat.zero_le _, Nat.zero_le _⟩ (Nat.le_of_ble_eq_true rfl) (fun v72 M72 g72 => ?_)
                obtain ⟨rfl, rfl⟩ := g72
                rw [g2 89 (by decide)]
                refine jw_isub hC dX5_folds_75 ?_
                refine jw_callS hC (c_X5_abs l E M1 _ (by have z1 := p1 (12 * row + k % 12); have z2 := p1 (12 * (row - 1) + k % 12); omega) (by have z1 := p1 (12 * row + k % 12); have z2 := p1 (12 * (row - 1) + k % 12); omega)) sS_X5_60 dX5_folds_76 rfl rfl ⟨Nat.le_of_ble_eq_true rfl, Nat.le_of_ble_eq_true rfl⟩ ⟨Nat.zero_le _, Nat.zero_le _⟩ (Nat.le_of_ble_eq_true rfl) (fun v76 M76 g76 => ?_)
                obtain ⟨rfl, rfl⟩ := g76
                rw [show (if vD (M 89) (12 * row + k % 12) - vD (M 89) (12 * (row - 1) + k % 12) < 0 then -(vD (M 89) (12 * row + k % 12) - vD (M 89) (12 * (row - 1) + k % 12)) else vD (M 89) (12 * row + k % 12) - vD (M 89) (12 * (row - 1) + k % 12)) = f_diff (vD (M 89)) (row * 12 + k % 12) ((row - 1) * 12 + k % 12) from by rw [show 12 * row + k % 12 = row * 12 + k % 12 by omega, show 12 * (row - 1) + k % 12 = (row - 1) * 12 + k % 12 by omega]; rfl]
                have hdf := f_diff_b p1 (row * 12 + k % 12) ((row - 1) * 12 + k % 12)
                refine jw_aload_n hC dX5_folds_79 3 rfl rfl ?_
                refine jw_iload_n hC dX5_folds_80 2 rfl rfl ?_
                refine jw_iload hC dX5_folds_81 1 rfl ?_
                refine jw_callV hC (c_X5_bears l E M1 (by rw [g2 89 (by decide)]; exact h0) _ _ ⟨by omega, by omega⟩ ⟨by omega, by omega⟩) sV_X5_70 ewF_m0.o dX5_folds_83 rfl rfl ⟨Nat.le_of_ble_eq_true rfl, Nat.le_of_ble_eq_true rfl⟩ ⟨Nat.zero_le _, Nat.zero_le _⟩ (Nat.le_of_ble_eq_true rfl) (fun v83 M83 g83 => ?_)
                obtain ⟨rfl, rfl⟩ := g83
                rw [g2 89 (by decide), show 12 * (k / 12) + k % 12 = k by omega]
                have hbk := f_bear_b k p2 p4 p5
                refine jw_iconst hC dX5_folds_86 ?_
                refine jw_idiv hC dX5_folds_87 (by omega) (by omega) (by omega) (by omega) ?_
                refine jw_icmp_le (tgt := 95) hC dX5_folds_88 (by decide) (by omega) (by omega) (by omega) (by omega) (fun h88 => ?_) (fun h88 => ?_)
                · skip
                  refine jw_iconst hC dX5_folds_95 ?_
                  refine jw_zast hC ewA_95 dX5_folds_96 (by omega) (by omega) (by decide) (by omega) ?_
                  refine jw_iinc (L' := [(2, _), (5, _), (4, _), (3, _), (0, _), (1, _)]) hC dX5_folds_97 5 rfl (by decide) rfl ?_
                  refine jw_goto (tgt := 2) hC dX5_folds_100 (by decide) ?_
                  refine jw_loc (L' := [(0, _), (1, _), (2, _)]) [4, 5, 0] rfl ?_
                  refine ih _ _ (by omega) (by omega) (by omega) (fun q q0 q1 => ?_) (fun o o1 => by rw [mu_ne _ _ _ o1]; exact g2 o o1)
                  by_cases hq : q = k
                  · subst hq
                    rw [mu_eq]
                    unfold f_ind f_ovf
                    first
                    | (exfalso; omega)
                    | rw [if_pos (by simp; omega)]
                    | rw [if_neg (by simp; omega)]
                  · rw [mu_nk _ _ _ hq]; exact g1 q q0 (by omega)
                · skip
                  refine jw_iconst hC dX5_folds_91 ?_
                  refine jw_goto (tgt := 96) hC dX5_folds_92 (by decide) ?_
                  refine jw_zast hC ewA_95 dX5_folds_96 (by omega) (by omega) (by decide) (by omega) ?_
                  refine jw_iinc (L' := [(2, _), (5, _), (4, _), (3, _), (0, _), (1, _)]) hC dX5_folds_97 5 rfl (by decide) rfl ?_
                  refine jw_goto (tgt := 2) hC dX5_folds_100 (by decide) ?_
                  refine jw_loc (L' := [(0, _), (1, _), (2, _)]) [4, 5, 0] rfl ?_
                  refine ih _ _ (by omega) (by omega) (by omega) (fun q q0 q1 => ?_) (fun o o1 => by rw [mu_ne _ _ _ o1]; exact g2 o o1)
                  by_cases hq : q = k
                  · subst hq
                    rw [mu_eq]
                    unfold f_ind f_ovf
                    first
                    | (exfalso; omega)
                    | rw [if_pos (by simp; omega)]
                    | rw [if_neg (by simp; omega)]
                  · rw [mu_nk _ _ _ hq]; exact g1 q q0 (by omega)
          · skip
            refine jw_iconst hC dX5_folds_34 ?_
            refine jw_goto (tgt := 39) hC dX5_folds_35 (by decide) ?_
            refine jw_istore (L' := [(5, _), (4, _), (3, _), (0, _), (1, _), (2, _)]) hC dX5_folds_39 (by decide) rfl ?_
            refine jw_aload_n hC dX5_folds_41 3 rfl rfl ?_
            refine jw_getr hC fL_X5_29 ewR_m9 dX5_folds_42 ?_
            refine jw_iload_n hC dX5_folds_45 5 rfl rfl ?_
            refine jw_iload hC dX5_folds_46 0 rfl ?_
            refine jw_if_eq (tgt := 95) hC dX5_folds_48 (by decide) (by omega) (by omega) (fun h48 => ?_) (fun h48 => ?_)
            · skip
              refine jw_iconst hC dX5_folds_95 ?_
              refine jw_zast hC ewA_95 dX5_folds_96 (by omega) (by omega) (by decide) (by omega) ?_
              refine jw_iinc (L' := [(2, _), (5, _), (4, _), (3, _), (0, _), (1, _)]) hC dX5_folds_97 5 rfl (by decide) rfl ?_
              refine jw_goto (tgt := 2) hC dX5_folds_100 (by decide) ?_
              refine jw_loc (L' := [(0, _), (1, _), (2, _)]) [4, 5, 0] rfl ?_
              refine ih _ _ (by omega) (by omega) (by omega) (fun q q0 q1 => ?_) (fun o o1 => by rw [mu_ne _ _ _ o1]; exact g2 o o1)
              by_cases hq : q = k
              · subst hq
                rw [mu_eq]
                unfold f_ind f_ovf
                first
                | (exfalso; omega)
                | rw [if_pos (by simp; omega)]
                | rw [if_neg (by simp; omega)]
              · rw [mu_nk _ _ _ hq]; exact g1 q q0 (by omega)
            · skip
              refine jw_aload_n hC dX5_folds_51 3 rfl rfl ?_
              refine jw_iload_n hC dX5_folds_52 2 rfl rfl ?_
              refine jw_iload hC dX5_folds_53 1 rfl ?_
              refine jw_callV hC (c_X5_isCracked l E M1 (by rw [g2 89 (by decide)]; exact h0) _ _ ⟨by omega, by omega⟩ ⟨by omega, by omega⟩) sV_X5_64 ewF_m0.o dX5_folds_55 rfl rfl ⟨Nat.le_of_ble_eq_true rfl, Nat.le_of_ble_eq_true rfl⟩ ⟨Nat.zero_le _, Nat.zero_le _⟩ (Nat.le_of_ble_eq_true rfl) (fun v55 M55 g55 => ?_)
              obtain ⟨rfl, rfl⟩ := g55
              rw [g2 89 (by decide), show 12 * (k / 12) + k % 12 = k by omega]
              have hck := p2 k
              refine jw_if_ne (tgt := 95) hC dX5_folds_58 (by decide) (by omega) (by omega) (fun h58 => ?_) (fun h58 => ?_)
              · skip
                refine jw_iconst hC dX5_folds_95 ?_
                refine jw_zast hC ewA_95 dX5_folds_96 (by omega) (by omega) (by decide) (by omega) ?_
                refine jw_iinc (L' := [(2, _), (5, _), (4, _), (3, _), (0, _), (1, _)]) hC dX5_folds_97 5 rfl (by decide) rfl ?_
                refine jw_goto (tgt := 2) hC dX5_folds_100 (by decide) ?_
                refine jw_loc (L' := [(0, _), (1, _), (2, _)]) [4, 5, 0] rfl ?_
                refine ih _ _ (by omega) (by omega) (by omega) (fun q q0 q1 => ?_) (fun o o1 => by rw [mu_ne _ _ _ o1]; exact g2 o o1)
                by_cases hq : q = k
                · subst hq
                  rw [mu_eq]
                  unfold f_ind f_ovf
                  first
                  | (exfalso; omega)
                  | rw [if_pos (by simp; omega)]
                  | rw [if_neg (by simp; omega)]
                · rw [mu_nk _ _ _ hq]; exact g1 q q0 (by omega)
              · skip
                refine jw_aload_n hC dX5_folds_61 3 rfl rfl ?_
                refine jw_iload_n hC dX5_folds_62 2 rfl rfl ?_
                refine jw_iload_n hC dX5_folds_63 4 rfl rfl ?_
                refine jw_callV hC (c_X5_depth l E M1 (by rw [g2 89 (by decide)]; exact h0) _ _ ⟨by omega, by omega⟩ ⟨by omega, by omega⟩) sV_X5_57 ewF_m0.o dX5_folds_64 rfl rfl ⟨Nat.le_of_ble_eq_true rfl, Nat.le_of_ble_eq_true rfl⟩ ⟨Nat.zero_le _, Nat.zero_le _⟩ (Nat.le_of_ble_eq_true rfl) (fun v64 M64 g64 => ?_)
                obtain ⟨rfl, rfl⟩ := g64
                rw [g2 89 (by decide)]
                refine jw_aload_n hC dX5_folds_67 3 rfl rfl ?_
                refine jw_iload_n hC dX5_folds_68 2 rfl rfl ?_
                refine jw_iload_n hC dX5_folds_69 4 rfl rfl ?_
                refine jw_iconst hC dX5_folds_70 ?_
                refine jw_isub hC dX5_folds_71 ?_
                refine jw_callV hC (c_X5_depth l E M1 (by rw [g2 89 (by decide)]; exact h0) _ _ ⟨by omega, by omega⟩ ⟨by omega, by omega⟩) sV_X5_57 ewF_m0.o dX5_folds_72 rfl rfl ⟨Nat.le_of_ble_eq_true rfl, Nat.le_of_ble_eq_true rfl⟩ ⟨Nat.zero_le _, Nat.zero_le _⟩ (Nat.le_of_ble_eq_true rfl) (fun v72 M72 g72 => ?_)
                obtain ⟨rfl, rfl⟩ := g72
                rw [g2 89 (by decide)]
                refine jw_isub hC dX5_folds_75 ?_
                refine jw_callS hC (c_X5_abs l E M1 _ (by have z1 := p1 (12 * row + k % 12); have z2 := p1 (12 * (row - 1) + k % 12); omega) (by have z1 := p1 (12 * row + k % 12); have z2 := p1 (12 * (row - 1) + k % 12); omega)) sS_X5_60 dX5_folds_76 rfl rfl ⟨Nat.le_of_ble_eq_true rfl, Nat.le_of_ble_eq_true rfl⟩ ⟨Nat.zero_le _, Nat.zero_le _⟩ (Nat.le_of_ble_eq_true rfl) (fun v76 M76 g76 => ?_)
                obtain ⟨rfl, rfl⟩ := g76
                rw [show (if vD (M 89) (12 * row + k % 12) - vD (M 89) (12 * (row - 1) + k % 12) < 0 then -(vD (M 89) (12 * row + k % 12) - vD (M 89) (12 * (row - 1) + k % 12)) else vD (M 89) (12 * row + k % 12) - vD (M 89) (12 * (row - 1) + k % 12)) = f_diff (vD (M 89)) (row * 12 + k % 12) ((row - 1) * 12 + k % 12) from by rw [show 12 * row + k % 12 = row * 12 + k % 12 by omega, show 12 * (row - 1) + k % 12 = (row - 1) * 12 + k % 12 by omega]; rfl]
                have hdf := f_diff_b p1 (row * 12 + k % 12) ((row - 1) * 12 + k % 12)
                refine jw_aload_n hC dX5_folds_79 3 rfl rfl ?_
                refine jw_iload_n hC dX5_folds_80 2 rfl rfl ?_
                refine jw_iload hC dX5_folds_81 1 rfl ?_
                refine jw_callV hC (c_X5_bears l E M1 (by rw [g2 89 (by decide)]; exact h0) _ _ ⟨by omega, by omega⟩ ⟨by omega, by omega⟩) sV_X5_70 ewF_m0.o dX5_folds_83 rfl rfl ⟨Nat.le_of_ble_eq_true rfl, Nat.le_of_ble_eq_true rfl⟩ ⟨Nat.zero_le _, Nat.zero_le _⟩ (Nat.le_of_ble_eq_true rfl) (fun v83 M83 g83 => ?_)
                obtain ⟨rfl, rfl⟩ := g83
                rw [g2 89 (by decide), show 12 * (k / 12) + k % 12 = k by omega]
                have hbk := f_bear_b k p2 p4 p5
                refine jw_iconst hC dX5_folds_86 ?_
                refine jw_idiv hC dX5_folds_87 (by omega) (by omega) (by omega) (by omega) ?_
                refine jw_icmp_le (tgt := 95) hC dX5_folds_88 (by decide) (by omega) (by omega) (by omega) (by omega) (fun h88 => ?_) (fun h88 => ?_)
                · skip
                  refine jw_iconst hC dX5_folds_95 ?_
                  refine jw_zast hC ewA_95 dX5_folds_96 (by omega) (by omega) (by decide) (by omega) ?_
                  refine jw_iinc (L' := [(2, _), (5, _), (4, _), (3, _), (0, _), (1, _)]) hC dX5_folds_97 5 rfl (by decide) rfl ?_
                  refine jw_goto (tgt := 2) hC dX5_folds_100 (by decide) ?_
                  refine jw_loc (L' := [(0, _), (1, _), (2, _)]) [4, 5, 0] rfl ?_
                  refine ih _ _ (by omega) (by omega) (by omega) (fun q q0 q1 => ?_) (fun o o1 => by rw [mu_ne _ _ _ o1]; exact g2 o o1)
                  by_cases hq : q = k
                  · subst hq
                    rw [mu_eq]
                    unfold f_ind f_ovf
                    first
                    | (exfalso; omega)
                    | rw [if_pos (by simp; omega)]
                    | rw [if_neg (by simp; omega)]
                  · rw [mu_nk _ _ _ hq]; exact g1 q q0 (by omega)
                · skip
                  refine jw_iconst hC dX5_folds_91 ?_
                  refine jw_goto (tgt := 96) hC dX5_folds_92 (by decide) ?_
                  refine jw_zast hC ewA_95 dX5_folds_96 (by omega) (by omega) (by decide) (by omega) ?_
                  refine jw_iinc (L' := [(2, _), (5, _), (4, _), (3, _), (0, _), (1, _)]) hC dX5_folds_97 5 rfl (by decide) rfl ?_
                  refine jw_goto (tgt := 2) hC dX5_folds_100 (by decide) ?_
                  refine jw_loc (L' := [(0, _), (1, _), (2, _)]) [4, 5, 0] rfl ?_
                  refine ih _ _ (by omega) (by omega) (by omega) (fun q q0 q1 => ?_) (fun o o1 => by rw [mu_ne _ _ _ o1]; exact g2 o o1)
                  by_cases hq : q = k
                  · subst hq
                    rw [mu_eq]
                    unfold f_ind f_ovf
                    first
                    | (exfalso; omega)
                    | rw [if_pos (by simp; omega)]
                    | rw [if_neg (by simp; omega)]
                  · rw [mu_nk _ _ _ hq]; exact g1 q q0 (by omega)
  refine jw_iconst hC dX5_folds_0 ?_
  refine jw_istore_n (L' := [(2, _), (0, _), (1, _)]) hC dX5_folds_1 rfl (by decide) rfl ?_
  refine jw_loc (L' := [(0, _), (1, _), (2, _)]) [1, 2, 0] rfl ?_
  exact K2 145 0 M (by omega) (by omega) (by omega) (fun q q0 q1 => by omega) (fun _ _ => rfl)
set_option maxRecDepth 100000 in
set_option maxHeartbeats 4000000 in
theorem c_X5_wouldFold (l : Launch) (E : ewE) (M : ewM) (h0 : svI (M 89)) (row : Int) (hrow : 1 ≤ row ∧ row < 12) : Ct l E yX5_wouldFold (.code yX5_wouldFold cX5_wouldFold 3 (some .int)) 7 [vR E 88, vI row] M (fun v M1 => v = some (vI (f_fc (vD (M 89)) (vC (M 89)) row (M 89 0) (M 89 1))) ∧ mk M M1) := by
  refine ct_of (L0 := [(0, vR E 88), (1, vI row)]) (by decide +kernel) rfl (Nat.le_of_ble_eq_true rfl) ?_
  intro zp ze zs zm za zb zt zc zA hC
  obtain ⟨p1, p2, p3, p4, p5, p6, p7, p8, p9, pf⟩ := id h0
  refine jw_aload_n hC dX5_wouldFold_0 0 rfl rfl ?_
  refine jw_callV hC (c_X5_putAside l E M) sV_X5_165 ewF_m0.o dX5_wouldFold_1 rfl rfl ⟨Nat.le_of_ble_eq_true rfl, Nat.le_of_ble_eq_true rfl⟩ ⟨Nat.zero_le _, Nat.zero_le _⟩ (Nat.le_of_ble_eq_true rfl) (fun v1 M1 g1 => ?_)
  obtain ⟨rfl, hM20⟩ := g1
  have e89 : M1 89 = M 89 := by rw [hM20, mset_ne _ _ (by decide)]
  refine jw_aload_n hC dX5_wouldFold_4 0 rfl rfl ?_
  refine jw_iload_n hC dX5_wouldFold_5 1 rfl rfl ?_
  refine jw_callV hC (c_X5_folds l E M1 (by rw [e89]; exact h0) _ hrow) sV_X5_119 ewF_m0.o dX5_wouldFold_6 rfl rfl ⟨Nat.le_of_ble_eq_true rfl, Nat.le_of_ble_eq_true rfl⟩ ⟨Nat.zero_le _, Nat.zero_le _⟩ (Nat.le_of_ble_eq_true rfl) (fun v6 M6 g6 => ?_)
  obtain ⟨rfl, -, -, -, -, -, -, -, q9⟩ := g6
  rw [e89]
  refine jw_istore_n (L' := [(2, _), (0, _), (1, _)]) hC dX5_wouldFold_9 rfl (by decide) rfl ?_
  refine jw_aload_n hC dX5_wouldFold_10 1 rfl rfl ?_
  refine jw_callV hC (c_X5_takeBack l E _) sV_X5_168 ewF_m0.o dX5_wouldFold_11 rfl rfl ⟨Nat.le_of_ble_eq_true rfl, Nat.le_of_ble_eq_true rfl⟩ ⟨Nat.zero_le _, Nat.zero_le _⟩ (Nat.le_of_ble_eq_true rfl) (fun v11 M11 g11 => ?_)
  obtain ⟨rfl, rfl⟩ := g11
  refine jw_iload_n hC dX5_wouldFold_14 0 rfl rfl ?_
  refine jw_iret hC dX5_wouldFold_15 ?_
  refine ⟨rfl, fun o o1 o2 => ?_⟩
  by_cases o9 : o = 89
  · rw [o9, mset_at, q9 90 (by decide) (by decide), hM20, mset_at]
  · rw [mset_ne _ _ o9, q9 o o9 o2, hM20, mset_ne _ _ o1]
set_option maxRecDepth 100000 in
set_option maxHeartbeats 4000000 in
theorem c_X5_gentlestPlace (l : Launch) (E : ewE) (M : ewM) (h0 : svI (M 89)) (a : Int) (ha : 0 ≤ a ∧ a < 3) (t : Int) (ht : 0 ≤ t ∧ t < 8) : Ct l E yX5_gentlestPlace (.code yX5_gentlestPlace cX5_gentlestPlace 8 (some .int)) 8 [vR E 88, vI a, vI t] M (fun v M1 => v = some (vI (f_bs (fun k => m_ans (M 89) (f_rel (vQ (M 89)) a t) (k % 12) (k / 12)) 144)) ∧ mk M M1) := by
  refine ct_of (L0 := [(0, vR E 88), (1, vI a), (2, vI t)]) (by decide +kernel) rfl (Nat.le_of_ble_eq_true rfl) ?_
  intro zp ze zs zm za zb zt zc zA hC
  obtain ⟨p1, p2, p3, p4, p5, p6, p7, p8, p9, pf⟩ := id h0
  have K9 : ∀ (n : Nat) (k best lst : Int) (M1 : ewM), 144 - k < n → 0 ≤ k → k ≤ 144 → best = f_bs (fun k => m_ans (M 89) (f_rel (vQ (M 89)) a t) (k % 12) (k / 12)) k.toNat → lst = f_ln (fun k => m_ans (M 89) (f_rel (vQ (M 89)) a t) (k % 12) (k / 12)) k.toNat → 0 ≤ lst → lst ≤ 1000000 → mk M M1 → jJ zp l ze (ct_rm 8) zs zm za zb zt zc E zA 8 0 0 (MQ zb (ct_Q E zA (fun v M1 => v = some (vI (f_bs (fun k => m_ans (M 89) (f_rel (vQ (M 89)) a t) (k % 12) (k / 12)) 144)) ∧ mk M M1)) za zs 0 0 zA) 9 [(0, vR E 88), (1, vI a), (2, vI t), (3, vI best), (4, vI lst), (5, vI k)] [] M1 := by
    intro n
    induction n with
    | zero => intros; omega
    | succ n ih =>
      intro k best lst M1 i1 i2 i3 hbs hls l0 l1 lk0
      have hs := f_ln_s (fun k => m_ans (M 89) (f_rel (vQ (M 89)) a t) (k % 12) (k / 12)) i2
      rw [← hls, ← hbs] at hs
      refine jw_iload hC dX5_gentlestPlace_9 5 rfl ?_
      refine jw_sipush hC dX5_gentlestPlace_11 (by decide) ?_
      refine jw_icmp_ge (tgt := 100) hC dX5_gentlestPlace_14 (by decide) (by omega) (by omega) (by omega) (by omega) (fun h14 => ?_) (fun h14 => ?_)
      · skip
        refine jw_iload_n hC dX5_gentlestPlace_100 3 rfl rfl ?_
        refine jw_iret hC dX5_gentlestPlace_101 ?_
        exact ⟨by rw [hbs, show k = 144 by omega]; rfl, lk0⟩
      · skip
        refine jw_aload_n hC dX5_gentlestPlace_17 0 rfl rfl ?_
        refine jw_iload_n hC dX5_gentlestPlace_18 1 rfl rfl ?_
        refine jw_iload hC dX5_gentlestPlace_19 5 rfl ?_
        refine jw_bipush hC dX5_gentlestPlace_21 (by decide) ?_
        refine jw_irem hC dX5_gentlestPlace_23 (by omega) (by omega) (by omega) (by omega) ?_
        refine jw_iload hC dX5_gentlestPlace_24 5 rfl ?_
        refine jw_bipush hC dX5_gentlestPlace_26 (by decide) ?_
        refine jw_idiv hC dX5_gentlestPlace_28 (by omega) (by omega) (by omega) (by omega) ?_
        refine jw_iload_n hC dX5_gentlestPlace_29 2 rfl rfl ?_
        refine jw_callV hC (c_X5_would l E M1 (by rw [lk0 89 (by decide) (by decide)]; exact h0) _ ha _ _ (by omega) (by omega) (by omega) (by omega) _ ht) sV_X5_171 ewF_m0.o dX5_gentlestPlace_30 rfl rfl ⟨Nat.le_of_ble_eq_true rfl, Nat.le_of_ble_eq_true rfl⟩ ⟨Nat.zero_le _, Nat.zero_le _⟩ (Nat.le_of_ble_eq_true rfl) (fun v30 M30 g30 => ?_)
        obtain ⟨rfl, g2⟩ := g30
        rw [lk0 89 (by decide) (by decide)]
        have hab := m_ans_b h0 (f_rel (vQ (M 89)) a t) (k % 12) (k / 12)
        refine jw_istore (L' := [(6, _), (0, _), (1, _), (2, _), (3, _), (4, _), (5, _)]) hC dX5_gentlestPlace_33 (by decide) rfl ?_
        refine jw_iload hC dX5_gentlestPlace_35 0 rfl ?_
        refine jw_bipush hC dX5_gentlestPlace_37 (by decide) ?_
        refine jw_icmp_lt (tgt := 53) hC dX5_gentlestPlace_39 (by decide) (by omega) (by omega) (by omega) (by omega) (fun h39 => ?_) (fun h39 => ?_)
        · skip
          refine jw_iconst hC dX5_gentlestPlace_53 ?_
          refine jw_istore (L' := [(7, _), (6, _), (0, _), (1, _), (2, _), (3, _), (4, _), (5, _)]) hC dX5_gentlestPlace_54 (by decide) rfl ?_
          refine jw_iload hC dX5_gentlestPlace_56 0 rfl ?_
          refine jw_if_eq (tgt := 78) hC dX5_gentlestPlace_58 (by decide) (by omega) (by omega) (fun h58 => ?_) (fun h58 => ?_)
          · skip
            refine jw_iload_n hC dX5_gentlestPlace_78 5 rfl rfl ?_
            refine jw_istore_n (L' := [(3, _), (7, _), (6, _), (0, _), (1, _), (2, _), (4, _), (5, _)]) hC dX5_gentlestPlace_79 rfl (by decide) rfl ?_
            refine jw_iload hC dX5_gentlestPlace_80 1 rfl ?_
            refine jw_if_eq (tgt := 90) hC dX5_gentlestPlace_82 (by decide) (by omega) (by omega) (fun h82 => ?_) (fun h82 => ?_)
            · skip
              refine jw_iload hC dX5_gentlestPlace_90 6 rfl ?_
              refine jw_istore (L' := [(4, _), (3, _), (7, _), (6, _), (0, _), (1, _), (2, _), (5, _)]) hC dX5_gentlestPlace_92 (by decide) rfl ?_
              refine jw_iinc (L' := [(5, _), (4, _), (3, _), (7, _), (6, _), (0, _), (1, _), (2, _)]) hC dX5_gentlestPlace_94 7 rfl (by decide) rfl ?_
              refine jw_goto (tgt := 9) hC dX5_gentlestPlace_97 (by decide) ?_
              refine jw_loc (L' := [(0, _), (1, _), (2, _), (3, _), (4, _), (5, _)]) [5, 6, 7, 2, 1, 0] rfl ?_
              first
              | (rw [if_pos (show 100 ≤ m_ans (M 89) (f_rel (vQ (M 89)) a t) (k % 12) (k / 12) ∧ m_ans (M 89) (f_rel (vQ (M 89)) a t) (k % 12) (k / 12) < lst by omega), if_pos (show 100 ≤ m_ans (M 89) (f_rel (vQ (M 89)) a t) (k % 12) (k / 12) ∧ m_ans (M 89) (f_rel (vQ (M 89)) a t) (k % 12) (k / 12) < lst by omega)] at hs
                 first
                 | exact ih (k + 1) _ _ _ (by omega) (by omega) (by omega) hs.2.symm hs.1.symm (by omega) (by omega) (mk_tr lk0 g2)
                 | (exfalso; omega))
              | (rw [if_neg (show ¬ (100 ≤ m_ans (M 89) (f_rel (vQ (M 89)) a t) (k % 12) (k / 12) ∧ m_ans (M 89) (f_rel (vQ (M 89)) a t) (k % 12) (k / 12) < lst) by omega), if_neg (show ¬ (100 ≤ m_ans (M 89) (f_rel (vQ (M 89)) a t) (k % 12) (k / 12) ∧ m_ans (M 89) (f_rel (vQ (M 89)) a t) (k % 12) (k / 12) < lst) by omega)] at hs
                 first
                 | exact ih (k + 1) _ _ _ (by omega) (by omega) (by omega) hs.2.symm hs.1.symm (by omega) (by omega) (mk_tr lk0 g2)
                 | (exfalso; omega))
            · skip
              refine jw_iload hC dX5_gentlestPlace_85 2 rfl ?_
              refine jw_goto (tgt := 92) hC dX5_gentlestPlace_87 (by decide) ?_
              refine jw_istore (L' := [(4, _), (3, _), (7, _), (6, _), (0, _), (1, _), (2, _), (5, _)]) hC dX5_gentlestPlace_92 (by decide) rfl ?_
              refine jw_iinc (L' := [(5, _), (4, _), (3, _), (7, _), (6, _), (0, _), (1, _), (2, _)]) hC dX5_gentlestPlace_94 7 rfl (by decide) rfl ?_
              refine jw_goto (tgt := 9) hC dX5_gentlestPlace_97 (by decide) ?_
              refine jw_loc (L' := [(0, _), (1, _), (2, _), (3, _), (4, _), (5, _)]) [5, 6, 7, 2, 1, 0] rfl ?_
              first
              | (rw [if_pos (show 100 ≤ m_ans (M 89) (f_rel (vQ (M 89)) a t) (k % 12) (k / 12) ∧ m_ans (M 89) (f_rel (vQ (M 89)) a t) (k % 12) (k / 12) < lst by omega), if_pos (show 100 ≤ m_ans (M 89) (f_rel (vQ (M 89)) a t) (k % 12) (k / 12) ∧ m_ans (M 89) (f_rel (vQ (M 89)) a t) (k % 12) (k / 12) < lst by omega)] at hs
                 first
                 | exact ih (k + 1) _ _ _ (by omega) (by omega) (by omega) hs.2.symm hs.1.symm (by omega) (by omega) (mk_tr lk0 g2)
                 | (exfalso; omega))
              | (rw [if_neg (show ¬ (100 ≤ m_ans (M 89) (f_rel (vQ (M 89)) a t) (k % 12) (k / 12) ∧ m_ans (M 89) (f_rel (vQ (M 89)) a t) (k % 12) (k / 12) < lst) by omega), if_neg (show ¬ (100 ≤ m_ans (M 89) (f_rel (vQ (M 89)) a t) (k % 12) (k / 12) ∧ m_ans (M 89) (f_rel (vQ (M 89)) a t) (k % 12) (k / 12) < lst) by omega)] at hs
                 first
                 | exact ih (k + 1) _ _ _ (by omega) (by omega) (by omega) hs.2.symm hs.1.symm (by omega) (by omega) (mk_tr lk0 g2)
                 | (exfalso; omega))
          · skip
            refine jw_bipush hC dX5_gentlestPlace_61 (by decide) ?_
            refine jw_iload hC dX5_gentlestPlace_63 7 rfl ?_
            refine jw_bipush hC dX5_gentlestPlace_65 (by decide) ?_
            refine jw_idiv hC dX5_gentlestPlace_67 (by omega) (by omega) (by omega) (by omega) ?_
            refine jw_imul hC dX5_gentlestPlace_68 ?_
            refine jw_iload hC dX5_gentlestPlace_69 7 rfl ?_
            refine jw_bipush hC dX5_gentlestPlace_71 (by decide) ?_
            refine jw_irem hC dX5_gentlestPlace_73 (by omega) (by omega) (by omega) (by omega) ?_
            refine jw_iadd hC dX5_gentlestPlace_74 ?_
            refine jw_goto (tgt := 79) hC dX5_gentlestPlace_75 (by decide) ?_
            refine jw_istore_n (L' := [(3, _), (7, _), (6, _), (0, _), (1, _), (2, _), (4, _), (5, _)]) hC dX5_gentlestPlace_79 rfl (by decide) rfl ?_
            refine jw_iload hC dX5_gentlestPlace_80 1 rfl ?_
            refine jw_if_eq (tgt := 90) hC dX5_gentlestPlace_82 (by decide) (by omega) (by omega) (fun h82 => ?_) (fun h82 => ?_)
            · skip
              refine jw_iload hC dX5_gentlestPlace_90 6 rfl ?_
              refine jw_istore (L' := [(4, _), (3, _), (7, _), (6, _), (0, _), (1, _), (2, _), (5, _)]) hC dX5_gentlestPlace_92 (by decide) rfl ?_
              refine jw_iinc (L' := [(5, _), (4, _), (3, _), (7, _), (6, _), (0, _), (1, _), (2, _)]) hC dX5_gentlestPlace_94 7 rfl (by decide) rfl ?_
              refine jw_goto (tgt := 9) hC dX5_gentlestPlace_97 (by decide) ?_
              refine jw_loc (L' := [(0, _), (1, _), (2, _), (3, _), (4, _), (5, _)]) [5, 6, 7, 2, 1, 0] rfl ?_
              first
              | (rw [if_pos (show 100 ≤ m_ans (M 89) (f_rel (vQ (M 89)) a t) (k % 12) (k / 12) ∧ m_ans (M 89) (f_rel (vQ (M 89)) a t) (k % 12) (k / 12) < lst by omega), if_pos (show 100 ≤ m_ans (M 89) (f_rel (vQ (M 89)) a t) (k % 12) (k / 12) ∧ m_ans (M 89) (f_rel (vQ (M 89)) a t) (k % 12) (k / 12) < lst by omega)] at hs
                 first
                 | exact ih (k + 1) _ _ _ (by omega) (by omega) (by omega) hs.2.symm hs.1.symm (by omega) (by omega) (mk_tr lk0 g2)
                 | (exfalso; omega))
              | (rw [if_neg (show ¬ (100 ≤ m_ans (M 89) (f_rel (vQ (M 89)) a t) (k % 12) (k / 12) ∧ m_ans (M 89) (f_rel (vQ (M 89)) a t) (k % 12) (k / 12) < lst) by omega), if_neg (show ¬ (100 ≤ m_ans (M 89) (f_rel (vQ (M 89)) a t) (k % 12) (k / 12) ∧ m_ans (M 89) (f_rel (vQ (M 89)) a t) (k % 12) (k / 12) < lst) by omega)] at hs
                 first
                 | exact ih (k + 1) _ _ _ (by omega) (by omega) (by omega) hs.2.symm hs.1.symm (by omega) (by omega) (mk_tr lk0 g2)
                 | (exfalso; omega))
            · skip
              refine jw_iload hC dX5_gentlestPlace_85 2 rfl ?_
              refine jw_goto (tgt := 92) hC dX5_gentlestPlace_87 (by decide) ?_
              refine jw_istore (L' := [(4, _), (3, _), (7, _), (6, _), (0, _), (1, _), (2, _), (5, _)]) hC dX5_gentlestPlace_92 (by decide) rfl ?_
              refine jw_iinc (L' := [(5, _), (4, _), (3, _), (7, _), (6, _), (0, _), (1, _), (2, _)]) hC dX5_gentlestPlace_94 7 rfl (by decide) rfl ?_
              refine jw_goto (tgt := 9) hC dX5_gentlestPlace_97 (by decide) ?_
              refine jw_loc (L' := [(0, _), (1, _), (2, _), (3, _), (4, _), (5, _)]) [5, 6, 7, 2, 1, 0] rfl ?_
              first
              | (rw [if_pos (show 100 ≤ m_ans (M 89) (f_rel (vQ (M 89)) a t) (k % 12) (k / 12) ∧ m_ans (M 89) (f_rel (vQ (M 89)) a t) (k % 12) (k / 12) < lst by omega), if_pos (show 100 ≤ m_ans (M 89) (f_rel (vQ (M 89)) a t) (k % 12) (k / 12) ∧ m_ans (M 89) (f_rel (vQ (M 89)) a t) (k % 12) (k / 12) < lst by omega)] at hs
                 first
                 | exact ih (k + 1) _ _ _ (by omega) (by omega) (by omega) hs.2.symm hs.1.symm (by omega) (by omega) (mk_tr lk0 g2)
                 | (exfalso; omega))
              | (rw [if_neg (show ¬ (100 ≤ m_ans (M 89) (f_rel (vQ (M 89)) a t) (k % 12) (k / 12) ∧ m_ans (M 89) (f_rel (vQ (M 89)) a t) (k % 12) (k / 12) < lst) by omega), if_neg (show ¬ (100 ≤ m_ans (M 89) (f_rel (vQ (M 89)) a t) (k % 12) (k / 12) ∧ m_ans (M 89) (f_rel (vQ (M 89)) a t) (k % 12) (k / 12) < lst) by omega)] at hs
                 first
                 | exact ih (k + 1) _ _ _ (by omega) (by omega) (by omega) hs.2.symm hs.1.symm (by omega) (by omega) (mk_tr lk0 g2)
                 | (exfalso; omega))
        · skip
          refine jw_iload hC dX5_gentlestPlace_42 0 rfl ?_
          refine jw_iload hC dX5_gentlestPlace_44 5 rfl ?_
          refine jw_icmp_ge (tgt := 53) hC dX5_gentlestPlace_46 (by decide) (by omega) (by omega) (by omega) (by omega) (fun h46 => ?_) (fun h46 => ?_)
          · skip
            refine jw_iconst hC dX5_gentlestPlace_53 ?_
            refine jw_istore (L' := [(7, _), (6, _), (0, _), (1, _), (2, _), (3, _), (4, _), (5, _)]) hC dX5_gentlestPlace_54 (by decide) rfl ?_
            refine jw_iload hC dX5_gentlestPlace_56 0 rfl ?_
            refine jw_if_eq (tgt := 78) hC dX5_gentlestPlace_58 (by decide) (by omega) (by omega) (fun h58 => ?_) (fun h58 => ?_)
            · skip
              refine jw_iload_n hC dX5_gentlestPlace_78 5 rfl rfl ?_
              refine jw_istore_n (L' := [(3, _), (7, _), (6, _), (0, _), (1, _), (2, _), (4, _), (5, _)]) hC dX5_gentlestPlace_79 rfl (by decide) rfl ?_
              refine jw_iload hC dX5_gentlestPlace_80 1 rfl ?_
              refine jw_if_eq (tgt := 90) hC dX5_gentlestPlace_82 (by decide) (by omega) (by omega) (fun h82 => ?_) (fun h82 => ?_)
              · skip
                refine jw_iload hC dX5_gentlestPlace_90 6 rfl ?_
                refine jw_istore (L' := [(4, _), (3, _), (7, _), (6, _), (0, _), (1, _), (2, _), (5, _)]) hC dX5_gentlestPlace_92 (by decide) rfl ?_
                refine jw_iinc (L' := [(5, _), (4, _), (3, _), (7, _), (6, _), (0, _), (1, _), (2, _)]) hC dX5_gentlestPlace_94 7 rfl (by decide) rfl ?_
                refine jw_goto (tgt := 9) hC dX5_gentlestPlace_97 (by decide) ?_
                refine jw_loc (L' := [(0, _), (1, _), (2, _), (3, _), (4, _), (5, _)]) [5, 6, 7, 2, 1, 0] rfl ?_
                first
                | (rw [if_pos (show 100 ≤ m_ans (M 89) (f_rel (vQ (M 89)) a t) (k % 12) (k / 12) ∧ m_ans (M 89) (f_rel (vQ (M 89)) a t) (k % 12) (k / 12) < lst by omega), if_pos (show 100 ≤ m_ans (M 89) (f_rel (vQ (M 89)) a t) (k % 12) (k / 12) ∧ m_ans (M 89) (f_rel (vQ (M 89)) a t) (k % 12) (k / 12) < lst by omega)] at hs
                   first
                   | exact ih (k + 1) _ _ _ (by omega) (by omega) (by omega) hs.2.symm hs.1.symm (by omega) (by omega) (mk_tr lk0 g2)
                   | (exfalso; omega))
                | (rw [if_neg (show ¬ (100 ≤ m_ans (M 89) (f_rel (vQ (M 89)) a t) (k % 12) (k / 12) ∧ m_ans (M 89) (f_rel (vQ (M 89)) a t) (k % 12) (k / 12) < lst) by omega), if_neg (show ¬ (100 ≤ m_ans (M 89) (f_rel (vQ (M 89)) a t) (k % 12) (k / 12) ∧ m_ans (M 89) (f_rel (vQ (M 89)) a t) (k % 12) (k / 12) < lst) by omega)] at hs
                   first
                   | exact ih (k + 1) _ _ _ (by omega) (by omega) (by omega) hs.2.symm hs.1.symm (by omega) (by omega) (mk_tr lk0 g2)
                   | (exfalso; omega))
              · skip
                refine jw_iload hC dX5_gentlestPlace_85 2 rfl ?_
                refine jw_goto (tgt := 92) hC dX5_gentlestPlace_87 (by decide) ?_
                refine jw_istore (L' := [(4, _), (3, _), (7, _), (6, _), (0, _), (1, _), (2, _), (5, _)]) hC dX5_gentlestPlace_92 (by decide) rfl ?_
                refine jw_iinc (L' := [(5, _), (4, _), (3, _), (7, _), (6, _), (0, _), (1, _), (2, _)]) hC dX5_gentlestPlace_94 7 rfl (by decide) rfl ?_
                refine jw_goto (tgt := 9) hC dX5_gentlestPlace_97 (by decide) ?_
                refine jw_loc (L' := [(0, _), (1, _), (2, _), (3, _), (4, _), (5, _)]) [5, 6, 7, 2, 1, 0] rfl ?_
                first
                | (rw [if_pos (show 100 ≤ m_ans (M 89) (f_rel (vQ (M 89)) a t) (k % 12) (k / 12) ∧ m_ans (M 89) (f_rel (vQ (M 89)) a t) (k % 12) (k / 12) < lst by omega), if_pos (show 100 ≤ m_ans (M 89) (f_rel (vQ (M 89)) a t) (k % 12) (k / 12) ∧ m_ans (M 89) (f_rel (vQ (M 89)) a t) (k % 12) (k / 12) < lst by omega)] at hs
                   first
                   | exact ih (k + 1) _ _ _ (by omega) (by omega) (by omega) hs.2.symm hs.1.symm (by omega) (by omega) (mk_tr lk0 g2)
                   | (exfalso; omega))
                | (rw [if_neg (show ¬ (100 ≤ m_ans (M 89) (f_rel (vQ (M 89)) a t) (k % 12) (k / 12) ∧ m_ans (M 89) (f_rel (vQ (M 89)) a t) (k % 12) (k / 12) < lst) by omega), if_neg (show ¬ (100 ≤ m_ans (M 89) (f_rel (vQ (M 89)) a t) (k % 12) (k / 12) ∧ m_ans (M 89) (f_rel (vQ (M 89)) a t) (k % 12) (k / 12) < lst) by omega)] at hs
                   first
                   | exact ih (k + 1) _ _ _ (by omega) (by omega) (by omega) hs.2.symm hs.1.symm (by omega) (by omega) (mk_tr lk0 g2)
                   | (exfalso; omega))
            · skip
              refine jw_bipush hC dX5_gentlestPlace_61 (by decide) ?_
              refine jw_iload hC dX5_gentlestPlace_63 7 rfl ?_
              refine jw_bipush hC dX5_gentlestPlace_65 (by decide) ?_
              refine jw_idiv hC dX5_gentlestPlace_67 (by omega) (by omega) (by omega) (by omega) ?_
              refine jw_imul hC dX5_gentlestPlace_68 ?_
              refine jw_iload hC dX5_gentlestPlace_69 7 rfl ?_
              refine jw_bipush hC dX5_gentlestPlace_71 (by decide) ?_
              refine jw_irem hC dX5_gentlestPlace_73 (by omega) (by omega) (by omega) (by omega) ?_
              refine jw_iadd hC dX5_gentlestPlace_74 ?_
              refine jw_goto (tgt := 79) hC dX5_gentlestPlace_75 (by decide) ?_
              refine jw_istore_n (L' := [(3, _), (7, _), (6, _), (0, _), (1, _), (2, _), (4, _), (5, _)]) hC dX5_gentlestPlace_79 rfl (by decide) rfl ?_
              refine jw_iload hC dX5_gentlestPlace_80 1 rfl ?_
              refine jw_if_eq (tgt := 90) hC dX5_gentlestPlace_82 (by decide) (by omega) (by omega) (fun h82 => ?_) (fun h82 => ?_)
              · skip
                refine jw_iload hC dX5_gentlestPlace_90 6 rfl ?_
                refine jw_istore (L' := [(4, _), (3, _), (7, _), (6, _), (0, _), (1, _), (2, _), (5, _)]) hC dX5_gentlestPlace_92 (by decide) rfl ?_
                refine jw_iinc (L' := [(5, _), (4, _), (3, _), (7, _), (6, _), (0, _), (1, _), (2, _)]) hC dX5_gentlestPlace_94 7 rfl (by decide) rfl ?_
                refine jw_goto (tgt := 9) hC dX5_gentlestPlace_97 (by decide) ?_
                refine jw_loc (L' := [(0, _), (1, _), (2, _), (3, _), (4, _), (5, _)]) [5, 6, 7, 2, 1, 0] rfl ?_
                first
                | (rw [if_pos (show 100 ≤ m_ans (M 89) (f_rel (vQ (M 89)) a t) (k % 12) (k / 12) ∧ m_ans (M 89) (f_rel (vQ (M 89)) a t) (k % 12) (k / 12) < lst by omega), if_pos (show 100 ≤ m_ans (M 89) (f_rel (vQ (M 89)) a t) (k % 12) (k / 12) ∧ m_ans (M 89) (f_rel (vQ (M 89)) a t) (k % 12) (k / 12) < lst by omega)] at hs
                   first
                   | exact ih (k + 1) _ _ _ (by omega) (by omega) (by omega) hs.2.symm hs.1.symm (by omega) (by omega) (mk_tr lk0 g2)
                   | (exfalso; omega))
                | (rw [if_neg (show ¬ (100 ≤ m_ans (M 89) (f_rel (vQ (M 89)) a t) (k % 12) (k / 12) ∧ m_ans (M 89) (f_rel (vQ (M 89)) a t) (k % 12) (k / 12) < lst) by omega), if_neg (show ¬ (100 ≤ m_ans (M 89) (f_rel (vQ (M 89)) a t) (k % 12) (k / 12) ∧ m_ans (M 89) (f_rel (vQ (M 89)) a t) (k % 12) (k / 12) < lst) by omega)] at hs
                   first
                   | exact ih (k + 1) _ _ _ (by omega) (by omega) (by omega) hs.2.symm hs.1.symm (by omega) (by omega) (mk_tr lk0 g2)
                   | (exfalso; omega))
              · skip
                refine jw_iload hC dX5_gentlestPlace_85 2 rfl ?_
                refine jw_goto (tgt := 92) hC dX5_gentlestPlace_87 (by decide) ?_
                refine jw_istore (L' := [(4, _), (3, _), (7, _), (6, _), (0, _), (1, _), (2, _), (5, _)]) hC dX5_gentlestPlace_92 (by decide) rfl ?_
                refine jw_iinc (L' := [(5, _), (4, _), (3, _), (7, _), (6, _), (0, _), (1, _), (2, _)]) hC dX5_gentlestPlace_94 7 rfl (by decide) rfl ?_
                refine jw_goto (tgt := 9) hC dX5_gentlestPlace_97 (by decide) ?_
                refine jw_loc (L' := [(0, _), (1, _), (2, _), (3, _), (4, _), (5, _)]) [5, 6, 7, 2, 1, 0] rfl ?_
                first
                | (rw [if_pos (show 100 ≤ m_ans (M 89) (f_rel (vQ (M 89)) a t) (k % 12) (k / 12) ∧ m_ans (M 89) (f_rel (vQ (M 89)) a t) (k % 12) (k / 12) < lst by omega), if_pos (show 100 ≤ m_ans (M 89) (f_rel (vQ (M 89)) a t) (k % 12) (k / 12) ∧ m_ans (M 89) (f_rel (vQ (M 89)) a t) (k % 12) (k / 12) < lst by omega)] at hs
                   first
                   | exact ih (k + 1) _ _ _ (by omega) (by omega) (by omega) hs.2.symm hs.1.symm (by omega) (by omega) (mk_tr lk0 g2)
                   | (exfalso; omega))
                | (rw [if_neg (show ¬ (100 ≤ m_ans (M 89) (f_rel (vQ (M 89)) a t) (k % 12) (k / 12) ∧ m_ans (M 89) (f_rel (vQ (M 89)) a t) (k % 12) (k / 12) < lst) by omega), if_neg (show ¬ (100 ≤ m_ans (M 89) (f_rel (vQ (M 89)) a t) (k % 12) (k / 12) ∧ m_ans (M 89) (f_rel (vQ (M 89)) a t) (k % 12) (k / 12) < lst) by omega)] at hs
                   first
                   | exact ih (k + 1) _ _ _ (by omega) (by omega) (by omega) hs.2.symm hs.1.symm (by omega) (by omega) (mk_tr lk0 g2)
                   | (exfalso; omega))
          · skip
            refine jw_iconst hC dX5_gentlestPlace_49 ?_
            refine jw_goto (tgt := 54) hC dX5_gentlestPlace_50 (by decide) ?_
            refine jw_istore (L' := [(7, _), (6, _), (0, _), (1, _), (2, _), (3, _), (4, _), (5, _)]) hC dX5_gentlestPlace_54 (by decide) rfl ?_
            refine jw_iload hC dX5_gentlestPlace_56 0 rfl ?_
            refine jw_if_eq (tgt := 78) hC dX5_gentlestPlace_58 (by decide) (by omega) (by omega) (fun h58 => ?_) (fun h58 => ?_)
            · skip
              refine jw_iload_n hC dX5_gentlestPlace_78 5 rfl rfl ?_
              refine jw_istore_n (L' := [(3, _), (7, _), (6, _), (0, _), (1, _), (2, _), (4, _), (5, _)]) hC dX5_gentlestPlace_79 rfl (by decide) rfl ?_
              refine jw_iload hC dX5_gentlestPlace_80 1 rfl ?_
              refine jw_if_eq (tgt := 90) hC dX5_gentlestPlace_82 (by decide) (by omega) (by omega) (fun h82 => ?_) (fun h82 => ?_)
              · skip
                refine jw_iload hC dX5_gentlestPlace_90 6 rfl ?_
                refine jw_istore (L' := [(4, _), (3, _), (7, _), (6, _), (0, _), (1, _), (2, _), (5, _)]) hC dX5_gentlestPlace_92 (by decide) rfl ?_
                refine jw_iinc (L' := [(5, _), (4, _), (3, _), (7, _), (6, _), (0, _), (1, _), (2, _)]) hC dX5_gentlestPlace_94 7 rfl (by decide) rfl ?_
                refine jw_goto (tgt := 9) hC dX5_gentlestPlace_97 (by decide) ?_
                refine jw_loc (L' := [(0, _), (1, _), (2, _), (3, _), (4, _), (5, _)]) [5, 6, 7, 2, 1, 0] rfl ?_
                first
                | (rw [if_pos (show 100 ≤ m_ans (M 89) (f_rel (vQ (M 89)) a t) (k % 12) (k / 12) ∧ m_ans (M 89) (f_rel (vQ (M 89)) a t) (k % 12) (k / 12) < lst by omega), if_pos (show 100 ≤ m_ans (M 89) (f_rel (vQ (M 89)) a t) (k % 12) (k / 12) ∧ m_ans (M 89) (f_rel (vQ (M 89)) a t) (k % 12) (k / 12) < lst by omega)] at hs
                   first
                   | exact ih (k + 1) _ _ _ (by omega) (by omega) (by omega) hs.2.symm hs.1.symm (by omega) (by omega) (mk_tr lk0 g2)
                   | (exfalso; omega))
                | (rw [if_neg (show ¬ (100 ≤ m_ans (M 89) (f_rel (vQ (M 89)) a t) (k % 12) (k / 12) ∧ m_ans (M 89) (f_rel (vQ (M 89)) a t) (k % 12) (k / 12) < lst) by omega), if_neg (show ¬ (100 ≤ m_ans (M 89) (f_rel (vQ (M 89)) a t) (k % 12) (k / 12) ∧ m_ans (M 89) (f_rel (vQ (M 89)) a t) (k % 12) (k / 12) < lst) by omega)] at hs
                   first
                   | exact ih (k + 1) _ _ _ (by omega) (by omega) (by omega) hs.2.symm hs.1.symm (by omega) (by omega) (mk_tr lk0 g2)
                   | (exfalso; omega))
              · skip
                refine jw_iload hC dX5_gentlestPlace_85 2 rfl ?_
                refine jw_goto (tgt := 92) hC dX5_gentlestPlace_87 (by decide) ?_
                refine jw_istore (L' := [(4, _), (3, _), (7, _), (6, _), (0, _), (1, _), (2, _), (5, _)]) hC dX5_gentlestPlace_92 (by decide) rfl ?_
                refine jw_iinc (L' := [(5, _), (4, _), (3, _), (7, _), (6, _), (0, _), (1, _), (2, _)]) hC dX5_gentlestPlace_94 7 rfl (by decide) rfl ?_
                refine jw_goto (tgt := 9) hC dX5_gentlestPlace_97 (by decide) ?_
                refine jw_loc (L' := [(0, _), (1, _), (2, _), (3, _), (4, _), (5, _)]) [5, 6, 7, 2, 1, 0] rfl ?_
                first
                | (rw [if_pos (show 100 ≤ m_ans (M 89) (f_rel (vQ (M 89)) a t) (k % 12) (k / 12) ∧ m_ans (M 89) (f_rel (vQ (M 89)) a t) (k % 12) (k / 12) < lst by omega), if_pos (show 100 ≤ m_ans (M 89) (f_rel (vQ (M 89)) a t) (k % 12) (k / 12) ∧ m_ans (M 89) (f_rel (vQ (M 89)) a t) (k % 12) (k / 12) < lst by omega)] at hs
                   first
                   | exact ih (k + 1) _ _ _ (by omega) (by omega) (by omega) hs.2.symm hs.1.symm (by omega) (by omega) (mk_tr lk0 g2)
                   | (exfalso; omega))
                | (rw [if_neg (show ¬ (100 ≤ m_ans (M 89) (f_rel (vQ (M 89)) a t) (k % 12) (k / 12) ∧ m_ans (M 89) (f_rel (vQ (M 89)) a t) (k % 12) (k / 12) < lst) by omega), if_neg (show ¬ (100 ≤ m_ans (M 89) (f_rel (vQ (M 89)) a t) (k % 12) (k / 12) ∧ m_ans (M 89) (f_rel (vQ (M 89)) a t) (k % 12) (k / 12) < lst) by omega)] at hs
                   first
                   | exact ih (k + 1) _ _ _ (by omega) (by omega) (by omega) hs.2.symm hs.1.symm (by omega) (by omega) (mk_tr lk0 g2)
                   | (exfalso; omega))
            · skip
              refine jw_bipush hC dX5_gentlestPlace_61 (by decide) ?_
              refine jw_iload hC dX5_gentlestPlace_63 7 rfl ?_
              refine jw_bipush hC dX5_gentlestPlace_65 (by decide) ?_
              refine jw_idiv hC dX5_gentlestPlace_67 (by omega) (by omega) (by omega) (by omega) ?_
              refine jw_imul hC dX5_gentlestPlace_68 ?_
              refine jw_iload hC dX5_gentlestPlace_69 7 rfl ?_
              refine jw_bipush hC dX5_gentlestPlace_71 (by decide) ?_
              refine jw_irem hC dX5_gentlestPlace_73 (by omega) (by omega) (by omega) (by omega) ?_
              refine jw_iadd hC dX5_gentlestPlace_74 ?_
              refine jw_goto (tgt := 79) hC dX5_gentlestPlace_75 (by decide) ?_
              refine jw_istore_n (L' := [(3, _), (7, _), (6, _), (0, _), (1, _), (2, _), (4, _), (5, _)]) hC dX5_gentlestPlace_79 rfl (by decide) rfl ?_
              refine jw_iload hC dX5_gentlestPlace_80 1 rfl ?_
              refine jw_if_eq (tgt := 90) hC dX5_gentlestPlace_82 (by decide) (by omega) (by omega) (fun h82 => ?_) (fun h82 => ?_)
              · skip
                refine jw_iload hC dX5_gentlestPlace_90 6 rfl ?_
                refine jw_istore (L' := [(4, _), (3, _), (7, _), (6, _), (0, _), (1, _), (2, _), (5, _)]) hC dX5_gentlestPlace_92 (by decide) rfl ?_
                refine jw_iinc (L' := [(5, _), (4, _), (3, _), (7, _), (6, _), (0, _), (1, _), (2, _)]) hC dX5_gentlestPlace_94 7 rfl (by decide) rfl ?_
                refine jw_goto (tgt := 9) hC dX5_gentlestPlace_97 (by decide) ?_
                refine jw_loc (L' := [(0, _), (1, _), (2, _), (3, _), (4, _), (5, _)]) [5, 6, 7, 2, 1, 0] rfl ?_
                first
                | (rw [if_pos (show 100 ≤ m_ans (M 89) (f_rel (vQ (M 89)) a t) (k % 12) (k / 12) ∧ m_ans (M 89) (f_rel (vQ (M 89)) a t) (k % 12) (k / 12) < lst by omega), if_pos (show 100 ≤ m_ans (M 89) (f_rel (vQ (M 89)) a t) (k % 12) (k / 12) ∧ m_ans (M 89) (f_rel (vQ (M 89)) a t) (k % 12) (k / 12) < lst by omega)] at hs
                   first
                   | exact ih (k + 1) _ _ _ (by omega) (by omega) (by omega) hs.2.symm hs.1.symm (by omega) (by omega) (mk_tr lk0 g2)
                   | (exfalso; omega))
                | (rw [if_neg (show ¬ (100 ≤ m_ans (M 89) (f_rel (vQ (M 89)) a t) (k % 12) (k / 12) ∧ m_ans (M 89) (f_rel (vQ (M 89)) a t) (k % 12) (k / 12) < lst) by omega), if_neg (show ¬ (100 ≤ m_ans (M 89) (f_rel (vQ (M 89)) a t) (k % 12) (k / 12) ∧ m_ans (M 89) (f_rel (vQ (M 89)) a t) (k % 12) (k / 12) < lst) by omega)] at hs
                   first
                   | exact ih (k + 1) _ _ _ (by omega) (by omega) (by omega) hs.2.symm hs.1.symm (by omega) (by omega) (mk_tr lk0 g2)
                   | (exfalso; omega))
              · skip
                refine jw_iload hC dX5_gentlestPlace_85 2 rfl ?_
                refine jw_goto (tgt := 92) hC dX5_gentlestPlace_87 (by decide) ?_
                refine jw_istore (L' := [(4, _), (3, _), (7, _), (6, _), (0, _), (1, _), (2, _), (5, _)]) hC dX5_gentlestPlace_92 (by decide) rfl ?_
                refine jw_iinc (L' := [(5, _), (4, _), (3, _), (7, _), (6, _), (0, _), (1, _), (2, _)]) hC dX5_gentlestPlace_94 7 rfl (by decide) rfl ?_
                refine jw_goto (tgt := 9) hC dX5_gentlestPlace_97 (by decide) ?_
                refine jw_loc (L' := [(0, _), (1, _), (2, _), (3, _), (4, _), (5, _)]) [5, 6, 7, 2, 1, 0] rfl ?_
                first
                | (rw [if_pos (show 100 ≤ m_ans (M 89) (f_rel (vQ (M 89)) a t) (k % 12) (k / 12) ∧ m_ans (M 89) (f_rel (vQ (M 89)) a t) (k % 12) (k / 12) < lst by omega), if_pos (show 100 ≤ m_ans (M 89) (f_rel (vQ (M 89)) a t) (k % 12) (k / 12) ∧ m_ans (M 89) (f_rel (vQ (M 89)) a t) (k % 12) (k / 12) < lst by omega)] at hs
                   first
                   | exact ih (k + 1) _ _ _ (by omega) (by omega) (by omega) hs.2.symm hs.1.symm (by omega) (by omega) (mk_tr lk0 g2)
                   | (exfalso; omega))
                | (rw [if_neg (show ¬ (100 ≤ m_ans (M 89) (f_rel (vQ (M 89)) a t) (k % 12) (k / 12) ∧ m_ans (M 89) (f_rel (vQ (M 89)) a t) (k % 12) (k / 12) < lst) by omega), if_neg (show ¬ (100 ≤ m_ans (M 89) (f_rel (vQ (M 89)) a t) (k % 12) (k / 12) ∧ m_ans (M 89) (f_rel (vQ (M 89)) a t) (k % 12) (k / 12) < lst) by omega)] at hs
                   first
                   | exact ih (k + 1) _ _ _ (by omega) (by omega) (by omega) hs.2.symm hs.1.symm (by omega) (by omega) (mk_tr lk0 g2)
                   | (exfalso; omega))
  refine jw_iconst hC dX5_gentlestPlace_0 ?_
  refine jw_istore_n (L' := [(3, _), (0, _), (1, _), (2, _)]) hC dX5_gentlestPlace_1 rfl (by decide) rfl ?_
  refine jw_ldc (n := 1000000) hC dX5_gentlestPlace_2 w6_126 ?_
  refine jw_istore (L' := [(4, _), (3, _), (0, _), (1, _), (2, _)]) hC dX5_gentlestPlace_4 (by decide) rfl ?_
  refine jw_iconst hC dX5_gentlestPlace_6 ?_
  refine jw_istore (L' := [(5, _), (4, _), (3, _), (0, _), (1, _), (2, _)]) hC dX5_gentlestPlace_7 (by decide) rfl ?_
  refine jw_loc (L' := [(0, _), (1, _), (2, _), (3, _), (4, _), (5, _)]) [3, 4, 5, 2, 1, 0] rfl ?_
  exact K9 145 0 _ _ M (by omega) (by omega) (by omega) rfl rfl (by omega) (by omega) (fun _ _ _ => rfl)
set_option maxRecDepth 100000 in
set_option maxHeartbeats 4000000 in
theorem c_X5_best (l : Launch) (E : ewE) (M : ewM) (h0 : svI (M 89)) : Ct l E yX5_best (.code yX5_best cX5_best 3 (some .int)) 8 [vR E 88] M (fun v M1 => v = some (vI (f_fr (fun q => f_fc (vD (M 89)) (vC (M 89)) q (M 89 0) (M 89 1)) 10)) ∧ mk M M1) := by
  refine ct_of (L0 := [(0, vR E 88)]) (by decide +kernel) rfl (Nat.le_of_ble_eq_true rfl) ?_
  intro zp ze zs zm za zb zt zc zA hC
  obtain ⟨p1, p2, p3, p4, p5, p6, p7, p8, p9, pf⟩ := id h0
  have K4 : ∀ (n : Nat) (k best : Int) (M1 : ewM), 12 - k < n → 2 ≤ k → k ≤ 12 → best = f_fr (fun q => f_fc (vD (M 89)) (vC (M 89)) q (M 89 0) (M 89 1)) (k - 2).toNat → mk M M1 → jJ zp l ze (ct_rm 8) zs zm za zb zt zc E zA 3 0 0 (MQ zb (ct_Q E zA (fun v M1 => v = some (vI (f_fr (fun q => f_fc (vD (M 89)) (vC (M 89)) q (M 89 0) (M 89 1)) 10)) ∧ mk M M1)) za zs 0 0 zA) 4 [(0, vR E 88), (1, vI best), (2, vI k)] [] M1 := by
    intro n
    induction n with
    | zero => intros; omega
    | succ n ih =>
      intro k best M1 i1 i2 i3 hbs lk0
      have hs := f_fl_s (fun q => f_fc (vD (M 89)) (vC (M 89)) q (M 89 0) (M 89 1)) i2
      have hff := f_fl_fr (fun q => f_fc (vD (M 89)) (vC (M 89)) q (M 89 0) (M 89 1)) (k - 2).toNat
      have hfb := f_fr_b (fun q => f_fc (vD (M 89)) (vC (M 89)) q (M 89 0) (M 89 1)) (k - 2).toNat
      rw [← hbs] at hs hff hfb
      rw [hff] at hs
      refine jw_iload_n hC dX5_best_4 2 rfl rfl ?_
      refine jw_bipush hC dX5_best_5 (by decide) ?_
      refine jw_icmp_ge (tgt := 35) hC dX5_best_7 (by decide) (by omega) (by omega) (by omega) (by omega) (fun h7 => ?_) (fun h7 => ?_)
      · skip
        refine jw_iload_n hC dX5_best_35 1 rfl rfl ?_
        refine jw_iret hC dX5_best_36 ?_
        exact ⟨by rw [hbs, show (k - 2).toNat = 10 by omega], lk0⟩
      · skip
        refine jw_aload_n hC dX5_best_10 0 rfl rfl ?_
        refine jw_iload_n hC dX5_best_11 2 rfl rfl ?_
        refine jw_callV hC (c_X5_wouldFold l E M1 (by rw [lk0 89 (by decide) (by decide)]; exact h0) _ ⟨by omega, by omega⟩) sV_X5_178 ewF_m0.o dX5_best_12 rfl rfl ⟨Nat.le_of_ble_eq_true rfl, Nat.le_of_ble_eq_true rfl⟩ ⟨Nat.zero_le _, Nat.zero_le _⟩ (Nat.le_of_ble_eq_true rfl) (fun v12 M12 g12 => ?_)
        obtain ⟨rfl, g2⟩ := g12
        rw [lk0 89 (by decide) (by decide)]
        have lk1 := mk_tr lk0 g2
        have hf1 := f_fc_b (d := vD (M 89)) (c := vC (M 89)) k (M 89 0) (M 89 1) p2
        refine jw_aload_n hC dX5_best_15 0 rfl rfl ?_
        refine jw_iload_n hC dX5_best_16 1 rfl rfl ?_
        refine jw_callV hC (c_X5_wouldFold l E M12 (by rw [lk1 89 (by decide) (by decide)]; exact h0) _ ⟨by omega, by omega⟩) sV_X5_178 ewF_m0.o dX5_best_17 rfl rfl ⟨Nat.le_of_ble_eq_true rfl, Nat.le_of_ble_eq_true rfl⟩ ⟨Nat.zero_le _, Nat.zero_le _⟩ (Nat.le_of_ble_eq_true rfl) (fun v17 M17 g17 => ?_)
        obtain ⟨rfl, g3⟩ := g17
        rw [lk1 89 (by decide) (by decide)]
        have lk2 := mk_tr lk1 g3
        have hf2 := f_fc_b (d := vD (M 89)) (c := vC (M 89)) best (M 89 0) (M 89 1) p2
        refine jw_icmp_ge (tgt := 27) hC dX5_best_20 (by decide) (by omega) (by omega) (by omega) (by omega) (fun h20 => ?_) (fun h20 => ?_)
        · skip
          refine jw_iload_n hC dX5_best_27 1 rfl rfl ?_
          refine jw_istore_n (L' := [(1, _), (0, _), (2, _)]) hC dX5_best_28 rfl (by decide) rfl ?_
          refine jw_iinc (L' := [(2, _), (1, _), (0, _)]) hC dX5_best_29 2 rfl (by decide) rfl ?_
          refine jw_goto (tgt := 4) hC dX5_best_32 (by decide) ?_
          refine jw_loc (L' := [(0, _), (1, _), (2, _)]) [2, 1, 0] rfl ?_
          have hs2 := hs.2
          first
          | (rw [if_pos (by omega)] at hs2
             exact ih (k + 1) _ _ (by omega) (by omega) (by omega) (by rw [show k + 1 - 2 = k - 1 by omega, hs2]) lk2)
          | (rw [if_neg (by omega)] at hs2
             exact ih (k + 1) _ _ (by omega) (by omega) (by omega) (by rw [show k + 1 - 2 = k - 1 by omega, hs2]) lk2)
        · skip
          refine jw_iload_n hC dX5_best_23 2 rfl rfl ?_
          refine jw_goto (tgt := 28) hC dX5_best_24 (by decide) ?_
          refine jw_istore_n (L' := [(1, _), (0, _), (2, _)]) hC dX5_best_28 rfl (by decide) rfl ?_
          refine jw_iinc (L' := [(2, _), (1, _), (0, _)]) hC dX5_best_29 2 rfl (by decide) rfl ?_
          refine jw_goto (tgt := 4) hC dX5_best_32 (by decide) ?_
          refine jw_loc (L' := [(0, _), (1, _), (2, _)]) [2, 1, 0] rfl ?_
          have hs2 := hs.2
          first
          | (rw [if_pos (by omega)] at hs2
             exact ih (k + 1) _ _ (by omega) (by omega) (by omega) (by rw [show k + 1 - 2 = k - 1 by omega, hs2]) lk2)
          | (rw [if_neg (by omega)] at hs2
             exact ih (k + 1) _ _ (by omega) (by omega) (by omega) (by rw [show k + 1 - 2 = k - 1 by omega, hs2]) lk2)
  refine jw_iconst hC dX5_best_0 ?_
  refine jw_istore_n (L' := [(1, _), (0, _)]) hC dX5_best_1 rfl (by decide) rfl ?_
  refine jw_iconst hC dX5_best_2 ?_
  refine jw_istore_n (L' := [(2, _), (1, _), (0, _)]) hC dX5_best_3 rfl (by decide) rfl ?_
  refine jw_loc (L' := [(0, _), (1, _), (2, _)]) [2, 1, 0] rfl ?_
  exact K4 11 2 1 M (by omega) (by omega) (by omega) rfl (fun _ _ _ => rfl)
set_option maxRecDepth 100000 in
set_option maxHeartbeats 4000000 in
theorem c_X5_areAlike (l : Launch) (E : ewE) (M : ewM) (h0 : svI (M 89)) (a : Int) (ha : 0 ≤ a ∧ a < 3) (o : Int) (ho : 0 ≤ o ∧ o < 3) (t : Int) (ht : 0 ≤ t ∧ t < 8) : Ct l E yX5_areAlike (.code yX5_areAlike cX5_areAlike 6 (some .boolean)) 2 [vR E 88, vI a, vI o, vI t] M (fun v M1 => v = some (vI (if f_eqt (vQ (M 89)) a t o 25 = true then 1 else 0)) ∧ M = M1) := by
  refine ct_of (L0 := [(0, vR E 88), (1, vI a), (2, vI o), (3, vI t)]) (by decide +kernel) rfl (Nat.le_of_ble_eq_true rfl) ?_
  intro zp ze zs zm za zb zt zc zA hC
  obtain ⟨p1, p2, p3, p4, p5, p6, p7, p8, p9, pf⟩ := id h0
  have K6 : ∀ (n : Nat) (k ar : Int), 25 - k < n → 0 ≤ k → k ≤ 25 → ar = (if f_eqt (vQ (M 89)) a t o k.toNat = true then 1 else 0) → (ar = 0 ∨ ar = 1) → jJ zp l ze (ct_rm 2) zs zm za zb zt zc E zA 6 0 0 (MQ zb (ct_Q E zA (fun v M1 => v = some (vI (if f_eqt (vQ (M 89)) a t o 25 = true then 1 else 0)) ∧ M = M1)) za zs 0 0 zA) 6 [(0, vR E 88), (1, vI a), (2, vI o), (3, vI t), (4, vI ar), (5, vI k)] [] M := by
    intro n
    induction n with
    | zero => intros; omega
    | succ n ih =>
      intro k ar i1 i2 i3 har har2
      have hs := f_eqt_s (vQ (M 89)) a t o i2
      refine jw_iload hC dX5_areAlike_6 5 rfl ?_
      refine jw_bipush hC dX5_areAlike_8 (by decide) ?_
      refine jw_icmp_ge (tgt := 62) hC dX5_areAlike_10 (by decide) (by omega) (by omega) (by omega) (by omega) (fun h10 => ?_) (fun h10 => ?_)
      · skip
        refine jw_iload hC dX5_areAlike_62 4 rfl ?_
        refine jw_zret hC (by omega) dX5_areAlike_64 ?_
        refine ⟨?_, rfl⟩
        have e9 : k = 25 := by omega
        subst e9
        rw [har]
        rfl
      · skip
        refine jw_iload hC dX5_areAlike_13 4 rfl ?_
        refine jw_if_eq (tgt := 53) hC dX5_areAlike_15 (by decide) (by omega) (by omega) (fun h15 => ?_) (fun h15 => ?_)
        · skip
          refine jw_iconst hC dX5_areAlike_53 ?_
          refine jw_istore (L' := [(4, _), (0, _), (1, _), (2, _), (3, _), (5, _)]) hC dX5_areAlike_54 (by decide) rfl ?_
          refine jw_iinc (L' := [(5, _), (4, _), (0, _), (1, _), (2, _), (3, _)]) hC dX5_areAlike_56 5 rfl (by decide) rfl ?_
          refine jw_goto (tgt := 6) hC dX5_areAlike_59 (by decide) ?_
          refine jw_loc (L' := [(0, _), (1, _), (2, _), (3, _), (4, _), (5, _)]) [2, 3, 4, 5, 1, 0] rfl ?_
          refine ih (k + 1) _ (by omega) (by omega) (by omega) ?_ (by omega)
          rw [hs]
          cases hq : f_eqt (vQ (M 89)) a t o k.toNat with
          | false =>
            rw [hq, if_neg (by decide)] at har
            rw [Bool.false_and, if_neg (by decide)]
            try omega
          | true =>
            rw [hq, if_pos rfl] at har
            rw [Bool.true_and]
            first
            | (exfalso; omega)
            | rw [if_pos (by simp; omega)]
            | rw [if_neg (by simp; omega)]
        · skip
          refine jw_aload_n hC dX5_areAlike_18 0 rfl rfl ?_
          refine jw_iload_n hC dX5_areAlike_19 1 rfl rfl ?_
          refine jw_iload hC dX5_areAlike_20 5 rfl ?_
          refine jw_iconst hC dX5_areAlike_22 ?_
          refine jw_irem hC dX5_areAlike_23 (by omega) (by omega) (by omega) (by omega) ?_
          refine jw_iload hC dX5_areAlike_24 5 rfl ?_
          refine jw_iconst hC dX5_areAlike_26 ?_
          refine jw_idiv hC dX5_areAlike_27 (by omega) (by omega) (by omega) (by omega) ?_
          refine jw_iload_n hC dX5_areAlike_28 3 rfl rfl ?_
          refine jw_callV hC (c_X5_turned l E M _ _ _ _ ha ⟨by omega, by omega⟩ ⟨by omega, by omega⟩ ht) sV_X5_80 ewF_m0.o dX5_areAlike_29 rfl rfl ⟨Nat.le_of_ble_eq_true rfl, Nat.le_of_ble_eq_true rfl⟩ ⟨Nat.zero_le _, Nat.zero_le _⟩ (Nat.le_of_ble_eq_true rfl) (fun v29 M29 g29 => ?_)
          obtain ⟨rfl, rfl⟩ := g29
          have hb29 := p3 (a * 25 + f_tr t (k % 5) (k / 5) * 5 + f_tc t (k % 5) (k / 5))
          have hb29 : 0 ≤ f_tp (vQ (M 89)) a (k % 5) (k / 5) t ∧ f_tp (vQ (M 89)) a (k % 5) (k / 5) t ≤ 9 := hb29
          refine jw_aload_n hC dX5_areAlike_32 0 rfl rfl ?_
          refine jw_iload_n hC dX5_areAlike_33 2 rfl rfl ?_
          refine jw_iload hC dX5_areAlike_34 5 rfl ?_
          refine jw_iconst hC dX5_areAlike_36 ?_
          refine jw_irem hC dX5_areAlike_37 (by omega) (by omega) (by omega) (by omega) ?_
          refine jw_iload hC dX5_areAlike_38 5 rfl ?_
          refine jw_iconst hC dX5_areAlike_40 ?_
          refine jw_idiv hC dX5_areAlike_41 (by omega) (by omega) (by omega) (by omega) ?_
          refine jw_iconst hC dX5_areAlike_42 ?_
          refine jw_callV hC (c_X5_turned l E M _ _ _ _ ho ⟨by omega, by omega⟩ ⟨by omega, by omega⟩ ⟨by decide, by decide⟩) sV_X5_80 ewF_m0.o dX5_areAlike_43 rfl rfl ⟨Nat.le_of_ble_eq_true rfl, Nat.le_of_ble_eq_true rfl⟩ ⟨Nat.zero_le _, Nat.zero_le _⟩ (Nat.le_of_ble_eq_true rfl) (fun v43 M43 g43 => ?_)
          obtain ⟨rfl, rfl⟩ := g43
          have hb43 := p3 (o * 25 + f_tr 0 (k % 5) (k / 5) * 5 + f_tc 0 (k % 5) (k / 5))
          have hb43 : 0 ≤ f_tp (vQ (M 89)) o (k % 5) (k / 5) 0 ∧ f_tp (vQ (M 89)) o (k % 5) (k / 5) 0 ≤ 9 := hb43
          refine jw_icmp_ne (tgt := 53) hC dX5_areAlike_46 (by decide) (by omega) (by omega) (by omega) (by omega) (fun h46 => ?_) (fun h46 => ?_)
          · skip
            refine jw_iconst hC dX5_areAlike_53 ?_
            refine jw_istore (L' := [(4, _), (0, _), (1, _), (2, _), (3, _), (5, _)]) hC dX5_areAlike_54 (by decide) rfl ?_
            refine jw_iinc (L' := [(5, _), (4, _), (0, _), (1, _), (2, _), (3, _)]) hC dX5_areAlike_56 5 rfl (by decide) rfl ?_
            refine jw_goto (tgt := 6) hC dX5_areAlike_59 (by decide) ?_
            refine jw_loc (L' := [(0, _), (1, _), (2, _), (3, _), (4, _), (5, _)]) [2, 3, 4, 5, 1, 0] rfl ?_
            refine ih (k + 1) _ (by omega) (by omega) (by omega) ?_ (by omega)
            rw [hs]
            cases hq : f_eqt (vQ (M 89)) a t o k.toNat with
            | false =>
              rw [hq, if_neg (by decide)] at har
              rw [Bool.false_and, if_neg (by decide)]
              try omega
            | true =>
              rw [hq, if_pos rfl] at har
              rw [Bool.true_and]
              first
              | (exfalso; omega)
              | rw [if_pos (by simp; omega)]
              | rw [if_neg (by simp; omega)]
          · skip
            refine jw_iconst hC dX5_areAlike_49 ?_
            refine jw_goto (tgt := 54) hC dX5_areAlike_50 (by decide) ?_
            refine jw_istore (L' := [(4, _), (0, _), (1, _), (2, _), (3, _), (5, _)]) hC dX5_areAlike_54 (by decide) rfl ?_
            refine jw_iinc (L' := [(5, _), (4, _), (0, _), (1, _), (2, _), (3, _)]) hC dX5_areAlike_56 5 rfl (by decide) rfl ?_
            refine jw_goto (tgt := 6) hC dX5_areAlike_59 (by decide) ?_
            refine jw_loc (L' := [(0, _), (1, _), (2, _), (3, _), (4, _), (5, _)]) [2, 3, 4, 5, 1, 0] rfl ?_
            refine ih (k + 1) _ (by omega) (by omega) (by omega) ?_ (by omega)
            rw [hs]
            cases hq : f_eqt (vQ (M 89)) a t o k.toNat with
            | false =>
              rw [hq, if_neg (by decide)] at har
              rw [Bool.false_and, if_neg (by decide)]
              try omega
            | true =>
              rw [hq, if_pos rfl] at har
              rw [Bool.true_and]
              first
              | (exfalso; omega)
              | rw [if_pos (by simp; omega)]
              | rw [if_neg (by simp; omega)]
  refine jw_iconst hC dX5_areAlike_0 ?_
  refine jw_istore (L' := [(4, _), (0, _), (1, _), (2, _), (3, _)]) hC dX5_areAlike_1 (by decide) rfl ?_
  refine jw_iconst hC dX5_areAlike_3 ?_
  refine jw_istore (L' := [(5, _), (4, _), (0, _), (1, _), (2, _), (3, _)]) hC dX5_areAlike_4 (by decide) rfl ?_
  refine jw_loc (L' := [(0, _), (1, _), (2, _), (3, _), (4, _), (5, _)]) [2, 3, 4, 5, 1, 0] rfl ?_
  exact K6 26 0 1 (by omega) (by omega) (by omega) rfl (Or.inr rfl)
set_option maxRecDepth 100000 in
set_option maxHeartbeats 4000000 in
theorem c_X5_alikeBy (l : Launch) (E : ewE) (M : ewM) (h0 : svI (M 89)) (a : Int) (ha : 0 ≤ a ∧ a < 3) (o : Int) (ho : 0 ≤ o ∧ o < 3) : Ct l E yX5_alikeBy (.code yX5_alikeBy cX5_alikeBy 4 (some .int)) 3 [vR E 88, vI a, vI o] M (fun v M1 => v = some (vI (f_lt (vQ (M 89)) a o 8 0)) ∧ M = M1) := by
  refine ct_of (L0 := [(0, vR E 88), (1, vI a), (2, vI o)]) (by decide +kernel) rfl (Nat.le_of_ble_eq_true rfl) ?_
  intro zp ze zs zm za zb zt zc zA hC
  obtain ⟨p1, p2, p3, p4, p5, p6, p7, p8, p9, pf⟩ := id h0
  have K2 : ∀ (n : Nat) (k : Int), 8 - k < n → 0 ≤ k → k ≤ 8 → f_lt (vQ (M 89)) a o (8 - k.toNat) k = f_lt (vQ (M 89)) a o 8 0 → jJ zp l ze (ct_rm 3) zs zm za zb zt zc E zA 4 0 0 (MQ zb (ct_Q E zA (fun v M1 => v = some (vI (f_lt (vQ (M 89)) a o 8 0)) ∧ M = M1)) za zs 0 0 zA) 2 [(0, vR E 88), (1, vI a), (2, vI o), (3, vI k)] [] M := by
    intro n
    induction n with
    | zero => intros; omega
    | succ n ih =>
      intro k i1 i2 i3 hlt
      refine jw_iload_n hC dX5_alikeBy_2 3 rfl rfl ?_
      refine jw_bipush hC dX5_alikeBy_3 (by decide) ?_
      refine jw_icmp_ge (tgt := 26) hC dX5_alikeBy_5 (by decide) (by omega) (by omega) (by omega) (by omega) (fun h5 => ?_) (fun h5 => ?_)
      · skip
        refine jw_iconst hC dX5_alikeBy_26 ?_
        refine jw_iret hC dX5_alikeBy_27 ?_
        refine ⟨?_, rfl⟩
        first
        | (rw [← hlt, show 8 - k.toNat = (7 - k.toNat) + 1 by omega, f_lt]
           by_cases hz : f_eqt (vQ (M 89)) a k o 25 = true
           · rw [if_pos hz]
           · rw [if_neg hz] at h15; omega)
        | (rw [← hlt, show 8 - k.toNat = 0 by omega]
           rfl)
      · skip
        refine jw_aload_n hC dX5_alikeBy_8 0 rfl rfl ?_
        refine jw_iload_n hC dX5_alikeBy_9 1 rfl rfl ?_
        refine jw_iload_n hC dX5_alikeBy_10 2 rfl rfl ?_
        refine jw_iload_n hC dX5_alikeBy_11 3 rfl rfl ?_
        refine jw_callV hC (c_X5_areAlike l E M h0 _ ha _ ho _ ⟨by omega, by omega⟩) sV_X5_184 ewF_m0.o dX5_alikeBy_12 rfl rfl ⟨Nat.le_of_ble_eq_true rfl, Nat.le_of_ble_eq_true rfl⟩ ⟨Nat.zero_le _, Nat.zero_le _⟩ (Nat.le_of_ble_eq_true rfl) (fun v12 M12 g12 => ?_)
        obtain ⟨rfl, rfl⟩ := g12
        have hb : (if f_eqt (vQ (M 89)) a k o 25 = true then (1 : Int) else 0) = 0 ∨ (if f_eqt (vQ (M 89)) a k o 25 = true then (1 : Int) else 0) = 1 := by split <;> omega
        refine jw_if_eq (tgt := 20) hC dX5_alikeBy_15 (by decide) (by omega) (by omega) (fun h15 => ?_) (fun h15 => ?_)
        · skip
          refine jw_iinc (L' := [(3, _), (0, _), (1, _), (2, _)]) hC dX5_alikeBy_20 3 rfl (by decide) rfl ?_
          refine jw_goto (tgt := 2) hC dX5_alikeBy_23 (by decide) ?_
          refine jw_loc (L' := [(0, _), (1, _), (2, _), (3, _)]) [1, 2, 3, 0] rfl ?_
          refine ih _ (by omega) (by omega) (by omega) ?_
          rw [← hlt, show 8 - k.toNat = (8 - (k + 1).toNat) + 1 by omega, f_lt]
          by_cases hz : f_eqt (vQ (M 89)) a k o 25 = true
          · rw [if_pos hz] at h15; omega
          · rw [if_neg hz]
        · skip
          refine jw_iload_n hC dX5_alikeBy_18 3 rfl rfl ?_
          refine jw_iret hC dX5_alikeBy_19 ?_
          refine ⟨?_, rfl⟩
          first
          | (rw [← hlt, show 8 - k.toNat = (7 - k.toNat) + 1 by omega, f_lt]
             by_cases hz : f_eqt (vQ (M 89)) a k o 25 = true
             · rw [if_pos hz]
             · rw [if_neg hz] at h15; omega)
          | (rw [← hlt, show 8 - k.toNat = 0 by omega]
             rfl)
  refine jw_iconst hC dX5_alikeBy_0 ?_
  refine jw_istore_n (L' := [(3, _), (0, _), (1, _), (2, _)]) hC dX5_alikeBy_1 rfl (by decide) rfl ?_
  refine jw_loc (L' := [(0, _), (1, _), (2, _), (3, _)]) [1, 2, 3, 0] rfl ?_
  exact K2 9 0 (by omega) (by omega) (by omega) rfl
