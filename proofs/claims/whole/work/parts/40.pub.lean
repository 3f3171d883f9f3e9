/-! THE REFERENCE: the public looks -/
/-- the row and the buffers are as they were, thrown says th -/
def qk (M M1 : ewM) (th : Int) : Prop := M1 88 0 = th ∧ (∀ k : Int, k ≠ 0 → M1 88 k = M 88 k) ∧ ∀ o : Nat, o ≠ 88 → o ≠ 90 → o ≠ 95 → M1 o = M o
theorem qk_0 (M : ewM) : qk M (mu M 88 0 0) 0 := ⟨mu_eq _ _ _ _, fun _ h => mu_nk _ _ _ h, fun _ h _ _ => mu_ne _ _ _ h⟩
theorem qk_k {M N N1 : ewM} {th : Int} (h : qk M N th) (k : mk N N1) : qk M N1 th := by
  obtain ⟨a1, a2, a3⟩ := h
  exact ⟨by rw [k 88 (by decide) (by decide), a1], fun q hq => by rw [k 88 (by decide) (by decide), a2 q hq], fun o o1 o2 o3 => by rw [k o o2 o3, a3 o o1 o2 o3]⟩
theorem qk_f {M N : ewM} {th : Int} (h : qk M N th) (x : Int) : qk M (mu N 88 0 x) x := by
  obtain ⟨a1, a2, a3⟩ := h
  exact ⟨mu_eq _ _ _ _, fun q hq => by rw [mu_nk _ _ _ hq, a2 q hq], fun o o1 o2 o3 => by rw [mu_ne _ _ _ o1, a3 o o1 o2 o3]⟩
theorem ite_1 {C : Prop} [Decidable C] (h : ¬ (if C then (1 : Int) else 0) = 0) : C := Decidable.by_contra (fun z => h (if_neg z))
theorem ite_0 {C : Prop} [Decidable C] (h : (if C then (1 : Int) else 0) = 0) : ¬ C := fun z => by rw [if_pos z] at h; omega
theorem ite_z (C : Prop) [Decidable C] : (if C then (1 : Int) else 0) = 0 ∨ (if C then (1 : Int) else 0) = 1 := by split <;> omega
set_option maxRecDepth 100000 in
set_option maxHeartbeats 4000000 in
theorem c_X5_count (l : Launch) (E : ewE) (M : ewM) (h0 : svI (M 89)) (w : Int) (w1 : -2147483648 ≤ w) (w2 : w < 2147483648) : Ct l E yX5_count (.code yX5_count cX5_count 2 (some .int)) 9 [vR E 88, vI w] M (fun v M1 => v = some (vI (if 0 ≤ w ∧ w ≤ 13 then g_num (M 89) (M 88 4) w else 0)) ∧ qk M M1 (if 0 ≤ w ∧ w ≤ 13 then 0 else 1)) := by
  refine ct_of (L0 := [(0, vR E 88), (1, vI w)]) (by decide +kernel) rfl (Nat.le_of_ble_eq_true rfl) ?_
  intro zp ze zs zm za zb zt zc zA hC
  have hz0 := ite_z (0 ≤ w ∧ w ≤ 13)
  refine jw_aload_n hC dX5_count_0 0 rfl rfl ?_
  refine jw_iconst hC dX5_count_1 ?_
  refine jw_puti hC fL_X5_35 ewF_m0 (kI := 0) rfl dX5_count_2 (by omega) (by omega) ?_
  refine jw_iload_n hC dX5_count_5 1 rfl rfl ?_
  refine jw_iconst hC dX5_count_6 ?_
  refine jw_bipush hC dX5_count_7 (by decide) ?_
  refine jw_callS hC (c_X5_in l E _ _ _ _ (by omega) (by omega) (by omega) (by omega) (by omega) (by omega)) sS_X5_39 dX5_count_9 rfl rfl ⟨Nat.le_of_ble_eq_true rfl, Nat.le_of_ble_eq_true rfl⟩ ⟨Nat.zero_le _, Nat.zero_le _⟩ (Nat.le_of_ble_eq_true rfl) (fun v9 M9 g9 => ?_)
  obtain ⟨rfl, rfl⟩ := g9
  refine jw_if_eq (tgt := 23) hC dX5_count_12 (by decide) (by omega) (by omega) (fun h12 => ?_) (fun h12 => ?_)
  · skip
    refine jw_aload_n hC dX5_count_23 0 rfl rfl ?_
    refine jw_iconst hC dX5_count_24 ?_
    refine jw_callV hC (c_X5_fails l E _ _ (by decide) (by decide)) sV_X5_101 ewF_m0.o dX5_count_25 rfl rfl ⟨Nat.le_of_ble_eq_true rfl, Nat.le_of_ble_eq_true rfl⟩ ⟨Nat.zero_le _, Nat.zero_le _⟩ (Nat.le_of_ble_eq_true rfl) (fun v25 M25 g25 => ?_)
    obtain ⟨rfl, rfl⟩ := g25
    refine jw_iret hC dX5_count_28 ?_
    rw [if_neg (ite_0 (C := 0 ≤ w ∧ w ≤ 13) h12), if_neg (ite_0 (C := 0 ≤ w ∧ w ≤ 13) h12)]
    exact ⟨rfl, qk_f (qk_0 M) _⟩
  · skip
    refine jw_aload_n hC dX5_count_15 0 rfl rfl ?_
    refine jw_iload_n hC dX5_count_16 1 rfl rfl ?_
    have z0 := ite_1 (C := 0 ≤ w ∧ w ≤ 13) h12
    refine jw_callV hC (c_X5_tellsCount l E (mu M 88 0 0) (show svI (mu M 88 0 0 89) by rw [mu_ne _ _ _ (by decide)]; exact h0) w (by omega)) sV_X5_162 ewF_m0.o dX5_count_17 rfl rfl ⟨Nat.le_of_ble_eq_true rfl, Nat.le_of_ble_eq_true rfl⟩ ⟨Nat.zero_le _, Nat.zero_le _⟩ (Nat.le_of_ble_eq_true rfl) (fun v17 M17 g17 => ?_)
    obtain ⟨rfl, -, rfl⟩ := g17
    rw [mu_ne _ _ _ (by decide), mu_nk _ _ _ (by decide)]
    refine jw_goto (tgt := 28) hC dX5_count_20 (by decide) ?_
    refine jw_iret hC dX5_count_28 ?_
    rw [if_pos (ite_1 (C := 0 ≤ w ∧ w ≤ 13) h12), if_pos (ite_1 (C := 0 ≤ w ∧ w ≤ 13) h12)]
    exact ⟨rfl, qk_0 M⟩
set_option maxRecDepth 100000 in
set_option maxHeartbeats 4000000 in
theorem c_X5_ifFolded (l : Launch) (E : ewE) (M : ewM) (h0 : svI (M 89)) (r : Int) (r1 : -2147483648 ≤ r) (r2 : r < 2147483648) : Ct l E yX5_ifFolded (.code yX5_ifFolded cX5_ifFolded 2 (some .int)) 9 [vR E 88, vI r] M (fun v M1 => v = some (vI (if 1 ≤ r ∧ r ≤ 11 then f_fc (vD (M 89)) (vC (M 89)) r (M 89 0) (M 89 1) else 0)) ∧ qk M M1 (if 1 ≤ r ∧ r ≤ 11 then 0 else 1)) := by
  refine ct_of (L0 := [(0, vR E 88), (1, vI r)]) (by decide +kernel) rfl (Nat.le_of_ble_eq_true rfl) ?_
  intro zp ze zs zm za zb zt zc zA hC
  have hz0 := ite_z (1 ≤ r ∧ r ≤ 11)
  refine jw_aload_n hC dX5_ifFolded_0 0 rfl rfl ?_
  refine jw_iconst hC dX5_ifFolded_1 ?_
  refine jw_puti hC fL_X5_35 ewF_m0 (kI := 0) rfl dX5_ifFolded_2 (by omega) (by omega) ?_
  refine jw_iload_n hC dX5_ifFolded_5 1 rfl rfl ?_
  refine jw_iconst hC dX5_ifFolded_6 ?_
  refine jw_bipush hC dX5_ifFolded_7 (by decide) ?_
  refine jw_callS hC (c_X5_in l E _ _ _ _ (by omega) (by omega) (by omega) (by omega) (by omega) (by omega)) sS_X5_39 dX5_ifFolded_9 rfl rfl ⟨Nat.le_of_ble_eq_true rfl, Nat.le_of_ble_eq_true rfl⟩ ⟨Nat.zero_le _, Nat.zero_le _⟩ (Nat.le_of_ble_eq_true rfl) (fun v9 M9 g9 => ?_)
  obtain ⟨rfl, rfl⟩ := g9
  refine jw_if_eq (tgt := 23) hC dX5_ifFolded_12 (by decide) (by omega) (by omega) (fun h12 => ?_) (fun h12 => ?_)
  · skip
    refine jw_aload_n hC dX5_ifFolded_23 0 rfl rfl ?_
    refine jw_iconst hC dX5_ifFolded_24 ?_
    refine jw_callV hC (c_X5_fails l E _ _ (by decide) (by decide)) sV_X5_101 ewF_m0.o dX5_ifFolded_25 rfl rfl ⟨Nat.le_of_ble_eq_true rfl, Nat.le_of_ble_eq_true rfl⟩ ⟨Nat.zero_le _, Nat.zero_le _⟩ (Nat.le_of_ble_eq_true rfl) (fun v25 M25 g25 => ?_)
    obtain ⟨rfl, rfl⟩ := g25
    refine jw_iret hC dX5_ifFolded_28 ?_
    rw [if_neg (ite_0 (C := 1 ≤ r ∧ r ≤ 11) h12), if_neg (ite_0 (C := 1 ≤ r ∧ r ≤ 11) h12)]
    exact ⟨rfl, qk_f (qk_0 M) _⟩
  · skip
    refine jw_aload_n hC dX5_ifFolded_15 0 rfl rfl ?_
    refine jw_iload_n hC dX5_ifFolded_16 1 rfl rfl ?_
    have z0 := ite_1 (C := 1 ≤ r ∧ r ≤ 11) h12
    refine jw_callV hC (c_X5_wouldFold l E (mu M 88 0 0) (show svI (mu M 88 0 0 89) by rw [mu_ne _ _ _ (by decide)]; exact h0) r (by omega)) sV_X5_178 ewF_m0.o dX5_ifFolded_17 rfl rfl ⟨Nat.le_of_ble_eq_true rfl, Nat.le_of_ble_eq_true rfl⟩ ⟨Nat.zero_le _, Nat.zero_le _⟩ (Nat.le_of_ble_eq_true rfl) (fun v17 M17 g17 => ?_)
    obtain ⟨rfl, k9⟩ := g17
    rw [mu_ne _ _ _ (by decide)]
    refine jw_goto (tgt := 28) hC dX5_ifFolded_20 (by decide) ?_
    refine jw_iret hC dX5_ifFolded_28 ?_
    rw [if_pos (ite_1 (C := 1 ≤ r ∧ r ≤ 11) h12), if_pos (ite_1 (C := 1 ≤ r ∧ r ≤ 11) h12)]
    exact ⟨rfl, qk_k (qk_0 M) k9⟩
set_option maxRecDepth 100000 in
set_option maxHeartbeats 4000000 in
theorem c_X5_bestFold (l : Launch) (E : ewE) (M : ewM) (h0 : svI (M 89))  : Ct l E yX5_bestFold (.code yX5_bestFold cX5_bestFold 1 (some .int)) 9 [vR E 88] M (fun v M1 => v = some (vI (f_fr (fun q => f_fc (vD (M 89)) (vC (M 89)) q (M 89 0) (M 89 1)) 10)) ∧ qk M M1 (0)) := by
  refine ct_of (L0 := [(0, vR E 88)]) (by decide +kernel) rfl (Nat.le_of_ble_eq_true rfl) ?_
  intro zp ze zs zm za zb zt zc zA hC
  skip
  refine jw_aload_n hC dX5_bestFold_0 0 rfl rfl ?_
  refine jw_iconst hC dX5_bestFold_1 ?_
  refine jw_puti hC fL_X5_35 ewF_m0 (kI := 0) rfl dX5_bestFold_2 (by omega) (by omega) ?_
  refine jw_aload_n hC dX5_bestFold_5 0 rfl rfl ?_
  skip
  refine jw_callV hC (c_X5_best l E (mu M 88 0 0) (show svI (mu M 88 0 0 89) by rw [mu_ne _ _ _ (by decide)]; exact h0)) sV_X5_181 ewF_m0.o dX5_bestFold_6 rfl rfl ⟨Nat.le_of_ble_eq_true rfl, Nat.le_of_ble_eq_true rfl⟩ ⟨Nat.zero_le _, Nat.zero_le _⟩ (Nat.le_of_ble_eq_true rfl) (fun v6 M6 g6 => ?_)
  obtain ⟨rfl, k9⟩ := g6
  rw [mu_ne _ _ _ (by decide)]
  refine jw_iret hC dX5_bestFold_9 ?_
  exact ⟨rfl, qk_k (qk_0 M) k9⟩
set_option maxRecDepth 100000 in
set_option maxHeartbeats 4000000 in
theorem c_X5_alike (l : Launch) (E : ewE) (M : ewM) (h0 : svI (M 89)) (a : Int) (a1 : -2147483648 ≤ a) (a2 : a < 2147483648) (b : Int) (b1 : -2147483648 ≤ b) (b2 : b < 2147483648) : Ct l E yX5_alike (.code yX5_alike cX5_alike 3 (some .int)) 9 [vR E 88, vI a, vI b] M (fun v M1 => v = some (vI (if 0 ≤ a ∧ a ≤ 2 then if 0 ≤ b ∧ b ≤ 2 then f_lt (vQ (M 89)) a b 8 0 else 0 else 0)) ∧ qk M M1 (if 0 ≤ a ∧ a ≤ 2 then if 0 ≤ b ∧ b ≤ 2 then 0 else 1 else 1)) := by
  refine ct_of (L0 := [(0, vR E 88), (1, vI a), (2, vI b)]) (by decide +kernel) rfl (Nat.le_of_ble_eq_true rfl) ?_
  intro zp ze zs zm za zb zt zc zA hC
  have hz0 := ite_z (0 ≤ a ∧ a ≤ 2)
  have hz1 := ite_z (0 ≤ b ∧ b ≤ 2)
  refine jw_aload_n hC dX5_alike_0 0 rfl rfl ?_
  refine jw_iconst hC dX5_alike_1 ?_
  refine jw_puti hC fL_X5_35 ewF_m0 (kI := 0) rfl dX5_alike_2 (by omega) (by omega) ?_
  refine jw_iload_n hC dX5_alike_5 1 rfl rfl ?_
  refine jw_callS hC (c_X5_isDie l E _ _ (by omega) (by omega)) sS_X5_94 dX5_alike_6 rfl rfl ⟨Nat.le_of_ble_eq_true rfl, Nat.le_of_ble_eq_true rfl⟩ ⟨Nat.zero_le _, Nat.zero_le _⟩ (Nat.le_of_ble_eq_true rfl) (fun v6 M6 g6 => ?_)
  obtain ⟨rfl, rfl⟩ := g6
  refine jw_if_eq (tgt := 28) hC dX5_alike_9 (by decide) (by omega) (by omega) (fun h9 => ?_) (fun h9 => ?_)
  · skip
    refine jw_aload_n hC dX5_alike_28 0 rfl rfl ?_
    refine jw_iconst hC dX5_alike_29 ?_
    refine jw_callV hC (c_X5_fails l E _ _ (by decide) (by decide)) sV_X5_101 ewF_m0.o dX5_alike_30 rfl rfl ⟨Nat.le_of_ble_eq_true rfl, Nat.le_of_ble_eq_true rfl⟩ ⟨Nat.zero_le _, Nat.zero_le _⟩ (Nat.le_of_ble_eq_true rfl) (fun v30 M30 g30 => ?_)
    obtain ⟨rfl, rfl⟩ := g30
    refine jw_iret hC dX5_alike_33 ?_
    rw [if_neg (ite_0 (C := 0 ≤ a ∧ a ≤ 2) h9), if_neg (ite_0 (C := 0 ≤ a ∧ a ≤ 2) h9)]
    exact ⟨rfl, qk_f (qk_0 M) _⟩
  · skip
    refine jw_iload_n hC dX5_alike_12 2 rfl rfl ?_
    refine jw_callS hC (c_X5_isDie l E _ _ (by omega) (by omega)) sS_X5_94 dX5_alike_13 rfl rfl ⟨Nat.le_of_ble_eq_true rfl, Nat.le_of_ble_eq_true rfl⟩ ⟨Nat.zero_le _, Nat.zero_le _⟩ (Nat.le_of_ble_eq_true rfl) (fun v13 M13 g13 => ?_)
    obtain ⟨rfl, rfl⟩ := g13
    refine jw_if_eq (tgt := 28) hC dX5_alike_16 (by decide) (by omega) (by omega) (fun h16 => ?_) (fun h16 => ?_)
    · skip
      refine jw_aload_n hC dX5_alike_28 0 rfl rfl ?_
      refine jw_iconst hC dX5_alike_29 ?_
      refine jw_callV hC (c_X5_fails l E _ _ (by decide) (by decide)) sV_X5_101 ewF_m0.o dX5_alike_30 rfl rfl ⟨Nat.le_of_ble_eq_true rfl, Nat.le_of_ble_eq_true rfl⟩ ⟨Nat.zero_le _, Nat.zero_le _⟩ (Nat.le_of_ble_eq_true rfl) (fun v30 M30 g30 => ?_)
      obtain ⟨rfl, rfl⟩ := g30
      refine jw_iret hC dX5_alike_33 ?_
      rw [if_pos (ite_1 (C := 0 ≤ a ∧ a ≤ 2) h9), if_pos (ite_1 (C := 0 ≤ a ∧ a ≤ 2) h9)]
      rw [if_neg (ite_0 (C := 0 ≤ b ∧ b ≤ 2) h16), if_neg (ite_0 (C := 0 ≤ b ∧ b ≤ 2) h16)]
      exact ⟨rfl, qk_f (qk_0 M) _⟩
    · skip
      refine jw_aload_n hC dX5_alike_19 0 rfl rfl ?_
      refine jw_iload_n hC dX5_alike_20 1 rfl rfl ?_
      refine jw_iload_n hC dX5_alike_21 2 rfl rfl ?_
      have z0 := ite_1 (C := 0 ≤ a ∧ a ≤ 2) h9
      have z1 := ite_1 (C := 0 ≤ b ∧ b ≤ 2) h16
      refine jw_callV hC (c_X5_alikeBy l E (mu M 88 0 0) (show svI (mu M 88 0 0 89) by rw [mu_ne _ _ _ (by decide)]; exact h0) a (by omega) b (by omega)) sV_X5_187 ewF_m0.o dX5_alike_22 rfl rfl ⟨Nat.le_of_ble_eq_true rfl, Nat.le_of_ble_eq_true rfl⟩ ⟨Nat.zero_le _, Nat.zero_le _⟩ (Nat.le_of_ble_eq_true rfl) (fun v22 M22 g22 => ?_)
      obtain ⟨rfl, rfl⟩ := g22
      rw [mu_ne _ _ _ (by decide)]
      refine jw_goto (tgt := 33) hC dX5_alike_25 (by decide) ?_
      refine jw_iret hC dX5_alike_33 ?_
      rw [if_pos (ite_1 (C := 0 ≤ a ∧ a ≤ 2) h9), if_pos (ite_1 (C := 0 ≤ a ∧ a ≤ 2) h9)]
      rw [if_pos (ite_1 (C := 0 ≤ b ∧ b ≤ 2) h16), if_pos (ite_1 (C := 0 ≤ b ∧ b ≤ 2) h16)]
      exact ⟨rfl, qk_0 M⟩
set_option maxRecDepth 100000 in
set_option maxHeartbeats 4000000 in
theorem c_X5_gentlest (l : Launch) (E : ewE) (M : ewM) (h0 : svI (M 89)) (a : Int) (a1 : -2147483648 ≤ a) (a2 : a < 2147483648) (t : Int) (t1 : -2147483648 ≤ t) (t2 : t < 2147483648) : Ct l E yX5_gentlest (.code yX5_gentlest cX5_gentlest 3 (some .int)) 9 [vR E 88, vI a, vI t] M (fun v M1 => v = some (vI (if 0 ≤ a ∧ a ≤ 2 then if 0 ≤ t ∧ t ≤ 7 then f_bs (fun k => m_ans (M 89) (f_rel (vQ (M 89)) a t) (k % 12) (k / 12)) 144 else 0 else 0)) ∧ qk M M1 (if 0 ≤ a ∧ a ≤ 2 then if 0 ≤ t ∧ t ≤ 7 then 0 else 2 else 1)) := by
  refine ct_of (L0 := [(0, vR E 88), (1, vI a), (2, vI t)]) (by decide +kernel) rfl (Nat.le_of_ble_eq_true rfl) ?_
  intro zp ze zs zm za zb zt zc zA hC
  have hz0 := ite_z (0 ≤ a ∧ a ≤ 2)
  have hz1 := ite_z (0 ≤ t ∧ t ≤ 7)
  refine jw_aload_n hC dX5_gentlest_0 0 rfl rfl ?_
  refine jw_iconst hC dX5_gentlest_1 ?_
  refine jw_puti hC fL_X5_35 ewF_m0 (kI := 0) rfl dX5_gentlest_2 (by omega) (by omega) ?_
  refine jw_iload_n hC dX5_gentlest_5 1 rfl rfl ?_
  refine jw_callS hC (c_X5_isDie l E _ _ (by omega) (by omega)) sS_X5_94 dX5_gentlest_6 rfl rfl ⟨Nat.le_of_ble_eq_true rfl, Nat.le_of_ble_eq_true rfl⟩ ⟨Nat.zero_le _, Nat.zero_le _⟩ (Nat.le_of_ble_eq_true rfl) (fun v6 M6 g6 => ?_)
  obtain ⟨rfl, rfl⟩ := g6
  refine jw_if_ne (tgt := 18) hC dX5_gentlest_9 (by decide) (by omega) (by omega) (fun h9 => ?_) (fun h9 => ?_)
  · skip
    refine jw_iload_n hC dX5_gentlest_18 2 rfl rfl ?_
    refine jw_iconst hC dX5_gentlest_19 ?_
    refine jw_bipush hC dX5_gentlest_20 (by decide) ?_
    refine jw_callS hC (c_X5_in l E _ _ _ _ (by omega) (by omega) (by omega) (by omega) (by omega) (by omega)) sS_X5_39 dX5_gentlest_22 rfl rfl ⟨Nat.le_of_ble_eq_true rfl, Nat.le_of_ble_eq_true rfl⟩ ⟨Nat.zero_le _, Nat.zero_le _⟩ (Nat.le_of_ble_eq_true rfl) (fun v22 M22 g22 => ?_)
    obtain ⟨rfl, rfl⟩ := g22
    refine jw_if_eq (tgt := 37) hC dX5_gentlest_25 (by decide) (by omega) (by omega) (fun h25 => ?_) (fun h25 => ?_)
    · skip
      refine jw_aload_n hC dX5_gentlest_37 0 rfl rfl ?_
      refine jw_iconst hC dX5_gentlest_38 ?_
      refine jw_callV hC (c_X5_fails l E _ _ (by decide) (by decide)) sV_X5_101 ewF_m0.o dX5_gentlest_39 rfl rfl ⟨Nat.le_of_ble_eq_true rfl, Nat.le_of_ble_eq_true rfl⟩ ⟨Nat.zero_le _, Nat.zero_le _⟩ (Nat.le_of_ble_eq_true rfl) (fun v39 M39 g39 => ?_)
      obtain ⟨rfl, rfl⟩ := g39
      refine jw_iret hC dX5_gentlest_42 ?_
      rw [if_pos (ite_1 (C := 0 ≤ a ∧ a ≤ 2) h9), if_pos (ite_1 (C := 0 ≤ a ∧ a ≤ 2) h9)]
      rw [if_neg (ite_0 (C := 0 ≤ t ∧ t ≤ 7) h25), if_neg (ite_0 (C := 0 ≤ t ∧ t ≤ 7) h25)]
      exact ⟨rfl, qk_f (qk_0 M) _⟩
    · skip
      refine jw_aload_n hC dX5_gentlest_28 0 rfl rfl ?_
      refine jw_iload_n hC dX5_gentlest_29 1 rfl rfl ?_
      refine jw_iload_n hC dX5_gentlest_30 2 rfl rfl ?_
      have z0 := ite_1 (C := 0 ≤ a ∧ a ≤ 2) h9
      have z1 := ite_1 (C := 0 ≤ t ∧ t ≤ 7) h25
      refine jw_callV hC (c_X5_gentlestPlace l E (mu M 88 0 0) (show svI (mu M 88 0 0 89) by rw [mu_ne _ _ _ (by decide)]; exact h0) a (by omega) t (by omega)) sV_X5_175 ewF_m0.o dX5_gentlest_31 rfl rfl ⟨Nat.le_of_ble_eq_true rfl, Nat.le_of_ble_eq_true rfl⟩ ⟨Nat.zero_le _, Nat.zero_le _⟩ (Nat.le_of_ble_eq_true rfl) (fun v31 M31 g31 => ?_)
      obtain ⟨rfl, k9⟩ := g31
      rw [mu_ne _ _ _ (by decide)]
      refine jw_goto (tgt := 42) hC dX5_gentlest_34 (by decide) ?_
      refine jw_iret hC dX5_gentlest_42 ?_
      rw [if_pos (ite_1 (C := 0 ≤ a ∧ a ≤ 2) h9), if_pos (ite_1 (C := 0 ≤ a ∧ a ≤ 2) h9)]
      rw [if_pos (ite_1 (C := 0 ≤ t ∧ t ≤ 7) h25), if_pos (ite_1 (C := 0 ≤ t ∧ t ≤ 7) h25)]
      exact ⟨rfl, qk_k (qk_0 M) k9⟩
  · skip
    refine jw_aload_n hC dX5_gentlest_12 0 rfl rfl ?_
    refine jw_iconst hC dX5_gentlest_13 ?_
    refine jw_callV hC (c_X5_fails l E _ _ (by decide) (by decide)) sV_X5_101 ewF_m0.o dX5_gentlest_14 rfl rfl ⟨Nat.le_of_ble_eq_true rfl, Nat.le_of_ble_eq_true rfl⟩ ⟨Nat.zero_le _, Nat.zero_le _⟩ (Nat.le_of_ble_eq_true rfl) (fun v14 M14 g14 => ?_)
    obtain ⟨rfl, rfl⟩ := g14
    refine jw_iret hC dX5_gentlest_17 ?_
    rw [if_neg (ite_0 (C := 0 ≤ a ∧ a ≤ 2) h9), if_neg (ite_0 (C := 0 ≤ a ∧ a ≤ 2) h9)]
    exact ⟨rfl, qk_f (qk_0 M) _⟩
set_option maxRecDepth 100000 in
set_option maxHeartbeats 4000000 in
theorem c_X5_ifPressed (l : Launch) (E : ewE) (M : ewM) (h0 : svI (M 89)) (a : Int) (a1 : -2147483648 ≤ a) (a2 : a < 2147483648) (x : Int) (x1 : -2147483648 ≤ x) (x2 : x < 2147483648) (y : Int) (y1 : -2147483648 ≤ y) (y2 : y < 2147483648) (t : Int) (t1 : -2147483648 ≤ t) (t2 : t < 2147483648) : Ct l E yX5_ifPressed (.code yX5_ifPressed cX5_ifPressed 5 (some .int)) 9 [vR E 88, vI a, vI x, vI y, vI t] M (fun v M1 => v = some (vI (if 0 ≤ a ∧ a ≤ 2 then if 0 ≤ t ∧ t ≤ 7 then m_ans (M 89) (f_rel (vQ (M 89)) a t) x y else 0 else 0)) ∧ qk M M1 (if 0 ≤ a ∧ a ≤ 2 then if 0 ≤ t ∧ t ≤ 7 then 0 else 2 else 1)) := by
  refine ct_of (L0 := [(0, vR E 88), (1, vI a), (2, vI x), (3, vI y), (4, vI t)]) (by decide +kernel) rfl (Nat.le_of_ble_eq_true rfl) ?_
  intro zp ze zs zm za zb zt zc zA hC
  have hz0 := ite_z (0 ≤ a ∧ a ≤ 2)
  have hz1 := ite_z (0 ≤ t ∧ t ≤ 7)
  refine jw_aload_n hC dX5_ifPressed_0 0 rfl rfl ?_
  refine jw_iconst hC dX5_ifPressed_1 ?_
  refine jw_puti hC fL_X5_35 ewF_m0 (kI := 0) rfl dX5_ifPressed_2 (by omega) (by omega) ?_
  refine jw_iload_n hC dX5_ifPressed_5 1 rfl rfl ?_
  refine jw_callS hC (c_X5_isDie l E _ _ (by omega) (by omega)) sS_X5_94 dX5_ifPressed_6 rfl rfl ⟨Nat.le_of_ble_eq_true rfl, Nat.le_of_ble_eq_true rfl⟩ ⟨Nat.zero_le _, Nat.zero_le _⟩ (Nat.le_of_ble_eq_true rfl) (fun v6 M6 g6 => ?_)
  obtain ⟨rfl, rfl⟩ := g6
  refine jw_if_ne (tgt := 18) hC dX5_ifPressed_9 (by decide) (by omega) (by omega) (fun h9 => ?_) (fun h9 => ?_)
  · skip
    refine jw_iload hC dX5_ifPressed_18 4 rfl ?_
    refine jw_iconst hC dX5_ifPressed_20 ?_
    refine jw_bipush hC dX5_ifPressed_21 (by decide) ?_
    refine jw_callS hC (c_X5_in l E _ _ _ _ (by omega) (by omega) (by omega) (by omega) (by omega) (by omega)) sS_X5_39 dX5_ifPressed_23 rfl rfl ⟨Nat.le_of_ble_eq_true rfl, Nat.le_of_ble_eq_true rfl⟩ ⟨Nat.zero_le _, Nat.zero_le _⟩ (Nat.le_of_ble_eq_true rfl) (fun v23 M23 g23 => ?_)
    obtain ⟨rfl, rfl⟩ := g23
    refine jw_if_eq (tgt := 41) hC dX5_ifPressed_26 (by decide) (by omega) (by omega) (fun h26 => ?_) (fun h26 => ?_)
    · skip
      refine jw_aload_n hC dX5_ifPressed_41 0 rfl rfl ?_
      refine jw_iconst hC dX5_ifPressed_42 ?_
      refine jw_callV hC (c_X5_fails l E _ _ (by decide) (by decide)) sV_X5_101 ewF_m0.o dX5_ifPressed_43 rfl rfl ⟨Nat.le_of_ble_eq_true rfl, Nat.le_of_ble_eq_true rfl⟩ ⟨Nat.zero_le _, Nat.zero_le _⟩ (Nat.le_of_ble_eq_true rfl) (fun v43 M43 g43 => ?_)
      obtain ⟨rfl, rfl⟩ := g43
      refine jw_iret hC dX5_ifPressed_46 ?_
      rw [if_pos (ite_1 (C := 0 ≤ a ∧ a ≤ 2) h9), if_pos (ite_1 (C := 0 ≤ a ∧ a ≤ 2) h9)]
      rw [if_neg (ite_0 (C := 0 ≤ t ∧ t ≤ 7) h26), if_neg (ite_0 (C := 0 ≤ t ∧ t ≤ 7) h26)]
      exact ⟨rfl, qk_f (qk_0 M) _⟩
    · skip
      refine jw_aload_n hC dX5_ifPressed_29 0 rfl rfl ?_
      refine jw_iload_n hC dX5_ifPressed_30 1 rfl rfl ?_
      refine jw_iload_n hC dX5_ifPressed_31 2 rfl rfl ?_
      refine jw_iload_n hC dX5_ifPressed_32 3 rfl rfl ?_
      refine jw_iload hC dX5_ifPressed_33 4 rfl ?_
      have z0 := ite_1 (C := 0 ≤ a ∧ a ≤ 2) h9
      have z1 := ite_1 (C := 0 ≤ t ∧ t ≤ 7) h26
      refine jw_callV hC (c_X5_would l E (mu M 88 0 0) (show svI (mu M 88 0 0 89) by rw [mu_ne _ _ _ (by decide)]; exact h0) a (by omega) x y x1 x2 y1 y2 t (by omega)) sV_X5_171 ewF_m0.o dX5_ifPressed_35 rfl rfl ⟨Nat.le_of_ble_eq_true rfl, Nat.le_of_ble_eq_true rfl⟩ ⟨Nat.zero_le _, Nat.zero_le _⟩ (Nat.le_of_ble_eq_true rfl) (fun v35 M35 g35 => ?_)
      obtain ⟨rfl, k9⟩ := g35
      rw [mu_ne _ _ _ (by decide)]
      refine jw_goto (tgt := 46) hC dX5_ifPressed_38 (by decide) ?_
      refine jw_iret hC dX5_ifPressed_46 ?_
      rw [if_pos (ite_1 (C := 0 ≤ a ∧ a ≤ 2) h9), if_pos (ite_1 (C := 0 ≤ a ∧ a ≤ 2) h9)]
      rw [if_pos (ite_1 (C := 0 ≤ t ∧ t ≤ 7) h26), if_pos (ite_1 (C := 0 ≤ t ∧ t ≤ 7) h26)]
      exact ⟨rfl, qk_k (qk_0 M) k9⟩
  · skip
    refine jw_aload_n hC dX5_ifPressed_12 0 rfl rfl ?_
    refine jw_iconst hC dX5_ifPressed_13 ?_
    refine jw_callV hC (c_X5_fails l E _ _ (by decide) (by decide)) sV_X5_101 ewF_m0.o dX5_ifPressed_14 rfl rfl ⟨Nat.le_of_ble_eq_true rfl, Nat.le_of_ble_eq_true rfl⟩ ⟨Nat.zero_le _, Nat.zero_le _⟩ (Nat.le_of_ble_eq_true rfl) (fun v14 M14 g14 => ?_)
    obtain ⟨rfl, rfl⟩ := g14
    refine jw_iret hC dX5_ifPressed_17 ?_
    rw [if_neg (ite_0 (C := 0 ≤ a ∧ a ≤ 2) h9), if_neg (ite_0 (C := 0 ≤ a ∧ a ≤ 2) h9)]
    exact ⟨rfl, qk_f (qk_0 M) _⟩
set_option maxRecDepth 100000 in
set_option maxHeartbeats 4000000 in
theorem c_X5_needed (l : Launch) (E : ewE) (M : ewM) (h0 : svI (M 89)) (a : Int) (a1 : -2147483648 ≤ a) (a2 : a < 2147483648) (x : Int) (x1 : -2147483648 ≤ x) (x2 : x < 2147483648) (y : Int) (y1 : -2147483648 ≤ y) (y2 : y < 2147483648) (t : Int) (t1 : -2147483648 ≤ t) (t2 : t < 2147483648) : Ct l E yX5_needed (.code yX5_needed cX5_needed 5 (some .int)) 9 [vR E 88, vI a, vI x, vI y, vI t] M (fun v M1 => v = some (vI (if 0 ≤ a ∧ a ≤ 2 then if 0 ≤ t ∧ t ≤ 7 then f_need (f_rel (vQ (M 89)) a t) (x + M 89 4) y (vD (M 89)) (vC (M 89)) (M 89 1) (M 89 2) else 0 else 0)) ∧ qk M M1 (if 0 ≤ a ∧ a ≤ 2 then if 0 ≤ t ∧ t ≤ 7 then 0 else 2 else 1)) := by
  refine ct_of (L0 := [(0, vR E 88), (1, vI a), (2, vI x), (3, vI y), (4, vI t)]) (by decide +kernel) rfl (Nat.le_of_ble_eq_true rfl) ?_
  intro zp ze zs zm za zb zt zc zA hC
  have hz0 := ite_z (0 ≤ a ∧ a ≤ 2)
  have hz1 := ite_z (0 ≤ t ∧ t ≤ 7)
  refine jw_aload_n hC dX5_needed_0 0 rfl rfl ?_
  refine jw_iconst hC dX5_needed_1 ?_
  refine jw_puti hC fL_X5_35 ewF_m0 (kI := 0) rfl dX5_needed_2 (by omega) (by omega) ?_
  refine jw_iload_n hC dX5_needed_5 1 rfl rfl ?_
  refine jw_callS hC (c_X5_isDie l E _ _ (by omega) (by omega)) sS_X5_94 dX5_needed_6 rfl rfl ⟨Nat.le_of_ble_eq_true rfl, Nat.le_of_ble_eq_true rfl⟩ ⟨Nat.zero_le _, Nat.zero_le _⟩ (Nat.le_of_ble_eq_true rfl) (fun v6 M6 g6 => ?_)
  obtain ⟨rfl, rfl⟩ := g6
  refine jw_if_ne (tgt := 18) hC dX5_needed_9 (by decide) (by omega) (by omega) (fun h9 => ?_) (fun h9 => ?_)
  · skip
    refine jw_iload hC dX5_needed_18 4 rfl ?_
    refine jw_iconst hC dX5_needed_20 ?_
    refine jw_bipush hC dX5_needed_21 (by decide) ?_
    refine jw_callS hC (c_X5_in l E _ _ _ _ (by omega) (by omega) (by omega) (by omega) (by omega) (by omega)) sS_X5_39 dX5_needed_23 rfl rfl ⟨Nat.le_of_ble_eq_true rfl, Nat.le_of_ble_eq_true rfl⟩ ⟨Nat.zero_le _, Nat.zero_le _⟩ (Nat.le_of_ble_eq_true rfl) (fun v23 M23 g23 => ?_)
    obtain ⟨rfl, rfl⟩ := g23
    refine jw_if_eq (tgt := 41) hC dX5_needed_26 (by decide) (by omega) (by omega) (fun h26 => ?_) (fun h26 => ?_)
    · skip
      refine jw_aload_n hC dX5_needed_41 0 rfl rfl ?_
      refine jw_iconst hC dX5_needed_42 ?_
      refine jw_callV hC (c_X5_fails l E _ _ (by decide) (by decide)) sV_X5_101 ewF_m0.o dX5_needed_43 rfl rfl ⟨Nat.le_of_ble_eq_true rfl, Nat.le_of_ble_eq_true rfl⟩ ⟨Nat.zero_le _, Nat.zero_le _⟩ (Nat.le_of_ble_eq_true rfl) (fun v43 M43 g43 => ?_)
      obtain ⟨rfl, rfl⟩ := g43
      refine jw_iret hC dX5_needed_46 ?_
      rw [if_pos (ite_1 (C := 0 ≤ a ∧ a ≤ 2) h9), if_pos (ite_1 (C := 0 ≤ a ∧ a ≤ 2) h9)]
      rw [if_neg (ite_0 (C := 0 ≤ t ∧ t ≤ 7) h26), if_neg (ite_0 (C := 0 ≤ t ∧ t ≤ 7) h26)]
      exact ⟨rfl, qk_f (qk_0 M) _⟩
    · skip
      refine jw_aload_n hC dX5_needed_29 0 rfl rfl ?_
      refine jw_iload_n hC dX5_needed_30 1 rfl rfl ?_
      refine jw_iload_n hC dX5_needed_31 2 rfl rfl ?_
      refine jw_iload_n hC dX5_needed_32 3 rfl rfl ?_
      refine jw_iload hC dX5_needed_33 4 rfl ?_
      have z0 := ite_1 (C := 0 ≤ a ∧ a ≤ 2) h9
      have z1 := ite_1 (C := 0 ≤ t ∧ t ≤ 7) h26
      refine jw_callV hC (c_X5_neededFor l E (mu M 88 0 0) (show svI (mu M 88 0 0 89) by rw [mu_ne _ _ _ (by decide)]; exact h0) a (by omega) x y x1 x2 y1 y2 t (by omega)) sV_X5_190 ewF_m0.o dX5_needed_35 rfl rfl ⟨Nat.le_of_ble_eq_true rfl, Nat.le_of_ble_eq_true rfl⟩ ⟨Nat.zero_le _, Nat.zero_le _⟩ (Nat.le_of_ble_eq_true rfl) (fun v35 M35 g35 => ?_)
      obtain ⟨rfl, k9⟩ := g35
      rw [mu_ne _ _ _ (by decide)]
      refine jw_goto (tgt := 46) hC dX5_needed_38 (by decide) ?_
      refine jw_iret hC dX5_needed_46 ?_
      rw [if_pos (ite_1 (C := 0 ≤ a ∧ a ≤ 2) h9), if_pos (ite_1 (C := 0 ≤ a ∧ a ≤ 2) h9)]
      rw [if_pos (ite_1 (C := 0 ≤ t ∧ t ≤ 7) h26), if_pos (ite_1 (C := 0 ≤ t ∧ t ≤ 7) h26)]
      exact ⟨rfl, qk_k (qk_0 M) k9⟩
  · skip
    refine jw_aload_n hC dX5_needed_12 0 rfl rfl ?_
    refine jw_iconst hC dX5_needed_13 ?_
    refine jw_callV hC (c_X5_fails l E _ _ (by decide) (by decide)) sV_X5_101 ewF_m0.o dX5_needed_14 rfl rfl ⟨Nat.le_of_ble_eq_true rfl, Nat.le_of_ble_eq_true rfl⟩ ⟨Nat.zero_le _, Nat.zero_le _⟩ (Nat.le_of_ble_eq_true rfl) (fun v14 M14 g14 => ?_)
    obtain ⟨rfl, rfl⟩ := g14
    refine jw_iret hC dX5_needed_17 ?_
    rw [if_neg (ite_0 (C := 0 ≤ a ∧ a ≤ 2) h9), if_neg (ite_0 (C := 0 ≤ a ∧ a ≤ 2) h9)]
    exact ⟨rfl, qk_f (qk_0 M) _⟩
set_option maxRecDepth 100000 in
set_option maxHeartbeats 4000000 in
theorem c_X5_dieOf (l : Launch) (E : ewE) (M : ewM) (a : Int) (a1 : -2147483648 ≤ a) (a2 : a < 2147483648) (x : Int) (x1 : -2147483648 ≤ x) (x2 : x < 2147483648) (y : Int) (y1 : -2147483648 ≤ y) (y2 : y < 2147483648) (t : Int) (t1 : -2147483648 ≤ t) (t2 : t < 2147483648) : Ct l E yX5_dieOf (.code yX5_dieOf cX5_dieOf 5 (some .int)) 9 [vR E 88, vI a, vI x, vI y, vI t] M (fun v M1 => v = some (vI (if 0 ≤ a ∧ a ≤ 2 then if (0 ≤ x ∧ x ≤ 4) ∧ (0 ≤ y ∧ y ≤ 4) then if 0 ≤ t ∧ t ≤ 7 then f_tp (vQ (M 89)) a x y t else 0 else 0 else 0)) ∧ qk M M1 (if 0 ≤ a ∧ a ≤ 2 then if (0 ≤ x ∧ x ≤ 4) ∧ (0 ≤ y ∧ y ≤ 4) then if 0 ≤ t ∧ t ≤ 7 then 0 else 2 else 1 else 1)) := by
  refine ct_of (L0 := [(0, vR E 88), (1, vI a), (2, vI x), (3, vI y), (4, vI t)]) (by decide +kernel) rfl (Nat.le_of_ble_eq_true rfl) ?_
  intro zp ze zs zm za zb zt zc zA hC
  have hz0 := ite_z (0 ≤ a ∧ a ≤ 2)
  have hz1 := ite_z ((0 ≤ x ∧ x ≤ 4) ∧ (0 ≤ y ∧ y ≤ 4))
  have hz2 := ite_z (0 ≤ t ∧ t ≤ 7)
  refine jw_aload_n hC dX5_dieOf_0 0 rfl rfl ?_
  refine jw_iconst hC dX5_dieOf_1 ?_
  refine jw_puti hC fL_X5_35 ewF_m0 (kI := 0) rfl dX5_dieOf_2 (by omega) (by omega) ?_
  refine jw_iload_n hC dX5_dieOf_5 1 rfl rfl ?_
  refine jw_callS hC (c_X5_isDie l E _ _ (by omega) (by omega)) sS_X5_94 dX5_dieOf_6 rfl rfl ⟨Nat.le_of_ble_eq_true rfl, Nat.le_of_ble_eq_true rfl⟩ ⟨Nat.zero_le _, Nat.zero_le _⟩ (Nat.le_of_ble_eq_true rfl) (fun v6 M6 g6 => ?_)
  obtain ⟨rfl, rfl⟩ := g6
  refine jw_if_eq (tgt := 20) hC dX5_dieOf_9 (by decide) (by omega) (by omega) (fun h9 => ?_) (fun h9 => ?_)
  · skip
    refine jw_aload_n hC dX5_dieOf_20 0 rfl rfl ?_
    refine jw_iconst hC dX5_dieOf_21 ?_
    refine jw_callV hC (c_X5_fails l E _ _ (by decide) (by decide)) sV_X5_101 ewF_m0.o dX5_dieOf_22 rfl rfl ⟨Nat.le_of_ble_eq_true rfl, Nat.le_of_ble_eq_true rfl⟩ ⟨Nat.zero_le _, Nat.zero_le _⟩ (Nat.le_of_ble_eq_true rfl) (fun v22 M22 g22 => ?_)
    obtain ⟨rfl, rfl⟩ := g22
    refine jw_iret hC dX5_dieOf_25 ?_
    rw [if_neg (ite_0 (C := 0 ≤ a ∧ a ≤ 2) h9), if_neg (ite_0 (C := 0 ≤ a ∧ a ≤ 2) h9)]
    exact ⟨rfl, qk_f (qk_0 M) _⟩
  · skip
    refine jw_iload_n hC dX5_dieOf_12 2 rfl rfl ?_
    refine jw_iload_n hC dX5_dieOf_13 3 rfl rfl ?_
    refine jw_callS hC (c_X5_isPoint l E _ _ _ (by omega) (by omega) (by omega) (by omega)) sS_X5_98 dX5_dieOf_14 rfl rfl ⟨Nat.le_of_ble_eq_true rfl, Nat.le_of_ble_eq_true rfl⟩ ⟨Nat.zero_le _, Nat.zero_le _⟩ (Nat.le_of_ble_eq_true rfl) (fun v14 M14 g14 => ?_)
    obtain ⟨rfl, rfl⟩ := g14
    refine jw_if_ne (tgt := 26) hC dX5_dieOf_17 (by decide) (by omega) (by omega) (fun h17 => ?_) (fun h17 => ?_)
    · skip
      refine jw_iload hC dX5_dieOf_26 4 rfl ?_
      refine jw_iconst hC dX5_dieOf_28 ?_
      refine jw_bipush hC dX5_dieOf_29 (by decide) ?_
      refine jw_callS hC (c_X5_in l E _ _ _ _ (by omega) (by omega) (by omega) (by omega) (by omega) (by omega)) sS_X5_39 dX5_dieOf_31 rfl rfl ⟨Nat.le_of_ble_eq_true rfl, Nat.le_of_ble_eq_true rfl⟩ ⟨Nat.zero_le _, Nat.zero_le _⟩ (Nat.le_of_ble_eq_true rfl) (fun v31 M31 g31 => ?_)
      obtain ⟨rfl, rfl⟩ := g31
      refine jw_if_eq (tgt := 49) hC dX5_dieOf_34 (by decide) (by omega) (by omega) (fun h34 => ?_) (fun h34 => ?_)
      · skip
        refine jw_aload_n hC dX5_dieOf_49 0 rfl rfl ?_
        refine jw_iconst hC dX5_dieOf_50 ?_
        refine jw_callV hC (c_X5_fails l E _ _ (by decide) (by decide)) sV_X5_101 ewF_m0.o dX5_dieOf_51 rfl rfl ⟨Nat.le_of_ble_eq_true rfl, Nat.le_of_ble_eq_true rfl⟩ ⟨Nat.zero_le _, Nat.zero_le _⟩ (Nat.le_of_ble_eq_true rfl) (fun v51 M51 g51 => ?_)
        obtain ⟨rfl, rfl⟩ := g51
        refine jw_iret hC dX5_dieOf_54 ?_
        rw [if_pos (ite_1 (C := 0 ≤ a ∧ a ≤ 2) h9), if_pos (ite_1 (C := 0 ≤ a ∧ a ≤ 2) h9)]
        rw [if_pos (ite_1 (C := (0 ≤ x ∧ x ≤ 4) ∧ (0 ≤ y ∧ y ≤ 4)) h17), if_pos (ite_1 (C := (0 ≤ x ∧ x ≤ 4) ∧ (0 ≤ y ∧ y ≤ 4)) h17)]
        rw [if_neg (ite_0 (C := 0 ≤ t ∧ t ≤ 7) h34), if_neg (ite_0 (C := 0 ≤ t ∧ t ≤ 7) h34)]
        exact ⟨rfl, qk_f (qk_0 M) _⟩
      · skip
        refine jw_aload_n hC dX5_dieOf_37 0 rfl rfl ?_
        refine jw_iload_n hC dX5_dieOf_38 1 rfl rfl ?_
        refine jw_iload_n hC dX5_dieOf_39 2 rfl rfl ?_
        refine jw_iload_n hC dX5_dieOf_40 3 rfl rfl ?_
        refine jw_iload hC dX5_dieOf_41 4 rfl ?_
        have z0 := ite_1 (C := 0 ≤ a ∧ a ≤ 2) h9
        have z1 := ite_1 (C := (0 ≤ x ∧ x ≤ 4) ∧ (0 ≤ y ∧ y ≤ 4)) h17
        have z2 := ite_1 (C := 0 ≤ t ∧ t ≤ 7) h34
        refine jw_callV hC (c_X5_turned l E (mu M 88 0 0) a x y t (by omega) (by omega) (by omega) (by omega)) sV_X5_80 ewF_m0.o dX5_dieOf_43 rfl rfl ⟨Nat.le_of_ble_eq_true rfl, Nat.le_of_ble_eq_true rfl⟩ ⟨Nat.zero_le _, Nat.zero_le _⟩ (Nat.le_of_ble_eq_true rfl) (fun v43 M43 g43 => ?_)
        obtain ⟨rfl, rfl⟩ := g43
        rw [mu_ne _ _ _ (by decide)]
        refine jw_goto (tgt := 54) hC dX5_dieOf_46 (by decide) ?_
        refine jw_iret hC dX5_dieOf_54 ?_
        rw [if_pos (ite_1 (C := 0 ≤ a ∧ a ≤ 2) h9), if_pos (ite_1 (C := 0 ≤ a ∧ a ≤ 2) h9)]
        rw [if_pos (ite_1 (C := (0 ≤ x ∧ x ≤ 4) ∧ (0 ≤ y ∧ y ≤ 4)) h17), if_pos (ite_1 (C := (0 ≤ x ∧ x ≤ 4) ∧ (0 ≤ y ∧ y ≤ 4)) h17)]
        rw [if_pos (ite_1 (C := 0 ≤ t ∧ t ≤ 7) h34), if_pos (ite_1 (C := 0 ≤ t ∧ t ≤ 7) h34)]
        exact ⟨rfl, qk_0 M⟩
    · skip
      refine jw_aload_n hC dX5_dieOf_20 0 rfl rfl ?_
      refine jw_iconst hC dX5_dieOf_21 ?_
      refine jw_callV hC (c_X5_fails l E _ _ (by decide) (by decide)) sV_X5_101 ewF_m0.o dX5_dieOf_22 rfl rfl ⟨Nat.le_of_ble_eq_true rfl, Nat.le_of_ble_eq_true rfl⟩ ⟨Nat.zero_le _, Nat.zero_le _⟩ (Nat.le_of_ble_eq_true rfl) (fun v22 M22 g22 => ?_)
      obtain ⟨rfl, rfl⟩ := g22
      refine jw_iret hC dX5_dieOf_25 ?_
      rw [if_pos (ite_1 (C := 0 ≤ a ∧ a ≤ 2) h9), if_pos (ite_1 (C := 0 ≤ a ∧ a ≤ 2) h9)]
      rw [if_neg (ite_0 (C := (0 ≤ x ∧ x ≤ 4) ∧ (0 ≤ y ∧ y ≤ 4)) h17), if_neg (ite_0 (C := (0 ≤ x ∧ x ≤ 4) ∧ (0 ≤ y ∧ y ≤ 4)) h17)]
      exact ⟨rfl, qk_f (qk_0 M) _⟩
set_option maxRecDepth 100000 in
set_option maxHeartbeats 4000000 in
theorem c_X5_place (l : Launch) (E : ewE) (M : ewM) (h0 : svI (M 89)) (x : Int) (x1 : -2147483648 ≤ x) (x2 : x < 2147483648) (y : Int) (y1 : -2147483648 ≤ y) (y2 : y < 2147483648) (w : Int) (w1 : -2147483648 ≤ w) (w2 : w < 2147483648) : Ct l E yX5_place (.code yX5_place cX5_place 4 (some .int)) 9 [vR E 88, vI x, vI y, vI w] M (fun v M1 => v = some (vI (if (0 ≤ x ∧ x ≤ 11) ∧ (0 ≤ y ∧ y ≤ 11) then if 0 ≤ w ∧ w ≤ 6 then g_prop (M 89) (12 * y + x) w else 0 else 0)) ∧ qk M M1 (if (0 ≤ x ∧ x ≤ 11) ∧ (0 ≤ y ∧ y ≤ 11) then if 0 ≤ w ∧ w ≤ 6 then 0 else 2 else 1)) := by
  refine ct_of (L0 := [(0, vR E 88), (1, vI x), (2, vI y), (3, vI w)]) (by decide +kernel) rfl (Nat.le_of_ble_eq_true rfl) ?_
  intro zp ze zs zm za zb zt zc zA hC
  have hz0 := ite_z ((0 ≤ x ∧ x ≤ 11) ∧ (0 ≤ y ∧ y ≤ 11))
  have hz1 := ite_z (0 ≤ w ∧ w ≤ 6)
  refine jw_aload_n hC dX5_place_0 0 rfl rfl ?_
  refine jw_iconst hC dX5_place_1 ?_
  refine jw_puti hC fL_X5_35 ewF_m0 (kI := 0) rfl dX5_place_2 (by omega) (by omega) ?_
  refine jw_iload_n hC dX5_place_5 1 rfl rfl ?_
  refine jw_iload_n hC dX5_place_6 2 rfl rfl ?_
  refine jw_callS hC (c_X5_isPlace l E _ _ _ (by omega) (by omega) (by omega) (by omega)) sS_X5_53 dX5_place_7 rfl rfl ⟨Nat.le_of_ble_eq_true rfl, Nat.le_of_ble_eq_true rfl⟩ ⟨Nat.zero_le _, Nat.zero_le _⟩ (Nat.le_of_ble_eq_true rfl) (fun v7 M7 g7 => ?_)
  obtain ⟨rfl, rfl⟩ := g7
  refine jw_if_ne (tgt := 19) hC dX5_place_10 (by decide) (by omega) (by omega) (fun h10 => ?_) (fun h10 => ?_)
  · skip
    refine jw_iload_n hC dX5_place_19 3 rfl rfl ?_
    refine jw_iconst hC dX5_place_20 ?_
    refine jw_bipush hC dX5_place_21 (by decide) ?_
    refine jw_callS hC (c_X5_in l E _ _ _ _ (by omega) (by omega) (by omega) (by omega) (by omega) (by omega)) sS_X5_39 dX5_place_23 rfl rfl ⟨Nat.le_of_ble_eq_true rfl, Nat.le_of_ble_eq_true rfl⟩ ⟨Nat.zero_le _, Nat.zero_le _⟩ (Nat.le_of_ble_eq_true rfl) (fun v23 M23 g23 => ?_)
    obtain ⟨rfl, rfl⟩ := g23
    refine jw_if_eq (tgt := 39) hC dX5_place_26 (by decide) (by omega) (by omega) (fun h26 => ?_) (fun h26 => ?_)
    · skip
      refine jw_aload_n hC dX5_place_39 0 rfl rfl ?_
      refine jw_iconst hC dX5_place_40 ?_
      refine jw_callV hC (c_X5_fails l E _ _ (by decide) (by decide)) sV_X5_101 ewF_m0.o dX5_place_41 rfl rfl ⟨Nat.le_of_ble_eq_true rfl, Nat.le_of_ble_eq_true rfl⟩ ⟨Nat.zero_le _, Nat.zero_le _⟩ (Nat.le_of_ble_eq_true rfl) (fun v41 M41 g41 => ?_)
      obtain ⟨rfl, rfl⟩ := g41
      refine jw_iret hC dX5_place_44 ?_
      rw [if_pos (ite_1 (C := (0 ≤ x ∧ x ≤ 11) ∧ (0 ≤ y ∧ y ≤ 11)) h10), if_pos (ite_1 (C := (0 ≤ x ∧ x ≤ 11) ∧ (0 ≤ y ∧ y ≤ 11)) h10)]
      rw [if_neg (ite_0 (C := 0 ≤ w ∧ w ≤ 6) h26), if_neg (ite_0 (C := 0 ≤ w ∧ w ≤ 6) h26)]
      exact ⟨rfl, qk_f (qk_0 M) _⟩
    · skip
      refine jw_aload_n hC dX5_place_29 0 rfl rfl ?_
      refine jw_iload_n hC dX5_place_30 1 rfl rfl ?_
      refine jw_iload_n hC dX5_place_31 2 rfl rfl ?_
      refine jw_iload_n hC dX5_place_32 3 rfl rfl ?_
      have z0 := ite_1 (C := (0 ≤ x ∧ x ≤ 11) ∧ (0 ≤ y ∧ y ≤ 11)) h10
      have z1 := ite_1 (C := 0 ≤ w ∧ w ≤ 6) h26
      refine jw_callV hC (c_X5_tellsPlace l E (mu M 88 0 0) (show svI (mu M 88 0 0 89) by rw [mu_ne _ _ _ (by decide)]; exact h0) x y (by omega) (by omega) w (by omega)) sV_X5_146 ewF_m0.o dX5_place_33 rfl rfl ⟨Nat.le_of_ble_eq_true rfl, Nat.le_of_ble_eq_true rfl⟩ ⟨Nat.zero_le _, Nat.zero_le _⟩ (Nat.le_of_ble_eq_true rfl) (fun v33 M33 g33 => ?_)
      obtain ⟨rfl, -, rfl⟩ := g33
      rw [mu_ne _ _ _ (by decide)]
      refine jw_goto (tgt := 44) hC dX5_place_36 (by decide) ?_
      refine jw_iret hC dX5_place_44 ?_
      rw [if_pos (ite_1 (C := (0 ≤ x ∧ x ≤ 11) ∧ (0 ≤ y ∧ y ≤ 11)) h10), if_pos (ite_1 (C := (0 ≤ x ∧ x ≤ 11) ∧ (0 ≤ y ∧ y ≤ 11)) h10)]
      rw [if_pos (ite_1 (C := 0 ≤ w ∧ w ≤ 6) h26), if_pos (ite_1 (C := 0 ≤ w ∧ w ≤ 6) h26)]
      exact ⟨rfl, qk_0 M⟩
  · skip
    refine jw_aload_n hC dX5_place_13 0 rfl rfl ?_
    refine jw_iconst hC dX5_place_14 ?_
    refine jw_callV hC (c_X5_fails l E _ _ (by decide) (by decide)) sV_X5_101 ewF_m0.o dX5_place_15 rfl rfl ⟨Nat.le_of_ble_eq_true rfl, Nat.le_of_ble_eq_true rfl⟩ ⟨Nat.zero_le _, Nat.zero_le _⟩ (Nat.le_of_ble_eq_true rfl) (fun v15 M15 g15 => ?_)
    obtain ⟨rfl, rfl⟩ := g15
    refine jw_iret hC dX5_place_18 ?_
    rw [if_neg (ite_0 (C := (0 ≤ x ∧ x ≤ 11) ∧ (0 ≤ y ∧ y ≤ 11)) h10), if_neg (ite_0 (C := (0 ≤ x ∧ x ≤ 11) ∧ (0 ≤ y ∧ y ≤ 11)) h10)]
    exact ⟨rfl, qk_f (qk_0 M) _⟩
set_option maxRecDepth 100000 in
set_option maxHeartbeats 4000000 in
theorem c_X5_setting (l : Launch) (E : ewE) (M : ewM) (w : Int) (w1 : -2147483648 ≤ w) (w2 : w < 2147483648) : Ct l E yX5_setting (.code yX5_setting cX5_setting 2 (some .int)) 9 [vR E 88, vI w] M (fun v M1 => v = some (vI (if 0 ≤ w ∧ w ≤ 3 then M 89 w else 0)) ∧ qk M M1 (if 0 ≤ w ∧ w ≤ 3 then 0 else 1)) := by
  refine ct_of (L0 := [(0, vR E 88), (1, vI w)]) (by decide +kernel) rfl (Nat.le_of_ble_eq_true rfl) ?_
  intro zp ze zs zm za zb zt zc zA hC
  have hz0 := ite_z (0 ≤ w ∧ w ≤ 3)
  refine jw_aload_n hC dX5_setting_0 0 rfl rfl ?_
  refine jw_iconst hC dX5_setting_1 ?_
  refine jw_puti hC fL_X5_35 ewF_m0 (kI := 0) rfl dX5_setting_2 (by omega) (by omega) ?_
  refine jw_iload_n hC dX5_setting_5 1 rfl rfl ?_
  refine jw_iconst hC dX5_setting_6 ?_
  refine jw_iconst hC dX5_setting_7 ?_
  refine jw_callS hC (c_X5_in l E _ _ _ _ (by omega) (by omega) (by omega) (by omega) (by omega) (by omega)) sS_X5_39 dX5_setting_8 rfl rfl ⟨Nat.le_of_ble_eq_true rfl, Nat.le_of_ble_eq_true rfl⟩ ⟨Nat.zero_le _, Nat.zero_le _⟩ (Nat.le_of_ble_eq_true rfl) (fun v8 M8 g8 => ?_)
  obtain ⟨rfl, rfl⟩ := g8
  refine jw_if_eq (tgt := 23) hC dX5_setting_11 (by decide) (by omega) (by omega) (fun h11 => ?_) (fun h11 => ?_)
  · skip
    refine jw_aload_n hC dX5_setting_23 0 rfl rfl ?_
    refine jw_iconst hC dX5_setting_24 ?_
    refine jw_callV hC (c_X5_fails l E _ _ (by decide) (by decide)) sV_X5_101 ewF_m0.o dX5_setting_25 rfl rfl ⟨Nat.le_of_ble_eq_true rfl, Nat.le_of_ble_eq_true rfl⟩ ⟨Nat.zero_le _, Nat.zero_le _⟩ (Nat.le_of_ble_eq_true rfl) (fun v25 M25 g25 => ?_)
    obtain ⟨rfl, rfl⟩ := g25
    refine jw_iret hC dX5_setting_28 ?_
    rw [if_neg (ite_0 (C := 0 ≤ w ∧ w ≤ 3) h11), if_neg (ite_0 (C := 0 ≤ w ∧ w ≤ 3) h11)]
    exact ⟨rfl, qk_f (qk_0 M) _⟩
  · skip
    refine jw_aload_n hC dX5_setting_14 0 rfl rfl ?_
    have z0 := ite_1 (C := 0 ≤ w ∧ w ≤ 3) h11
    refine jw_getr hC fL_X5_7 ewR_m1 dX5_setting_15 ?_
    refine jw_iload_n hC dX5_setting_18 1 rfl rfl ?_
    refine jw_iald hC ewA_89 dX5_setting_19 (by omega) (by omega) (by decide) (fun b19 c19 => ?_)
    rw [mu_ne _ _ _ (by decide)] at b19 c19 ⊢
    refine jw_goto (tgt := 28) hC dX5_setting_20 (by decide) ?_
    refine jw_iret hC dX5_setting_28 ?_
    rw [if_pos (ite_1 (C := 0 ≤ w ∧ w ≤ 3) h11), if_pos (ite_1 (C := 0 ≤ w ∧ w ≤ 3) h11)]
    exact ⟨rfl, qk_0 M⟩
