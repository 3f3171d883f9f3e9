/-! THE REFERENCE: numbers, properties, how strong the paper had to be -/
theorem f_it_mono {d : Int → Int} {b t : Int} {c : Int → Int} (n : Nat) : ∀ k : Nat, f_sum (f_it d b t c n) 144 ≤ f_sum (f_it d b t c (n + k)) 144 := by
  intro k
  induction k with
  | zero => exact Int.le_refl _
  | succ k ih =>
    have h1 := f_rnd_sum d b t (f_it d b t c (n + k))
    have h2 := f_sum_le' (f := fun _ => 0) (g := f_ind (f_ovr d b t (f_it d b t c (n + k)))) 144 (fun j _ _ => (f_ind_b _ j).1)
    rw [f_sum_0] at h2
    show f_sum (f_it d b t c n) 144 ≤ f_sum (f_rnd d b t (f_it d b t c (n + k))) 144
    omega
theorem f_cks_0 {d c : Int → Int} {b t : Int} : f_sum (f_it d b t c 144) 144 = f_sum c 144 ↔ f_sum (f_ind (f_ovr d b t c)) 144 = 0 := by
  constructor
  · intro h
    have h1 := f_it_mono (d := d) (b := b) (t := t) (c := c) 1 143
    have h2 : f_sum (f_it d b t c 1) 144 = f_sum c 144 + f_sum (f_ind (f_ovr d b t c)) 144 := f_rnd_sum d b t c
    have h3 := f_sum_le' (f := fun _ => 0) (g := f_ind (f_ovr d b t c)) 144 (fun j _ _ => (f_ind_b _ j).1)
    rw [f_sum_0] at h3
    have h4 : f_sum (f_it d b t c (1 + 143)) 144 = f_sum (f_it d b t c 144) 144 := rfl
    omega
  · intro h
    have h1 := f_it_fix (d := d) (b := b) (t := t) (c := c) (n := 0) h 144
    rw [show 0 + 144 = 144 from rfl] at h1
    rw [h1]
    rfl
theorem f_ovr_none {d c : Int → Int} {b t : Int} (hb : 0 ≤ b) (hd : pD d) : ∀ n : Nat, (f_sum (f_ind (f_ovr d b t c)) n = 0 ↔ f_least d c t n ≤ b) := by
  intro n
  induction n with
  | zero => exact ⟨fun _ => hb, fun _ => rfl⟩
  | succ n ih =>
    have h3 := f_sum_le' (f := fun _ => 0) (g := f_ind (f_ovr d b t c)) n (fun j _ _ => (f_ind_b _ j).1)
    rw [f_sum_0] at h3
    have h4 := f_ind_b (f_ovr d b t c) n
    have hs := f_str_b hd n
    rw [f_least]
    show f_sum (f_ind (f_ovr d b t c)) n + f_ind (f_ovr d b t c) n = 0 ↔ _
    have key : f_ind (f_ovr d b t c) n = 0 ↔ ¬ (c n = 0 ∧ 0 < f_str d n) ∨ f_str d n + t * f_cb c n ≤ b := by
      unfold f_ind
      rw [f_ovr_eq hd]
      by_cases q1 : c n = 0 <;> by_cases q2 : 0 < f_str d n <;> by_cases q3 : b - t * f_cb c n < f_str d n <;> simp [q1, q2, q3] <;> omega
    by_cases q : c n = 0 ∧ 0 < f_str d n
    · rw [if_pos q]
      constructor
      · intro h
        have h5 := key.mp (by omega)
        have h6 := ih.mp (by omega)
        omega
      · intro h
        have h6 := ih.mpr (by omega)
        have h5 := key.mpr (Or.inr (by omega))
        omega
    · rw [if_neg q]
      have h5 := key.mpr (Or.inl q)
      constructor
      · intro h
        exact ih.mp (by omega)
      · intro h
        have h6 := ih.mpr h
        omega
/-- a press of a row with another bearing -/
def sb (f : Int → Int) (b : Int) : Int → Int := fun i => if i = 0 then b else f i
theorem sb_ans {f r : Int → Int} {x y b : Int} (hi : svI f) (hr : pD r) (h0 : 0 ≤ b) (h1 : b ≤ 99) : m_ans (sb f b) r x y = 100 ↔ (f_rsn r (x + f 4) y (f 2) = 0 ∧ f_least (f_emb r (x + f 4) y (vD f) 25) (vC f) (f 1) 144 ≤ b) := by
  obtain ⟨e1, e2, e3, e4, e5⟩ := sv_hi (f := f) (g := sb f b) (fun i hi => if_neg (by omega))
  have h4 : sb f b 4 = f 4 := rfl
  have h2 : sb f b 2 = f 2 := rfl
  have h9 : sb f b 1 = f 1 := rfl
  have h8 : sb f b 0 = b := rfl
  have hb := f_rsn_b r (x + f 4) y (f 2)
  unfold m_ans f_ans
  rw [e1, e3, h4, h2, h9, h8]
  by_cases hz : f_rsn r (x + f 4) y (f 2) = 0
  · rw [if_pos hz]
    have q1 := f_ovr_none (c := vC f) (t := f 1) h0 (f_emb_D hr hi.1 (x + f 4) y 25) 144
    have q2 := f_cks_0 (d := f_emb r (x + f 4) y (vD f) 25) (c := vC f) (b := b) (t := f 1)
    unfold f_cks
    constructor
    · intro h
      exact ⟨hz, q1.mp (q2.mp (by omega))⟩
    · intro h
      have := q2.mpr (q1.mpr h.2)
      omega
  · rw [if_neg hz]
    omega
def g_prop (f : Int → Int) (p w : Int) : Int := if w = 0 then vD f p else if w = 1 then vF f p else if w = 2 then vC f p else if w = 3 then f_str (vD f) p else if w = 4 then f_bear (vC f) p (f 0) (f 1) else if w = 5 then (if f_ov (vS f) p then 1 else 0) else vP f p
def g_num (f : Int → Int) (sm w : Int) : Int := if w = 0 then vS f 4 else if w = 1 then vS f 5 else if w = 2 then vS f 3 else if w = 3 then vS f 6 else if w = 4 then f_sum (vC f) 144 else if w = 5 then f_max (vD f) 144 else if w = 6 then f_sum (f_str (vD f)) 144 else if w = 7 then 2 * f_sum (fun q => f_s2 (vD f) q + f_s4 (vD f) q) 144 else if w = 8 then f_sum (fun q => if vF f q = 0 then 0 else 1) 144 else if w = 9 then vS f 10 else if w = 10 then vS f 7 else if w = 11 then vS f 8 else if w = 12 then vS f 9 else sm
set_option maxRecDepth 100000 in
set_option maxHeartbeats 4000000 in
theorem c_X5_cracked (l : Launch) (E : ewE) (M : ewM) (h0 : svI (M 89)) : Ct l E yX5_cracked (.code yX5_cracked cX5_cracked 3 (some .int)) 1 [vR E 88] M (fun v M1 => v = some (vI (f_sum (vC (M 89)) 144)) ∧ M = M1) := by
  refine ct_of (L0 := [(0, vR E 88)]) (by decide +kernel) rfl (Nat.le_of_ble_eq_true rfl) ?_
  intro zp ze zs zm za zb zt zc zA hC
  obtain ⟨p1, p2, p3, p4, p5, p6, p7, p8, p9, pf⟩ := id h0
  have K4 : ∀ (n : Nat) (k x : Int), 144 - k < n → 0 ≤ k → k ≤ 144 → x = f_sum (vC (M 89)) k.toNat → jJ zp l ze (ct_rm 1) zs zm za zb zt zc E zA 3 0 0 (MQ zb (ct_Q E zA (fun v M1 => v = some (vI (f_sum (vC (M 89)) 144)) ∧ M = M1)) za zs 0 0 zA) 4 [(0, vR E 88), (1, vI x), (2, vI k)] [] M := by
    intro n
    induction n with
    | zero => intros; omega
    | succ n ih =>
      intro k x i1 i2 i3 hx
      refine jw_iload_n hC dX5_cracked_4 2 rfl rfl ?_
      refine jw_sipush hC dX5_cracked_5 (by decide) ?_
      refine jw_icmp_ge (tgt := 30) hC dX5_cracked_8 (by decide) (by omega) (by omega) (by omega) (by omega) (fun h8 => ?_) (fun h8 => ?_)
      · skip
        refine jw_iload_n hC dX5_cracked_30 1 rfl rfl ?_
        refine jw_iret hC dX5_cracked_31 ?_
        refine ⟨?_, rfl⟩
        rw [hx, show k = 144 by omega]
        rfl
      · skip
        refine jw_iload_n hC dX5_cracked_11 1 rfl rfl ?_
        refine jw_aload_n hC dX5_cracked_12 0 rfl rfl ?_
        refine jw_getr hC fL_X5_7 ewR_m1 dX5_cracked_13 ?_
        refine jw_sipush hC dX5_cracked_16 (by decide) ?_
        refine jw_iload_n hC dX5_cracked_19 2 rfl rfl ?_
        refine jw_iadd hC dX5_cracked_20 ?_
        refine jw_iald hC ewA_89 dX5_cracked_21 (by omega) (by omega) (by decide) (fun b21 c21 => ?_)
        rw [vC_in (M 89) (p := k) (by omega) (by omega)] at b21 c21 ⊢
        refine jw_iadd hC dX5_cracked_22 ?_
        refine jw_istore_n (L' := [(1, _), (0, _), (2, _)]) hC dX5_cracked_23 rfl (by decide) rfl ?_
        refine jw_iinc (L' := [(2, _), (1, _), (0, _)]) hC dX5_cracked_24 2 rfl (by decide) rfl ?_
        refine jw_goto (tgt := 4) hC dX5_cracked_27 (by decide) ?_
        refine jw_loc (L' := [(0, _), (1, _), (2, _)]) [2, 1, 0] rfl ?_
        refine ih _ _ (by omega) (by omega) (by omega) ?_
        rw [f_sum_s _ i2, hx]
  refine jw_iconst hC dX5_cracked_0 ?_
  refine jw_istore_n (L' := [(1, _), (0, _)]) hC dX5_cracked_1 rfl (by decide) rfl ?_
  refine jw_iconst hC dX5_cracked_2 ?_
  refine jw_istore_n (L' := [(2, _), (1, _), (0, _)]) hC dX5_cracked_3 rfl (by decide) rfl ?_
  refine jw_loc (L' := [(0, _), (1, _), (2, _)]) [2, 1, 0] rfl ?_
  exact K4 145 0 0 (by omega) (by omega) (by omega) rfl
set_option maxRecDepth 100000 in
set_option maxHeartbeats 4000000 in
theorem c_X5_greatestDepth (l : Launch) (E : ewE) (M : ewM) (h0 : svI (M 89)) : Ct l E yX5_greatestDepth (.code yX5_greatestDepth cX5_greatestDepth 3 (some .int)) 1 [vR E 88] M (fun v M1 => v = some (vI (f_max (vD (M 89)) 144)) ∧ M = M1) := by
  refine ct_of (L0 := [(0, vR E 88)]) (by decide +kernel) rfl (Nat.le_of_ble_eq_true rfl) ?_
  intro zp ze zs zm za zb zt zc zA hC
  obtain ⟨p1, p2, p3, p4, p5, p6, p7, p8, p9, pf⟩ := id h0
  have K4 : ∀ (n : Nat) (k x : Int), 144 - k < n → 0 ≤ k → k ≤ 144 → x = f_max (vD (M 89)) k.toNat ∧ 0 ≤ x ∧ x ≤ 9 → jJ zp l ze (ct_rm 1) zs zm za zb zt zc E zA 3 0 0 (MQ zb (ct_Q E zA (fun v M1 => v = some (vI (f_max (vD (M 89)) 144)) ∧ M = M1)) za zs 0 0 zA) 4 [(0, vR E 88), (1, vI x), (2, vI k)] [] M := by
    intro n
    induction n with
    | zero => intros; omega
    | succ n ih =>
      intro k x i1 i2 i3 hx
      refine jw_iload_n hC dX5_greatestDepth_4 2 rfl rfl ?_
      refine jw_sipush hC dX5_greatestDepth_5 (by decide) ?_
      refine jw_icmp_ge (tgt := 44) hC dX5_greatestDepth_8 (by decide) (by omega) (by omega) (by omega) (by omega) (fun h8 => ?_) (fun h8 => ?_)
      · skip
        refine jw_iload_n hC dX5_greatestDepth_44 1 rfl rfl ?_
        refine jw_iret hC dX5_greatestDepth_45 ?_
        refine ⟨?_, rfl⟩
        rw [hx.1, show k = 144 by omega]
        rfl
      · skip
        refine jw_aload_n hC dX5_greatestDepth_11 0 rfl rfl ?_
        refine jw_getr hC fL_X5_7 ewR_m1 dX5_greatestDepth_12 ?_
        refine jw_bipush hC dX5_greatestDepth_15 (by decide) ?_
        refine jw_iload_n hC dX5_greatestDepth_17 2 rfl rfl ?_
        refine jw_iadd hC dX5_greatestDepth_18 ?_
        refine jw_iald hC ewA_89 dX5_greatestDepth_19 (by omega) (by omega) (by decide) (fun b19 c19 => ?_)
        rw [vD_in (M 89) (p := k) (by omega) (by omega)] at b19 c19 ⊢
        have hdk := p1 k
        refine jw_iload_n hC dX5_greatestDepth_20 1 rfl rfl ?_
        refine jw_icmp_le (tgt := 36) hC dX5_greatestDepth_21 (by decide) (by omega) (by omega) (by omega) (by omega) (fun h21 => ?_) (fun h21 => ?_)
        · skip
          refine jw_iload_n hC dX5_greatestDepth_36 1 rfl rfl ?_
          refine jw_istore_n (L' := [(1, _), (0, _), (2, _)]) hC dX5_greatestDepth_37 rfl (by decide) rfl ?_
          refine jw_iinc (L' := [(2, _), (1, _), (0, _)]) hC dX5_greatestDepth_38 2 rfl (by decide) rfl ?_
          refine jw_goto (tgt := 4) hC dX5_greatestDepth_41 (by decide) ?_
          refine jw_loc (L' := [(0, _), (1, _), (2, _)]) [2, 1, 0] rfl ?_
          refine ih _ _ (by omega) (by omega) (by omega) ⟨?_, by omega, by omega⟩
          rw [f_max_s _ i2]
          omega
        · skip
          refine jw_aload_n hC dX5_greatestDepth_24 0 rfl rfl ?_
          refine jw_getr hC fL_X5_7 ewR_m1 dX5_greatestDepth_25 ?_
          refine jw_bipush hC dX5_greatestDepth_28 (by decide) ?_
          refine jw_iload_n hC dX5_greatestDepth_30 2 rfl rfl ?_
          refine jw_iadd hC dX5_greatestDepth_31 ?_
          refine jw_iald hC ewA_89 dX5_greatestDepth_32 (by omega) (by omega) (by decide) (fun b32 c32 => ?_)
          rw [vD_in (M 89) (p := k) (by omega) (by omega)] at b32 c32 ⊢
          refine jw_goto (tgt := 37) hC dX5_greatestDepth_33 (by decide) ?_
          refine jw_istore_n (L' := [(1, _), (0, _), (2, _)]) hC dX5_greatestDepth_37 rfl (by decide) rfl ?_
          refine jw_iinc (L' := [(2, _), (1, _), (0, _)]) hC dX5_greatestDepth_38 2 rfl (by decide) rfl ?_
          refine jw_goto (tgt := 4) hC dX5_greatestDepth_41 (by decide) ?_
          refine jw_loc (L' := [(0, _), (1, _), (2, _)]) [2, 1, 0] rfl ?_
          refine ih _ _ (by omega) (by omega) (by omega) ⟨?_, by omega, by omega⟩
          rw [f_max_s _ i2]
          omega
  refine jw_iconst hC dX5_greatestDepth_0 ?_
  refine jw_istore_n (L' := [(1, _), (0, _)]) hC dX5_greatestDepth_1 rfl (by decide) rfl ?_
  refine jw_iconst hC dX5_greatestDepth_2 ?_
  refine jw_istore_n (L' := [(2, _), (1, _), (0, _)]) hC dX5_greatestDepth_3 rfl (by decide) rfl ?_
  refine jw_loc (L' := [(0, _), (1, _), (2, _)]) [2, 1, 0] rfl ?_
  exact K4 145 0 0 (by omega) (by omega) (by omega) ⟨rfl, by decide, by decide⟩
set_option maxRecDepth 100000 in
set_option maxHeartbeats 4000000 in
theorem c_X5_allStrain (l : Launch) (E : ewE) (M : ewM) (h0 : svI (M 89)) : Ct l E yX5_allStrain (.code yX5_allStrain cX5_allStrain 3 (some .int)) 4 [vR E 88] M (fun v M1 => v = some (vI (f_sum (f_str (vD (M 89))) 144)) ∧ M = M1) := by
  refine ct_of (L0 := [(0, vR E 88)]) (by decide +kernel) rfl (Nat.le_of_ble_eq_true rfl) ?_
  intro zp ze zs zm za zb zt zc zA hC
  obtain ⟨p1, p2, p3, p4, p5, p6, p7, p8, p9, pf⟩ := id h0
  have K4 : ∀ (n : Nat) (k x : Int), 144 - k < n → 0 ≤ k → k ≤ 144 → x = f_sum (f_str (vD (M 89))) k.toNat → jJ zp l ze (ct_rm 4) zs zm za zb zt zc E zA 3 0 0 (MQ zb (ct_Q E zA (fun v M1 => v = some (vI (f_sum (f_str (vD (M 89))) 144)) ∧ M = M1)) za zs 0 0 zA) 4 [(0, vR E 88), (1, vI x), (2, vI k)] [] M := by
    intro n
    induction n with
    | zero => intros; omega
    | succ n ih =>
      intro k x i1 i2 i3 hx
      refine jw_iload_n hC dX5_allStrain_4 2 rfl rfl ?_
      refine jw_sipush hC dX5_allStrain_5 (by decide) ?_
      refine jw_icmp_ge (tgt := 32) hC dX5_allStrain_8 (by decide) (by omega) (by omega) (by omega) (by omega) (fun h8 => ?_) (fun h8 => ?_)
      · skip
        refine jw_iload_n hC dX5_allStrain_32 1 rfl rfl ?_
        refine jw_iret hC dX5_allStrain_33 ?_
        refine ⟨?_, rfl⟩
        rw [hx, show k = 144 by omega]
        rfl
      · skip
        refine jw_iload_n hC dX5_allStrain_11 1 rfl rfl ?_
        refine jw_aload_n hC dX5_allStrain_12 0 rfl rfl ?_
        refine jw_iload_n hC dX5_allStrain_13 2 rfl rfl ?_
        refine jw_bipush hC dX5_allStrain_14 (by decide) ?_
        refine jw_irem hC dX5_allStrain_16 (by omega) (by omega) (by omega) (by omega) ?_
        refine jw_iload_n hC dX5_allStrain_17 2 rfl rfl ?_
        refine jw_bipush hC dX5_allStrain_18 (by decide) ?_
        refine jw_idiv hC dX5_allStrain_20 (by omega) (by omega) (by omega) (by omega) ?_
        refine jw_callV hC (c_X5_strain l E M h0 _ _ ⟨by omega, by omega⟩ ⟨by omega, by omega⟩) sV_X5_67 ewF_m0.o dX5_allStrain_21 rfl rfl ⟨Nat.le_of_ble_eq_true rfl, Nat.le_of_ble_eq_true rfl⟩ ⟨Nat.zero_le _, Nat.zero_le _⟩ (Nat.le_of_ble_eq_true rfl) (fun v21 M21 g21 => ?_)
        obtain ⟨rfl, rfl⟩ := g21
        rw [show 12 * (k / 12) + k % 12 = k by omega]
        refine jw_iadd hC dX5_allStrain_24 ?_
        refine jw_istore_n (L' := [(1, _), (0, _), (2, _)]) hC dX5_allStrain_25 rfl (by decide) rfl ?_
        refine jw_iinc (L' := [(2, _), (1, _), (0, _)]) hC dX5_allStrain_26 2 rfl (by decide) rfl ?_
        refine jw_goto (tgt := 4) hC dX5_allStrain_29 (by decide) ?_
        refine jw_loc (L' := [(0, _), (1, _), (2, _)]) [2, 1, 0] rfl ?_
        refine ih _ _ (by omega) (by omega) (by omega) ?_
        rw [f_sum_s _ i2, hx]
  refine jw_iconst hC dX5_allStrain_0 ?_
  refine jw_istore_n (L' := [(1, _), (0, _)]) hC dX5_allStrain_1 rfl (by decide) rfl ?_
  refine jw_iconst hC dX5_allStrain_2 ?_
  refine jw_istore_n (L' := [(2, _), (1, _), (0, _)]) hC dX5_allStrain_3 rfl (by decide) rfl ?_
  refine jw_loc (L' := [(0, _), (1, _), (2, _)]) [2, 1, 0] rfl ?_
  exact K4 145 0 0 (by omega) (by omega) (by omega) rfl
set_option maxRecDepth 100000 in
set_option maxHeartbeats 4000000 in
theorem c_X5_foiled (l : Launch) (E : ewE) (M : ewM) (h0 : svI (M 89)) : Ct l E yX5_foiled (.code yX5_foiled cX5_foiled 3 (some .int)) 1 [vR E 88] M (fun v M1 => v = some (vI (f_sum (fun q => if vF (M 89) q = 0 then 0 else 1) 144)) ∧ M = M1) := by
  refine ct_of (L0 := [(0, vR E 88)]) (by decide +kernel) rfl (Nat.le_of_ble_eq_true rfl) ?_
  intro zp ze zs zm za zb zt zc zA hC
  obtain ⟨p1, p2, p3, p4, p5, p6, p7, p8, p9, pf⟩ := id h0
  have K4 : ∀ (n : Nat) (k x : Int), 144 - k < n → 0 ≤ k → k ≤ 144 → x = f_sum (fun q => if vF (M 89) q = 0 then 0 else 1) k.toNat → jJ zp l ze (ct_rm 1) zs zm za zb zt zc E zA 3 0 0 (MQ zb (ct_Q E zA (fun v M1 => v = some (vI (f_sum (fun q => if vF (M 89) q = 0 then 0 else 1) 144)) ∧ M = M1)) za zs 0 0 zA) 4 [(0, vR E 88), (1, vI x), (2, vI k)] [] M := by
    intro n
    induction n with
    | zero => intros; omega
    | succ n ih =>
      intro k x i1 i2 i3 hx
      refine jw_iload_n hC dX5_foiled_4 2 rfl rfl ?_
      refine jw_sipush hC dX5_foiled_5 (by decide) ?_
      refine jw_icmp_ge (tgt := 38) hC dX5_foiled_8 (by decide) (by omega) (by omega) (by omega) (by omega) (fun h8 => ?_) (fun h8 => ?_)
      · skip
        refine jw_iload_n hC dX5_foiled_38 1 rfl rfl ?_
        refine jw_iret hC dX5_foiled_39 ?_
        refine ⟨?_, rfl⟩
        rw [hx, show k = 144 by omega]
        rfl
      · skip
        refine jw_iload_n hC dX5_foiled_11 1 rfl rfl ?_
        refine jw_aload_n hC dX5_foiled_12 0 rfl rfl ?_
        refine jw_getr hC fL_X5_7 ewR_m1 dX5_foiled_13 ?_
        refine jw_sipush hC dX5_foiled_16 (by decide) ?_
        refine jw_iload_n hC dX5_foiled_19 2 rfl rfl ?_
        refine jw_iadd hC dX5_foiled_20 ?_
        refine jw_iald hC ewA_89 dX5_foiled_21 (by omega) (by omega) (by decide) (fun b21 c21 => ?_)
        rw [vF_in (M 89) (p := k) (by omega) (by omega)] at b21 c21 ⊢
        have hfk := pf k
        refine jw_if_le (tgt := 29) hC dX5_foiled_22 (by decide) (by omega) (by omega) (fun h22 => ?_) (fun h22 => ?_)
        · skip
          refine jw_iconst hC dX5_foiled_29 ?_
          refine jw_iadd hC dX5_foiled_30 ?_
          refine jw_istore_n (L' := [(1, _), (0, _), (2, _)]) hC dX5_foiled_31 rfl (by decide) rfl ?_
          refine jw_iinc (L' := [(2, _), (1, _), (0, _)]) hC dX5_foiled_32 2 rfl (by decide) rfl ?_
          refine jw_goto (tgt := 4) hC dX5_foiled_35 (by decide) ?_
          refine jw_loc (L' := [(0, _), (1, _), (2, _)]) [2, 1, 0] rfl ?_
          refine ih _ _ (by omega) (by omega) (by omega) ?_
          rw [f_sum_s _ i2, hx]
          first | (rw [if_pos (by omega)]) | (rw [if_neg (by omega)])
        · skip
          refine jw_iconst hC dX5_foiled_25 ?_
          refine jw_goto (tgt := 30) hC dX5_foiled_26 (by decide) ?_
          refine jw_iadd hC dX5_foiled_30 ?_
          refine jw_istore_n (L' := [(1, _), (0, _), (2, _)]) hC dX5_foiled_31 rfl (by decide) rfl ?_
          refine jw_iinc (L' := [(2, _), (1, _), (0, _)]) hC dX5_foiled_32 2 rfl (by decide) rfl ?_
          refine jw_goto (tgt := 4) hC dX5_foiled_35 (by decide) ?_
          refine jw_loc (L' := [(0, _), (1, _), (2, _)]) [2, 1, 0] rfl ?_
          refine ih _ _ (by omega) (by omega) (by omega) ?_
          rw [f_sum_s _ i2, hx]
          first | (rw [if_pos (by omega)]) | (rw [if_neg (by omega)])
  refine jw_iconst hC dX5_foiled_0 ?_
  refine jw_istore_n (L' := [(1, _), (0, _)]) hC dX5_foiled_1 rfl (by decide) rfl ?_
  refine jw_iconst hC dX5_foiled_2 ?_
  refine jw_istore_n (L' := [(2, _), (1, _), (0, _)]) hC dX5_foiled_3 rfl (by decide) rfl ?_
  refine jw_loc (L' := [(0, _), (1, _), (2, _)]) [2, 1, 0] rfl ?_
  exact K4 145 0 0 (by omega) (by omega) (by omega) rfl
set_option maxRecDepth 100000 in
set_option maxHeartbeats 4000000 in
theorem c_X5_pairStrain (l : Launch) (E : ewE) (M : ewM) (h0 : svI (M 89)) : Ct l E yX5_pairStrain (.code yX5_pairStrain cX5_pairStrain 5 (some .int)) 2 [vR E 88] M (fun v M1 => v = some (vI (2 * f_sum (fun q => f_s2 (vD (M 89)) q + f_s4 (vD (M 89)) q) 144)) ∧ M = M1) := by
  refine ct_of (L0 := [(0, vR E 88)]) (by decide +kernel) rfl (Nat.le_of_ble_eq_true rfl) ?_
  intro zp ze zs zm za zb zt zc zA hC
  obtain ⟨p1, p2, p3, p4, p5, p6, p7, p8, p9, pf⟩ := id h0
  have K4 : ∀ (n : Nat) (k x : Int), 144 - k < n → 0 ≤ k → k ≤ 144 → x = f_sum (fun q => f_s2 (vD (M 89)) q + f_s4 (vD (M 89)) q) k.toNat → jJ zp l ze (ct_rm 2) zs zm za zb zt zc E zA 5 0 0 (MQ zb (ct_Q E zA (fun v M1 => v = some (vI (2 * f_sum (fun q => f_s2 (vD (M 89)) q + f_s4 (vD (M 89)) q) 144)) ∧ M = M1)) za zs 0 0 zA) 4 [(0, vR E 88), (1, vI x), (2, vI k)] [] M := by
    intro n
    induction n with
    | zero => intros; omega
    | succ n ih =>
      intro k x i1 i2 i3 hx
      refine jw_iload_n hC dX5_pairStrain_4 2 rfl rfl ?_
      refine jw_sipush hC dX5_pairStrain_5 (by decide) ?_
      refine jw_icmp_ge (tgt := 99) hC dX5_pairStrain_8 (by decide) (by omega) (by omega) (by omega) (by omega) (fun h8 => ?_) (fun h8 => ?_)
      · skip
        refine jw_iconst hC dX5_pairStrain_99 ?_
        refine jw_iload_n hC dX5_pairStrain_100 1 rfl rfl ?_
        refine jw_imul hC dX5_pairStrain_101 ?_
        refine jw_iret hC dX5_pairStrain_102 ?_
        refine ⟨?_, rfl⟩
        rw [hx, show k = 144 by omega]
        rfl
      · skip
        refine jw_iload_n hC dX5_pairStrain_11 2 rfl rfl ?_
        refine jw_bipush hC dX5_pairStrain_12 (by decide) ?_
        refine jw_irem hC dX5_pairStrain_14 (by omega) (by omega) (by omega) (by omega) ?_
        refine jw_istore_n (L' := [(3, _), (0, _), (1, _), (2, _)]) hC dX5_pairStrain_15 rfl (by decide) rfl ?_
        refine jw_iload_n hC dX5_pairStrain_16 3 rfl rfl ?_
        refine jw_bipush hC dX5_pairStrain_17 (by decide) ?_
        refine jw_idiv hC dX5_pairStrain_19 (by omega) (by omega) (by omega) (by omega) ?_
        refine jw_istore (L' := [(4, _), (3, _), (0, _), (1, _), (2, _)]) hC dX5_pairStrain_20 (by decide) rfl ?_
        refine jw_iload_n hC dX5_pairStrain_22 3 rfl rfl ?_
        refine jw_iload_n hC dX5_pairStrain_23 1 rfl rfl ?_
        refine jw_iconst hC dX5_pairStrain_24 ?_
        refine jw_iadd hC dX5_pairStrain_25 ?_
        refine jw_bipush hC dX5_pairStrain_26 (by decide) ?_
        refine jw_icmp_ge (tgt := 54) hC dX5_pairStrain_28 (by decide) (by omega) (by omega) (by omega) (by omega) (fun h28 => ?_) (fun h28 => ?_)
        · skip
          refine jw_iconst hC dX5_pairStrain_54 ?_
          refine jw_iadd hC dX5_pairStrain_55 ?_
          refine jw_istore_n (L' := [(1, _), (4, _), (3, _), (0, _), (2, _)]) hC dX5_pairStrain_56 rfl (by decide) rfl ?_
          refine jw_iload_n hC dX5_pairStrain_57 0 rfl rfl ?_
          refine jw_iload hC dX5_pairStrain_58 1 rfl ?_
          refine jw_iconst hC dX5_pairStrain_60 ?_
          refine jw_iadd hC dX5_pairStrain_61 ?_
          refine jw_bipush hC dX5_pairStrain_62 (by decide) ?_
          refine jw_icmp_ge (tgt := 90) hC dX5_pairStrain_64 (by decide) (by omega) (by omega) (by omega) (by omega) (fun h64 => ?_) (fun h64 => ?_)
          · skip
            refine jw_iconst hC dX5_pairStrain_90 ?_
            refine jw_iadd hC dX5_pairStrain_91 ?_
            refine jw_istore_n (L' := [(1, _), (4, _), (3, _), (0, _), (2, _)]) hC dX5_pairStrain_92 rfl (by decide) rfl ?_
            refine jw_iinc (L' := [(2, _), (1, _), (4, _), (3, _), (0, _)]) hC dX5_pairStrain_93 4 rfl (by decide) rfl ?_
            refine jw_goto (tgt := 4) hC dX5_pairStrain_96 (by decide) ?_
            refine jw_loc (L' := [(0, _), (1, _), (2, _)]) [4, 1, 0] rfl ?_
            refine ih _ _ (by omega) (by omega) (by omega) ?_
            rw [f_sum_s _ i2, hx]
            unfold f_s2 f_s4 f_diff
            first
            | (rw [if_pos (show k % 12 < 11 by omega), if_pos (show k < 132 by omega)]; omega)
            | (rw [if_pos (show k % 12 < 11 by omega), if_neg (show ¬ k < 132 by omega)]; omega)
            | (rw [if_neg (show ¬ k % 12 < 11 by omega), if_pos (show k < 132 by omega)]; omega)
            | (rw [if_neg (show ¬ k % 12 < 11 by omega), if_neg (show ¬ k < 132 by omega)]; omega)
          · skip
            refine jw_aload_n hC dX5_pairStrain_67 3 rfl rfl ?_
            refine jw_iload_n hC dX5_pairStrain_68 2 rfl rfl ?_
            refine jw_iload hC dX5_pairStrain_69 1 rfl ?_
            refine jw_callV hC (c_X5_depth l E M h0 _ _ ⟨by omega, by omega⟩ ⟨by omega, by omega⟩) sV_X5_57 ewF_m0.o dX5_pairStrain_71 rfl rfl ⟨Nat.le_of_ble_eq_true rfl, Nat.le_of_ble_eq_true rfl⟩ ⟨Nat.zero_le _, Nat.zero_le _⟩ (Nat.le_of_ble_eq_true rfl) (fun v71 M71 g71 => ?_)
            obtain ⟨rfl, rfl⟩ := g71
            rw [show 12 * (k / 12) + k % 12 = k by omega]
            have z3 := p1 k
            refine jw_aload_n hC dX5_pairStrain_74 3 rfl rfl ?_
            refine jw_iload_n hC dX5_pairStrain_75 2 rfl rfl ?_
            refine jw_iload hC dX5_pairStrain_76 1 rfl ?_
            refine jw_iconst hC dX5_pairStrain_78 ?_
            refine jw_iadd hC dX5_pairStrain_79 ?_
            refine jw_callV hC (c_X5_depth l E M h0 _ _ ⟨by omega, by omega⟩ ⟨by omega, by omega⟩) sV_X5_57 ewF_m0.o dX5_pairStrain_80 rfl rfl ⟨Nat.le_of_ble_eq_true rfl, Nat.le_of_ble_eq_true rfl⟩ ⟨Nat.zero_le _, Nat.zero_le _⟩ (Nat.le_of_ble_eq_true rfl) (fun v80 M80 g80 => ?_)
            obtain ⟨rfl, rfl⟩ := g80
            rw [show 12 * (k / 12 + 1) + k % 12 = k + 12 by omega]
            have z4 := p1 (k + 12)
            refine jw_isub hC dX5_pairStrain_83 ?_
            refine jw_callS hC (c_X5_abs l E M _ (by omega) (by omega)) sS_X5_60 dX5_pairStrain_84 rfl rfl ⟨Nat.le_of_ble_eq_true rfl, Nat.le_of_ble_eq_true rfl⟩ ⟨Nat.zero_le _, Nat.zero_le _⟩ (Nat.le_of_ble_eq_true rfl) (fun v84 M84 g84 => ?_)
            obtain ⟨rfl, rfl⟩ := g84
            refine jw_goto (tgt := 91) hC dX5_pairStrain_87 (by decide) ?_
            refine jw_iadd hC dX5_pairStrain_91 ?_
            refine jw_istore_n (L' := [(1, _), (4, _), (3, _), (0, _), (2, _)]) hC dX5_pairStrain_92 rfl (by decide) rfl ?_
            refine jw_iinc (L' := [(2, _), (1, _), (4, _), (3, _), (0, _)]) hC dX5_pairStrain_93 4 rfl (by decide) rfl ?_
            refine jw_goto (tgt := 4) hC dX5_pairStrain_96 (by decide) ?_
            refine jw_loc (L' := [(0, _), (1, _), (2, _)]) [4, 1, 0] rfl ?_
            refine ih _ _ (by omega) (by omega) (by omega) ?_
            rw [f_sum_s _ i2, hx]
            unfold f_s2 f_s4 f_diff
            first
            | (rw [if_pos (show k % 12 < 11 by omega), if_pos (show k < 132 by omega)]; omega)
            | (rw [if_pos (show k % 12 < 11 by omega), if_neg (show ¬ k < 132 by omega)]; omega)
            | (rw [if_neg (show ¬ k % 12 < 11 by omega), if_pos (show k < 132 by omega)]; omega)
            | (rw [if_neg (show ¬ k % 12 < 11 by omega), if_neg (show ¬ k < 132 by omega)]; omega)
        · skip
          refine jw_aload_n hC dX5_pairStrain_31 2 rfl rfl ?_
          refine jw_iload_n hC dX5_pairStrain_32 1 rfl rfl ?_
          refine jw_iload hC dX5_pairStrain_33 0 rfl ?_
          refine jw_callV hC (c_X5_depth l E M h0 _ _ ⟨by omega, by omega⟩ ⟨by omega, by omega⟩) sV_X5_57 ewF_m0.o dX5_pairStrain_35 rfl rfl ⟨Nat.le_of_ble_eq_true rfl, Nat.le_of_ble_eq_true rfl⟩ ⟨Nat.zero_le _, Nat.zero_le _⟩ (Nat.le_of_ble_eq_true rfl) (fun v35 M35 g35 => ?_)
          obtain ⟨rfl, rfl⟩ := g35
          rw [show 12 * (k / 12) + k % 12 = k by omega]
          have z1 := p1 k
          refine jw_aload_n hC dX5_pairStrain_38 2 rfl rfl ?_
          refine jw_iload_n hC dX5_pairStrain_39 1 rfl rfl ?_
          refine jw_iconst hC dX5_pairStrain_40 ?_
          refine jw_iadd hC dX5_pairStrain_41 ?_
          refine jw_iload hC dX5_pairStrain_42 0 rfl ?_
          refine jw_callV hC (c_X5_depth l E M h0 _ _ ⟨by omega, by omega⟩ ⟨by omega, by omega⟩) sV_X5_57 ewF_m0.o dX5_pairStrain_44 rfl rfl ⟨Nat.le_of_ble_eq_true rfl, Nat.le_of_ble_eq_true rfl⟩ ⟨Nat.zero_le _, Nat.zero_le _⟩ (Nat.le_of_ble_eq_true rfl) (fun v44 M44 g44 => ?_)
          obtain ⟨rfl, rfl⟩ := g44
          rw [show 12 * (k / 12) + (k % 12 + 1) = k + 1 by omega]
          have z2 := p1 (k + 1)
          refine jw_isub hC dX5_pairStrain_47 ?_
          refine jw_callS hC (c_X5_abs l E M _ (by omega) (by omega)) sS_X5_60 dX5_pairStrain_48 rfl rfl ⟨Nat.le_of_ble_eq_true rfl, Nat.le_of_ble_eq_true rfl⟩ ⟨Nat.zero_le _, Nat.zero_le _⟩ (Nat.le_of_ble_eq_true rfl) (fun v48 M48 g48 => ?_)
          obtain ⟨rfl, rfl⟩ := g48
          refine jw_goto (tgt := 55) hC dX5_pairStrain_51 (by decide) ?_
          refine jw_iadd hC dX5_pairStrain_55 ?_
          refine jw_istore_n (L' := [(1, _), (4, _), (3, _), (0, _), (2, _)]) hC dX5_pairStrain_56 rfl (by decide) rfl ?_
          refine jw_iload_n hC dX5_pairStrain_57 0 rfl rfl ?_
          refine jw_iload hC dX5_pairStrain_58 1 rfl ?_
          refine jw_iconst hC dX5_pairStrain_60 ?_
          refine jw_iadd hC dX5_pairStrain_61 ?_
          refine jw_bipush hC dX5_pairStrain_62 (by decide) ?_
          refine jw_icmp_ge (tgt := 90) hC dX5_pairStrain_64 (by decide) (by omega) (by omega) (by omega) (by omega) (fun h64 => ?_) (fun h64 => ?_)
          · skip
            refine jw_iconst hC dX5_pairStrain_90 ?_
            refine jw_iadd hC dX5_pairStrain_91 ?_
            refine jw_istore_n (L' := [(1, _), (4, _), (3, _), (0, _), (2, _)]) hC dX5_pairStrain_92 rfl (by decide) rfl ?_
            refine jw_iinc (L' := [(2, _), (1, _), (4, _), (3, _), (0, _)]) hC dX5_pairStrain_93 4 rfl (by decide) rfl ?_
            refine jw_goto (tgt := 4) hC dX5_pairStrain_96 (by decide) ?_
            refine jw_loc (L' := [(0, _), (1, _), (2, _)]) [4, 1, 0] rfl ?_
            refine ih _ _ (by omega) (by omega) (by omega) ?_
            rw [f_sum_s _ i2, hx]
            unfold f_s2 f_s4 f_diff
            first
            | (rw [if_pos (show k % 12 < 11 by omega), if_pos (show k < 132 by omega)]; omega)
            | (rw [if_pos (show k % 12 < 11 by omega), if_neg (show ¬ k < 132 by omega)]; omega)
            | (rw [if_neg (show ¬ k % 12 < 11 by omega), if_pos (show k < 132 by omega)]; omega)
            | (rw [if_neg (show ¬ k % 12 < 11 by omega), if_neg (show ¬ k < 132 by omega)]; omega)
          · skip
            refine jw_aload_n hC dX5_pairStrain_67 3 rfl rfl ?_
            refine jw_iload_n hC dX5_pairStrain_68 2 rfl rfl ?_
            refine jw_iload hC dX5_pairStrain_69 1 rfl ?_
            refine jw_callV hC (c_X5_depth l E M h0 _ _ ⟨by omega, by omega⟩ ⟨by omega, by omega⟩) sV_X5_57 ewF_m0.o dX5_pairStrain_71 rfl rfl ⟨Nat.le_of_ble_eq_true rfl, Nat.le_of_ble_eq_true rfl⟩ ⟨Nat.zero_le _, Nat.zero_le _⟩ (Nat.le_of_ble_eq_true rfl) (fun v71 M71 g71 => ?_)
            obtain ⟨rfl, rfl⟩ := g71
            rw [show 12 * (k / 12) + k % 12 = k by omega]
            have z3 := p1 k
            refine jw_aload_n hC dX5_pairStrain_74 3 rfl rfl ?_
            refine jw_iload_n hC dX5_pairStrain_75 2 rfl rfl ?_
            refine jw_iload hC dX5_pairStrain_76 1 rfl ?_
            refine jw_iconst hC dX5_pairStrain_78 ?_
            refine jw_iadd hC dX5_pairStrain_79 ?_
            refine jw_callV hC (c_X5_depth l E M h0 _ _ ⟨by omega, by omega⟩ ⟨by omega, by omega⟩) sV_X5_57 ewF_m0.o dX5_pairStrain_80 rfl rfl ⟨Nat.le_of_ble_eq_true rfl, Nat.le_of_ble_eq_true rfl⟩ ⟨Nat.zero_le _, Nat.zero_le _⟩ (Nat.le_of_ble_eq_true rfl) (fun v80 M80 g80 => ?_)
            obtain ⟨rfl, rfl⟩ := g80
            rw [show 12 * (k / 12 + 1) + k % 12 = k + 12 by omega]
            have z4 := p1 (k + 12)
            refine jw_isub hC dX5_pairStrain_83 ?_
            refine jw_callS hC (c_X5_abs l E M _ (by omega) (by omega)) sS_X5_60 dX5_pairStrain_84 rfl rfl ⟨Nat.le_of_ble_eq_true rfl, Nat.le_of_ble_eq_true rfl⟩ ⟨Nat.zero_le _, Nat.zero_le _⟩ (Nat.le_of_ble_eq_true rfl) (fun v84 M84 g84 => ?_)
            obtain ⟨rfl, rfl⟩ := g84
            refine jw_goto (tgt := 91) hC dX5_pairStrain_87 (by decide) ?_
            refine jw_iadd hC dX5_pairStrain_91 ?_
            refine jw_istore_n (L' := [(1, _), (4, _), (3, _), (0, _), (2, _)]) hC dX5_pairStrain_92 rfl (by decide) rfl ?_
            refine jw_iinc (L' := [(2, _), (1, _), (4, _), (3, _), (0, _)]) hC dX5_pairStrain_93 4 rfl (by decide) rfl ?_
            refine jw_goto (tgt := 4) hC dX5_pairStrain_96 (by decide) ?_
            refine jw_loc (L' := [(0, _), (1, _), (2, _)]) [4, 1, 0] rfl ?_
            refine ih _ _ (by omega) (by omega) (by omega) ?_
            rw [f_sum_s _ i2, hx]
            unfold f_s2 f_s4 f_diff
            first
            | (rw [if_pos (show k % 12 < 11 by omega), if_pos (show k < 132 by omega)]; omega)
            | (rw [if_pos (show k % 12 < 11 by omega), if_neg (show ¬ k < 132 by omega)]; omega)
            | (rw [if_neg (show ¬ k % 12 < 11 by omega), if_pos (show k < 132 by omega)]; omega)
            | (rw [if_neg (show ¬ k % 12 < 11 by omega), if_neg (show ¬ k < 132 by omega)]; omega)
  refine jw_iconst hC dX5_pairStrain_0 ?_
  refine jw_istore_n (L' := [(1, _), (0, _)]) hC dX5_pairStrain_1 rfl (by decide) rfl ?_
  refine jw_iconst hC dX5_pairStrain_2 ?_
  refine jw_istore_n (L' := [(2, _), (1, _), (0, _)]) hC dX5_pairStrain_3 rfl (by decide) rfl ?_
  refine jw_loc (L' := [(0, _), (1, _), (2, _)]) [2, 1, 0] rfl ?_
  exact K4 145 0 0 (by omega) (by omega) (by omega) rfl
set_option maxRecDepth 100000 in
set_option maxHeartbeats 4000000 in
theorem c_X5_tellsPlace (l : Launch) (E : ewE) (M : ewM) (h0 : svI (M 89)) (x y : Int) (hx : 0 ≤ x ∧ x < 12) (hy : 0 ≤ y ∧ y < 12) (w : Int) (hw : 0 ≤ w ∧ w < 7) : Ct l E yX5_tellsPlace (.code yX5_tellsPlace cX5_tellsPlace 5 (some .int)) 4 [vR E 88, vI x, vI y, vI w] M (fun v M1 => v = some (vI (g_prop (M 89) (12 * y + x) w)) ∧ (-2147483648 ≤ g_prop (M 89) (12 * y + x) w ∧ g_prop (M 89) (12 * y + x) w < 2147483648) ∧ M = M1) := by
  refine ct_of (L0 := [(0, vR E 88), (1, vI x), (2, vI y), (3, vI w)]) (by decide +kernel) rfl (Nat.le_of_ble_eq_true rfl) ?_
  intro zp ze zs zm za zb zt zc zA hC
  obtain ⟨p1, p2, p3, p4, p5, p6, p7, p8, p9, pf⟩ := id h0
  refine jw_bipush hC dX5_tellsPlace_0 (by decide) ?_
  refine jw_iload_n hC dX5_tellsPlace_2 2 rfl rfl ?_
  refine jw_imul hC dX5_tellsPlace_3 ?_
  refine jw_iload_n hC dX5_tellsPlace_4 1 rfl rfl ?_
  refine jw_iadd hC dX5_tellsPlace_5 ?_
  refine jw_istore (L' := [(4, _), (0, _), (1, _), (2, _), (3, _)]) hC dX5_tellsPlace_6 (by decide) rfl ?_
  refine jw_iload_n hC dX5_tellsPlace_8 4 rfl rfl ?_
  rcases (show w = 0 ∨ w = 1 ∨ w = 2 ∨ w = 3 ∨ w = 4 ∨ w = 5 ∨ w = 6 by omega) with rfl | rfl | rfl | rfl | rfl | rfl | rfl
  · skip
    refine jw_tabIn (tgt := 48) hC dX5_tellsPlace_9 (by decide) (by decide) (by decide) (by decide) rfl (by decide) ?_
    refine jw_aload_n hC dX5_tellsPlace_48 1 rfl rfl ?_
    refine jw_getr hC fL_X5_7 ewR_m1 dX5_tellsPlace_49 ?_
    refine jw_bipush hC dX5_tellsPlace_52 (by decide) ?_
    refine jw_iload hC dX5_tellsPlace_54 0 rfl ?_
    refine jw_iadd hC dX5_tellsPlace_56 ?_
    refine jw_iald hC ewA_89 dX5_tellsPlace_57 (by omega) (by omega) (by decide) (fun b57 c57 => ?_)
    rw [show 91 + (12 * y + x) = 91 + (12 * y + x) from rfl, vD_in (M 89) (p := 12 * y + x) (by omega) (by omega)] at b57 c57 ⊢
    refine jw_iret hC dX5_tellsPlace_58 ?_
    exact ⟨rfl, ⟨by show _ ≤ vD (M 89) (12 * y + x); omega, by show vD (M 89) (12 * y + x) < _; omega⟩, rfl⟩
  · skip
    refine jw_tabIn (tgt := 59) hC dX5_tellsPlace_9 (by decide) (by decide) (by decide) (by decide) rfl (by decide) ?_
    refine jw_aload_n hC dX5_tellsPlace_59 1 rfl rfl ?_
    refine jw_getr hC fL_X5_7 ewR_m1 dX5_tellsPlace_60 ?_
    refine jw_sipush hC dX5_tellsPlace_63 (by decide) ?_
    refine jw_iload hC dX5_tellsPlace_66 0 rfl ?_
    refine jw_iadd hC dX5_tellsPlace_68 ?_
    refine jw_iald hC ewA_89 dX5_tellsPlace_69 (by omega) (by omega) (by decide) (fun b69 c69 => ?_)
    rw [show 235 + (12 * y + x) = 235 + (12 * y + x) from rfl, vF_in (M 89) (p := 12 * y + x) (by omega) (by omega)] at b69 c69 ⊢
    refine jw_iret hC dX5_tellsPlace_70 ?_
    exact ⟨rfl, ⟨by show _ ≤ vF (M 89) (12 * y + x); omega, by show vF (M 89) (12 * y + x) < _; omega⟩, rfl⟩
  · skip
    refine jw_tabIn (tgt := 71) hC dX5_tellsPlace_9 (by decide) (by decide) (by decide) (by decide) rfl (by decide) ?_
    refine jw_aload_n hC dX5_tellsPlace_71 1 rfl rfl ?_
    refine jw_getr hC fL_X5_7 ewR_m1 dX5_tellsPlace_72 ?_
    refine jw_sipush hC dX5_tellsPlace_75 (by decide) ?_
    refine jw_iload hC dX5_tellsPlace_78 0 rfl ?_
    refine jw_iadd hC dX5_tellsPlace_80 ?_
    refine jw_iald hC ewA_89 dX5_tellsPlace_81 (by omega) (by omega) (by decide) (fun b81 c81 => ?_)
    rw [show 379 + (12 * y + x) = 379 + (12 * y + x) from rfl, vC_in (M 89) (p := 12 * y + x) (by omega) (by omega)] at b81 c81 ⊢
    refine jw_iret hC dX5_tellsPlace_82 ?_
    exact ⟨rfl, ⟨by show _ ≤ vC (M 89) (12 * y + x); omega, by show vC (M 89) (12 * y + x) < _; omega⟩, rfl⟩
  · skip
    refine jw_tabIn (tgt := 83) hC dX5_tellsPlace_9 (by decide) (by decide) (by decide) (by decide) rfl (by decide) ?_
    refine jw_aload_n hC dX5_tellsPlace_83 1 rfl rfl ?_
    refine jw_iload_n hC dX5_tellsPlace_84 2 rfl rfl ?_
    refine jw_iload_n hC dX5_tellsPlace_85 3 rfl rfl ?_
    refine jw_callV hC (c_X5_strain l E M h0 _ _ hx hy) sV_X5_67 ewF_m0.o dX5_tellsPlace_86 rfl rfl ⟨Nat.le_of_ble_eq_true rfl, Nat.le_of_ble_eq_true rfl⟩ ⟨Nat.zero_le _, Nat.zero_le _⟩ (Nat.le_of_ble_eq_true rfl) (fun v86 M86 g86 => ?_)
    obtain ⟨rfl, rfl⟩ := g86
    refine jw_iret hC dX5_tellsPlace_89 ?_
    have z := f_str_b p1 (12 * y + x)
    exact ⟨rfl, ⟨by show _ ≤ f_str (vD (M 89)) (12 * y + x); omega, by show f_str (vD (M 89)) (12 * y + x) < _; omega⟩, rfl⟩
  · skip
    refine jw_tabIn (tgt := 90) hC dX5_tellsPlace_9 (by decide) (by decide) (by decide) (by decide) rfl (by decide) ?_
    refine jw_aload_n hC dX5_tellsPlace_90 1 rfl rfl ?_
    refine jw_iload_n hC dX5_tellsPlace_91 2 rfl rfl ?_
    refine jw_iload_n hC dX5_tellsPlace_92 3 rfl rfl ?_
    refine jw_callV hC (c_X5_bears l E M h0 _ _ hx hy) sV_X5_70 ewF_m0.o dX5_tellsPlace_93 rfl rfl ⟨Nat.le_of_ble_eq_true rfl, Nat.le_of_ble_eq_true rfl⟩ ⟨Nat.zero_le _, Nat.zero_le _⟩ (Nat.le_of_ble_eq_true rfl) (fun v93 M93 g93 => ?_)
    obtain ⟨rfl, rfl⟩ := g93
    refine jw_iret hC dX5_tellsPlace_96 ?_
    have z := f_bear_b (12 * y + x) p2 p4 p5
    exact ⟨rfl, ⟨by show _ ≤ f_bear (vC (M 89)) (12 * y + x) (M 89 0) (M 89 1); omega, by show f_bear (vC (M 89)) (12 * y + x) (M 89 0) (M 89 1) < _; omega⟩, rfl⟩
  · skip
    refine jw_tabIn (tgt := 97) hC dX5_tellsPlace_9 (by decide) (by decide) (by decide) (by decide) rfl (by decide) ?_
    refine jw_aload_n hC dX5_tellsPlace_97 1 rfl rfl ?_
    refine jw_iload_n hC dX5_tellsPlace_98 2 rfl rfl ?_
    refine jw_iload_n hC dX5_tellsPlace_99 3 rfl rfl ?_
    refine jw_callV hC (c_X5_isReadyOver l E M h0 _ _ hx hy) sV_X5_84 ewF_m0.o dX5_tellsPlace_100 rfl rfl ⟨Nat.le_of_ble_eq_true rfl, Nat.le_of_ble_eq_true rfl⟩ ⟨Nat.zero_le _, Nat.zero_le _⟩ (Nat.le_of_ble_eq_true rfl) (fun v100 M100 g100 => ?_)
    obtain ⟨rfl, rfl⟩ := g100
    have hov : (if f_ov (vS (M 89)) (12 * y + x) then (1 : Int) else 0) = 0 ∨ (if f_ov (vS (M 89)) (12 * y + x) then (1 : Int) else 0) = 1 := by split <;> omega
    refine jw_if_eq (tgt := 110) hC dX5_tellsPlace_103 (by decide) (by omega) (by omega) (fun h103 => ?_) (fun h103 => ?_)
    · skip
      refine jw_iconst hC dX5_tellsPlace_110 ?_
      refine jw_iret hC dX5_tellsPlace_111 ?_
      have e9 : g_prop (M 89) (12 * y + x) 5 = if f_ov (vS (M 89)) (12 * y + x) then 1 else 0 := rfl
      rw [e9]
      first
      | (have hz : f_ov (vS (M 89)) (12 * y + x) := Decidable.by_contra (fun z => by rw [if_neg z] at h103; omega)
         rw [if_pos hz]
         exact ⟨rfl, ⟨by decide, by decide⟩, rfl⟩)
      | (have hz : ¬ f_ov (vS (M 89)) (12 * y + x) := fun z => by rw [if_pos z] at h103; omega
         rw [if_neg hz]
         exact ⟨rfl, ⟨by decide, by decide⟩, rfl⟩)
    · skip
      refine jw_iconst hC dX5_tellsPlace_106 ?_
      refine jw_goto (tgt := 111) hC dX5_tellsPlace_107 (by decide) ?_
      refine jw_iret hC dX5_tellsPlace_111 ?_
      have e9 : g_prop (M 89) (12 * y + x) 5 = if f_ov (vS (M 89)) (12 * y + x) then 1 else 0 := rfl
      rw [e9]
      first
      | (have hz : f_ov (vS (M 89)) (12 * y + x) := Decidable.by_contra (fun z => by rw [if_neg z] at h103; omega)
         rw [if_pos hz]
         exact ⟨rfl, ⟨by decide, by decide⟩, rfl⟩)
      | (have hz : ¬ f_ov (vS (M 89)) (12 * y + x) := fun z => by rw [if_pos z] at h103; omega
         rw [if_neg hz]
         exact ⟨rfl, ⟨by decide, by decide⟩, rfl⟩)
  · skip
    refine jw_tabOut (tgt := 112) hC dX5_tellsPlace_9 (by decide) (by decide) (by decide) (by decide) ?_
    refine jw_aload_n hC dX5_tellsPlace_112 1 rfl rfl ?_
    refine jw_getr hC fL_X5_7 ewR_m1 dX5_tellsPlace_113 ?_
    refine jw_sipush hC dX5_tellsPlace_116 (by decide) ?_
    refine jw_iload hC dX5_tellsPlace_119 0 rfl ?_
    refine jw_iadd hC dX5_tellsPlace_121 ?_
    refine jw_iald hC ewA_89 dX5_tellsPlace_122 (by omega) (by omega) (by decide) (fun b122 c122 => ?_)
    rw [show 523 + (12 * y + x) = 523 + (12 * y + x) from rfl, vP_in (M 89) (p := 12 * y + x) (by omega) (by omega)] at b122 c122 ⊢
    refine jw_iret hC dX5_tellsPlace_123 ?_
    exact ⟨rfl, ⟨by show _ ≤ vP (M 89) (12 * y + x); omega, by show vP (M 89) (12 * y + x) < _; omega⟩, rfl⟩
set_option maxRecDepth 100000 in
set_option maxHeartbeats 4000000 in
theorem c_X5_tellsCount (l : Launch) (E : ewE) (M : ewM) (h0 : svI (M 89)) (w : Int) (hw : 0 ≤ w ∧ w < 14) : Ct l E yX5_tellsCount (.code yX5_tellsCount cX5_tellsCount 2 (some .int)) 5 [vR E 88, vI w] M (fun v M1 => v = some (vI (g_num (M 89) (M 88 4) w)) ∧ (-2147483648 ≤ g_num (M 89) (M 88 4) w ∧ g_num (M 89) (M 88 4) w < 2147483648) ∧ M = M1) := by
  refine ct_of (L0 := [(0, vR E 88), (1, vI w)]) (by decide +kernel) rfl (Nat.le_of_ble_eq_true rfl) ?_
  intro zp ze zs zm za zb zt zc zA hC
  obtain ⟨p1, p2, p3, p4, p5, p6, p7, p8, p9, pf⟩ := id h0
  refine jw_iload_n hC dX5_tellsCount_0 1 rfl rfl ?_
  rcases (show w = 0 ∨ w = 1 ∨ w = 2 ∨ w = 3 ∨ w = 4 ∨ w = 5 ∨ w = 6 ∨ w = 7 ∨ w = 8 ∨ w = 9 ∨ w = 10 ∨ w = 11 ∨ w = 12 ∨ w = 13 by omega) with rfl | rfl | rfl | rfl | rfl | rfl | rfl | rfl | rfl | rfl | rfl | rfl | rfl | rfl
  · skip
    refine jw_tabIn (tgt := 68) hC dX5_tellsCount_1 (by decide) (by decide) (by decide) (by decide) rfl (by decide) ?_
    refine jw_aload_n hC dX5_tellsCount_68 0 rfl rfl ?_
    refine jw_getr hC fL_X5_7 ewR_m1 dX5_tellsCount_69 ?_
    refine jw_bipush hC dX5_tellsCount_72 (by decide) ?_
    refine jw_iald hC ewA_89 dX5_tellsCount_74 (by omega) (by omega) (by decide) (fun b74 c74 => ?_)
    refine jw_iret hC dX5_tellsCount_75 ?_
    exact ⟨rfl, ⟨by show _ ≤ M 89 6; omega, by show M 89 6 < _; omega⟩, rfl⟩
  · skip
    refine jw_tabIn (tgt := 76) hC dX5_tellsCount_1 (by decide) (by decide) (by decide) (by decide) rfl (by decide) ?_
    refine jw_aload_n hC dX5_tellsCount_76 0 rfl rfl ?_
    refine jw_getr hC fL_X5_7 ewR_m1 dX5_tellsCount_77 ?_
    refine jw_iconst hC dX5_tellsCount_80 ?_
    refine jw_iald hC ewA_89 dX5_tellsCount_81 (by omega) (by omega) (by decide) (fun b81 c81 => ?_)
    refine jw_iret hC dX5_tellsCount_82 ?_
    exact ⟨rfl, ⟨by show _ ≤ M 89 5; omega, by show M 89 5 < _; omega⟩, rfl⟩
  · skip
    refine jw_tabIn (tgt := 83) hC dX5_tellsCount_1 (by decide) (by decide) (by decide) (by decide) rfl (by decide) ?_
    refine jw_aload_n hC dX5_tellsCount_83 0 rfl rfl ?_
    refine jw_getr hC fL_X5_7 ewR_m1 dX5_tellsCount_84 ?_
    refine jw_iconst hC dX5_tellsCount_87 ?_
    refine jw_iald hC ewA_89 dX5_tellsCount_88 (by omega) (by omega) (by decide) (fun b88 c88 => ?_)
    refine jw_iret hC dX5_tellsCount_89 ?_
    exact ⟨rfl, ⟨by show _ ≤ M 89 4; omega, by show M 89 4 < _; omega⟩, rfl⟩
  · skip
    refine jw_tabIn (tgt := 90) hC dX5_tellsCount_1 (by decide) (by decide) (by decide) (by decide) rfl (by decide) ?_
    refine jw_aload_n hC dX5_tellsCount_90 0 rfl rfl ?_
    refine jw_getr hC fL_X5_7 ewR_m1 dX5_tellsCount_91 ?_
    refine jw_bipush hC dX5_tellsCount_94 (by decide) ?_
    refine jw_iald hC ewA_89 dX5_tellsCount_96 (by omega) (by omega) (by decide) (fun b96 c96 => ?_)
    refine jw_iret hC dX5_tellsCount_97 ?_
    exact ⟨rfl, ⟨by show _ ≤ M 89 7; omega, by show M 89 7 < _; omega⟩, rfl⟩
  · skip
    refine jw_tabIn (tgt := 98) hC dX5_tellsCount_1 (by decide) (by decide) (by decide) (by decide) rfl (by decide) ?_
    refine jw_aload_n hC dX5_tellsCount_98 0 rfl rfl ?_
    refine jw_callV hC (c_X5_cracked l E M h0) sV_X5_110 ewF_m0.o dX5_tellsCount_99 rfl rfl ⟨Nat.le_of_ble_eq_true rfl, Nat.le_of_ble_eq_true rfl⟩ ⟨Nat.zero_le _, Nat.zero_le _⟩ (Nat.le_of_ble_eq_true rfl) (fun v99 M99 g99 => ?_)
    obtain ⟨rfl, rfl⟩ := g99
    refine jw_iret hC dX5_tellsCount_102 ?_
    have hb := f_sum_C p2
    exact ⟨rfl, ⟨by show _ ≤ f_sum (vC (M 89)) 144; omega, by show f_sum (vC (M 89)) 144 < _; omega⟩, rfl⟩
  · skip
    refine jw_tabIn (tgt := 103) hC dX5_tellsCount_1 (by decide) (by decide) (by decide) (by decide) rfl (by decide) ?_
    refine jw_aload_n hC dX5_tellsCount_103 0 rfl rfl ?_
    refine jw_callV hC (c_X5_greatestDepth l E M h0) sV_X5_150 ewF_m0.o dX5_tellsCount_104 rfl rfl ⟨Nat.le_of_ble_eq_true rfl, Nat.le_of_ble_eq_true rfl⟩ ⟨Nat.zero_le _, Nat.zero_le _⟩ (Nat.le_of_ble_eq_true rfl) (fun v104 M104 g104 => ?_)
    obtain ⟨rfl, rfl⟩ := g104
    refine jw_iret hC dX5_tellsCount_107 ?_
    have hb := f_max_D p1 144
    exact ⟨rfl, ⟨by show _ ≤ f_max (vD (M 89)) 144; omega, by show f_max (vD (M 89)) 144 < _; omega⟩, rfl⟩
  · skip
    refine jw_tabIn (tgt := 108) hC dX5_tellsCount_1 (by decide) (by decide) (by decide) (by decide) rfl (by decide) ?_
    refine jw_aload_n hC dX5_tellsCount_108 0 rfl rfl ?_
    refine jw_callV hC (c_X5_allStrain l E M h0) sV_X5_153 ewF_m0.o dX5_tellsCount_109 rfl rfl ⟨Nat.le_of_ble_eq_true rfl, Nat.le_of_ble_eq_true rfl⟩ ⟨Nat.zero_le _, Nat.zero_le _⟩ (Nat.le_of_ble_eq_true rfl) (fun v109 M109 g109 => ?_)
    obtain ⟨rfl, rfl⟩ := g109
    refine jw_iret hC dX5_tellsCount_112 ?_
    have hb := f_sum_le (g := f_str (vD (M 89))) (a := 0) (b := 36) (fun k _ _ => f_str_b p1 k) 144 (by decide)
    exact ⟨rfl, ⟨by show _ ≤ f_sum (f_str (vD (M 89))) 144; omega, by show f_sum (f_str (vD (M 89))) 144 < _; omega⟩, rfl⟩
  · skip
    refine jw_tabIn (tgt := 113) hC dX5_tellsCount_1 (by decide) (by decide) (by decide) (by decide) rfl (by decide) ?_
    refine jw_aload_n hC dX5_tellsCount_113 0 rfl rfl ?_
    refine jw_callV hC (c_X5_pairStrain l E M h0) sV_X5_156 ewF_m0.o dX5_tellsCount_114 rfl rfl ⟨Nat.le_of_ble_eq_true rfl, Nat.le_of_ble_eq_true rfl⟩ ⟨Nat.zero_le _, Nat.zero_le _⟩ (Nat.le_of_ble_eq_true rfl) (fun v114 M114 g114 => ?_)
    obtain ⟨rfl, rfl⟩ := g114
    refine jw_iret hC dX5_tellsCount_117 ?_
    have hb := f_sum_le (g := fun q => f_s2 (vD (M 89)) q + f_s4 (vD (M 89)) q) (a := 0) (b := 18) (fun k _ _ => by have z1 := f_s2_b p1 k; have z2 := f_s4_b p1 k; omega) 144 (by decide)
    exact ⟨rfl, ⟨by show _ ≤ 2 * f_sum (fun q => f_s2 (vD (M 89)) q + f_s4 (vD (M 89)) q) 144; omega, by show 2 * f_sum (fun q => f_s2 (vD (M 89)) q + f_s4 (vD (M 89)) q) 144 < _; omega⟩, rfl⟩
  · skip
    refine jw_tabIn (tgt := 118) hC dX5_tellsCount_1 (by decide) (by decide) (by decide) (by decide) rfl (by decide) ?_
    refine jw_aload_n hC dX5_tellsCount_118 0 rfl rfl ?_
    refine jw_callV hC (c_X5_foiled l E M h0) sV_X5_159 ewF_m0.o dX5_tellsCount_119 rfl rfl ⟨Nat.le_of_ble_eq_true rfl, Nat.le_of_ble_eq_true rfl⟩ ⟨Nat.zero_le _, Nat.zero_le _⟩ (Nat.le_of_ble_eq_true rfl) (fun v119 M119 g119 => ?_)
    obtain ⟨rfl, rfl⟩ := g119
    refine jw_iret hC dX5_tellsCount_122 ?_
    have hb := f_sum_le (g := fun q => if vF (M 89) q = 0 then 0 else 1) (a := 0) (b := 1) (fun k _ _ => by split <;> omega) 144 (by decide)
    exact ⟨rfl, ⟨by show _ ≤ f_sum (fun q => if vF (M 89) q = 0 then 0 else 1) 144; omega, by show f_sum (fun q => if vF (M 89) q = 0 then 0 else 1) 144 < _; omega⟩, rfl⟩
  · skip
    refine jw_tabIn (tgt := 123) hC dX5_tellsCount_1 (by decide) (by decide) (by decide) (by decide) rfl (by decide) ?_
    refine jw_aload_n hC dX5_tellsCount_123 0 rfl rfl ?_
    refine jw_getr hC fL_X5_7 ewR_m1 dX5_tellsCount_124 ?_
    refine jw_bipush hC dX5_tellsCount_127 (by decide) ?_
    refine jw_iald hC ewA_89 dX5_tellsCount_129 (by omega) (by omega) (by decide) (fun b129 c129 => ?_)
    refine jw_iret hC dX5_tellsCount_130 ?_
    exact ⟨rfl, ⟨by show _ ≤ M 89 8; omega, by show M 89 8 < _; omega⟩, rfl⟩
  · skip
    refine jw_tabIn (tgt := 131) hC dX5_tellsCount_1 (by decide) (by decide) (by decide) (by decide) rfl (by decide) ?_
    refine jw_aload_n hC dX5_tellsCount_131 0 rfl rfl ?_
    refine jw_getr hC fL_X5_7 ewR_m1 dX5_tellsCount_132 ?_
    refine jw_bipush hC dX5_tellsCount_135 (by decide) ?_
    refine jw_iload_n hC dX5_tellsCount_137 1 rfl rfl ?_
    refine jw_iadd hC dX5_tellsCount_138 ?_
    refine jw_bipush hC dX5_tellsCount_139 (by decide) ?_
    refine jw_isub hC dX5_tellsCount_141 ?_
    first
    | rw [show (13 : Int) + 10 - 10 = 13 from rfl]
    | rw [show (13 : Int) + 11 - 10 = 14 from rfl]
    | rw [show (13 : Int) + 12 - 10 = 15 from rfl]
    refine jw_iald hC ewA_89 dX5_tellsCount_142 (by omega) (by omega) (by decide) (fun b142 c142 => ?_)
    refine jw_iret hC dX5_tellsCount_143 ?_
    first
    | exact ⟨rfl, ⟨by show _ ≤ M 89 13; omega, by show M 89 13 < _; omega⟩, rfl⟩
    | exact ⟨rfl, ⟨by show _ ≤ M 89 14; omega, by show M 89 14 < _; omega⟩, rfl⟩
    | exact ⟨rfl, ⟨by show _ ≤ M 89 15; omega, by show M 89 15 < _; omega⟩, rfl⟩
  · skip
    refine jw_tabIn (tgt := 131) hC dX5_tellsCount_1 (by decide) (by decide) (by decide) (by decide) rfl (by decide) ?_
    refine jw_aload_n hC dX5_tellsCount_131 0 rfl rfl ?_
    refine jw_getr hC fL_X5_7 ewR_m1 dX5_tellsCount_132 ?_
    refine jw_bipush hC dX5_tellsCount_135 (by decide) ?_
    refine jw_iload_n hC dX5_tellsCount_137 1 rfl rfl ?_
    refine jw_iadd hC dX5_tellsCount_138 ?_
    refine jw_bipush hC dX5_tellsCount_139 (by decide) ?_
    refine jw_isub hC dX5_tellsCount_141 ?_
    first
    | rw [show (13 : Int) + 10 - 10 = 13 from rfl]
    | rw [show (13 : Int) + 11 - 10 = 14 from rfl]
    | rw [show (13 : Int) + 12 - 10 = 15 from rfl]
    refine jw_iald hC ewA_89 dX5_tellsCount_142 (by omega) (by omega) (by decide) (fun b142 c142 => ?_)
    refine jw_iret hC dX5_tellsCount_143 ?_
    first
    | exact ⟨rfl, ⟨by show _ ≤ M 89 13; omega, by show M 89 13 < _; omega⟩, rfl⟩
    | exact ⟨rfl, ⟨by show _ ≤ M 89 14; omega, by show M 89 14 < _; omega⟩, rfl⟩
    | exact ⟨rfl, ⟨by show _ ≤ M 89 15; omega, by show M 89 15 < _; omega⟩, rfl⟩
  · skip
    refine jw_tabIn (tgt := 131) hC dX5_tellsCount_1 (by decide) (by decide) (by decide) (by decide) rfl (by decide) ?_
    refine jw_aload_n hC dX5_tellsCount_131 0 rfl rfl ?_
    refine jw_getr hC fL_X5_7 ewR_m1 dX5_tellsCount_132 ?_
    refine jw_bipush hC dX5_tellsCount_135 (by decide) ?_
    refine jw_iload_n hC dX5_tellsCount_137 1 rfl rfl ?_
    refine jw_iadd hC dX5_tellsCount_138 ?_
    refine jw_bipush hC dX5_tellsCount_139 (by decide) ?_
    refine jw_isub hC dX5_tellsCount_141 ?_
    first
    | rw [show (13 : Int) + 10 - 10 = 13 from rfl]
    | rw [show (13 : Int) + 11 - 10 = 14 from rfl]
    | rw [show (13 : Int) + 12 - 10 = 15 from rfl]
    refine jw_iald hC ewA_89 dX5_tellsCount_142 (by omega) (by omega) (by decide) (fun b142 c142 => ?_)
    refine jw_iret hC dX5_tellsCount_143 ?_
    first
    | exact ⟨rfl, ⟨by show _ ≤ M 89 13; omega, by show M 89 13 < _; omega⟩, rfl⟩
    | exact ⟨rfl, ⟨by show _ ≤ M 89 14; omega, by show M 89 14 < _; omega⟩, rfl⟩
    | exact ⟨rfl, ⟨by show _ ≤ M 89 15; omega, by show M 89 15 < _; omega⟩, rfl⟩
  · skip
    refine jw_tabOut (tgt := 144) hC dX5_tellsCount_1 (by decide) (by decide) (by decide) (by decide) ?_
    refine jw_aload_n hC dX5_tellsCount_144 0 rfl rfl ?_
    refine jw_geti hC fL_X5_43.r ewF_m4 (kI := 4) rfl dX5_tellsCount_145 (by omega) (fun b145 c145 => ?_)
    refine jw_iret hC dX5_tellsCount_148 ?_
    exact ⟨rfl, ⟨by show _ ≤ M 88 4; omega, by show M 88 4 < _; omega⟩, rfl⟩
set_option maxRecDepth 100000 in
set_option maxHeartbeats 4000000 in
theorem c_X5_neededFor (l : Launch) (E : ewE) (M : ewM) (h0 : svI (M 89)) (a : Int) (ha : 0 ≤ a ∧ a < 3) (x y : Int) (x1 : -2147483648 ≤ x) (x2 : x < 2147483648) (y1 : -2147483648 ≤ y) (y2 : y < 2147483648) (t : Int) (ht : 0 ≤ t ∧ t < 8) : Ct l E yX5_neededFor (.code yX5_neededFor cX5_neededFor 8 (some .int)) 8 [vR E 88, vI a, vI x, vI y, vI t] M (fun v M1 => v = some (vI (f_need (f_rel (vQ (M 89)) a t) (x + M 89 4) y (vD (M 89)) (vC (M 89)) (M 89 1) (M 89 2))) ∧ mk M M1) := by
  refine ct_of (L0 := [(0, vR E 88), (1, vI a), (2, vI x), (3, vI y), (4, vI t)]) (by decide +kernel) rfl (Nat.le_of_ble_eq_true rfl) ?_
  intro zp ze zs zm za zb zt zc zA hC
  obtain ⟨p1, p2, p3, p4, p5, p6, p7, p8, p9, pf⟩ := id h0
  have hrD := f_rel_D p3 a t
  have K15 : ∀ (n : Nat) (b best b0 : Int) (M1 : ewM), b + 1 < n → -1 ≤ b → b ≤ 99 → best = (if f_rsn (f_rel (vQ (M 89)) a t) (x + M 89 4) y (M 89 2) = 0 ∧ max (f_least (f_emb (f_rel (vQ (M 89)) a t) (x + M 89 4) y (vD (M 89)) 25) (vC (M 89)) (M 89 1) 144) (b + 1) ≤ 99 then max (f_least (f_emb (f_rel (vQ (M 89)) a t) (x + M 89 4) y (vD (M 89)) 25) (vC (M 89)) (M 89 1) 144) (b + 1) else -1) → M1 89 = sb (M 89) b0 → (∀ o, o ≠ 89 → o ≠ 90 → o ≠ 95 → M1 o = M o) → jJ zp l ze (ct_rm 8) zs zm za zb zt zc E zA 8 0 0 (MQ zb (ct_Q E zA (fun v M1 => v = some (vI (f_need (f_rel (vQ (M 89)) a t) (x + M 89 4) y (vD (M 89)) (vC (M 89)) (M 89 1) (M 89 2))) ∧ mk M M1)) za zs 0 0 zA) 15 [(0, vR E 88), (1, vI a), (2, vI x), (3, vI y), (4, vI t), (5, vI (M 89 0)), (6, vI best), (7, vI b)] [] M1 := by
    intro n
    induction n with
    | zero => intros; omega
    | succ n ih =>
      intro b best b0 M1 i1 i2 i3 hbs q1 q2
      refine jw_iload hC dX5_neededFor_15 7 rfl ?_
      refine jw_if_lt (tgt := 57) hC dX5_neededFor_17 (by decide) (by omega) (by omega) (fun h17 => ?_) (fun h17 => ?_)
      · skip
        refine jw_aload_n hC dX5_neededFor_57 0 rfl rfl ?_
        refine jw_getr hC fL_X5_7 ewR_m1 dX5_neededFor_58 ?_
        refine jw_iconst hC dX5_neededFor_61 ?_
        refine jw_iload hC dX5_neededFor_62 5 rfl ?_
        refine jw_iast hC ewA_89 dX5_neededFor_64 (by omega) (by omega) (by decide) (by omega) (by omega) ?_
        refine jw_iload hC dX5_neededFor_65 6 rfl ?_
        refine jw_iret hC dX5_neededFor_67 ?_
        refine ⟨?_, fun o o1 o2 => ?_⟩
        · unfold f_need
          have hlb := f_least_b (f_emb_D (f_rel_D p3 a t) p1 (x + M 89 4) y 25) p2 p5 144
          have e9 : b = -1 := by omega
          subst e9
          rw [hbs]
          by_cases hz : f_rsn (f_rel (vQ (M 89)) a t) (x + M 89 4) y (M 89 2) = 0
          · rw [if_pos hz]
            by_cases h9 : 99 < f_least (f_emb (f_rel (vQ (M 89)) a t) (x + M 89 4) y (vD (M 89)) 25) (vC (M 89)) (M 89 1) 144
            · rw [if_pos h9, if_neg (fun z => by omega)]
            · rw [if_neg h9, if_pos ⟨hz, by omega⟩]
              congr 2
              omega
          · rw [if_neg hz, if_neg (fun z => hz z.1)]
        · by_cases o9 : o = 89
          · subst o9
            funext i
            by_cases hi : i = 0
            · subst hi; rw [mu_eq]
            · rw [mu_nk _ _ _ hi, q1]
              exact if_neg hi
          · rw [mu_ne _ _ _ o9]; exact q2 o o9 o1 o2
      · skip
        refine jw_aload_n hC dX5_neededFor_20 0 rfl rfl ?_
        refine jw_getr hC fL_X5_7 ewR_m1 dX5_neededFor_21 ?_
        refine jw_iconst hC dX5_neededFor_24 ?_
        refine jw_iload hC dX5_neededFor_25 7 rfl ?_
        refine jw_iast hC ewA_89 dX5_neededFor_27 (by omega) (by omega) (by decide) (by omega) (by omega) ?_
        have hw9 : mu M1 89 0 b 89 = sb (M 89) b := by
          funext i
          by_cases hi : i = 0
          · subst hi; rw [mu_eq]; rfl
          · rw [mu_nk _ _ _ hi, q1]
            show sb (M 89) b0 i = sb (M 89) b i
            unfold sb
            rw [if_neg hi, if_neg hi]
        have hv9 := sv_hi (f := M 89) (g := sb (M 89) b) (fun i hi => if_neg (by omega))
        have hI9 : svI (sb (M 89) b) := sv_hiI (fun i hi => if_neg (by omega)) h0 ⟨by show 0 ≤ b; omega, by show b ≤ 99; omega⟩ p5 p6 p7 p8 p9
        refine jw_aload_n hC dX5_neededFor_28 0 rfl rfl ?_
        refine jw_iload_n hC dX5_neededFor_29 1 rfl rfl ?_
        refine jw_iload_n hC dX5_neededFor_30 2 rfl rfl ?_
        refine jw_iload_n hC dX5_neededFor_31 3 rfl rfl ?_
        refine jw_iload hC dX5_neededFor_32 4 rfl ?_
        refine jw_callV hC (c_X5_would l E (mu M1 89 0 b) (by rw [hw9]; exact hI9) _ ha _ _ (by omega) (by omega) (by omega) (by omega) _ ht) sV_X5_171 ewF_m0.o dX5_neededFor_34 rfl rfl ⟨Nat.le_of_ble_eq_true rfl, Nat.le_of_ble_eq_true rfl⟩ ⟨Nat.zero_le _, Nat.zero_le _⟩ (Nat.le_of_ble_eq_true rfl) (fun v34 M34 g34 => ?_)
        obtain ⟨rfl, g2⟩ := g34
        rw [hw9, show vQ (sb (M 89) b) = vQ (M 89) from hv9.2.2.2.2]
        have hsa := sb_ans (f := M 89) (r := f_rel (vQ (M 89)) a t) (x := x) (y := y) h0 hrD (by omega) (by omega)
        have hab := m_ans_b hI9 (f_rel (vQ (M 89)) a t) x y
        have q3 : M34 89 = sb (M 89) b := by rw [g2 89 (by decide) (by decide), hw9]
        have q4 : ∀ o, o ≠ 89 → o ≠ 90 → o ≠ 95 → M34 o = M o := fun o o1 o2 o3 => by rw [g2 o o2 o3, mu_ne _ _ _ o1]; exact q2 o o1 o2 o3
        refine jw_bipush hC dX5_neededFor_37 (by decide) ?_
        refine jw_icmp_ne (tgt := 47) hC dX5_neededFor_39 (by decide) (by omega) (by omega) (by omega) (by omega) (fun h39 => ?_) (fun h39 => ?_)
        · skip
          refine jw_iload hC dX5_neededFor_47 6 rfl ?_
          refine jw_istore (L' := [(6, _), (0, _), (1, _), (2, _), (3, _), (4, _), (5, _), (7, _)]) hC dX5_neededFor_49 (by decide) rfl ?_
          refine jw_iinc (L' := [(7, _), (6, _), (0, _), (1, _), (2, _), (3, _), (4, _), (5, _)]) hC dX5_neededFor_51 7 rfl (by decide) rfl ?_
          refine jw_goto (tgt := 15) hC dX5_neededFor_54 (by decide) ?_
          refine jw_loc (L' := [(0, _), (1, _), (2, _), (3, _), (4, _), (5, _), (6, _), (7, _)]) [2, 3, 4, 5, 6, 7, 1, 0] rfl ?_
          refine ih (b + -1) _ b M34 (by omega) (by omega) (by omega) ?_ q3 q4
          rw [show b + -1 + 1 = b by omega]
          first
          | (have h8 := hsa.mp (by omega)
             rw [if_pos ⟨h8.1, by omega⟩]
             omega)
          | (have h8 : ¬ (f_rsn (f_rel (vQ (M 89)) a t) (x + M 89 4) y (M 89 2) = 0 ∧ f_least (f_emb (f_rel (vQ (M 89)) a t) (x + M 89 4) y (vD (M 89)) 25) (vC (M 89)) (M 89 1) 144 ≤ b) := fun z => by have := hsa.mpr z; omega
             rw [hbs]
             by_cases hz : f_rsn (f_rel (vQ (M 89)) a t) (x + M 89 4) y (M 89 2) = 0
             · have h7 : ¬ f_least (f_emb (f_rel (vQ (M 89)) a t) (x + M 89 4) y (vD (M 89)) 25) (vC (M 89)) (M 89 1) 144 ≤ b := fun z => h8 ⟨hz, z⟩
               rw [show max (f_least (f_emb (f_rel (vQ (M 89)) a t) (x + M 89 4) y (vD (M 89)) 25) (vC (M 89)) (M 89 1) 144) b = max (f_least (f_emb (f_rel (vQ (M 89)) a t) (x + M 89 4) y (vD (M 89)) 25) (vC (M 89)) (M 89 1) 144) (b + 1) by omega]
             · rw [if_neg (fun z => hz z.1), if_neg (fun z => hz z.1)])
        · skip
          refine jw_iload hC dX5_neededFor_42 7 rfl ?_
          refine jw_goto (tgt := 49) hC dX5_neededFor_44 (by decide) ?_
          refine jw_istore (L' := [(6, _), (0, _), (1, _), (2, _), (3, _), (4, _), (5, _), (7, _)]) hC dX5_neededFor_49 (by decide) rfl ?_
          refine jw_iinc (L' := [(7, _), (6, _), (0, _), (1, _), (2, _), (3, _), (4, _), (5, _)]) hC dX5_neededFor_51 7 rfl (by decide) rfl ?_
          refine jw_goto (tgt := 15) hC dX5_neededFor_54 (by decide) ?_
          refine jw_loc (L' := [(0, _), (1, _), (2, _), (3, _), (4, _), (5, _), (6, _), (7, _)]) [2, 3, 4, 5, 6, 7, 1, 0] rfl ?_
          refine ih (b + -1) _ b M34 (by omega) (by omega) (by omega) ?_ q3 q4
          rw [show b + -1 + 1 = b by omega]
          first
          | (have h8 := hsa.mp (by omega)
             rw [if_pos ⟨h8.1, by omega⟩]
             omega)
          | (have h8 : ¬ (f_rsn (f_rel (vQ (M 89)) a t) (x + M 89 4) y (M 89 2) = 0 ∧ f_least (f_emb (f_rel (vQ (M 89)) a t) (x + M 89 4) y (vD (M 89)) 25) (vC (M 89)) (M 89 1) 144 ≤ b) := fun z => by have := hsa.mpr z; omega
             rw [hbs]
             by_cases hz : f_rsn (f_rel (vQ (M 89)) a t) (x + M 89 4) y (M 89 2) = 0
             · have h7 : ¬ f_least (f_emb (f_rel (vQ (M 89)) a t) (x + M 89 4) y (vD (M 89)) 25) (vC (M 89)) (M 89 1) 144 ≤ b := fun z => h8 ⟨hz, z⟩
               rw [show max (f_least (f_emb (f_rel (vQ (M 89)) a t) (x + M 89 4) y (vD (M 89)) 25) (vC (M 89)) (M 89 1) 144) b = max (f_least (f_emb (f_rel (vQ (M 89)) a t) (x + M 89 4) y (vD (M 89)) 25) (vC (M 89)) (M 89 1) 144) (b + 1) by omega]
             · rw [if_neg (fun z => hz z.1), if_neg (fun z => hz z.1)])
  refine jw_aload_n hC dX5_neededFor_0 0 rfl rfl ?_
  refine jw_getr hC fL_X5_7 ewR_m1 dX5_neededFor_1 ?_
  refine jw_iconst hC dX5_neededFor_4 ?_
  refine jw_iald hC ewA_89 dX5_neededFor_5 (by omega) (by omega) (by decide) (fun b5 c5 => ?_)
  refine jw_istore (L' := [(5, _), (0, _), (1, _), (2, _), (3, _), (4, _)]) hC dX5_neededFor_6 (by decide) rfl ?_
  refine jw_iconst hC dX5_neededFor_8 ?_
  refine jw_istore (L' := [(6, _), (5, _), (0, _), (1, _), (2, _), (3, _), (4, _)]) hC dX5_neededFor_9 (by decide) rfl ?_
  refine jw_bipush hC dX5_neededFor_11 (by decide) ?_
  refine jw_istore (L' := [(7, _), (6, _), (5, _), (0, _), (1, _), (2, _), (3, _), (4, _)]) hC dX5_neededFor_13 (by decide) rfl ?_
  refine jw_loc (L' := [(0, _), (1, _), (2, _), (3, _), (4, _), (5, _), (6, _), (7, _)]) [3, 4, 5, 6, 7, 2, 1, 0] rfl ?_
  exact K15 101 99 (-1) (M 89 0) M (by omega) (by omega) (by omega) (by rw [if_neg (fun z => by omega)]) (by funext i; unfold sb; split <;> simp_all) (fun _ _ _ _ => rfl)
