/-! THE CRACK FINDER -/
def f_note (M : ewM) (c : Int → Int) (p : Int) : ewM := if c p = 0 ∧ M 84 3 < 144 then mu (mu M 87 (M 84 3) p) 84 3 (M 84 3 + 1) else M
theorem f_note_87 {M : ewM} {c : Int → Int} {p : Int} (h : c p = 0) (h2 : M 84 3 < 144) : f_note M c p 87 = (fun b => if b = M 84 3 then p else M 87 b) ∧ f_note M c p 84 3 = M 84 3 + 1 := by
  unfold f_note
  rw [if_pos ⟨h, h2⟩]
  exact ⟨by rw [mu_ne _ _ _ (by decide), mu_at], mu_eq _ _ _ _⟩
theorem f_note_o (M : ewM) (c : Int → Int) (p : Int) {o : Nat} (h1 : o ≠ 84) (h2 : o ≠ 87) : f_note M c p o = M o := by
  unfold f_note
  split
  · rw [mu_ne _ _ _ h1, mu_ne _ _ _ h2]
  · rfl

set_option maxRecDepth 100000 in
set_option maxHeartbeats 4000000 in
theorem c_X0_noteIfWhole (l : Launch) (E : ewE) (M : ewM) (j : Nat) (hj : j < 10) (p : Int) (hp : 0 ≤ p ∧ p < 144) (hm : 0 ≤ M 84 3) : Ct l E yX0_noteIfWhole (.code yX0_noteIfWhole cX0_noteIfWhole 3 none) 1 [vR E 84, vR E (5 * j), vI p] M (fun v M1 => v = none ∧ M1 = f_note M (M (5 * j + 3)) p) := by
  refine ct_of (L0 := [(0, vR E 84), (1, vR E (5 * j)), (2, vI p)]) (by decide +kernel) rfl (Nat.le_of_ble_eq_true rfl) ?_
  intro zp ze zs zm za zb zt zc zA hC
  refine jw_aload_n hC dX0_noteIfWhole_0 1 rfl rfl ?_
  refine jw_getr hC fL_X0_58 (ewR_s2 (j := j) (by omega)) dX0_noteIfWhole_1 ?_
  refine jw_iload_n hC dX0_noteIfWhole_4 2 rfl rfl ?_
  refine jw_iald hC (ewA_sheet (j := j) (r := 3) (by omega) (by decide) (by decide)) dX0_noteIfWhole_5 (by omega) (by omega) (by decide) (fun b5 c5 => ?_)
  refine jw_if_ne (tgt := 39) hC dX0_noteIfWhole_6 (by decide) (by omega) (by omega) (fun h6 => ?_) (fun h6 => ?_)
  · skip
    refine jw_vret hC dX0_noteIfWhole_39 ?_
    refine ⟨rfl, ?_⟩
    unfold f_note
    first | rw [if_pos ⟨by omega, by omega⟩] | rw [if_neg (by omega)]
  · skip
    refine jw_aload_n hC dX0_noteIfWhole_9 0 rfl rfl ?_
    refine jw_geti hC fL_X0_34.r ewF_k3 (kI := 3) rfl dX0_noteIfWhole_10 (by omega) (fun b10 c10 => ?_)
    refine jw_sipush hC dX0_noteIfWhole_13 (by decide) ?_
    refine jw_icmp_ge (tgt := 39) hC dX0_noteIfWhole_16 (by decide) (by omega) (by omega) (by omega) (by omega) (fun h16 => ?_) (fun h16 => ?_)
    · skip
      refine jw_vret hC dX0_noteIfWhole_39 ?_
      refine ⟨rfl, ?_⟩
      unfold f_note
      first | rw [if_pos ⟨by omega, by omega⟩] | rw [if_neg (by omega)]
    · skip
      refine jw_aload_n hC dX0_noteIfWhole_19 0 rfl rfl ?_
      refine jw_getr hC fL_X0_18 ewR_k2 dX0_noteIfWhole_20 ?_
      refine jw_aload_n hC dX0_noteIfWhole_23 0 rfl rfl ?_
      refine jw_geti hC fL_X0_34.r ewF_k3 (kI := 3) rfl dX0_noteIfWhole_24 (by omega) (fun b24 c24 => ?_)
      refine jw_iload_n hC dX0_noteIfWhole_27 2 rfl rfl ?_
      refine jw_iast hC ewA_87 dX0_noteIfWhole_28 (by omega) (by omega) (by decide) (by omega) (by omega) ?_
      refine jw_aload_n hC dX0_noteIfWhole_29 0 rfl rfl ?_
      refine jw_dupr hC dX0_noteIfWhole_30 ?_
      refine jw_geti hC fL_X0_34.r ewF_k3 (kI := 3) rfl dX0_noteIfWhole_31 (by omega) (fun b31 c31 => ?_)
      rw [mu_ne _ _ _ (by decide)] at b31 c31 ⊢
      refine jw_iconst hC dX0_noteIfWhole_34 ?_
      refine jw_iadd hC dX0_noteIfWhole_35 ?_
      refine jw_puti hC fL_X0_34 ewF_k3 (kI := 3) rfl dX0_noteIfWhole_36 (by omega) (by omega) ?_
      refine jw_vret hC dX0_noteIfWhole_39 ?_
      refine ⟨rfl, ?_⟩
      unfold f_note
      first | rw [if_pos ⟨by omega, by omega⟩] | rw [if_neg (by omega)]
set_option maxRecDepth 100000 in
set_option maxHeartbeats 4000000 in
theorem c_X0_weakenBeside (l : Launch) (E : ewE) (M : ewM) (p : Int) (hp : 0 ≤ p ∧ p < 144) : Ct l E yX0_weakenBeside (.code yX0_weakenBeside cX0_weakenBeside 3 none) 1 [vR E 84, vI p] M (fun v M1 => v = none ∧ M1 86 = f_weak (M 86) p ∧ ∀ o, o ≠ 86 → M1 o = M o) := by
  refine ct_of (L0 := [(0, vR E 84), (1, vI p)]) (by decide +kernel) rfl (Nat.le_of_ble_eq_true rfl) ?_
  intro zp ze zs zm za zb zt zc zA hC
  have K78 : ∀ M1 : ewM, M1 86 = f_w4 (f_w3 (f_w2 (f_w1 (M 86) p) p) p) p → (∀ o, o ≠ 86 → M1 o = M o) → jJ zp l ze (ct_rm 1) zs zm za zb zt zc E zA 3 0 0 (MQ zb (ct_Q E zA (fun v M1 => v = none ∧ M1 86 = f_weak (M 86) p ∧ ∀ o, o ≠ 86 → M1 o = M o)) za zs 0 0 zA) 78 [(0, vR E 84), (1, vI p), (2, vI (p % 12))] [] M1 := by
    intro M1 g1 g2
    refine jw_vret hC dX0_weakenBeside_78 ?_
    exact ⟨rfl, g1, g2⟩
  have K58 : ∀ M1 : ewM, M1 86 = f_w3 (f_w2 (f_w1 (M 86) p) p) p → (∀ o, o ≠ 86 → M1 o = M o) → jJ zp l ze (ct_rm 1) zs zm za zb zt zc E zA 3 0 0 (MQ zb (ct_Q E zA (fun v M1 => v = none ∧ M1 86 = f_weak (M 86) p ∧ ∀ o, o ≠ 86 → M1 o = M o)) za zs 0 0 zA) 58 [(0, vR E 84), (1, vI p), (2, vI (p % 12))] [] M1 := by
    intro M1 g1 g2
    refine jw_iload_n hC dX0_weakenBeside_58 1 rfl rfl ?_
    refine jw_sipush hC dX0_weakenBeside_59 (by decide) ?_
    refine jw_icmp_ge (tgt := 78) hC dX0_weakenBeside_62 (by decide) (by omega) (by omega) (by omega) (by omega) (fun h62 => ?_) (fun h62 => ?_)
    · skip
      refine K78 _ ?_ ?_
      · unfold f_w4
        first
        | (rw [if_neg (by omega)]; exact g1)
        | (rw [if_pos (by omega), mu_at]; rw [g1])
      · intro o o1
        first
        | exact g2 o o1
        | rfl
        | (rw [mu_ne _ _ _ o1]; exact g2 o o1)
        | rw [mu_ne _ _ _ o1]
    · skip
      refine jw_aload_n hC dX0_weakenBeside_65 0 rfl rfl ?_
      refine jw_getr hC fL_X0_15 ewR_k1 dX0_weakenBeside_66 ?_
      refine jw_iload_n hC dX0_weakenBeside_69 1 rfl rfl ?_
      refine jw_bipush hC dX0_weakenBeside_70 (by decide) ?_
      refine jw_iadd hC dX0_weakenBeside_72 ?_
      refine jw_dup2 hC dX0_weakenBeside_73 ?_
      refine jw_iald hC ewA_86 dX0_weakenBeside_74 (by omega) (by omega) (by decide) (fun b74 c74 => ?_)
      refine jw_iconst hC dX0_weakenBeside_75 ?_
      refine jw_iadd hC dX0_weakenBeside_76 ?_
      refine jw_iastw hC ewA_86 dX0_weakenBeside_77 (by omega) (by omega) (by decide)  ?_
      refine K78 _ ?_ ?_
      · unfold f_w4
        first
        | (rw [if_neg (by omega)]; exact g1)
        | (rw [if_pos (by omega), mu_at]; rw [g1])
      · intro o o1
        first
        | exact g2 o o1
        | rfl
        | (rw [mu_ne _ _ _ o1]; exact g2 o o1)
        | rw [mu_ne _ _ _ o1]
  have K39 : ∀ M1 : ewM, M1 86 = f_w2 (f_w1 (M 86) p) p → (∀ o, o ≠ 86 → M1 o = M o) → jJ zp l ze (ct_rm 1) zs zm za zb zt zc E zA 3 0 0 (MQ zb (ct_Q E zA (fun v M1 => v = none ∧ M1 86 = f_weak (M 86) p ∧ ∀ o, o ≠ 86 → M1 o = M o)) za zs 0 0 zA) 39 [(0, vR E 84), (1, vI p), (2, vI (p % 12))] [] M1 := by
    intro M1 g1 g2
    refine jw_iload_n hC dX0_weakenBeside_39 1 rfl rfl ?_
    refine jw_bipush hC dX0_weakenBeside_40 (by decide) ?_
    refine jw_icmp_lt (tgt := 58) hC dX0_weakenBeside_42 (by decide) (by omega) (by omega) (by omega) (by omega) (fun h42 => ?_) (fun h42 => ?_)
    · skip
      refine K58 _ ?_ ?_
      · unfold f_w3
        first
        | (rw [if_neg (by omega)]; exact g1)
        | (rw [if_pos (by omega), mu_at]; rw [g1])
      · intro o o1
        first
        | exact g2 o o1
        | rfl
        | (rw [mu_ne _ _ _ o1]; exact g2 o o1)
        | rw [mu_ne _ _ _ o1]
    · skip
      refine jw_aload_n hC dX0_weakenBeside_45 0 rfl rfl ?_
      refine jw_getr hC fL_X0_15 ewR_k1 dX0_weakenBeside_46 ?_
      refine jw_iload_n hC dX0_weakenBeside_49 1 rfl rfl ?_
      refine jw_bipush hC dX0_weakenBeside_50 (by decide) ?_
      refine jw_isub hC dX0_weakenBeside_52 ?_
      refine jw_dup2 hC dX0_weakenBeside_53 ?_
      refine jw_iald hC ewA_86 dX0_weakenBeside_54 (by omega) (by omega) (by decide) (fun b54 c54 => ?_)
      refine jw_iconst hC dX0_weakenBeside_55 ?_
      refine jw_iadd hC dX0_weakenBeside_56 ?_
      refine jw_iastw hC ewA_86 dX0_weakenBeside_57 (by omega) (by omega) (by decide)  ?_
      refine K58 _ ?_ ?_
      · unfold f_w3
        first
        | (rw [if_neg (by omega)]; exact g1)
        | (rw [if_pos (by omega), mu_at]; rw [g1])
      · intro o o1
        first
        | exact g2 o o1
        | rfl
        | (rw [mu_ne _ _ _ o1]; exact g2 o o1)
        | rw [mu_ne _ _ _ o1]
  have K21 : ∀ M1 : ewM, M1 86 = f_w1 (M 86) p → (∀ o, o ≠ 86 → M1 o = M o) → jJ zp l ze (ct_rm 1) zs zm za zb zt zc E zA 3 0 0 (MQ zb (ct_Q E zA (fun v M1 => v = none ∧ M1 86 = f_weak (M 86) p ∧ ∀ o, o ≠ 86 → M1 o = M o)) za zs 0 0 zA) 21 [(0, vR E 84), (1, vI p), (2, vI (p % 12))] [] M1 := by
    intro M1 g1 g2
    refine jw_iload_n hC dX0_weakenBeside_21 2 rfl rfl ?_
    refine jw_bipush hC dX0_weakenBeside_22 (by decide) ?_
    refine jw_icmp_ge (tgt := 39) hC dX0_weakenBeside_24 (by decide) (by omega) (by omega) (by omega) (by omega) (fun h24 => ?_) (fun h24 => ?_)
    · skip
      refine K39 _ ?_ ?_
      · unfold f_w2
        first
        | (rw [if_neg (by omega)]; exact g1)
        | (rw [if_pos (by omega), mu_at]; rw [g1])
      · intro o o1
        first
        | exact g2 o o1
        | rfl
        | (rw [mu_ne _ _ _ o1]; exact g2 o o1)
        | rw [mu_ne _ _ _ o1]
    · skip
      refine jw_aload_n hC dX0_weakenBeside_27 0 rfl rfl ?_
      refine jw_getr hC fL_X0_15 ewR_k1 dX0_weakenBeside_28 ?_
      refine jw_iload_n hC dX0_weakenBeside_31 1 rfl rfl ?_
      refine jw_iconst hC dX0_weakenBeside_32 ?_
      refine jw_iadd hC dX0_weakenBeside_33 ?_
      refine jw_dup2 hC dX0_weakenBeside_34 ?_
      refine jw_iald hC ewA_86 dX0_weakenBeside_35 (by omega) (by omega) (by decide) (fun b35 c35 => ?_)
      refine jw_iconst hC dX0_weakenBeside_36 ?_
      refine jw_iadd hC dX0_weakenBeside_37 ?_
      refine jw_iastw hC ewA_86 dX0_weakenBeside_38 (by omega) (by omega) (by decide)  ?_
      refine K39 _ ?_ ?_
      · unfold f_w2
        first
        | (rw [if_neg (by omega)]; exact g1)
        | (rw [if_pos (by omega), mu_at]; rw [g1])
      · intro o o1
        first
        | exact g2 o o1
        | rfl
        | (rw [mu_ne _ _ _ o1]; exact g2 o o1)
        | rw [mu_ne _ _ _ o1]
  refine jw_iload_n hC dX0_weakenBeside_0 1 rfl rfl ?_
  refine jw_bipush hC dX0_weakenBeside_1 (by decide) ?_
  refine jw_irem hC dX0_weakenBeside_3 (by omega) (by omega) (by omega) (by omega) ?_
  refine jw_istore_n (L' := [(2, _), (0, _), (1, _)]) hC dX0_weakenBeside_4 rfl (by decide) rfl ?_
  refine jw_iload_n hC dX0_weakenBeside_5 0 rfl rfl ?_
  refine jw_if_le (tgt := 21) hC dX0_weakenBeside_6 (by decide) (by omega) (by omega) (fun h6 => ?_) (fun h6 => ?_)
  · skip
    refine jw_loc (L' := [(0, _), (1, _), (2, _)]) [1, 2, 0] rfl ?_
    refine K21 _ ?_ ?_
    · unfold f_w1
      first
      | (rw [if_neg (by omega)])
      | (rw [if_pos (by omega), mu_at])
    · intro o o1
      first
      | exact g2 o o1
      | rfl
      | (rw [mu_ne _ _ _ o1]; exact g2 o o1)
      | rw [mu_ne _ _ _ o1]
  · skip
    refine jw_aload_n hC dX0_weakenBeside_9 1 rfl rfl ?_
    refine jw_getr hC fL_X0_15 ewR_k1 dX0_weakenBeside_10 ?_
    refine jw_iload_n hC dX0_weakenBeside_13 2 rfl rfl ?_
    refine jw_iconst hC dX0_weakenBeside_14 ?_
    refine jw_isub hC dX0_weakenBeside_15 ?_
    refine jw_dup2 hC dX0_weakenBeside_16 ?_
    refine jw_iald hC ewA_86 dX0_weakenBeside_17 (by omega) (by omega) (by decide) (fun b17 c17 => ?_)
    refine jw_iconst hC dX0_weakenBeside_18 ?_
    refine jw_iadd hC dX0_weakenBeside_19 ?_
    refine jw_iastw hC ewA_86 dX0_weakenBeside_20 (by omega) (by omega) (by decide)  ?_
    refine jw_loc (L' := [(0, _), (1, _), (2, _)]) [1, 2, 0] rfl ?_
    refine K21 _ ?_ ?_
    · unfold f_w1
      first
      | (rw [if_neg (by omega)])
      | (rw [if_pos (by omega), mu_at])
    · intro o o1
      first
      | exact g2 o o1
      | rfl
      | (rw [mu_ne _ _ _ o1]; exact g2 o o1)
      | rw [mu_ne _ _ _ o1]
set_option maxRecDepth 100000 in
set_option maxHeartbeats 4000000 in
theorem c_X0_crackFound (l : Launch) (E : ewE) (M : ewM) (j : Nat) (hj : j < 10) (hm : 0 ≤ M 84 3 ∧ M 84 3 ≤ 144) (hb : ∀ i : Int, 0 ≤ i → i < M 84 3 → 0 ≤ M 87 i ∧ M 87 i < 144) : Ct l E yX0_crackFound (.code yX0_crackFound cX0_crackFound 3 (some .int)) 2 [vR E 84, vR E (5 * j)] M (fun v M1 => v = some (vI (M 84 3)) ∧ M1 (5 * j + 3) = f_crk (M 87) (M (5 * j + 3)) (M 84 3).toNat ∧ M1 86 = f_bes (M 87) (M 86) (M 84 3).toNat ∧ ∀ o, o ≠ 5 * j + 3 → o ≠ 86 → M1 o = M o) := by
  refine ct_of (L0 := [(0, vR E 84), (1, vR E (5 * j))]) (by decide +kernel) rfl (Nat.le_of_ble_eq_true rfl) ?_
  intro zp ze zs zm za zb zt zc zA hC
  have K2 : ∀ (n : Nat) (k : Int) (M1 : ewM), 144 - k < n → 0 ≤ k → k ≤ M 84 3 → M1 (5 * j + 3) = f_crk (M 87) (M (5 * j + 3)) k.toNat → M1 86 = f_bes (M 87) (M 86) k.toNat → (∀ o, o ≠ 5 * j + 3 → o ≠ 86 → M1 o = M o) → jJ zp l ze (ct_rm 2) zs zm za zb zt zc E zA 3 0 0 (MQ zb (ct_Q E zA (fun v M1 => v = some (vI (M 84 3)) ∧ M1 (5 * j + 3) = f_crk (M 87) (M (5 * j + 3)) (M 84 3).toNat ∧ M1 86 = f_bes (M 87) (M 86) (M 84 3).toNat ∧ ∀ o, o ≠ 5 * j + 3 → o ≠ 86 → M1 o = M o)) za zs 0 0 zA) 2 [(0, vR E 84), (1, vR E (5 * j)), (2, vI k)] [] M1 := by
    intro n
    induction n with
    | zero => intros; omega
    | succ n ih =>
      intro k M1 i1 i2 i3 g1 g2 g3
      refine jw_iload_n hC dX0_crackFound_2 2 rfl rfl ?_
      refine jw_aload_n hC dX0_crackFound_3 0 rfl rfl ?_
      refine jw_geti hC fL_X0_34.r ewF_k3 (kI := 3) rfl dX0_crackFound_4 (by omega) (fun b4 c4 => ?_)
      rw [g3 84 (by omega) (by decide)] at b4 c4 ⊢
      refine jw_icmp_ge (tgt := 45) hC dX0_crackFound_7 (by decide) (by omega) (by omega) (by omega) (by omega) (fun h7 => ?_) (fun h7 => ?_)
      · skip
        refine jw_aload_n hC dX0_crackFound_45 0 rfl rfl ?_
        refine jw_geti hC fL_X0_34.r ewF_k3 (kI := 3) rfl dX0_crackFound_46 (by omega) (fun b46 c46 => ?_)
        refine jw_iret hC dX0_crackFound_49 ?_
        have e9 : k = M 84 3 := by omega
        rw [e9] at g1 g2
        exact ⟨by rw [g3 84 (by omega) (by decide)], g1, g2, g3⟩
      · skip
        refine jw_iload_n hC dX0_crackFound_10 2 rfl rfl ?_
        refine jw_sipush hC dX0_crackFound_11 (by decide) ?_
        refine jw_icmp_ge (tgt := 45) hC dX0_crackFound_14 (by decide) (by omega) (by omega) (by omega) (by omega) (fun h14 => ?_) (fun h14 => ?_)
        · skip
          refine jw_aload_n hC dX0_crackFound_45 0 rfl rfl ?_
          refine jw_geti hC fL_X0_34.r ewF_k3 (kI := 3) rfl dX0_crackFound_46 (by omega) (fun b46 c46 => ?_)
          refine jw_iret hC dX0_crackFound_49 ?_
          have e9 : k = M 84 3 := by omega
          rw [e9] at g1 g2
          exact ⟨by rw [g3 84 (by omega) (by decide)], g1, g2, g3⟩
        · skip
          refine jw_aload_n hC dX0_crackFound_17 1 rfl rfl ?_
          refine jw_getr hC fL_X0_58 (ewR_s2 (j := j) (by omega)) dX0_crackFound_18 ?_
          refine jw_aload_n hC dX0_crackFound_21 0 rfl rfl ?_
          refine jw_getr hC fL_X0_18 ewR_k2 dX0_crackFound_22 ?_
          refine jw_iload_n hC dX0_crackFound_25 2 rfl rfl ?_
          refine jw_iald hC ewA_87 dX0_crackFound_26 (by omega) (by omega) (by decide) (fun b26 c26 => ?_)
          rw [g3 87 (by omega) (by decide)]
          have hbk := hb k i2 (by omega)
          refine jw_iconst hC dX0_crackFound_27 ?_
          refine jw_iast hC (ewA_sheet (j := j) (r := 3) (by omega) (by decide) (by decide)) dX0_crackFound_28 (by omega) (by omega) (by decide) (by omega) (by omega) ?_
          refine jw_aload_n hC dX0_crackFound_29 0 rfl rfl ?_
          refine jw_aload_n hC dX0_crackFound_30 0 rfl rfl ?_
          refine jw_getr hC fL_X0_18 ewR_k2 dX0_crackFound_31 ?_
          refine jw_iload_n hC dX0_crackFound_34 2 rfl rfl ?_
          refine jw_iald hC ewA_87 dX0_crackFound_35 (by omega) (by omega) (by decide) (fun b35 c35 => ?_)
          refine jw_callV hC (c_X0_weakenBeside l E _ _ (by rw [mu_ne _ _ _ (by omega), g3 87 (by omega) (by decide)]; exact hbk)) sV_X0_61 ewF_k3.o dX0_crackFound_36 rfl rfl ⟨Nat.le_of_ble_eq_true rfl, Nat.le_of_ble_eq_true rfl⟩ ⟨Nat.zero_le _, Nat.zero_le _⟩ (Nat.le_of_ble_eq_true rfl) (fun v36 M36 g36 => ?_)
          obtain ⟨rfl, q1, q2⟩ := g36
          refine jw_iinc (L' := [(2, _), (0, _), (1, _)]) hC dX0_crackFound_39 2 rfl (by decide) rfl ?_
          refine jw_goto (tgt := 2) hC dX0_crackFound_42 (by decide) ?_
          refine jw_loc (L' := [(0, _), (1, _), (2, _)]) [1, 2, 0] rfl ?_
          refine ih _ _ (by omega) (by omega) (by omega) ?_ ?_ ?_
          · rw [q2 _ (by omega), mu_at, g1, f_crk_s _ _ i2]
          · rw [q1, mu_ne _ _ _ (by omega), g2, f_bes_s _ _ i2, mu_ne _ _ _ (by omega), g3 87 (by omega) (by decide)]
          · intro o o1 o2
            rw [q2 _ o2, mu_ne _ _ _ o1]
            exact g3 o o1 o2
  refine jw_iconst hC dX0_crackFound_0 ?_
  refine jw_istore_n (L' := [(2, _), (0, _), (1, _)]) hC dX0_crackFound_1 rfl (by decide) rfl ?_
  refine jw_loc (L' := [(0, _), (1, _), (2, _)]) [1, 2, 0] rfl ?_
  exact K2 145 0 M (by omega) (by omega) (by omega) rfl rfl (fun _ _ _ => rfl)
set_option maxRecDepth 100000 in
set_option maxHeartbeats 4000000 in
theorem c_X0_findOverstrained (l : Launch) (E : ewE) (M : ewM) (j : Nat) (hj : j < 10) (b t : Int) (hb : 0 ≤ b ∧ b ≤ 99) (ht : 0 ≤ t ∧ t ≤ 20) (hs : ∀ q : Int, 0 ≤ q → q < 144 → 0 ≤ M 86 q ∧ M 86 q ≤ 4) : Ct l E yX0_findOverstrained (.code yX0_findOverstrained cX0_findOverstrained 5 none) 2 [vR E 84, vR E (5 * j), vI b, vI t] M (fun v M1 => v = none ∧ f_ls (fun q => decide (M (5 * j + 3) q = 0) && (decide (0 < M 85 q) && decide (b - t * M 86 q < M 85 q))) (M1 87) (M1 84 3) ∧ ∀ o, o ≠ 84 → o ≠ 87 → M1 o = M o) := by
  refine ct_of (L0 := [(0, vR E 84), (1, vR E (5 * j)), (2, vI b), (3, vI t)]) (by decide +kernel) rfl (Nat.le_of_ble_eq_true rfl) ?_
  intro zp ze zs zm za zb zt zc zA hC
  have K8 : ∀ (n : Nat) (k : Int) (M1 : ewM), 144 - k < n → 0 ≤ k → k ≤ 144 → f_ls (fun q => decide (q < k) && (fun q => decide (M (5 * j + 3) q = 0) && (decide (0 < M 85 q) && decide (b - t * M 86 q < M 85 q))) q) (M1 87) (M1 84 3) → (∀ o, o ≠ 84 → o ≠ 87 → M1 o = M o) → jJ zp l ze (ct_rm 2) zs zm za zb zt zc E zA 5 0 0 (MQ zb (ct_Q E zA (fun v M1 => v = none ∧ f_ls (fun q => decide (M (5 * j + 3) q = 0) && (decide (0 < M 85 q) && decide (b - t * M 86 q < M 85 q))) (M1 87) (M1 84 3) ∧ ∀ o, o ≠ 84 → o ≠ 87 → M1 o = M o)) za zs 0 0 zA) 8 [(0, vR E 84), (1, vR E (5 * j)), (2, vI b), (3, vI t), (4, vI k)] [] M1 := by
    intro n
    induction n with
    | zero => intros; omega
    | succ n ih =>
      intro k M1 i1 i2 i3 g1 g2
      refine jw_iload hC dX0_findOverstrained_8 4 rfl ?_
      refine jw_sipush hC dX0_findOverstrained_10 (by decide) ?_
      refine jw_icmp_ge (tgt := 60) hC dX0_findOverstrained_13 (by decide) (by omega) (by omega) (by omega) (by omega) (fun h13 => ?_) (fun h13 => ?_)
      · skip
        refine jw_vret hC dX0_findOverstrained_60 ?_
        refine ⟨rfl, f_ls_cg g1 (fun q q1 q2 => ?_), g2⟩
        have : decide (q < k) = true := by simp; omega
        simp [this]
      · skip
        refine jw_aload_n hC dX0_findOverstrained_16 0 rfl rfl ?_
        refine jw_getr hC fL_X0_9 ewR_k0 dX0_findOverstrained_17 ?_
        refine jw_iload hC dX0_findOverstrained_20 4 rfl ?_
        refine jw_iald hC ewA_85 dX0_findOverstrained_22 (by omega) (by omega) (by decide) (fun b22 c22 => ?_)
        rw [g2 85 (by decide) (by decide)] at b22 c22 ⊢
        refine jw_if_le (tgt := 54) hC dX0_findOverstrained_23 (by decide) (by omega) (by omega) (fun h23 => ?_) (fun h23 => ?_)
        · skip
          refine jw_iinc (L' := [(4, _), (0, _), (1, _), (2, _), (3, _)]) hC dX0_findOverstrained_54 4 rfl (by decide) rfl ?_
          refine jw_goto (tgt := 8) hC dX0_findOverstrained_57 (by decide) ?_
          refine jw_loc (L' := [(0, _), (1, _), (2, _), (3, _), (4, _)]) [1, 2, 3, 4, 0] rfl ?_
          have ext : ∀ q : Int, q ≠ k → decide (q < k + 1) = decide (q < k) := fun q hq => by by_cases h : q < k <;> simp [h] <;> omega
          have dk : decide (k < k) = false := by simp
          have dk1 : decide (k < k + 1) = true := by simp; omega
          first
          | (have e0 : ¬ 0 < M 85 k := by omega
             refine ih _ _ (by omega) (by omega) (by omega) (f_ls_cg g1 (fun q q1 q2 => ?_)) g2
             by_cases hq : q = k
             · subst hq
               simp [dk, dk1, e0]
             · simp only [ext q hq])
          | (have e0 : ¬ b - t * M 86 k < M 85 k := by omega
             refine ih _ _ (by omega) (by omega) (by omega) (f_ls_cg g1 (fun q q1 q2 => ?_)) g2
             by_cases hq : q = k
             · subst hq
               simp [dk, dk1, e0]
             · simp only [ext q hq])
          | (refine ih _ _ (by omega) (by omega) (by omega) ?_ (fun o o1 o2 => by rw [f_note_o _ _ _ o1 o2]; exact g2 o o1 o2)
             by_cases hz : M (5 * j + 3) k = 0
             · have hlt : M1 84 3 < 144 := by
                 by_cases h9 : M1 84 3 < 144
                 · exact h9
                 · exfalso
                   have hsum := (f_ls_s (P2 := fun q => decide (q < k + 1) && (decide (M (5 * j + 3) q = 0) && (decide (0 < M 85 q) && decide (b - t * M 86 q < M 85 q)))) g1 i2 (by omega) (by simp [dk]) (by simp [dk1, hz]; omega) (fun q _ _ hq => by simp only [ext q hq]))
                   have := f_ls_m hsum
                   omega
               have hn := f_note_87 (c := M (5 * j + 3)) hz hlt
               rw [hn.1, hn.2]
               exact f_ls_s g1 i2 (by omega) (by simp [dk]) (by simp [dk1, hz]; omega) (fun q _ _ hq => by simp only [ext q hq])
             · have e9 : f_note M1 (M (5 * j + 3)) k = M1 := by unfold f_note; rw [if_neg (fun h => hz h.1)]
               rw [e9]
               exact f_ls_cg g1 (fun q q1 q2 => by
                by_cases hq : q = k
                · subst hq
                  simp [dk, hz]
                · simp only [ext q hq]))
        · skip
          refine jw_aload_n hC dX0_findOverstrained_26 0 rfl rfl ?_
          refine jw_getr hC fL_X0_9 ewR_k0 dX0_findOverstrained_27 ?_
          refine jw_iload hC dX0_findOverstrained_30 4 rfl ?_
          refine jw_iald hC ewA_85 dX0_findOverstrained_32 (by omega) (by omega) (by decide) (fun b32 c32 => ?_)
          rw [g2 85 (by decide) (by decide)] at b32 c32 ⊢
          refine jw_iload_n hC dX0_findOverstrained_33 2 rfl rfl ?_
          refine jw_iload_n hC dX0_findOverstrained_34 3 rfl rfl ?_
          refine jw_aload_n hC dX0_findOverstrained_35 0 rfl rfl ?_
          refine jw_getr hC fL_X0_15 ewR_k1 dX0_findOverstrained_36 ?_
          refine jw_iload hC dX0_findOverstrained_39 4 rfl ?_
          refine jw_iald hC ewA_86 dX0_findOverstrained_41 (by omega) (by omega) (by decide) (fun b41 c41 => ?_)
          rw [g2 86 (by decide) (by decide)] at b41 c41 ⊢
          have hsk := hs k i2 (by omega)
          have htk := f_tk_b ht.1 ht.2 hsk.1 hsk.2
          refine jw_imul hC dX0_findOverstrained_42 ?_
          refine jw_isub hC dX0_findOverstrained_43 ?_
          refine jw_icmp_le (tgt := 54) hC dX0_findOverstrained_44 (by decide) (by omega) (by omega) (by omega) (by omega) (fun h44 => ?_) (fun h44 => ?_)
          · skip
            refine jw_iinc (L' := [(4, _), (0, _), (1, _), (2, _), (3, _)]) hC dX0_findOverstrained_54 4 rfl (by decide) rfl ?_
            refine jw_goto (tgt := 8) hC dX0_findOverstrained_57 (by decide) ?_
            refine jw_loc (L' := [(0, _), (1, _), (2, _), (3, _), (4, _)]) [1, 2, 3, 4, 0] rfl ?_
            have ext : ∀ q : Int, q ≠ k → decide (q < k + 1) = decide (q < k) := fun q hq => by by_cases h : q < k <;> simp [h] <;> omega
            have dk : decide (k < k) = false := by simp
            have dk1 : decide (k < k + 1) = true := by simp; omega
            first
            | (have e0 : ¬ 0 < M 85 k := by omega
               refine ih _ _ (by omega) (by omega) (by omega) (f_ls_cg g1 (fun q q1 q2 => ?_)) g2
               by_cases hq : q = k
               · subst hq
                 simp [dk, dk1, e0]
               · simp only [ext q hq])
            | (have e0 : ¬ b - t * M 86 k < M 85 k := by omega
               refine ih _ _ (by omega) (by omega) (by omega) (f_ls_cg g1 (fun q q1 q2 => ?_)) g2
               by_cases hq : q = k
               · subst hq
                 simp [dk, dk1, e0]
               · simp only [ext q hq])
            | (refine ih _ _ (by omega) (by omega) (by omega) ?_ (fun o o1 o2 => by rw [f_note_o _ _ _ o1 o2]; exact g2 o o1 o2)
               by_cases hz : M (5 * j + 3) k = 0
               · have hlt : M1 84 3 < 144 := by
                   by_cases h9 : M1 84 3 < 144
                   · exact h9
                   · exfalso
                     have hsum := (f_ls_s (P2 := fun q => decide (q < k + 1) && (decide (M (5 * j + 3) q = 0) && (decide (0 < M 85 q) && decide (b - t * M 86 q < M 85 q)))) g1 i2 (by omega) (by simp [dk]) (by simp [dk1, hz]; omega) (fun q _ _ hq => by simp only [ext q hq]))
                     have := f_ls_m hsum
                     omega
                 have hn := f_note_87 (c := M (5 * j + 3)) hz hlt
                 rw [hn.1, hn.2]
                 exact f_ls_s g1 i2 (by omega) (by simp [dk]) (by simp [dk1, hz]; omega) (fun q _ _ hq => by simp only [ext q hq])
               · have e9 : f_note M1 (M (5 * j + 3)) k = M1 := by unfold f_note; rw [if_neg (fun h => hz h.1)]
                 rw [e9]
                 exact f_ls_cg g1 (fun q q1 q2 => by
                  by_cases hq : q = k
                  · subst hq
                    simp [dk, hz]
                  · simp only [ext q hq]))
          · skip
            refine jw_aload_n hC dX0_findOverstrained_47 0 rfl rfl ?_
            refine jw_aload_n hC dX0_findOverstrained_48 1 rfl rfl ?_
            refine jw_iload hC dX0_findOverstrained_49 4 rfl ?_
            refine jw_callV hC (c_X0_noteIfWhole l E M1 j hj _ ⟨by omega, by omega⟩ (f_ls_m g1).1) sV_X0_54 ewF_k3.o dX0_findOverstrained_51 rfl rfl ⟨Nat.le_of_ble_eq_true rfl, Nat.le_of_ble_eq_true rfl⟩ ⟨Nat.zero_le _, Nat.zero_le _⟩ (Nat.le_of_ble_eq_true rfl) (fun v51 M51 g51 => ?_)
            obtain ⟨rfl, rfl⟩ := g51
            rw [g2 (5 * j + 3) (by omega) (by omega)]
            refine jw_iinc (L' := [(4, _), (0, _), (1, _), (2, _), (3, _)]) hC dX0_findOverstrained_54 4 rfl (by decide) rfl ?_
            refine jw_goto (tgt := 8) hC dX0_findOverstrained_57 (by decide) ?_
            refine jw_loc (L' := [(0, _), (1, _), (2, _), (3, _), (4, _)]) [1, 2, 3, 4, 0] rfl ?_
            have ext : ∀ q : Int, q ≠ k → decide (q < k + 1) = decide (q < k) := fun q hq => by by_cases h : q < k <;> simp [h] <;> omega
            have dk : decide (k < k) = false := by simp
            have dk1 : decide (k < k + 1) = true := by simp; omega
            first
            | (have e0 : ¬ 0 < M 85 k := by omega
               refine ih _ _ (by omega) (by omega) (by omega) (f_ls_cg g1 (fun q q1 q2 => ?_)) g2
               by_cases hq : q = k
               · subst hq
                 simp [dk, dk1, e0]
               · simp only [ext q hq])
            | (have e0 : ¬ b - t * M 86 k < M 85 k := by omega
               refine ih _ _ (by omega) (by omega) (by omega) (f_ls_cg g1 (fun q q1 q2 => ?_)) g2
               by_cases hq : q = k
               · subst hq
                 simp [dk, dk1, e0]
               · simp only [ext q hq])
            | (refine ih _ _ (by omega) (by omega) (by omega) ?_ (fun o o1 o2 => by rw [f_note_o _ _ _ o1 o2]; exact g2 o o1 o2)
               by_cases hz : M (5 * j + 3) k = 0
               · have hlt : M1 84 3 < 144 := by
                   by_cases h9 : M1 84 3 < 144
                   · exact h9
                   · exfalso
                     have hsum := (f_ls_s (P2 := fun q => decide (q < k + 1) && (decide (M (5 * j + 3) q = 0) && (decide (0 < M 85 q) && decide (b - t * M 86 q < M 85 q)))) g1 i2 (by omega) (by simp [dk]) (by simp [dk1, hz]; omega) (fun q _ _ hq => by simp only [ext q hq]))
                     have := f_ls_m hsum
                     omega
                 have hn := f_note_87 (c := M (5 * j + 3)) hz hlt
                 rw [hn.1, hn.2]
                 exact f_ls_s g1 i2 (by omega) (by simp [dk]) (by simp [dk1, hz]; omega) (fun q _ _ hq => by simp only [ext q hq])
               · have e9 : f_note M1 (M (5 * j + 3)) k = M1 := by unfold f_note; rw [if_neg (fun h => hz h.1)]
                 rw [e9]
                 exact f_ls_cg g1 (fun q q1 q2 => by
                  by_cases hq : q = k
                  · subst hq
                    simp [dk, hz]
                  · simp only [ext q hq]))
  refine jw_aload_n hC dX0_findOverstrained_0 0 rfl rfl ?_
  refine jw_iconst hC dX0_findOverstrained_1 ?_
  refine jw_puti hC fL_X0_34 ewF_k3 (kI := 3) rfl dX0_findOverstrained_2 (by omega) (by omega) ?_
  refine jw_iconst hC dX0_findOverstrained_5 ?_
  refine jw_istore (L' := [(4, _), (0, _), (1, _), (2, _), (3, _)]) hC dX0_findOverstrained_6 (by decide) rfl ?_
  refine jw_loc (L' := [(0, _), (1, _), (2, _), (3, _), (4, _)]) [1, 2, 3, 4, 0] rfl ?_
  refine K8 145 0 _ (by omega) (by omega) (by omega) ?_ (fun o o1 _ => mu_ne _ _ _ o1)
  rw [mu_eq]
  exact f_ls_0 (fun q q1 _ => by have : decide (q < 0) = false := by simp; omega
                                 simp [this])
set_option maxRecDepth 100000 in
set_option maxHeartbeats 4000000 in
theorem c_X0_crackAll (l : Launch) (E : ewE) (M : ewM) (j : Nat) (hj : j < 10) (b t : Int) (hb : 0 ≤ b ∧ b ≤ 99) (ht : 0 ≤ t ∧ t ≤ 20) (hD : pD (M (5 * j + 1))) (hc : pC (M (5 * j + 3))) : Ct l E yX0_crackAll (.code yX0_crackAll cX0_crackAll 6 (some .int)) 3 [vR E 84, vR E (5 * j), vI b, vI t] M (fun v M1 => v = some (vI (f_sum (f_it (M (5 * j + 1)) b t (M (5 * j + 3)) 144) 144 - f_sum (M (5 * j + 3)) 144)) ∧ M1 (5 * j + 3) = f_it (M (5 * j + 1)) b t (M (5 * j + 3)) 144 ∧ (∀ q : Int, 0 ≤ q → q < 144 → 0 ≤ M1 86 q ∧ M1 86 q ≤ 4) ∧ ∀ o, o ≠ 5 * j + 3 → (o < 84 ∨ 87 < o) → M1 o = M o) := by
  refine ct_of (L0 := [(0, vR E 84), (1, vR E (5 * j)), (2, vI b), (3, vI t)]) (by decide +kernel) rfl (Nat.le_of_ble_eq_true rfl) ?_
  intro zp ze zs zm za zb zt zc zA hC
  have K90 : ∀ (k x : Int) (M1 : ewM) (n : Nat), M1 (5 * j + 3) = f_it (M (5 * j + 1)) b t (M (5 * j + 3)) n → f_it (M (5 * j + 1)) b t (M (5 * j + 3)) n = f_it (M (5 * j + 1)) b t (M (5 * j + 3)) 144 → (∀ q : Int, 0 ≤ q → q < 144 → M1 86 q = f_cb (M1 (5 * j + 3)) q) → x = f_sum (M1 (5 * j + 3)) 144 - f_sum (M (5 * j + 3)) 144 → (∀ o, o ≠ 5 * j + 3 → (o < 84 ∨ 87 < o) → M1 o = M o) → jJ zp l ze (ct_rm 3) zs zm za zb zt zc E zA 6 0 0 (MQ zb (ct_Q E zA (fun v M1 => v = some (vI (f_sum (f_it (M (5 * j + 1)) b t (M (5 * j + 3)) 144) 144 - f_sum (M (5 * j + 3)) 144)) ∧ M1 (5 * j + 3) = f_it (M (5 * j + 1)) b t (M (5 * j + 3)) 144 ∧ (∀ q : Int, 0 ≤ q → q < 144 → 0 ≤ M1 86 q ∧ M1 86 q ≤ 4) ∧ ∀ o, o ≠ 5 * j + 3 → (o < 84 ∨ 87 < o) → M1 o = M o)) za zs 0 0 zA) 90 [(0, vR E 84), (1, vR E (5 * j)), (2, vI b), (3, vI t), (4, vI x), (5, vI k)] [] M1 := by
    intro k x M1 n g1 e0 g3 g4 e2
    have e1 : M1 (5 * j + 3) = f_it (M (5 * j + 1)) b t (M (5 * j + 3)) 144 := g1.trans e0
    refine jw_iload hC dX0_crackAll_90 4 rfl ?_
    refine jw_iret hC dX0_crackAll_92 ?_
    refine ⟨?_, e1, fun q q1 q2 => ?_, e2⟩
    · rw [g4, e1]
    · rw [g3 q q1 q2]
      exact f_cb_b (by rw [g1]; exact f_it_C hc _) q
  have K49 : ∀ (n : Nat) (k x : Int) (M1 : ewM), 145 - k < n → 0 ≤ k → k ≤ 145 → M1 (5 * j + 3) = f_it (M (5 * j + 1)) b t (M (5 * j + 3)) k.toNat → (∀ q : Int, 0 ≤ q → q < 144 → M1 85 q = f_str (M (5 * j + 1)) q) → (∀ q : Int, 0 ≤ q → q < 144 → M1 86 q = f_cb (M1 (5 * j + 3)) q) → x = f_sum (M1 (5 * j + 3)) 144 - f_sum (M (5 * j + 3)) 144 → k ≤ f_sum (M1 (5 * j + 3)) 144 → (∀ o, o ≠ 5 * j + 3 → (o < 84 ∨ 87 < o) → M1 o = M o) → jJ zp l ze (ct_rm 3) zs zm za zb zt zc E zA 6 0 0 (MQ zb (ct_Q E zA (fun v M1 => v = some (vI (f_sum (f_it (M (5 * j + 1)) b t (M (5 * j + 3)) 144) 144 - f_sum (M (5 * j + 3)) 144)) ∧ M1 (5 * j + 3) = f_it (M (5 * j + 1)) b t (M (5 * j + 3)) 144 ∧ (∀ q : Int, 0 ≤ q → q < 144 → 0 ≤ M1 86 q ∧ M1 86 q ≤ 4) ∧ ∀ o, o ≠ 5 * j + 3 → (o < 84 ∨ 87 < o) → M1 o = M o)) za zs 0 0 zA) 49 [(0, vR E 84), (1, vR E (5 * j)), (2, vI b), (3, vI t), (4, vI x), (5, vI k)] [] M1 := by
    intro n
    induction n with
    | zero => intros; omega
    | succ n ih =>
      intro k x M1 i1 i2 i3 g1 g2 g3 g4 g5 g6
      have hsC := f_sum_C (f_it_C hc (d := M (5 * j + 1)) (b := b) (t := t) k.toNat)
      rw [← g1] at hsC
      refine jw_iload hC dX0_crackAll_49 5 rfl ?_
      refine jw_sipush hC dX0_crackAll_51 (by decide) ?_
      refine jw_icmp_gt (tgt := 90) hC dX0_crackAll_54 (by decide) (by omega) (by omega) (by omega) (by omega) (fun h54 => ?_) (fun h54 => ?_)
      · skip
        first
        | (exfalso; omega)
        | (have hz : f_sum (f_ind (f_ovr (M (5 * j + 1)) b t (f_it (M (5 * j + 1)) b t (M (5 * j + 3)) k.toNat))) 144 = 0 := by rw [← q1.1]; exact h68
           have hfx := f_it_fix (n := k.toNat) hz (144 - k.toNat)
           rw [show k.toNat + (144 - k.toNat) = 144 by omega] at hfx
           exact K90 k x M61 k.toNat ((q2 (5 * j + 3) (by omega) (by omega)).trans g1) hfx.symm (fun q z1 z2 => by rw [q2 86 (by decide) (by decide), q2 (5 * j + 3) (by omega) (by omega)]; exact g3 q z1 z2) (by rw [q2 (5 * j + 3) (by omega) (by omega)]; exact g4) (fun o o1 o2 => (q2 o (by omega) (by omega)).trans (g6 o o1 o2)))
      · skip
        refine jw_aload_n hC dX0_crackAll_57 0 rfl rfl ?_
        refine jw_aload_n hC dX0_crackAll_58 1 rfl rfl ?_
        refine jw_iload_n hC dX0_crackAll_59 2 rfl rfl ?_
        refine jw_iload_n hC dX0_crackAll_60 3 rfl rfl ?_
        refine jw_callV hC (c_X0_findOverstrained l E M1 j hj b t hb ht (fun q q1 q2 => by rw [g3 q q1 q2, g1]; exact f_cb_b (f_it_C hc _) q)) sV_X0_30 ewF_k3.o dX0_crackAll_61 rfl rfl ⟨Nat.le_of_ble_eq_true rfl, Nat.le_of_ble_eq_true rfl⟩ ⟨Nat.zero_le _, Nat.zero_le _⟩ (Nat.le_of_ble_eq_true rfl) (fun v61 M61 g61 => ?_)
        obtain ⟨rfl, q1, q2⟩ := g61
        have qm := f_ls_m q1
        refine jw_aload_n hC dX0_crackAll_64 0 rfl rfl ?_
        refine jw_geti hC fL_X0_34.r ewF_k3 (kI := 3) rfl dX0_crackAll_65 (by omega) (fun b65 c65 => ?_)
        have hPO : ∀ q : Int, 0 ≤ q → q < 144 → (decide (M1 (5 * j + 3) q = 0) && (decide (0 < M1 85 q) && decide (b - t * M1 86 q < M1 85 q))) = f_ovr (M (5 * j + 1)) b t (f_it (M (5 * j + 1)) b t (M (5 * j + 3)) k.toNat) q := fun q q1 q2 => by rw [f_ovr_eq hD, g1, g2 q q1 q2, g3 q q1 q2, g1]
        have q1 := f_ls_cg q1 (fun q z1 z2 => (hPO q z1 z2).symm)
        have hsum := f_rnd_sum (M (5 * j + 1)) b t (f_it (M (5 * j + 1)) b t (M (5 * j + 3)) k.toNat)
        refine jw_if_ne (tgt := 74) hC dX0_crackAll_68 (by decide) (by omega) (by omega) (fun h68 => ?_) (fun h68 => ?_)
        · skip
          refine jw_iload hC dX0_crackAll_74 4 rfl ?_
          refine jw_aload_n hC dX0_crackAll_76 0 rfl rfl ?_
          refine jw_aload_n hC dX0_crackAll_77 1 rfl rfl ?_
          refine jw_callV hC (c_X0_crackFound l E M61 j hj qm (fun i i1 i2 => ⟨(q1.2.1 i i1 i2).1, (q1.2.1 i i1 i2).2.1⟩)) sV_X0_38 ewF_k3.o dX0_crackAll_78 rfl rfl ⟨Nat.le_of_ble_eq_true rfl, Nat.le_of_ble_eq_true rfl⟩ ⟨Nat.zero_le _, Nat.zero_le _⟩ (Nat.le_of_ble_eq_true rfl) (fun v78 M78 g78 => ?_)
          obtain ⟨rfl, r1, r2, r3⟩ := g78
          refine jw_iadd hC dX0_crackAll_81 ?_
          refine jw_istore (L' := [(4, _), (0, _), (1, _), (2, _), (3, _), (5, _)]) hC dX0_crackAll_82 (by decide) rfl ?_
          refine jw_iinc (L' := [(5, _), (4, _), (0, _), (1, _), (2, _), (3, _)]) hC dX0_crackAll_84 5 rfl (by decide) rfl ?_
          refine jw_goto (tgt := 49) hC dX0_crackAll_87 (by decide) ?_
          refine jw_loc (L' := [(0, _), (1, _), (2, _), (3, _), (4, _), (5, _)]) [2, 3, 4, 5, 1, 0] rfl ?_
          refine ih _ _ _ (by omega) (by omega) (by omega) ?_ ?_ ?_ ?_ ?_ ?_
          · rw [r1, q2 (5 * j + 3) (by omega) (by omega), g1, f_crk_eq q1, f_it_s _ _ _ _ i2]
            rfl
          · intro q z1 z2
            rw [r3 _ (by omega) (by decide), q2 _ (by decide) (by decide)]
            exact g2 q z1 z2
          · intro q z1 z2
            rw [r2, r1, q2 (5 * j + 3) (by omega) (by omega), q2 86 (by decide) (by decide)]
            refine f_bes_q g3 (by rw [g1]; exact f_it_C hc _) _ (fun i i1 i2 => ?_) (fun i i' i1 i2 j1 j2 => q1.2.2.1 i i' i1 (by omega) j1 (by omega)) q z1 z2
            have h9 := q1.2.1 i i1 (by omega)
            exact ⟨h9.1, h9.2.1, by rw [g1]; exact f_ovr_0 h9.2.2⟩
          · rw [r1, q2 (5 * j + 3) (by omega) (by omega), g1, f_crk_eq q1]
            have h8 : f_brk (f_ovr (M (5 * j + 1)) b t (f_it (M (5 * j + 1)) b t (M (5 * j + 3)) k.toNat)) (f_it (M (5 * j + 1)) b t (M (5 * j + 3)) k.toNat) = f_rnd (M (5 * j + 1)) b t (f_it (M (5 * j + 1)) b t (M (5 * j + 3)) k.toNat) := rfl
            rw [h8, hsum, ← q1.1, g4, g1]
            omega
          · rw [r1, q2 (5 * j + 3) (by omega) (by omega), g1, f_crk_eq q1]
            have h8 : f_brk (f_ovr (M (5 * j + 1)) b t (f_it (M (5 * j + 1)) b t (M (5 * j + 3)) k.toNat)) (f_it (M (5 * j + 1)) b t (M (5 * j + 3)) k.toNat) = f_rnd (M (5 * j + 1)) b t (f_it (M (5 * j + 1)) b t (M (5 * j + 3)) k.toNat) := rfl
            rw [h8, hsum, ← q1.1, ← g1]
            omega
          · intro o o1 o2
            rw [r3 _ o1 (by omega), q2 _ (by omega) (by omega)]
            exact g6 o o1 o2
        · skip
          refine jw_goto (tgt := 90) hC dX0_crackAll_71 (by decide) ?_
          first
          | (exfalso; omega)
          | (have hz : f_sum (f_ind (f_ovr (M (5 * j + 1)) b t (f_it (M (5 * j + 1)) b t (M (5 * j + 3)) k.toNat))) 144 = 0 := by rw [← q1.1]; exact h68
             have hfx := f_it_fix (n := k.toNat) hz (144 - k.toNat)
             rw [show k.toNat + (144 - k.toNat) = 144 by omega] at hfx
             exact K90 k x M61 k.toNat ((q2 (5 * j + 3) (by omega) (by omega)).trans g1) hfx.symm (fun q z1 z2 => by rw [q2 86 (by decide) (by decide), q2 (5 * j + 3) (by omega) (by omega)]; exact g3 q z1 z2) (by rw [q2 (5 * j + 3) (by omega) (by omega)]; exact g4) (fun o o1 o2 => (q2 o (by omega) (by omega)).trans (g6 o o1 o2)))
  have K3 : ∀ (n : Nat) (k : Int) (M1 : ewM), 144 - k < n → 0 ≤ k → k ≤ 144 → (∀ q : Int, 0 ≤ q → q < k → M1 85 q = f_str (M (5 * j + 1)) q) → (∀ q : Int, 0 ≤ q → q < k → M1 86 q = f_cb (M (5 * j + 3)) q) → (∀ o, o ≠ 85 → o ≠ 86 → M1 o = M o) → jJ zp l ze (ct_rm 3) zs zm za zb zt zc E zA 6 0 0 (MQ zb (ct_Q E zA (fun v M1 => v = some (vI (f_sum (f_it (M (5 * j + 1)) b t (M (5 * j + 3)) 144) 144 - f_sum (M (5 * j + 3)) 144)) ∧ M1 (5 * j + 3) = f_it (M (5 * j + 1)) b t (M (5 * j + 3)) 144 ∧ (∀ q : Int, 0 ≤ q → q < 144 → 0 ≤ M1 86 q ∧ M1 86 q ≤ 4) ∧ ∀ o, o ≠ 5 * j + 3 → (o < 84 ∨ 87 < o) → M1 o = M o)) za zs 0 0 zA) 3 [(0, vR E 84), (1, vR E (5 * j)), (2, vI b), (3, vI t), (4, vI k)] [] M1 := by
    intro n
    induction n with
    | zero => intros; omega
    | succ n ih =>
      intro k M1 i1 i2 i3 g1 g2 g3
      refine jw_iload hC dX0_crackAll_3 4 rfl ?_
      refine jw_sipush hC dX0_crackAll_5 (by decide) ?_
      refine jw_icmp_ge (tgt := 43) hC dX0_crackAll_8 (by decide) (by omega) (by omega) (by omega) (by omega) (fun h8 => ?_) (fun h8 => ?_)
      · skip
        refine jw_iconst hC dX0_crackAll_43 ?_
        refine jw_istore (L' := [(4, _), (0, _), (1, _), (2, _), (3, _)]) hC dX0_crackAll_44 (by decide) rfl ?_
        refine jw_iconst hC dX0_crackAll_46 ?_
        refine jw_istore (L' := [(5, _), (4, _), (0, _), (1, _), (2, _), (3, _)]) hC dX0_crackAll_47 (by decide) rfl ?_
        refine jw_loc (L' := [(0, _), (1, _), (2, _), (3, _), (4, _), (5, _)]) [2, 3, 4, 5, 1, 0] rfl ?_
        have e9 : k = 144 := by omega
        subst e9
        have hs0 := f_sum_C hc
        exact K49 146 0 0 M1 (by omega) (by omega) (by omega) (g3 _ (by omega) (by omega)) g1 (fun q q1 q2 => by rw [g3 (5 * j + 3) (by omega) (by omega)]; exact g2 q q1 q2) (by rw [g3 (5 * j + 3) (by omega) (by omega)]; omega) (by rw [g3 (5 * j + 3) (by omega) (by omega)]; omega) (fun o o1 o2 => g3 o (by omega) (by omega))
      · skip
        refine jw_aload_n hC dX0_crackAll_11 0 rfl rfl ?_
        refine jw_getr hC fL_X0_9 ewR_k0 dX0_crackAll_12 ?_
        refine jw_iload hC dX0_crackAll_15 4 rfl ?_
        refine jw_aload_n hC dX0_crackAll_17 1 rfl rfl ?_
        refine jw_iload hC dX0_crackAll_18 4 rfl ?_
        refine jw_callV hC (c_X2_strainOf l E M1 j hj _ ⟨by omega, by omega⟩ (by rw [g3 (5 * j + 1) (by omega) (by omega)]; exact hD)) sV_X0_21 (ewO_sheet (j := j) (by omega)) dX0_crackAll_20 rfl rfl ⟨Nat.le_of_ble_eq_true rfl, Nat.le_of_ble_eq_true rfl⟩ ⟨Nat.zero_le _, Nat.zero_le _⟩ (Nat.le_of_ble_eq_true rfl) (fun v20 M20 g20 => ?_)
        obtain ⟨rfl, rfl⟩ := g20
        have y1 := f_str_b hD k
        rw [g3 (5 * j + 1) (by omega) (by omega)]
        refine jw_iast hC ewA_85 dX0_crackAll_23 (by omega) (by omega) (by decide) (by omega) (by omega) ?_
        refine jw_aload_n hC dX0_crackAll_24 0 rfl rfl ?_
        refine jw_getr hC fL_X0_15 ewR_k1 dX0_crackAll_25 ?_
        refine jw_iload hC dX0_crackAll_28 4 rfl ?_
        refine jw_aload_n hC dX0_crackAll_30 1 rfl rfl ?_
        refine jw_iload hC dX0_crackAll_31 4 rfl ?_
        refine jw_callV hC (c_X2_crackedBeside l E _ j hj _ ⟨by omega, by omega⟩) sV_X0_27 (ewO_sheet (j := j) (by omega)) dX0_crackAll_33 rfl rfl ⟨Nat.le_of_ble_eq_true rfl, Nat.le_of_ble_eq_true rfl⟩ ⟨Nat.zero_le _, Nat.zero_le _⟩ (Nat.le_of_ble_eq_true rfl) (fun v33 M33 g33 => ?_)
        obtain ⟨rfl, rfl⟩ := g33
        rw [mu_ne _ _ _ (show 5 * j + 3 ≠ 85 by omega), g3 (5 * j + 3) (by omega) (by omega)]
        have y2 := f_cb_b hc k
        refine jw_iast hC ewA_86 dX0_crackAll_36 (by omega) (by omega) (by decide) (by omega) (by omega) ?_
        refine jw_iinc (L' := [(4, _), (0, _), (1, _), (2, _), (3, _)]) hC dX0_crackAll_37 4 rfl (by decide) rfl ?_
        refine jw_goto (tgt := 3) hC dX0_crackAll_40 (by decide) ?_
        refine jw_loc (L' := [(0, _), (1, _), (2, _), (3, _), (4, _)]) [1, 2, 3, 4, 0] rfl ?_
        refine ih _ _ (by omega) (by omega) (by omega) (fun q q1 q2 => ?_) (fun q q1 q2 => ?_) (fun o o1 o2 => ?_)
        · rw [mu_ne _ _ _ (by decide), mu_at]
          dsimp only
          by_cases hq : q = k
          · subst hq; rw [if_pos rfl]
          · rw [if_neg hq]; exact g1 q q1 (by omega)
        · rw [mu_at]
          dsimp only
          by_cases hq : q = k
          · subst hq; rw [if_pos rfl]
          · rw [if_neg hq, mu_ne _ _ _ (by decide)]; exact g2 q q1 (by omega)
        · rw [mu_ne _ _ _ o2, mu_ne _ _ _ o1]; exact g3 o o1 o2
  refine jw_iconst hC dX0_crackAll_0 ?_
  refine jw_istore (L' := [(4, _), (0, _), (1, _), (2, _), (3, _)]) hC dX0_crackAll_1 (by decide) rfl ?_
  refine jw_loc (L' := [(0, _), (1, _), (2, _), (3, _), (4, _)]) [1, 2, 3, 4, 0] rfl ?_
  exact K3 145 0 M (by omega) (by omega) (by omega) (fun q q1 q2 => by omega) (fun q q1 q2 => by omega) (fun _ _ _ => rfl)
/-- the places that a fold ahead of a row cracks by itself -/
def f_ovf (d c : Int → Int) (row b t : Int) : Int → Bool := fun q => decide (c q = 0) && ((decide (q / 12 = row) || decide (q / 12 = row - 1)) && decide (f_bear c q b t / 2 < f_diff d (row * 12 + q % 12) ((row - 1) * 12 + q % 12)))
theorem f_bear_b {c : Int → Int} (p : Int) {b t : Int} (hc : pC c) (hb : 0 ≤ b ∧ b ≤ 99) (ht : 0 ≤ t ∧ t ≤ 20) : 0 ≤ f_bear c p b t ∧ f_bear c p b t ≤ 99 := by
  have h1 := f_cb_b hc p
  have h2 := f_tk_b ht.1 ht.2 h1.1 h1.2
  unfold f_bear
  omega
theorem f_pl_in {c r : Int} (h1 : 0 ≤ c) (h2 : c < 12) (h3 : 0 ≤ r) (h4 : r < 12) : f_pl c r = r * 12 + c := by
  unfold f_pl
  rw [if_pos ⟨h1, h2, h3, h4⟩]
/-- a place is noted: the list goes on -/
theorem f_ls_note {M : ewM} {c : Int → Int} {P : Int → Bool} {p : Int} (g : f_ls P (M 87) (M 84 3)) (h0 : 0 ≤ p) (h1 : p < 144) (hp : P p = false) : f_ls (fun q => P q || (decide (q = p) && decide (c q = 0))) (f_note M c p 87) (f_note M c p 84 3) := by
  have hm := f_ls_m g
  by_cases hz : c p = 0
  · have s1 := f_ls_s (P2 := fun q => P q || (decide (q = p) && decide (c q = 0))) g h0 h1 hp (by simp [hz]) (fun q _ _ hq => by simp [hq])
    have hlt : M 84 3 < 144 := by
      have := f_ls_m s1
      omega
    have hn := f_note_87 (c := c) hz hlt
    rw [hn.1, hn.2]
    exact s1
  · have e9 : f_note M c p = M := by unfold f_note; rw [if_neg (fun h => hz h.1)]
    rw [e9]
    exact f_ls_cg g (fun q q1 q2 => by
      by_cases hq : q = p
      · subst hq; simp [hz]
      · simp [hq])
theorem f_ovf_row {d c : Int → Int} {row b t q : Int} (h : f_ovf d c row b t q = true) : q / 12 = row ∨ q / 12 = row - 1 := by
  unfold f_ovf at h
  simp only [Bool.and_eq_true, Bool.or_eq_true, decide_eq_true_eq] at h
  exact h.2.1
theorem f_ovf_up {d c : Int → Int} {row b t k : Int} (h0 : 0 ≤ k) (h1 : k < 12) : f_ovf d c row b t ((row - 1) * 12 + k) = (decide (c ((row - 1) * 12 + k) = 0) && decide (f_bear c ((row - 1) * 12 + k) b t / 2 < f_diff d (row * 12 + k) ((row - 1) * 12 + k))) := by
  unfold f_ovf
  rw [show ((row - 1) * 12 + k) / 12 = row - 1 by omega, show ((row - 1) * 12 + k) % 12 = k by omega]
  simp
theorem f_ovf_low {d c : Int → Int} {row b t k : Int} (h0 : 0 ≤ k) (h1 : k < 12) : f_ovf d c row b t (row * 12 + k) = (decide (c (row * 12 + k) = 0) && decide (f_bear c (row * 12 + k) b t / 2 < f_diff d (row * 12 + k) ((row - 1) * 12 + k))) := by
  unfold f_ovf
  rw [show (row * 12 + k) / 12 = row by omega, show (row * 12 + k) % 12 = k by omega]
  simp
theorem f_ovf_k1 {d c : Int → Int} {row b t k : Int} (h0 : 0 ≤ k) (h1 : k < 12) (q : Int) : (decide (q % 12 < k + 1) && f_ovf d c row b t q) = ((decide (q % 12 < k) && f_ovf d c row b t q) || (decide (q = (row - 1) * 12 + k) && f_ovf d c row b t q) || (decide (q = row * 12 + k) && f_ovf d c row b t q)) := by
  cases hP : f_ovf d c row b t q with
  | false => simp
  | true =>
    have hr := f_ovf_row hP
    simp only [Bool.and_true, ← Bool.decide_or, decide_eq_decide]
    omega
/-- a place that isn't noted, or is, behind those that P tells -/
theorem f_ls_no {M : ewM} {P F : Int → Bool} {p : Int} (g : f_ls P (M 87) (M 84 3)) (h : F p = false) : f_ls (fun q => P q || (decide (q = p) && F q)) (M 87) (M 84 3) := f_ls_cg g (fun q _ _ => by
  by_cases hq : q = p
  · subst hq; simp [h]
  · simp [hq])
theorem f_ls_yes {M : ewM} {c : Int → Int} {P F : Int → Bool} {p : Int} (g : f_ls P (M 87) (M 84 3)) (h0 : 0 ≤ p) (h1 : p < 144) (hp : P p = false) (h : F p = decide (c p = 0)) : f_ls (fun q => P q || (decide (q = p) && F q)) (f_note M c p 87) (f_note M c p 84 3) := f_ls_cg (f_ls_note (c := c) g h0 h1 hp) (fun q _ _ => by
  by_cases hq : q = p
  · subst hq; simp [h]
  · simp [hq])
set_option maxRecDepth 100000 in
set_option maxHeartbeats 4000000 in
theorem c_X0_crackAtFold (l : Launch) (E : ewE) (M : ewM) (j : Nat) (hj : j < 10) (row b t : Int) (hrow : 1 ≤ row ∧ row < 12) (hb : 0 ≤ b ∧ b ≤ 99) (ht : 0 ≤ t ∧ t ≤ 20) (hD : pD (M (5 * j + 1))) (hc : pC (M (5 * j + 3))) : Ct l E yX0_crackAtFold (.code yX0_crackAtFold cX0_crackAtFold 9 (some .int)) 3 [vR E 84, vR E (5 * j), vI row, vI b, vI t] M (fun v M1 => v = some (vI (f_sum (M1 (5 * j + 3)) 144 - f_sum (M (5 * j + 3)) 144)) ∧ M1 (5 * j + 3) = f_brk (f_ovf (M (5 * j + 1)) (M (5 * j + 3)) row b t) (M (5 * j + 3)) ∧ ∀ o, o ≠ 5 * j + 3 → o ≠ 84 → o ≠ 86 → o ≠ 87 → M1 o = M o) := by
  refine ct_of (L0 := [(0, vR E 84), (1, vR E (5 * j)), (2, vI row), (3, vI b), (4, vI t)]) (by decide +kernel) rfl (Nat.le_of_ble_eq_true rfl) ?_
  intro zp ze zs zm za zb zt zc zA hC
  have K85 : ∀ (k : Int) (M1 : ewM), 0 ≤ k → k < 12 → f_ls (fun q => (decide (q % 12 < k) && f_ovf (M (5 * j + 1)) (M (5 * j + 3)) row b t q) || (decide (q = (row - 1) * 12 + k) && f_ovf (M (5 * j + 1)) (M (5 * j + 3)) row b t q)) (M1 87) (M1 84 3) → (∀ o, o ≠ 84 → o ≠ 87 → M1 o = M o) → (∀ M1 : ewM, f_ls (fun q => decide (q % 12 < k + 1) && f_ovf (M (5 * j + 1)) (M (5 * j + 3)) row b t q) (M1 87) (M1 84 3) → (∀ o, o ≠ 84 → o ≠ 87 → M1 o = M o) → jJ zp l ze (ct_rm 3) zs zm za zb zt zc E zA 9 0 0 (MQ zb (ct_Q E zA (fun v M1 => v = some (vI (f_sum (M1 (5 * j + 3)) 144 - f_sum (M (5 * j + 3)) 144)) ∧ M1 (5 * j + 3) = f_brk (f_ovf (M (5 * j + 1)) (M (5 * j + 3)) row b t) (M (5 * j + 3)) ∧ ∀ o, o ≠ 5 * j + 3 → o ≠ 84 → o ≠ 86 → o ≠ 87 → M1 o = M o)) za zs 0 0 zA) 8 [(0, vR E 84), (1, vR E (5 * j)), (2, vI row), (3, vI b), (4, vI t), (5, vI (k + 1))] [] M1) → jJ zp l ze (ct_rm 3) zs zm za zb zt zc E zA 9 0 0 (MQ zb (ct_Q E zA (fun v M1 => v = some (vI (f_sum (M1 (5 * j + 3)) 144 - f_sum (M (5 * j + 3)) 144)) ∧ M1 (5 * j + 3) = f_brk (f_ovf (M (5 * j + 1)) (M (5 * j + 3)) row b t) (M (5 * j + 3)) ∧ ∀ o, o ≠ 5 * j + 3 → o ≠ 84 → o ≠ 86 → o ≠ 87 → M1 o = M o)) za zs 0 0 zA) 85 [(0, vR E 84), (1, vR E (5 * j)), (2, vI row), (3, vI b), (4, vI t), (5, vI k), (6, vI (row * 12 + k)), (7, vI ((row - 1) * 12 + k)), (8, vI (f_diff (M (5 * j + 1)) (row * 12 + k) ((row - 1) * 12 + k)))] [] M1 := by
    intro k M1 i2 i3 g1 g2 hout
    have hdf := f_diff_b hD (row * 12 + k) ((row - 1) * 12 + k)
    refine jw_iload hC dX0_crackAtFold_85 8 rfl ?_
    refine jw_aload_n hC dX0_crackAtFold_87 1 rfl rfl ?_
    refine jw_iload hC dX0_crackAtFold_88 6 rfl ?_
    refine jw_iload_n hC dX0_crackAtFold_90 3 rfl rfl ?_
    refine jw_iload hC dX0_crackAtFold_91 4 rfl ?_
    refine jw_callV hC (c_X2_bearingOf l E M1 j hj _ b t ⟨by omega, by omega⟩ hb ht (by rw [g2 (5 * j + 3) (by omega) (by omega)]; exact hc)) sV_X0_50 (ewO_sheet (j := j) (by omega)) dX0_crackAtFold_93 rfl rfl ⟨Nat.le_of_ble_eq_true rfl, Nat.le_of_ble_eq_true rfl⟩ ⟨Nat.zero_le _, Nat.zero_le _⟩ (Nat.le_of_ble_eq_true rfl) (fun v93 M93 g93 => ?_)
    obtain ⟨rfl, rfl⟩ := g93
    rw [g2 (5 * j + 3) (by omega) (by omega)]
    have hbe1 := f_bear_b ((row - 1) * 12 + k) hc hb ht
    have hbe2 := f_bear_b (row * 12 + k) hc hb ht
    refine jw_iconst hC dX0_crackAtFold_96 ?_
    refine jw_idiv hC dX0_crackAtFold_97 (by omega) (by omega) (by omega) (by omega) ?_
    refine jw_icmp_le (tgt := 108) hC dX0_crackAtFold_98 (by decide) (by omega) (by omega) (by omega) (by omega) (fun h98 => ?_) (fun h98 => ?_)
    · skip
      refine jw_iinc (L' := [(5, _), (0, _), (1, _), (2, _), (3, _), (4, _), (6, _), (7, _), (8, _)]) hC dX0_crackAtFold_108 5 rfl (by decide) rfl ?_
      refine jw_goto (tgt := 8) hC dX0_crackAtFold_111 (by decide) ?_
      refine jw_loc (L' := [(0, _), (1, _), (2, _), (3, _), (4, _), (5, _)]) [1, 2, 3, 4, 5, 0] rfl ?_
      first
      | (have e0 : ¬ f_bear (M (5 * j + 3)) (row * 12 + k) b t / 2 < f_diff (M (5 * j + 1)) (row * 12 + k) ((row - 1) * 12 + k) := by omega
         refine hout _ (f_ls_cg (f_ls_no (F := f_ovf (M (5 * j + 1)) (M (5 * j + 3)) row b t) (p := row * 12 + k) g1 (by rw [f_ovf_low i2 (by omega)]; simp [e0])) (fun q _ _ => f_ovf_k1 i2 (by omega) q)) g2)
      | (have e0 : f_bear (M (5 * j + 3)) (row * 12 + k) b t / 2 < f_diff (M (5 * j + 1)) (row * 12 + k) ((row - 1) * 12 + k) := by omega
         have e1 : decide ((row * 12 + k) % 12 < k) = false := by simp; omega
         have e2 : decide (row * 12 + k = (row - 1) * 12 + k) = false := by simp; omega
         refine hout _ (f_ls_cg (f_ls_yes (F := f_ovf (M (5 * j + 1)) (M (5 * j + 3)) row b t) (c := M (5 * j + 3)) (p := row * 12 + k) g1 (by omega) (by omega) (by rw [e1, e2]; rfl) (by rw [f_ovf_low i2 (by omega)]; simp [e0])) (fun q _ _ => f_ovf_k1 i2 (by omega) q)) (fun o o1 o2 => by rw [f_note_o _ _ _ o1 o2]; exact g2 o o1 o2))
    · skip
      refine jw_aload_n hC dX0_crackAtFold_101 0 rfl rfl ?_
      refine jw_aload_n hC dX0_crackAtFold_102 1 rfl rfl ?_
      refine jw_iload hC dX0_crackAtFold_103 6 rfl ?_
      refine jw_callV hC (c_X0_noteIfWhole l E M1 j hj _ ⟨by omega, by omega⟩ (f_ls_m g1).1) sV_X0_54 ewF_k3.o dX0_crackAtFold_105 rfl rfl ⟨Nat.le_of_ble_eq_true rfl, Nat.le_of_ble_eq_true rfl⟩ ⟨Nat.zero_le _, Nat.zero_le _⟩ (Nat.le_of_ble_eq_true rfl) (fun v105 M105 g105 => ?_)
      obtain ⟨rfl, rfl⟩ := g105
      rw [g2 (5 * j + 3) (by omega) (by omega)]
      refine jw_iinc (L' := [(5, _), (0, _), (1, _), (2, _), (3, _), (4, _), (6, _), (7, _), (8, _)]) hC dX0_crackAtFold_108 5 rfl (by decide) rfl ?_
      refine jw_goto (tgt := 8) hC dX0_crackAtFold_111 (by decide) ?_
      refine jw_loc (L' := [(0, _), (1, _), (2, _), (3, _), (4, _), (5, _)]) [1, 2, 3, 4, 5, 0] rfl ?_
      first
      | (have e0 : ¬ f_bear (M (5 * j + 3)) (row * 12 + k) b t / 2 < f_diff (M (5 * j + 1)) (row * 12 + k) ((row - 1) * 12 + k) := by omega
         refine hout _ (f_ls_cg (f_ls_no (F := f_ovf (M (5 * j + 1)) (M (5 * j + 3)) row b t) (p := row * 12 + k) g1 (by rw [f_ovf_low i2 (by omega)]; simp [e0])) (fun q _ _ => f_ovf_k1 i2 (by omega) q)) g2)
      | (have e0 : f_bear (M (5 * j + 3)) (row * 12 + k) b t / 2 < f_diff (M (5 * j + 1)) (row * 12 + k) ((row - 1) * 12 + k) := by omega
         have e1 : decide ((row * 12 + k) % 12 < k) = false := by simp; omega
         have e2 : decide (row * 12 + k = (row - 1) * 12 + k) = false := by simp; omega
         refine hout _ (f_ls_cg (f_ls_yes (F := f_ovf (M (5 * j + 1)) (M (5 * j + 3)) row b t) (c := M (5 * j + 3)) (p := row * 12 + k) g1 (by omega) (by omega) (by rw [e1, e2]; rfl) (by rw [f_ovf_low i2 (by omega)]; simp [e0])) (fun q _ _ => f_ovf_k1 i2 (by omega) q)) (fun o o1 o2 => by rw [f_note_o _ _ _ o1 o2]; exact g2 o o1 o2))
  have K8 : ∀ (n : Nat) (k : Int) (M1 : ewM), 12 - k < n → 0 ≤ k → k ≤ 12 → f_ls (fun q => decide (q % 12 < k) && f_ovf (M (5 * j + 1)) (M (5 * j + 3)) row b t q) (M1 87) (M1 84 3) → (∀ o, o ≠ 84 → o ≠ 87 → M1 o = M o) →  jJ zp l ze (ct_rm 3) zs zm za zb zt zc E zA 9 0 0 (MQ zb (ct_Q E zA (fun v M1 => v = some (vI (f_sum (M1 (5 * j + 3)) 144 - f_sum (M (5 * j + 3)) 144)) ∧ M1 (5 * j + 3) = f_brk (f_ovf (M (5 * j + 1)) (M (5 * j + 3)) row b t) (M (5 * j + 3)) ∧ ∀ o, o ≠ 5 * j + 3 → o ≠ 84 → o ≠ 86 → o ≠ 87 → M1 o = M o)) za zs 0 0 zA) 8 [(0, vR E 84), (1, vR E (5 * j)), (2, vI row), (3, vI b), (4, vI t), (5, vI k)] [] M1 := by
    intro n
    induction n with
    | zero => intros; omega
    | succ n ih =>
      intro k M1 i1 i2 i3 g1 g2
      refine jw_iload hC dX0_crackAtFold_8 5 rfl ?_
      refine jw_bipush hC dX0_crackAtFold_10 (by decide) ?_
      refine jw_icmp_ge (tgt := 114) hC dX0_crackAtFold_12 (by decide) (by omega) (by omega) (by omega) (by omega) (fun h12 => ?_) (fun h12 => ?_)
      · skip
        refine jw_aload_n hC dX0_crackAtFold_114 0 rfl rfl ?_
        refine jw_aload_n hC dX0_crackAtFold_115 1 rfl rfl ?_
        refine jw_callV hC (c_X0_crackFound l E M1 j hj (f_ls_m g1) (fun i i1 i2 => ⟨(g1.2.1 i i1 i2).1, (g1.2.1 i i1 i2).2.1⟩)) sV_X0_38 ewF_k3.o dX0_crackAtFold_116 rfl rfl ⟨Nat.le_of_ble_eq_true rfl, Nat.le_of_ble_eq_true rfl⟩ ⟨Nat.zero_le _, Nat.zero_le _⟩ (Nat.le_of_ble_eq_true rfl) (fun v116 M116 g116 => ?_)
        obtain ⟨rfl, r1, r2, r3⟩ := g116
        refine jw_iret hC dX0_crackAtFold_119 ?_
        have hP : f_ls (f_ovf (M (5 * j + 1)) (M (5 * j + 3)) row b t) (M1 87) (M1 84 3) := f_ls_cg g1 (fun q q1 q2 => by
          have : decide (q % 12 < k) = true := by simp; omega
          simp [this])
        have e1 : M116 (5 * j + 3) = f_brk (f_ovf (M (5 * j + 1)) (M (5 * j + 3)) row b t) (M (5 * j + 3)) := by rw [r1, f_crk_eq hP, g2 (5 * j + 3) (by omega) (by omega)]
        refine ⟨?_, e1, fun o o1 o2 o3 o4 => (r3 o o1 o3).trans (g2 o o2 o4)⟩
        rw [e1, f_brk_sum (fun q _ _ h => by unfold f_ovf at h; simp only [Bool.and_eq_true, decide_eq_true_eq] at h; exact h.1), hP.1]
        congr 2
        omega
      · skip
        refine jw_iload hC dX0_crackAtFold_15 5 rfl ?_
        refine jw_i2l hC dX0_crackAtFold_17 (by omega) (by omega) ?_
        refine jw_iload_n hC dX0_crackAtFold_18 2 rfl rfl ?_
        refine jw_i2l hC dX0_crackAtFold_19 (by omega) (by omega) ?_
        refine jw_callSn hC (c_X4_placeIndex l E M1 _ _ (by omega) (by omega) (by omega) (by omega)) sN_X0_42 dX0_crackAtFold_20 rfl rfl ⟨Nat.le_of_ble_eq_true rfl, Nat.le_of_ble_eq_true rfl⟩ ⟨Nat.zero_le _, Nat.zero_le _⟩ (Nat.le_of_ble_eq_true rfl) (fun v20 M20 g20 => ?_)
        obtain ⟨rfl, rfl⟩ := g20
        rw [f_pl_in (by omega) (by omega) (by omega) (by omega)]
        refine jw_istore (L' := [(6, _), (0, _), (1, _), (2, _), (3, _), (4, _), (5, _)]) hC dX0_crackAtFold_23 (by decide) rfl ?_
        refine jw_iload hC dX0_crackAtFold_25 6 rfl ?_
        refine jw_i2l hC dX0_crackAtFold_27 (by omega) (by omega) ?_
        refine jw_iload_n hC dX0_crackAtFold_28 3 rfl rfl ?_
        refine jw_iconst hC dX0_crackAtFold_29 ?_
        refine jw_isub hC dX0_crackAtFold_30 ?_
        refine jw_i2l hC dX0_crackAtFold_31 (by omega) (by omega) ?_
        refine jw_callSn hC (c_X4_placeIndex l E M1 _ _ (by omega) (by omega) (by omega) (by omega)) sN_X0_42 dX0_crackAtFold_32 rfl rfl ⟨Nat.le_of_ble_eq_true rfl, Nat.le_of_ble_eq_true rfl⟩ ⟨Nat.zero_le _, Nat.zero_le _⟩ (Nat.le_of_ble_eq_true rfl) (fun v32 M32 g32 => ?_)
        obtain ⟨rfl, rfl⟩ := g32
        rw [f_pl_in (by omega) (by omega) (by omega) (by omega)]
        refine jw_istore (L' := [(7, _), (6, _), (0, _), (1, _), (2, _), (3, _), (4, _), (5, _)]) hC dX0_crackAtFold_35 (by decide) rfl ?_
        refine jw_iload hC dX0_crackAtFold_37 1 rfl ?_
        refine jw_iconst hC dX0_crackAtFold_39 ?_
        refine jw_icmp_eq (tgt := 108) hC dX0_crackAtFold_40 (by decide) (by omega) (by omega) (by omega) (by omega) (fun h40 => ?_) (fun h40 => ?_)
        · skip
          exfalso; omega
        · skip
          refine jw_iload hC dX0_crackAtFold_43 0 rfl ?_
          refine jw_iconst hC dX0_crackAtFold_45 ?_
          refine jw_icmp_ne (tgt := 52) hC dX0_crackAtFold_46 (by decide) (by omega) (by omega) (by omega) (by omega) (fun h46 => ?_) (fun h46 => ?_)
          · skip
            refine jw_aload_n hC dX0_crackAtFold_52 3 rfl rfl ?_
            refine jw_iload hC dX0_crackAtFold_53 1 rfl ?_
            refine jw_iload hC dX0_crackAtFold_55 0 rfl ?_
            refine jw_callV hC (c_X2_difference l E M1 j hj _ _ ⟨by omega, by omega⟩ ⟨by omega, by omega⟩ (by rw [g2 (5 * j + 1) (by omega) (by omega)]; exact hD)) sV_X0_46 (ewO_sheet (j := j) (by omega)) dX0_crackAtFold_57 rfl rfl ⟨Nat.le_of_ble_eq_true rfl, Nat.le_of_ble_eq_true rfl⟩ ⟨Nat.zero_le _, Nat.zero_le _⟩ (Nat.le_of_ble_eq_true rfl) (fun v57 M57 g57 => ?_)
            obtain ⟨rfl, rfl⟩ := g57
            rw [g2 (5 * j + 1) (by omega) (by omega)]
            have hdf := f_diff_b hD (row * 12 + k) ((row - 1) * 12 + k)
            refine jw_istore (L' := [(8, _), (7, _), (6, _), (0, _), (1, _), (2, _), (3, _), (4, _), (5, _)]) hC dX0_crackAtFold_60 (by decide) rfl ?_
            refine jw_iload hC dX0_crackAtFold_62 0 rfl ?_
            refine jw_aload_n hC dX0_crackAtFold_64 4 rfl rfl ?_
            refine jw_iload hC dX0_crackAtFold_65 1 rfl ?_
            refine jw_iload_n hC dX0_crackAtFold_67 6 rfl rfl ?_
            refine jw_iload hC dX0_crackAtFold_68 7 rfl ?_
            refine jw_callV hC (c_X2_bearingOf l E M1 j hj _ b t ⟨by omega, by omega⟩ hb ht (by rw [g2 (5 * j + 3) (by omega) (by omega)]; exact hc)) sV_X0_50 (ewO_sheet (j := j) (by omega)) dX0_crackAtFold_70 rfl rfl ⟨Nat.le_of_ble_eq_true rfl, Nat.le_of_ble_eq_true rfl⟩ ⟨Nat.zero_le _, Nat.zero_le _⟩ (Nat.le_of_ble_eq_true rfl) (fun v70 M70 g70 => ?_)
            obtain ⟨rfl, rfl⟩ := g70
            rw [g2 (5 * j + 3) (by omega) (by omega)]
            have hbe1 := f_bear_b ((row - 1) * 12 + k) hc hb ht
            have hbe2 := f_bear_b (row * 12 + k) hc hb ht
            refine jw_iconst hC dX0_crackAtFold_73 ?_
            refine jw_idiv hC dX0_crackAtFold_74 (by omega) (by omega) (by omega) (by omega) ?_
            refine jw_icmp_le (tgt := 85) hC dX0_crackAtFold_75 (by decide) (by omega) (by omega) (by omega) (by omega) (fun h75 => ?_) (fun h75 => ?_)
            · skip
              refine jw_loc (L' := [(0, _), (1, _), (2, _), (3, _), (4, _), (5, _), (6, _), (7, _), (8, _)]) [3, 4, 5, 6, 7, 8, 2, 1, 0] rfl ?_
              first
              | (have e0 : ¬ f_bear (M (5 * j + 3)) ((row - 1) * 12 + k) b t / 2 < f_diff (M (5 * j + 1)) (row * 12 + k) ((row - 1) * 12 + k) := by omega
                 refine K85 k _ i2 (by omega) (f_ls_no (F := f_ovf (M (5 * j + 1)) (M (5 * j + 3)) row b t) (p := (row - 1) * 12 + k) g1 (by rw [f_ovf_up i2 (by omega)]; simp [e0])) g2 (fun M1 h1 h2 => ih _ _ (by omega) (by omega) (by omega) h1 h2))
              | (have e0 : f_bear (M (5 * j + 3)) ((row - 1) * 12 + k) b t / 2 < f_diff (M (5 * j + 1)) (row * 12 + k) ((row - 1) * 12 + k) := by omega
                 have e1 : decide (((row - 1) * 12 + k) % 12 < k) = false := by simp; omega
                 refine K85 k _ i2 (by omega) (f_ls_yes (F := f_ovf (M (5 * j + 1)) (M (5 * j + 3)) row b t) (c := M (5 * j + 3)) (p := (row - 1) * 12 + k) g1 (by omega) (by omega) (by rw [e1]; rfl) (by rw [f_ovf_up i2 (by omega)]; simp [e0])) (fun o o1 o2 => by rw [f_note_o _ _ _ o1 o2]; exact g2 o o1 o2) (fun M1 h1 h2 => ih _ _ (by omega) (by omega) (by omega) h1 h2))
            · skip
              refine jw_aload_n hC dX0_crackAtFold_78 3 rfl rfl ?_
              refine jw_aload_n hC dX0_crackAtFold_79 4 rfl rfl ?_
              refine jw_iload hC dX0_crackAtFold_80 1 rfl ?_
              refine jw_callV hC (c_X0_noteIfWhole l E M1 j hj _ ⟨by omega, by omega⟩ (f_ls_m g1).1) sV_X0_54 ewF_k3.o dX0_crackAtFold_82 rfl rfl ⟨Nat.le_of_ble_eq_true rfl, Nat.le_of_ble_eq_true rfl⟩ ⟨Nat.zero_le _, Nat.zero_le _⟩ (Nat.le_of_ble_eq_true rfl) (fun v82 M82 g82 => ?_)
              obtain ⟨rfl, rfl⟩ := g82
              rw [g2 (5 * j + 3) (by omega) (by omega)]
              refine jw_loc (L' := [(0, _), (1, _), (2, _), (3, _), (4, _), (5, _), (6, _), (7, _), (8, _)]) [3, 4, 5, 6, 7, 8, 2, 1, 0] rfl ?_
              first
              | (have e0 : ¬ f_bear (M (5 * j + 3)) ((row - 1) * 12 + k) b t / 2 < f_diff (M (5 * j + 1)) (row * 12 + k) ((row - 1) * 12 + k) := by omega
                 refine K85 k _ i2 (by omega) (f_ls_no (F := f_ovf (M (5 * j + 1)) (M (5 * j + 3)) row b t) (p := (row - 1) * 12 + k) g1 (by rw [f_ovf_up i2 (by omega)]; simp [e0])) g2 (fun M1 h1 h2 => ih _ _ (by omega) (by omega) (by omega) h1 h2))
              | (have e0 : f_bear (M (5 * j + 3)) ((row - 1) * 12 + k) b t / 2 < f_diff (M (5 * j + 1)) (row * 12 + k) ((row - 1) * 12 + k) := by omega
                 have e1 : decide (((row - 1) * 12 + k) % 12 < k) = false := by simp; omega
                 refine K85 k _ i2 (by omega) (f_ls_yes (F := f_ovf (M (5 * j + 1)) (M (5 * j + 3)) row b t) (c := M (5 * j + 3)) (p := (row - 1) * 12 + k) g1 (by omega) (by omega) (by rw [e1]; rfl) (by rw [f_ovf_up i2 (by omega)]; simp [e0])) (fun o o1 o2 => by rw [f_note_o _ _ _ o1 o2]; exact g2 o o1 o2) (fun M1 h1 h2 => ih _ _ (by omega) (by omega) (by omega) h1 h2))
          · skip
            exfalso; omega
  refine jw_aload_n hC dX0_crackAtFold_0 0 rfl rfl ?_
  refine jw_iconst hC dX0_crackAtFold_1 ?_
  refine jw_puti hC fL_X0_34 ewF_k3 (kI := 3) rfl dX0_crackAtFold_2 (by omega) (by omega) ?_
  refine jw_iconst hC dX0_crackAtFold_5 ?_
  refine jw_istore (L' := [(5, _), (0, _), (1, _), (2, _), (3, _), (4, _)]) hC dX0_crackAtFold_6 (by decide) rfl ?_
  refine jw_loc (L' := [(0, _), (1, _), (2, _), (3, _), (4, _), (5, _)]) [1, 2, 3, 4, 5, 0] rfl ?_
  refine K8 13 0 _ (by omega) (by omega) (by omega) ?_ (fun o o1 _ => mu_ne _ _ _ o1)
  rw [mu_eq]
  exact f_ls_0 (fun q q1 _ => by have : decide (q % 12 < 0) = false := by simp; omega
                                 simp [this])
