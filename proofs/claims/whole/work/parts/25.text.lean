/-! THE TEXT OF A DIE -/
abbrev f_sg (c : Int) : Prop := c = 46 ∨ (48 ≤ c ∧ c ≤ 57)
def f_ds (c : Int) : Int := if c = 46 then 0 else c - 48
/-- row and column behind the first n characters -/
def f_tr_ (cd : Int → Int) : Nat → Int
  | 0 => 0
  | n + 1 => if cd n = 47 then f_tr_ cd n + 1 else f_tr_ cd n
def f_tc_ (cd : Int → Int) : Nat → Int
  | 0 => 0
  | n + 1 => if cd n = 47 then 0 else f_tc_ cd n + 1
/-- the character n is a syntax error, if the ones before aren't -/
abbrev f_er (cd : Int → Int) (n : Nat) : Prop := if cd n = 47 then f_tc_ cd n = 0 ∨ f_tr_ cd n = 4 else ¬ f_sg (cd n) ∨ f_tc_ cd n = 5
/-- the first error of the first len characters, len if there is none -/
def f_fw (cd : Int → Int) (len x : Int) : Prop := 0 ≤ x ∧ x ≤ len ∧ (∀ i : Nat, (i : Int) < x → ¬ f_er cd i) ∧ (x < len → f_er cd x.toNat)
theorem f_fw_u {cd : Int → Int} {len x y : Int} (h1 : f_fw cd len x) (h2 : f_fw cd len y) : x = y := by
  obtain ⟨a1, a2, a3, a4⟩ := h1
  obtain ⟨b1, b2, b3, b4⟩ := h2
  rcases (show x < y ∨ x = y ∨ y < x by omega) with h | h | h
  · exact absurd (a4 (by omega)) (b3 x.toNat (by omega))
  · exact h
  · exact absurd (b4 (by omega)) (a3 y.toNat (by omega))
/-- the points that the first n characters tell -/
def f_rp (cd : Int → Int) : Nat → Int → Int
  | 0 => fun _ => 0
  | n + 1 => if cd n = 47 then f_rp cd n else fun b => if b = f_tr_ cd n * 5 + f_tc_ cd n then f_ds (cd n) else f_rp cd n b
theorem f_t_s (cd : Int → Int) {k : Int} (h : 0 ≤ k) : f_tr_ cd (k + 1).toNat = (if cd k = 47 then f_tr_ cd k.toNat + 1 else f_tr_ cd k.toNat) ∧ f_tc_ cd (k + 1).toNat = (if cd k = 47 then 0 else f_tc_ cd k.toNat + 1) := by
  rw [show (k + 1).toNat = k.toNat + 1 by omega]
  rw [f_tr_, f_tc_, show (k.toNat : Int) = k by omega]
  exact ⟨rfl, rfl⟩
theorem f_rp_s (cd : Int → Int) {k : Int} (h : 0 ≤ k) : f_rp cd (k + 1).toNat = if cd k = 47 then f_rp cd k.toNat else fun b => if b = f_tr_ cd k.toNat * 5 + f_tc_ cd k.toNat then f_ds (cd k) else f_rp cd k.toNat b := by
  rw [show (k + 1).toNat = k.toNat + 1 by omega, f_rp, show (k.toNat : Int) = k by omega]
/-- where no error is, rows and columns stay in their bounds -/
theorem f_tb_ {cd : Int → Int} : ∀ n : Nat, (∀ i : Nat, i < n → ¬ f_er cd i) → (0 ≤ f_tr_ cd n ∧ f_tr_ cd n ≤ 4) ∧ 0 ≤ f_tc_ cd n ∧ f_tc_ cd n ≤ 5 := by
  intro n
  induction n with
  | zero => intro _; exact ⟨⟨Int.le_refl _, by show (0 : Int) ≤ 4; decide⟩, Int.le_refl _, by show (0 : Int) ≤ 5; decide⟩
  | succ n ih =>
    intro h
    have h1 := ih (fun i hi => h i (by omega))
    have h2 := h n (by omega)
    unfold f_er at h2
    rw [f_tr_, f_tc_]
    by_cases hc : cd n = 47
    · rw [if_pos hc] at h2 ⊢
      rw [if_pos hc]
      omega
    · rw [if_neg hc] at h2 ⊢
      rw [if_neg hc]
      omega
theorem f_er_k {cd : Int → Int} {k : Int} (h : 0 ≤ k) : f_er cd k.toNat ↔ (if cd k = 47 then f_tc_ cd k.toNat = 0 ∨ f_tr_ cd k.toNat = 4 else ¬ f_sg (cd k) ∨ f_tc_ cd k.toNat = 5) := by
  unfold f_er
  rw [show (k.toNat : Int) = k by omega]
theorem f_ds_b {c : Int} (h : f_sg c) : 0 ≤ f_ds c ∧ f_ds c ≤ 9 := by
  unfold f_ds
  split <;> omega
theorem f_rp_D {cd : Int → Int} : ∀ n : Nat, (∀ i : Nat, i < n → ¬ f_er cd i) → pD (f_rp cd n) := by
  intro n
  induction n with
  | zero => intro _ q; exact ⟨Int.le_refl _, by show (0 : Int) ≤ 9; decide⟩
  | succ n ih =>
    intro h
    have h1 := ih (fun i hi => h i (by omega))
    have h2 := h n (by omega)
    unfold f_er at h2
    rw [f_rp]
    by_cases hc : cd n = 47
    · rw [if_pos hc]; exact h1
    · rw [if_neg hc] at h2 ⊢
      intro q
      have h3 := h1 q
      have h4 := f_ds_b (c := cd n) (by omega)
      dsimp only
      split <;> omega
set_option maxRecDepth 100000 in
set_option maxHeartbeats 4000000 in
theorem c_X1_isSign (l : Launch) (E : ewE) (M : ewM) (a : Int) (h1 : -2147483648 ≤ a) (h2 : a < 2147483648) : Ct l E yX1_isSign (.code yX1_isSign cX1_isSign 1 (some .boolean)) 1 [vI a] M (fun v M1 => v = some (vI (if f_sg a then 1 else 0)) ∧ M = M1) := by
  refine ct_of (L0 := [(0, vI a)]) (by decide +kernel) rfl (Nat.le_of_ble_eq_true rfl) ?_
  intro zp ze zs zm za zb zt zc zA hC
  refine jw_iload_n hC dX1_isSign_0 0 rfl rfl ?_
  refine jw_bipush hC dX1_isSign_1 (by decide) ?_
  refine jw_icmp_eq (tgt := 18) hC dX1_isSign_3 (by decide) (by omega) (by omega) (by omega) (by omega) (fun h3 => ?_) (fun h3 => ?_)
  · skip
    refine jw_iconst hC dX1_isSign_18 ?_
    refine jw_goto (tgt := 23) hC dX1_isSign_19 (by decide) ?_
    refine jw_zret hC (by omega) dX1_isSign_23 ?_
    refine ⟨?_, rfl⟩
    first | rw [if_pos (by omega)] | rw [if_neg (by omega)]
  · skip
    refine jw_iload_n hC dX1_isSign_6 0 rfl rfl ?_
    refine jw_bipush hC dX1_isSign_7 (by decide) ?_
    refine jw_icmp_lt (tgt := 22) hC dX1_isSign_9 (by decide) (by omega) (by omega) (by omega) (by omega) (fun h9 => ?_) (fun h9 => ?_)
    · skip
      refine jw_iconst hC dX1_isSign_22 ?_
      refine jw_zret hC (by omega) dX1_isSign_23 ?_
      refine ⟨?_, rfl⟩
      first | rw [if_pos (by omega)] | rw [if_neg (by omega)]
    · skip
      refine jw_iload_n hC dX1_isSign_12 0 rfl rfl ?_
      refine jw_bipush hC dX1_isSign_13 (by decide) ?_
      refine jw_icmp_gt (tgt := 22) hC dX1_isSign_15 (by decide) (by omega) (by omega) (by omega) (by omega) (fun h15 => ?_) (fun h15 => ?_)
      · skip
        refine jw_iconst hC dX1_isSign_22 ?_
        refine jw_zret hC (by omega) dX1_isSign_23 ?_
        refine ⟨?_, rfl⟩
        first | rw [if_pos (by omega)] | rw [if_neg (by omega)]
      · skip
        refine jw_iconst hC dX1_isSign_18 ?_
        refine jw_goto (tgt := 23) hC dX1_isSign_19 (by decide) ?_
        refine jw_zret hC (by omega) dX1_isSign_23 ?_
        refine ⟨?_, rfl⟩
        first | rw [if_pos (by omega)] | rw [if_neg (by omega)]
set_option maxRecDepth 100000 in
set_option maxHeartbeats 4000000 in
theorem c_X1_depthOfSign (l : Launch) (E : ewE) (M : ewM) (a : Int) (h1 : -2147483648 ≤ a) (h2 : a < 2147483648) : Ct l E yX1_depthOfSign (.code yX1_depthOfSign cX1_depthOfSign 1 (some .int)) 1 [vI a] M (fun v M1 => v = some (vI (f_ds a)) ∧ M = M1) := by
  refine ct_of (L0 := [(0, vI a)]) (by decide +kernel) rfl (Nat.le_of_ble_eq_true rfl) ?_
  intro zp ze zs zm za zb zt zc zA hC
  refine jw_iload_n hC dX1_depthOfSign_0 0 rfl rfl ?_
  refine jw_bipush hC dX1_depthOfSign_1 (by decide) ?_
  refine jw_icmp_ne (tgt := 10) hC dX1_depthOfSign_3 (by decide) (by omega) (by omega) (by omega) (by omega) (fun h3 => ?_) (fun h3 => ?_)
  · skip
    refine jw_iload_n hC dX1_depthOfSign_10 0 rfl rfl ?_
    refine jw_bipush hC dX1_depthOfSign_11 (by decide) ?_
    refine jw_isub hC dX1_depthOfSign_13 ?_
    refine jw_iret hC dX1_depthOfSign_14 ?_
    refine ⟨?_, rfl⟩
    unfold f_ds
    first | rw [if_pos (by omega)] | rw [if_neg (by omega)]
  · skip
    refine jw_iconst hC dX1_depthOfSign_6 ?_
    refine jw_goto (tgt := 14) hC dX1_depthOfSign_7 (by decide) ?_
    refine jw_iret hC dX1_depthOfSign_14 ?_
    refine ⟨?_, rfl⟩
    unfold f_ds
    first | rw [if_pos (by omega)] | rw [if_neg (by omega)]
set_option maxRecDepth 100000 in
set_option maxHeartbeats 4000000 in
theorem c_X1_isFull (l : Launch) (E : ewE) (M : ewM) (hl : 0 ≤ M 81 1 ∧ M 81 1 ≤ 40) : Ct l E yX1_isFull (.code yX1_isFull cX1_isFull 1 (some .boolean)) 1 [vR E 81] M (fun v M1 => v = some (vI (if 40 ≤ M 81 1 then 1 else 0)) ∧ M = M1) := by
  refine ct_of (L0 := [(0, vR E 81)]) (by decide +kernel) rfl (Nat.le_of_ble_eq_true rfl) ?_
  intro zp ze zs zm za zb zt zc zA hC
  refine jw_aload_n hC dX1_isFull_0 0 rfl rfl ?_
  refine jw_geti hC fL_X1_15.r ewF_d1 (kI := 1) rfl dX1_isFull_1 (by omega) (fun b1 c1 => ?_)
  refine jw_bipush hC dX1_isFull_4 (by decide) ?_
  refine jw_icmp_lt (tgt := 13) hC dX1_isFull_6 (by decide) (by omega) (by omega) (by omega) (by omega) (fun h6 => ?_) (fun h6 => ?_)
  · skip
    refine jw_iconst hC dX1_isFull_13 ?_
    refine jw_zret hC (by omega) dX1_isFull_14 ?_
    refine ⟨?_, rfl⟩
    first | rw [if_pos (by omega)] | rw [if_neg (by omega)]
  · skip
    refine jw_iconst hC dX1_isFull_9 ?_
    refine jw_goto (tgt := 14) hC dX1_isFull_10 (by decide) ?_
    refine jw_zret hC (by omega) dX1_isFull_14 ?_
    refine ⟨?_, rfl⟩
    first | rw [if_pos (by omega)] | rw [if_neg (by omega)]
set_option maxRecDepth 100000 in
set_option maxHeartbeats 4000000 in
theorem c_X1_add (l : Launch) (E : ewE) (M : ewM) (hl : 0 ≤ M 81 1 ∧ M 81 1 ≤ 40) (a : Int) (h1 : -2147483648 ≤ a) (h2 : a < 2147483648) : Ct l E yX1_add (.code yX1_add cX1_add 2 none) 1 [vR E 81, vI a] M (fun v M1 => v = none ∧ M1 = if M 81 1 < 40 then mu (mu M 82 (M 81 1) a) 81 1 (M 81 1 + 1) else M) := by
  refine ct_of (L0 := [(0, vR E 81), (1, vI a)]) (by decide +kernel) rfl (Nat.le_of_ble_eq_true rfl) ?_
  intro zp ze zs zm za zb zt zc zA hC
  refine jw_aload_n hC dX1_add_0 0 rfl rfl ?_
  refine jw_geti hC fL_X1_15.r ewF_d1 (kI := 1) rfl dX1_add_1 (by omega) (fun b1 c1 => ?_)
  refine jw_bipush hC dX1_add_4 (by decide) ?_
  refine jw_icmp_ge (tgt := 29) hC dX1_add_6 (by decide) (by omega) (by omega) (by omega) (by omega) (fun h6 => ?_) (fun h6 => ?_)
  · skip
    refine jw_vret hC dX1_add_29 ?_
    refine ⟨rfl, ?_⟩
    first | rw [if_pos (by omega)] | rw [if_neg (by omega)]
  · skip
    refine jw_aload_n hC dX1_add_9 0 rfl rfl ?_
    refine jw_getr hC fL_X1_9 ewR_d0 dX1_add_10 ?_
    refine jw_aload_n hC dX1_add_13 0 rfl rfl ?_
    refine jw_geti hC fL_X1_15.r ewF_d1 (kI := 1) rfl dX1_add_14 (by omega) (fun b14 c14 => ?_)
    refine jw_iload_n hC dX1_add_17 1 rfl rfl ?_
    refine jw_iast hC ewA_82 dX1_add_18 (by omega) (by omega) (by decide) (by omega) (by omega) ?_
    refine jw_aload_n hC dX1_add_19 0 rfl rfl ?_
    refine jw_dupr hC dX1_add_20 ?_
    refine jw_geti hC fL_X1_15.r ewF_d1 (kI := 1) rfl dX1_add_21 (by omega) (fun b21 c21 => ?_)
    rw [mu_ne _ _ _ (by decide)] at b21 c21 ⊢
    refine jw_iconst hC dX1_add_24 ?_
    refine jw_iadd hC dX1_add_25 ?_
    refine jw_puti hC fL_X1_15 ewF_d1 (kI := 1) rfl dX1_add_26 (by omega) (by omega) ?_
    refine jw_vret hC dX1_add_29 ?_
    refine ⟨rfl, ?_⟩
    first | rw [if_pos (by omega)] | rw [if_neg (by omega)]
set_option maxRecDepth 100000 in
set_option maxHeartbeats 4000000 in
theorem c_X1_firstWrong (l : Launch) (E : ewE) (M : ewM) (hl : 0 ≤ M 81 1 ∧ M 81 1 ≤ 40) : Ct l E yX1_firstWrong (.code yX1_firstWrong cX1_firstWrong 4 (some .int)) 2 [vR E 81] M (fun v M1 => ∃ x : Int, f_fw (M 82) (M 81 1) x ∧ v = some (vI x) ∧ M = M1) := by
  refine ct_of (L0 := [(0, vR E 81)]) (by decide +kernel) rfl (Nat.le_of_ble_eq_true rfl) ?_
  intro zp ze zs zm za zb zt zc zA hC
  have K6 : ∀ (n : Nat) (k row col : Int), M 81 1 - k < n → 0 ≤ k → k ≤ M 81 1 → row = f_tr_ (M 82) k.toNat → col = f_tc_ (M 82) k.toNat → (∀ i : Nat, (i : Int) < k → ¬ f_er (M 82) i) → jJ zp l ze (ct_rm 2) zs zm za zb zt zc E zA 4 0 0 (MQ zb (ct_Q E zA (fun v M1 => ∃ x : Int, f_fw (M 82) (M 81 1) x ∧ v = some (vI x) ∧ M = M1)) za zs 0 0 zA) 6 [(0, vR E 81), (1, vI row), (2, vI col), (3, vI k)] [] M := by
    intro n
    induction n with
    | zero => intros; omega
    | succ n ih =>
      intro k row col i1 i2 i3 hr hcl he
      have hb := f_tb_ (cd := M 82) k.toNat (fun i hi => he i (by omega))
      rw [← hr, ← hcl] at hb
      have hst := f_t_s (M 82) i2
      refine jw_iload_n hC dX1_firstWrong_6 3 rfl rfl ?_
      refine jw_aload_n hC dX1_firstWrong_7 0 rfl rfl ?_
      refine jw_geti hC fL_X1_15.r ewF_d1 (kI := 1) rfl dX1_firstWrong_8 (by omega) (fun b8 c8 => ?_)
      refine jw_icmp_ge (tgt := 78) hC dX1_firstWrong_11 (by decide) (by omega) (by omega) (by omega) (by omega) (fun h11 => ?_) (fun h11 => ?_)
      · skip
        refine jw_aload_n hC dX1_firstWrong_78 0 rfl rfl ?_
        refine jw_geti hC fL_X1_15.r ewF_d1 (kI := 1) rfl dX1_firstWrong_79 (by omega) (fun b79 c79 => ?_)
        refine jw_iret hC dX1_firstWrong_82 ?_
        first
        | (refine ⟨k, ⟨by omega, by omega, he, fun _ => (f_er_k i2).mpr ?_⟩, rfl, rfl⟩
           first
           | (rw [if_pos (by omega)]; omega)
           | (rw [if_neg (by omega)]; first | (exact Or.inr (by omega)) | (refine Or.inl (fun hsg => ?_); rw [if_pos hsg] at h59; omega)))
        | exact ⟨M 81 1, ⟨by omega, by omega, fun i hi => he i (by omega), fun h => by omega⟩, rfl, rfl⟩
      · skip
        refine jw_iload_n hC dX1_firstWrong_14 3 rfl rfl ?_
        refine jw_bipush hC dX1_firstWrong_15 (by decide) ?_
        refine jw_icmp_ge (tgt := 78) hC dX1_firstWrong_17 (by decide) (by omega) (by omega) (by omega) (by omega) (fun h17 => ?_) (fun h17 => ?_)
        · skip
          refine jw_aload_n hC dX1_firstWrong_78 0 rfl rfl ?_
          refine jw_geti hC fL_X1_15.r ewF_d1 (kI := 1) rfl dX1_firstWrong_79 (by omega) (fun b79 c79 => ?_)
          refine jw_iret hC dX1_firstWrong_82 ?_
          first
          | (refine ⟨k, ⟨by omega, by omega, he, fun _ => (f_er_k i2).mpr ?_⟩, rfl, rfl⟩
             first
             | (rw [if_pos (by omega)]; omega)
             | (rw [if_neg (by omega)]; first | (exact Or.inr (by omega)) | (refine Or.inl (fun hsg => ?_); rw [if_pos hsg] at h59; omega)))
          | exact ⟨M 81 1, ⟨by omega, by omega, fun i hi => he i (by omega), fun h => by omega⟩, rfl, rfl⟩
        · skip
          refine jw_aload_n hC dX1_firstWrong_20 0 rfl rfl ?_
          refine jw_getr hC fL_X1_9 ewR_d0 dX1_firstWrong_21 ?_
          refine jw_iload_n hC dX1_firstWrong_24 3 rfl rfl ?_
          refine jw_iald hC ewA_82 dX1_firstWrong_25 (by omega) (by omega) (by decide) (fun b25 c25 => ?_)
          refine jw_bipush hC dX1_firstWrong_26 (by decide) ?_
          refine jw_icmp_ne (tgt := 50) hC dX1_firstWrong_28 (by decide) (by omega) (by omega) (by omega) (by omega) (fun h28 => ?_) (fun h28 => ?_)
          · skip
            refine jw_aload_n hC dX1_firstWrong_50 0 rfl rfl ?_
            refine jw_getr hC fL_X1_9 ewR_d0 dX1_firstWrong_51 ?_
            refine jw_iload_n hC dX1_firstWrong_54 3 rfl rfl ?_
            refine jw_iald hC ewA_82 dX1_firstWrong_55 (by omega) (by omega) (by decide) (fun b55 c55 => ?_)
            refine jw_callS hC (c_X1_isSign l E M _ (by omega) (by omega)) sS_X1_19 dX1_firstWrong_56 rfl rfl ⟨Nat.le_of_ble_eq_true rfl, Nat.le_of_ble_eq_true rfl⟩ ⟨Nat.zero_le _, Nat.zero_le _⟩ (Nat.le_of_ble_eq_true rfl) (fun v56 M56 g56 => ?_)
            obtain ⟨rfl, rfl⟩ := g56
            have hsb : (if f_sg (M 82 k) then (1 : Int) else 0) = 0 ∨ (if f_sg (M 82 k) then (1 : Int) else 0) = 1 := by split <;> omega
            refine jw_if_eq (tgt := 67) hC dX1_firstWrong_59 (by decide) (by omega) (by omega) (fun h59 => ?_) (fun h59 => ?_)
            · skip
              refine jw_iload_n hC dX1_firstWrong_67 3 rfl rfl ?_
              refine jw_iret hC dX1_firstWrong_68 ?_
              first
              | (refine ⟨k, ⟨by omega, by omega, he, fun _ => (f_er_k i2).mpr ?_⟩, rfl, rfl⟩
                 first
                 | (rw [if_pos (by omega)]; omega)
                 | (rw [if_neg (by omega)]; first | (exact Or.inr (by omega)) | (refine Or.inl (fun hsg => ?_); rw [if_pos hsg] at h59; omega)))
              | exact ⟨M 81 1, ⟨by omega, by omega, fun i hi => he i (by omega), fun h => by omega⟩, rfl, rfl⟩
            · skip
              refine jw_iload_n hC dX1_firstWrong_62 2 rfl rfl ?_
              refine jw_iconst hC dX1_firstWrong_63 ?_
              refine jw_icmp_ne (tgt := 69) hC dX1_firstWrong_64 (by decide) (by omega) (by omega) (by omega) (by omega) (fun h64 => ?_) (fun h64 => ?_)
              · skip
                refine jw_iinc (L' := [(2, _), (0, _), (1, _), (3, _)]) hC dX1_firstWrong_69 2 rfl (by decide) rfl ?_
                refine jw_iinc (L' := [(3, _), (2, _), (0, _), (1, _)]) hC dX1_firstWrong_72 3 rfl (by decide) rfl ?_
                refine jw_goto (tgt := 6) hC dX1_firstWrong_75 (by decide) ?_
                refine jw_loc (L' := [(0, _), (1, _), (2, _), (3, _)]) [2, 3, 1, 0] rfl ?_
                refine ih _ _ _ (by omega) (by omega) (by omega) ?_ ?_ ?_
                · rw [hst.1]
                  first
                  | (rw [if_pos (by omega)]; omega)
                  | (rw [if_neg (by omega)]; omega)
                · rw [hst.2]
                  first
                  | (rw [if_pos (by omega)])
                  | (rw [if_neg (by omega)]; omega)
                · intro i hi
                  by_cases h9 : (i : Int) = k
                  · have e9 : i = k.toNat := by omega
                    rw [e9, f_er_k i2]
                    first
                    | (rw [if_pos (by omega)]; omega)
                    | (rw [if_neg (by omega)]
                       rintro (h7 | h7)
                       · rw [if_neg h7] at h59; omega
                       · omega)
                  · exact he i (by omega)
              · skip
                refine jw_iload_n hC dX1_firstWrong_67 3 rfl rfl ?_
                refine jw_iret hC dX1_firstWrong_68 ?_
                first
                | (refine ⟨k, ⟨by omega, by omega, he, fun _ => (f_er_k i2).mpr ?_⟩, rfl, rfl⟩
                   first
                   | (rw [if_pos (by omega)]; omega)
                   | (rw [if_neg (by omega)]; first | (exact Or.inr (by omega)) | (refine Or.inl (fun hsg => ?_); rw [if_pos hsg] at h59; omega)))
                | exact ⟨M 81 1, ⟨by omega, by omega, fun i hi => he i (by omega), fun h => by omega⟩, rfl, rfl⟩
          · skip
            refine jw_iload_n hC dX1_firstWrong_31 2 rfl rfl ?_
            refine jw_if_eq (tgt := 40) hC dX1_firstWrong_32 (by decide) (by omega) (by omega) (fun h32 => ?_) (fun h32 => ?_)
            · skip
              refine jw_iload_n hC dX1_firstWrong_40 3 rfl rfl ?_
              refine jw_iret hC dX1_firstWrong_41 ?_
              first
              | (refine ⟨k, ⟨by omega, by omega, he, fun _ => (f_er_k i2).mpr ?_⟩, rfl, rfl⟩
                 first
                 | (rw [if_pos (by omega)]; omega)
                 | (rw [if_neg (by omega)]; first | (exact Or.inr (by omega)) | (refine Or.inl (fun hsg => ?_); rw [if_pos hsg] at h59; omega)))
              | exact ⟨M 81 1, ⟨by omega, by omega, fun i hi => he i (by omega), fun h => by omega⟩, rfl, rfl⟩
            · skip
              refine jw_iload_n hC dX1_firstWrong_35 1 rfl rfl ?_
              refine jw_iconst hC dX1_firstWrong_36 ?_
              refine jw_icmp_ne (tgt := 42) hC dX1_firstWrong_37 (by decide) (by omega) (by omega) (by omega) (by omega) (fun h37 => ?_) (fun h37 => ?_)
              · skip
                refine jw_iinc (L' := [(1, _), (0, _), (2, _), (3, _)]) hC dX1_firstWrong_42 1 rfl (by decide) rfl ?_
                refine jw_iconst hC dX1_firstWrong_45 ?_
                refine jw_istore_n (L' := [(2, _), (1, _), (0, _), (3, _)]) hC dX1_firstWrong_46 rfl (by decide) rfl ?_
                refine jw_goto (tgt := 72) hC dX1_firstWrong_47 (by decide) ?_
                refine jw_iinc (L' := [(3, _), (2, _), (1, _), (0, _)]) hC dX1_firstWrong_72 3 rfl (by decide) rfl ?_
                refine jw_goto (tgt := 6) hC dX1_firstWrong_75 (by decide) ?_
                refine jw_loc (L' := [(0, _), (1, _), (2, _), (3, _)]) [3, 2, 1, 0] rfl ?_
                refine ih _ _ _ (by omega) (by omega) (by omega) ?_ ?_ ?_
                · rw [hst.1]
                  first
                  | (rw [if_pos (by omega)]; omega)
                  | (rw [if_neg (by omega)]; omega)
                · rw [hst.2]
                  first
                  | (rw [if_pos (by omega)])
                  | (rw [if_neg (by omega)]; omega)
                · intro i hi
                  by_cases h9 : (i : Int) = k
                  · have e9 : i = k.toNat := by omega
                    rw [e9, f_er_k i2]
                    first
                    | (rw [if_pos (by omega)]; omega)
                    | (rw [if_neg (by omega)]
                       rintro (h7 | h7)
                       · rw [if_neg h7] at h59; omega
                       · omega)
                  · exact he i (by omega)
              · skip
                refine jw_iload_n hC dX1_firstWrong_40 3 rfl rfl ?_
                refine jw_iret hC dX1_firstWrong_41 ?_
                first
                | (refine ⟨k, ⟨by omega, by omega, he, fun _ => (f_er_k i2).mpr ?_⟩, rfl, rfl⟩
                   first
                   | (rw [if_pos (by omega)]; omega)
                   | (rw [if_neg (by omega)]; first | (exact Or.inr (by omega)) | (refine Or.inl (fun hsg => ?_); rw [if_pos hsg] at h59; omega)))
                | exact ⟨M 81 1, ⟨by omega, by omega, fun i hi => he i (by omega), fun h => by omega⟩, rfl, rfl⟩
  refine jw_iconst hC dX1_firstWrong_0 ?_
  refine jw_istore_n (L' := [(1, _), (0, _)]) hC dX1_firstWrong_1 rfl (by decide) rfl ?_
  refine jw_iconst hC dX1_firstWrong_2 ?_
  refine jw_istore_n (L' := [(2, _), (1, _), (0, _)]) hC dX1_firstWrong_3 rfl (by decide) rfl ?_
  refine jw_iconst hC dX1_firstWrong_4 ?_
  refine jw_istore_n (L' := [(3, _), (2, _), (1, _), (0, _)]) hC dX1_firstWrong_5 rfl (by decide) rfl ?_
  refine jw_loc (L' := [(0, _), (1, _), (2, _), (3, _)]) [3, 2, 1, 0] rfl ?_
  exact K6 42 0 0 0 (by omega) (by omega) (by omega) rfl rfl (fun i hi => by omega)
set_option maxRecDepth 100000 in
set_option maxHeartbeats 4000000 in
theorem c_X1_tellsDie (l : Launch) (E : ewE) (M : ewM) (hl : 0 ≤ M 81 1 ∧ M 81 1 ≤ 40) : Ct l E yX1_tellsDie (.code yX1_tellsDie cX1_tellsDie 1 (some .boolean)) 3 [vR E 81] M (fun v M1 => ∃ x : Int, f_fw (M 82) (M 81 1) x ∧ v = some (vI (if 0 < M 81 1 ∧ x = M 81 1 ∧ M 82 (M 81 1 - 1) ≠ 47 then 1 else 0)) ∧ M = M1) := by
  refine ct_of (L0 := [(0, vR E 81)]) (by decide +kernel) rfl (Nat.le_of_ble_eq_true rfl) ?_
  intro zp ze zs zm za zb zt zc zA hC
  obtain ⟨x, hx⟩ : ∃ x : Int, f_fw (M 82) (M 81 1) x := by
    have key : ∀ n : Nat, ∃ x : Int, f_fw (M 82) n x := by
      intro n
      induction n with
      | zero => exact ⟨0, Int.le_refl _, Int.le_refl _, fun i hi => by omega, fun h => by omega⟩
      | succ n ih =>
        obtain ⟨x, h1, h2, h3, h4⟩ := ih
        by_cases hxn : x < n
        · exact ⟨x, h1, by omega, h3, fun _ => h4 hxn⟩
        · by_cases hz : f_er (M 82) n
          · exact ⟨x, h1, by omega, h3, fun _ => by rw [show x.toNat = n by omega]; exact hz⟩
          · exact ⟨x + 1, by omega, by omega, fun i hi => by
              by_cases h9 : i = n
              · rw [h9]; exact hz
              · exact h3 i (by omega), fun h => by omega⟩
    have := key (M 81 1).toNat
    rwa [show (((M 81 1).toNat : Nat) : Int) = M 81 1 by omega] at this
  have hx1 := hx.1
  have hx2 := hx.2.1
  refine jw_aload_n hC dX1_tellsDie_0 0 rfl rfl ?_
  refine jw_geti hC fL_X1_15.r ewF_d1 (kI := 1) rfl dX1_tellsDie_1 (by omega) (fun b1 c1 => ?_)
  refine jw_if_le (tgt := 47) hC dX1_tellsDie_4 (by decide) (by omega) (by omega) (fun h4 => ?_) (fun h4 => ?_)
  · skip
    refine jw_iconst hC dX1_tellsDie_47 ?_
    refine jw_zret hC (by omega) dX1_tellsDie_48 ?_
    refine ⟨x, hx, ?_, rfl⟩
    first | (exfalso; omega) | rw [if_pos (by omega)] | rw [if_neg (by omega)]
  · skip
    refine jw_aload_n hC dX1_tellsDie_7 0 rfl rfl ?_
    refine jw_geti hC fL_X1_15.r ewF_d1 (kI := 1) rfl dX1_tellsDie_8 (by omega) (fun b8 c8 => ?_)
    refine jw_bipush hC dX1_tellsDie_11 (by decide) ?_
    refine jw_icmp_gt (tgt := 47) hC dX1_tellsDie_13 (by decide) (by omega) (by omega) (by omega) (by omega) (fun h13 => ?_) (fun h13 => ?_)
    · skip
      refine jw_iconst hC dX1_tellsDie_47 ?_
      refine jw_zret hC (by omega) dX1_tellsDie_48 ?_
      refine ⟨x, hx, ?_, rfl⟩
      first | (exfalso; omega) | rw [if_pos (by omega)] | rw [if_neg (by omega)]
    · skip
      refine jw_aload_n hC dX1_tellsDie_16 0 rfl rfl ?_
      refine jw_callV hC (c_X1_firstWrong l E M hl) sV_X1_23 ewF_d1.o dX1_tellsDie_17 rfl rfl ⟨Nat.le_of_ble_eq_true rfl, Nat.le_of_ble_eq_true rfl⟩ ⟨Nat.zero_le _, Nat.zero_le _⟩ (Nat.le_of_ble_eq_true rfl) (fun v17 M17 g17 => ?_)
      obtain ⟨x2, hx9, rfl, rfl⟩ := g17
      have e9 := f_fw_u hx hx9
      subst e9
      refine jw_aload_n hC dX1_tellsDie_20 0 rfl rfl ?_
      refine jw_geti hC fL_X1_15.r ewF_d1 (kI := 1) rfl dX1_tellsDie_21 (by omega) (fun b21 c21 => ?_)
      refine jw_icmp_ne (tgt := 47) hC dX1_tellsDie_24 (by decide) (by omega) (by omega) (by omega) (by omega) (fun h24 => ?_) (fun h24 => ?_)
      · skip
        refine jw_iconst hC dX1_tellsDie_47 ?_
        refine jw_zret hC (by omega) dX1_tellsDie_48 ?_
        refine ⟨x, hx, ?_, rfl⟩
        first | (exfalso; omega) | rw [if_pos (by omega)] | rw [if_neg (by omega)]
      · skip
        refine jw_aload_n hC dX1_tellsDie_27 0 rfl rfl ?_
        refine jw_getr hC fL_X1_9 ewR_d0 dX1_tellsDie_28 ?_
        refine jw_aload_n hC dX1_tellsDie_31 0 rfl rfl ?_
        refine jw_geti hC fL_X1_15.r ewF_d1 (kI := 1) rfl dX1_tellsDie_32 (by omega) (fun b32 c32 => ?_)
        refine jw_iconst hC dX1_tellsDie_35 ?_
        refine jw_isub hC dX1_tellsDie_36 ?_
        refine jw_iald hC ewA_82 dX1_tellsDie_37 (by omega) (by omega) (by decide) (fun b37 c37 => ?_)
        refine jw_bipush hC dX1_tellsDie_38 (by decide) ?_
        refine jw_icmp_eq (tgt := 47) hC dX1_tellsDie_40 (by decide) (by omega) (by omega) (by omega) (by omega) (fun h40 => ?_) (fun h40 => ?_)
        · skip
          refine jw_iconst hC dX1_tellsDie_47 ?_
          refine jw_zret hC (by omega) dX1_tellsDie_48 ?_
          refine ⟨x, hx, ?_, rfl⟩
          first | (exfalso; omega) | rw [if_pos (by omega)] | rw [if_neg (by omega)]
        · skip
          refine jw_iconst hC dX1_tellsDie_43 ?_
          refine jw_goto (tgt := 48) hC dX1_tellsDie_44 (by decide) ?_
          refine jw_zret hC (by omega) dX1_tellsDie_48 ?_
          refine ⟨x, hx, ?_, rfl⟩
          first | (exfalso; omega) | rw [if_pos (by omega)] | rw [if_neg (by omega)]
set_option maxRecDepth 100000 in
set_option maxHeartbeats 4000000 in
theorem c_J7_rangeCheck_23922 (l : Launch) (E : ewE) (M : ewM) (a b c : Int) (ha : -2147483648 ≤ a ∧ a < 2147483648) (hb : 0 ≤ b) (hbc : b ≤ c) (hc : c ≤ a) : Ct l E yJ7_rangeCheck_23922 (.code yJ7_rangeCheck_23922 cJ7_rangeCheck_23922 3 none) 1 [vI a, vI b, vI c] M (fun v M1 => v = none ∧ M = M1) := by
  refine ct_of (L0 := [(0, vI a), (1, vI b), (2, vI c)]) (by decide +kernel) rfl (Nat.le_of_ble_eq_true rfl) ?_
  intro zp ze zs zm za zb zt zc zA hC
  refine jw_iload_n hC dJ7_rangeCheck_23922_0 1 rfl rfl ?_
  refine jw_iload_n hC dJ7_rangeCheck_23922_1 2 rfl rfl ?_
  refine jw_icmp_le (tgt := 46) hC dJ7_rangeCheck_23922_2 (by decide) (by omega) (by omega) (by omega) (by omega) (fun h2 => ?_) (fun h2 => ?_)
  · skip
    refine jw_iload_n hC dJ7_rangeCheck_23922_46 1 rfl rfl ?_
    refine jw_if_ge (tgt := 59) hC dJ7_rangeCheck_23922_47 (by decide) (by omega) (by omega) (fun h47 => ?_) (fun h47 => ?_)
    · skip
      refine jw_iload_n hC dJ7_rangeCheck_23922_59 2 rfl rfl ?_
      refine jw_iload_n hC dJ7_rangeCheck_23922_60 0 rfl rfl ?_
      refine jw_icmp_le (tgt := 73) hC dJ7_rangeCheck_23922_61 (by decide) (by omega) (by omega) (by omega) (by omega) (fun h61 => ?_) (fun h61 => ?_)
      · skip
        refine jw_vret hC dJ7_rangeCheck_23922_73 ?_
        exact ⟨rfl, rfl⟩
      · skip
        exfalso; omega
    · skip
      exfalso; omega
  · skip
    exfalso; omega
set_option maxRecDepth 100000 in
set_option maxHeartbeats 4000000 in
theorem c_J7_fill_fda19 (l : Launch) (E : ewE) (M : ewM) (o n : Nat) (hA : ewA o 0 n) (hn : n < 1000000) (a b x : Int) (ha : 0 ≤ a) (hab : a ≤ b) (hb : b ≤ n) (h1 : -2147483648 ≤ x) (h2 : x < 2147483648) : Ct l E yJ7_fill_fda19 (.code yJ7_fill_fda19 cJ7_fill_fda19 5 none) 2 [vR E o, vI a, vI b, vI x] M (fun v M1 => v = none ∧ ∃ g : Int → Int, M1 = mset M o g ∧ ∀ q : Int, g q = if a ≤ q ∧ q < b then x else M o q) := by
  refine ct_of (L0 := [(0, vR E o), (1, vI a), (2, vI b), (3, vI x)]) (by decide +kernel) rfl (Nat.le_of_ble_eq_true rfl) ?_
  intro zp ze zs zm za zb zt zc zA hC
  have K10 : ∀ (f : Nat) (k : Int) (g : Int → Int), b - k < f → a ≤ k → k ≤ b → (∀ q : Int, g q = if a ≤ q ∧ q < k then x else M o q) → jJ zp l ze (ct_rm 2) zs zm za zb zt zc E zA 5 0 0 (MQ zb (ct_Q E zA (fun v M1 => v = none ∧ ∃ g : Int → Int, M1 = mset M o g ∧ ∀ q : Int, g q = if a ≤ q ∧ q < b then x else M o q)) za zs 0 0 zA) 10 [(0, vR E o), (1, vI a), (2, vI b), (3, vI x), (4, vI k)] [] (mset M o g) := by
    intro f
    induction f with
    | zero => intros; omega
    | succ f ih =>
      intro k g i1 i2 i3 hg
      refine jw_iload hC dJ7_fill_fda19_10 4 rfl ?_
      refine jw_iload_n hC dJ7_fill_fda19_12 2 rfl rfl ?_
      refine jw_icmp_ge (tgt := 27) hC dJ7_fill_fda19_13 (by decide) (by omega) (by omega) (by omega) (by omega) (fun h13 => ?_) (fun h13 => ?_)
      · skip
        refine jw_vret hC dJ7_fill_fda19_27 ?_
        refine ⟨rfl, g, rfl, fun q => ?_⟩
        rw [show b = k by omega]
        exact hg q
      · skip
        refine jw_aload_n hC dJ7_fill_fda19_16 0 rfl rfl ?_
        refine jw_iload hC dJ7_fill_fda19_17 4 rfl ?_
        refine jw_iload_n hC dJ7_fill_fda19_19 3 rfl rfl ?_
        refine jw_iast hC hA dJ7_fill_fda19_20 (by omega) (by omega) (by omega) (by omega) (by omega) ?_
        refine jw_iinc (L' := [(4, _), (0, _), (1, _), (2, _), (3, _)]) hC dJ7_fill_fda19_21 4 rfl (by decide) rfl ?_
        refine jw_goto (tgt := 10) hC dJ7_fill_fda19_24 (by decide) ?_
        refine jw_loc (L' := [(0, _), (1, _), (2, _), (3, _), (4, _)]) [1, 2, 3, 4, 0] rfl ?_
        refine jw_M (mu_mset _ _ _ _ _) ?_
        exact ih _ _ (by omega) (by omega) (by omega) (fun q => by
          by_cases hq : q = k
          · rw [if_pos hq, if_pos (by omega)]
          · rw [if_neg hq, hg q]
            by_cases h9 : a ≤ q ∧ q < k
            · rw [if_pos h9, if_pos (by omega)]
            · rw [if_neg h9, if_neg (by omega)])
  refine jw_aload_n hC dJ7_fill_fda19_0 0 rfl rfl ?_
  refine jw_alen hC hA (Or.inl rfl) dJ7_fill_fda19_1 ?_
  refine jw_iload_n hC dJ7_fill_fda19_2 1 rfl rfl ?_
  refine jw_iload_n hC dJ7_fill_fda19_3 2 rfl rfl ?_
  refine jw_callS hC (c_J7_rangeCheck_23922 l E M _ _ _ ⟨by omega, by omega⟩ ha hab hb) sS_J7_13 dJ7_fill_fda19_4 rfl rfl ⟨Nat.le_of_ble_eq_true rfl, Nat.le_of_ble_eq_true rfl⟩ ⟨Nat.zero_le _, Nat.zero_le _⟩ (Nat.le_of_ble_eq_true rfl) (fun v4 M4 g4 => ?_)
  obtain ⟨rfl, rfl⟩ := g4
  refine jw_iload_n hC dJ7_fill_fda19_7 1 rfl rfl ?_
  refine jw_istore (L' := [(4, _), (0, _), (1, _), (2, _), (3, _)]) hC dJ7_fill_fda19_8 (by decide) rfl ?_
  refine jw_loc (L' := [(0, _), (1, _), (2, _), (3, _), (4, _)]) [1, 2, 3, 4, 0] rfl ?_
  refine jw_M (M2 := mset M o (M o)) (mset_id (fun _ => rfl)).symm ?_
  exact K10 (n + 1) a (M o) (by omega) (by omega) (by omega) (fun q => by rw [if_neg (by omega)])
set_option maxRecDepth 100000 in
set_option maxHeartbeats 4000000 in
theorem c_X1_readInto (l : Launch) (E : ewE) (M : ewM) (hl : 0 ≤ M 81 1 ∧ M 81 1 ≤ 40) (j : Nat) (hj : j < 9) (a : Int) (ha : 0 ≤ a ∧ a < 3) (he : ∀ i : Nat, (i : Int) < M 81 1 → ¬ f_er (M 82) i) : Ct l E yX1_readInto (.code yX1_readInto cX1_readInto 6 none) 3 [vR E 81, vR E (50 + 3 * j), vI a] M (fun v M1 => v = none ∧ M1 = mset M (50 + 3 * j + 1) (fun q => if a * 25 ≤ q ∧ q < a * 25 + 25 then f_rp (M 82) (M 81 1).toNat (q - a * 25) else M (50 + 3 * j + 1) q)) := by
  refine ct_of (L0 := [(0, vR E 81), (1, vR E (50 + 3 * j)), (2, vI a)]) (by decide +kernel) rfl (Nat.le_of_ble_eq_true rfl) ?_
  intro zp ze zs zm za zb zt zc zA hC
  have K26 : ∀ (n : Nat) (k row col : Int), M 81 1 - k < n → 0 ≤ k → k ≤ M 81 1 → row = f_tr_ (M 82) k.toNat → col = f_tc_ (M 82) k.toNat → jJ zp l ze (ct_rm 3) zs zm za zb zt zc E zA 6 0 0 (MQ zb (ct_Q E zA (fun v M1 => v = none ∧ M1 = mset M (50 + 3 * j + 1) (fun q => if a * 25 ≤ q ∧ q < a * 25 + 25 then f_rp (M 82) (M 81 1).toNat (q - a * 25) else M (50 + 3 * j + 1) q))) za zs 0 0 zA) 26 [(0, vR E 81), (1, vR E (50 + 3 * j)), (2, vI a), (3, vI row), (4, vI col), (5, vI k)] [] (mset M (50 + 3 * j + 1) (fun q => if a * 25 ≤ q ∧ q < a * 25 + 25 then f_rp (M 82) k.toNat (q - a * 25) else M (50 + 3 * j + 1) q)) := by
    intro n
    induction n with
    | zero => intros; omega
    | succ n ih =>
      intro k row col i1 i2 i3 hr hcl
      have hb := f_tb_ (cd := M 82) k.toNat (fun i hi => he i (by omega))
      rw [← hr, ← hcl] at hb
      have hst := f_t_s (M 82) i2
      have hrp := f_rp_s (M 82) i2
      rw [← hr, ← hcl] at hst hrp
      refine jw_iload hC dX1_readInto_26 5 rfl ?_
      refine jw_aload_n hC dX1_readInto_28 0 rfl rfl ?_
      refine jw_geti hC fL_X1_15.r ewF_d1 (kI := 1) rfl dX1_readInto_29 (by omega) (fun b29 c29 => ?_)
      rw [mset_ne M _ (show 81 ≠ 50 + 3 * j + 1 by omega)] at b29 c29 ⊢
      refine jw_icmp_ge (tgt := 103) hC dX1_readInto_32 (by decide) (by omega) (by omega) (by omega) (by omega) (fun h32 => ?_) (fun h32 => ?_)
      · skip
        refine jw_vret hC dX1_readInto_103 ?_
        have e9 : k = M 81 1 := by omega
        rw [e9]
        exact ⟨rfl, rfl⟩
      · skip
        refine jw_iload hC dX1_readInto_35 5 rfl ?_
        refine jw_bipush hC dX1_readInto_37 (by decide) ?_
        refine jw_icmp_ge (tgt := 103) hC dX1_readInto_39 (by decide) (by omega) (by omega) (by omega) (by omega) (fun h39 => ?_) (fun h39 => ?_)
        · skip
          refine jw_vret hC dX1_readInto_103 ?_
          have e9 : k = M 81 1 := by omega
          rw [e9]
          exact ⟨rfl, rfl⟩
        · skip
          refine jw_aload_n hC dX1_readInto_42 0 rfl rfl ?_
          refine jw_getr hC fL_X1_9 ewR_d0 dX1_readInto_43 ?_
          refine jw_iload hC dX1_readInto_46 5 rfl ?_
          refine jw_iald hC ewA_82 dX1_readInto_48 (by omega) (by omega) (by decide) (fun b48 c48 => ?_)
          rw [mset_ne M _ (show 82 ≠ 50 + 3 * j + 1 by omega)] at b48 c48 ⊢
          refine jw_bipush hC dX1_readInto_49 (by decide) ?_
          refine jw_icmp_ne (tgt := 63) hC dX1_readInto_51 (by decide) (by omega) (by omega) (by omega) (by omega) (fun h51 => ?_) (fun h51 => ?_)
          · skip
            have hek : ¬ (¬ f_sg (M 82 k) ∨ col = 5) := fun z => he k.toNat (by omega) ((f_er_k i2).mpr (by rw [if_neg (by omega), ← hcl]; exact z))
            have hsg : f_sg (M 82 k) := Decidable.by_contra (fun z => hek (Or.inl z))
            have hc5 : col ≠ 5 := fun z => hek (Or.inr z)
            refine jw_iload hC dX1_readInto_63 4 rfl ?_
            refine jw_iload_n hC dX1_readInto_65 3 rfl rfl ?_
            refine jw_callSn hC (c_X4_isPoint l E _ _ _ (by omega) (by omega) (by omega) (by omega)) sN_X1_38 dX1_readInto_66 rfl rfl ⟨Nat.le_of_ble_eq_true rfl, Nat.le_of_ble_eq_true rfl⟩ ⟨Nat.zero_le _, Nat.zero_le _⟩ (Nat.le_of_ble_eq_true rfl) (fun v66 M66 g66 => ?_)
            obtain ⟨rfl, rfl⟩ := g66
            rw [if_pos (by omega)]
            refine jw_if_eq (tgt := 97) hC dX1_readInto_69 (by decide) (by omega) (by omega) (fun h69 => ?_) (fun h69 => ?_)
            · skip
              exfalso; omega
            · skip
              refine jw_aload_n hC dX1_readInto_72 1 rfl rfl ?_
              refine jw_getr hC fL_X1_27 (ewR_t0 (j := j) (by omega)) dX1_readInto_73 ?_
              refine jw_iload_n hC dX1_readInto_76 2 rfl rfl ?_
              refine jw_iload hC dX1_readInto_77 4 rfl ?_
              refine jw_iload_n hC dX1_readInto_79 3 rfl rfl ?_
              refine jw_callSn hC (c_X4_pointIndex l E _ _ _ _) sN_X1_42 dX1_readInto_80 rfl rfl ⟨Nat.le_of_ble_eq_true rfl, Nat.le_of_ble_eq_true rfl⟩ ⟨Nat.zero_le _, Nat.zero_le _⟩ (Nat.le_of_ble_eq_true rfl) (fun v80 M80 g80 => ?_)
              obtain ⟨rfl, rfl⟩ := g80
              refine jw_aload_n hC dX1_readInto_83 0 rfl rfl ?_
              refine jw_getr hC fL_X1_9 ewR_d0 dX1_readInto_84 ?_
              refine jw_iload hC dX1_readInto_87 5 rfl ?_
              refine jw_iald hC ewA_82 dX1_readInto_89 (by omega) (by omega) (by decide) (fun b89 c89 => ?_)
              rw [mset_ne M _ (show 82 ≠ 50 + 3 * j + 1 by omega)] at b89 c89 ⊢
              refine jw_callS hC (c_X1_depthOfSign l E _ _ (by omega) (by omega)) sS_X1_46 dX1_readInto_90 rfl rfl ⟨Nat.le_of_ble_eq_true rfl, Nat.le_of_ble_eq_true rfl⟩ ⟨Nat.zero_le _, Nat.zero_le _⟩ (Nat.le_of_ble_eq_true rfl) (fun v90 M90 g90 => ?_)
              obtain ⟨rfl, rfl⟩ := g90
              refine jw_iast hC (ewA_points (j := j) (by omega)) dX1_readInto_93 (by omega) (by omega) (by decide) (by have := f_ds_b hsg; omega) (by have := f_ds_b hsg; omega) ?_
              refine jw_iinc (L' := [(4, _), (0, _), (1, _), (2, _), (3, _), (5, _)]) hC dX1_readInto_94 4 rfl (by decide) rfl ?_
              refine jw_iinc (L' := [(5, _), (4, _), (0, _), (1, _), (2, _), (3, _)]) hC dX1_readInto_97 5 rfl (by decide) rfl ?_
              refine jw_goto (tgt := 26) hC dX1_readInto_100 (by decide) ?_
              refine jw_loc (L' := [(0, _), (1, _), (2, _), (3, _), (4, _), (5, _)]) [2, 3, 4, 5, 1, 0] rfl ?_
              first
              | (refine jw_M (M2 := mset M (50 + 3 * j + 1) (fun q => if a * 25 ≤ q ∧ q < a * 25 + 25 then f_rp (M 82) (k + 1).toNat (q - a * 25) else M (50 + 3 * j + 1) q)) (by rw [hrp, if_pos (by omega)]) ?_
                 exact ih _ _ _ (by omega) (by omega) (by omega) (by rw [hst.1, if_pos (by omega)]) (by rw [hst.2, if_pos (by omega)]))
              | (refine jw_M (mu_mset _ _ _ _ _) ?_
                 refine jw_M (M2 := mset M (50 + 3 * j + 1) (fun q => if a * 25 ≤ q ∧ q < a * 25 + 25 then f_rp (M 82) (k + 1).toNat (q - a * 25) else M (50 + 3 * j + 1) q)) (by
                   congr 1
                   funext q
                   have hrp2 := hrp
                   rw [if_neg (by omega)] at hrp2
                   rw [hrp2]
                   by_cases hq : q = a * 25 + row * 5 + col
                   · rw [if_pos hq, if_pos (by omega)]
                     dsimp only
                     rw [if_pos (by omega)]
                   · rw [if_neg hq]
                     by_cases h9 : a * 25 ≤ q ∧ q < a * 25 + 25
                     · rw [if_pos h9, if_pos h9]
                       dsimp only
                       rw [if_neg (by omega)]
                     · rw [if_neg h9, if_neg h9]) ?_
                 exact ih _ _ _ (by omega) (by omega) (by omega) (by rw [hst.1, if_neg (by omega)]) (by rw [hst.2, if_neg (by omega)]))
          · skip
            refine jw_iinc (L' := [(3, _), (0, _), (1, _), (2, _), (4, _), (5, _)]) hC dX1_readInto_54 3 rfl (by decide) rfl ?_
            refine jw_iconst hC dX1_readInto_57 ?_
            refine jw_istore (L' := [(4, _), (3, _), (0, _), (1, _), (2, _), (5, _)]) hC dX1_readInto_58 (by decide) rfl ?_
            refine jw_goto (tgt := 97) hC dX1_readInto_60 (by decide) ?_
            refine jw_iinc (L' := [(5, _), (4, _), (3, _), (0, _), (1, _), (2, _)]) hC dX1_readInto_97 5 rfl (by decide) rfl ?_
            refine jw_goto (tgt := 26) hC dX1_readInto_100 (by decide) ?_
            refine jw_loc (L' := [(0, _), (1, _), (2, _), (3, _), (4, _), (5, _)]) [3, 4, 5, 2, 1, 0] rfl ?_
            first
            | (refine jw_M (M2 := mset M (50 + 3 * j + 1) (fun q => if a * 25 ≤ q ∧ q < a * 25 + 25 then f_rp (M 82) (k + 1).toNat (q - a * 25) else M (50 + 3 * j + 1) q)) (by rw [hrp, if_pos (by omega)]) ?_
               exact ih _ _ _ (by omega) (by omega) (by omega) (by rw [hst.1, if_pos (by omega)]) (by rw [hst.2, if_pos (by omega)]))
            | (refine jw_M (mu_mset _ _ _ _ _) ?_
               refine jw_M (M2 := mset M (50 + 3 * j + 1) (fun q => if a * 25 ≤ q ∧ q < a * 25 + 25 then f_rp (M 82) (k + 1).toNat (q - a * 25) else M (50 + 3 * j + 1) q)) (by
                 congr 1
                 funext q
                 have hrp2 := hrp
                 rw [if_neg (by omega)] at hrp2
                 rw [hrp2]
                 by_cases hq : q = a * 25 + row * 5 + col
                 · rw [if_pos hq, if_pos (by omega)]
                   dsimp only
                   rw [if_pos (by omega)]
                 · rw [if_neg hq]
                   by_cases h9 : a * 25 ≤ q ∧ q < a * 25 + 25
                   · rw [if_pos h9, if_pos h9]
                     dsimp only
                     rw [if_neg (by omega)]
                   · rw [if_neg h9, if_neg h9]) ?_
               exact ih _ _ _ (by omega) (by omega) (by omega) (by rw [hst.1, if_neg (by omega)]) (by rw [hst.2, if_neg (by omega)]))
  refine jw_aload_n hC dX1_readInto_0 1 rfl rfl ?_
  refine jw_getr hC fL_X1_27 (ewR_t0 (j := j) (by omega)) dX1_readInto_1 ?_
  refine jw_iload_n hC dX1_readInto_4 2 rfl rfl ?_
  refine jw_bipush hC dX1_readInto_5 (by decide) ?_
  refine jw_imul hC dX1_readInto_7 ?_
  refine jw_iload_n hC dX1_readInto_8 2 rfl rfl ?_
  refine jw_iconst hC dX1_readInto_9 ?_
  refine jw_iadd hC dX1_readInto_10 ?_
  refine jw_bipush hC dX1_readInto_11 (by decide) ?_
  refine jw_imul hC dX1_readInto_13 ?_
  refine jw_iconst hC dX1_readInto_14 ?_
  refine jw_callS hC (c_J7_fill_fda19 l E M _ _ (ewA_points (j := j) (by omega)) (by decide) _ _ 0 (by omega) (by omega) (by omega) (by decide) (by decide)) sS_X1_32 dX1_readInto_15 rfl rfl ⟨Nat.le_of_ble_eq_true rfl, Nat.le_of_ble_eq_true rfl⟩ ⟨Nat.zero_le _, Nat.zero_le _⟩ (Nat.le_of_ble_eq_true rfl) (fun v15 M15 g15 => ?_)
  obtain ⟨rfl, g, rfl, hg⟩ := g15
  refine jw_iconst hC dX1_readInto_18 ?_
  refine jw_istore_n (L' := [(3, _), (0, _), (1, _), (2, _)]) hC dX1_readInto_19 rfl (by decide) rfl ?_
  refine jw_iconst hC dX1_readInto_20 ?_
  refine jw_istore (L' := [(4, _), (3, _), (0, _), (1, _), (2, _)]) hC dX1_readInto_21 (by decide) rfl ?_
  refine jw_iconst hC dX1_readInto_23 ?_
  refine jw_istore (L' := [(5, _), (4, _), (3, _), (0, _), (1, _), (2, _)]) hC dX1_readInto_24 (by decide) rfl ?_
  refine jw_loc (L' := [(0, _), (1, _), (2, _), (3, _), (4, _), (5, _)]) [3, 4, 5, 2, 1, 0] rfl ?_
  refine jw_M (M2 := mset M (50 + 3 * j + 1) (fun q => if a * 25 ≤ q ∧ q < a * 25 + 25 then f_rp (M 82) (0 : Int).toNat (q - a * 25) else M (50 + 3 * j + 1) q)) (by congr 1; funext q; rw [hg q, show (a + 1) * 25 = a * 25 + 25 by omega]; rfl) ?_
  exact K26 42 0 0 0 (by omega) (by omega) (by omega) rfl rfl
