/-! THE DIGESTS -/
/-- the digest's parts, of the class -/
def aH2 (M : ewM) : Int := f_h (M 52) 4 (f_h (f_num M) 14 3319)
def aH3 (M : ewM) : Int := f_h (M 51) 75 (aH2 M)
def aH4 (M : ewM) : Int := f_h (fun q => f_prop M (q / 7) (q % 7)) 1008 (aH3 M)
def aH5 (M : ewM) : Int := f_h (fun q => if q % 4 = 0 then a_ans M (f_rel (M 51) (q / 4) 0) 3 4 else if q % 4 = 1 then f_bs (fun k => a_ans M (f_rel (M 51) (q / 4) 0) (k % 12) (k / 12)) 144 else if q % 4 = 2 then f_lt (M 51) (q / 4) 0 8 0 else f_need (f_rel (M 51) (q / 4) 0) (3 + M 50 3) 4 (M 1) (M 3) (M 52 1) (M 52 2)) 12 (aH4 M)
def aH7 (M : ewM) : Int := 31 * f_h (fun q => f_fc (M 1) (M 3) (q + 1) (M 52 0) (M 52 1)) 11 (aH5 M) + f_fr (fun q => f_fc (M 1) (M 3) q (M 52 0) (M 52 1)) 10
def aH8 (M : ewM) : Int := 31 * aH7 M + ((f_sh (144 - f_sum (M 3) 144)).toNat : Int)
def a_dig (M : ewM) : Int := f_h (M 82) (M 81 1).toNat (31 * f_h (M 79) 2 (aH8 M) + M 81 1)
/-- .. of the reference -/
def gH1 (f : Int → Int) (sm : Int) : Int := f_h (g_num f sm) 14 3319
def gH2 (f : Int → Int) (sm : Int) : Int := f_h f 4 (gH1 f sm)
def gH3 (f : Int → Int) (sm : Int) : Int := f_h (fun q => f (16 + q)) 75 (gH2 f sm)
def gH4 (f : Int → Int) (sm : Int) : Int := f_h (fun q => g_prop f (12 * (q / 7 / 12) + q / 7 % 12) (q % 7)) 1008 (gH3 f sm)
def gH5 (f : Int → Int) (sm : Int) : Int := f_h (fun q => g_die f (q / 4) (q % 4)) 12 (gH4 f sm)
def gH6 (f : Int → Int) (sm : Int) : Int := f_h (fun q => f_fc (vD f) (vC f) (q + 1) (f 0) (f 1)) 11 (gH5 f sm)
def gH7 (f : Int → Int) (sm : Int) : Int := 31 * gH6 f sm + f_fr (fun q => f_fc (vD f) (vC f) q (f 0) (f 1)) 10
def gH8 (f : Int → Int) (sm : Int) : Int := 31 * gH7 f sm + ((f_sh (144 - f_sum (vC f) 144)).toNat : Int)
def gH9 (M : ewM) : Int := 31 * f_h (M 93) 2 (gH8 (M 89) (M 88 4)) + M 88 8
def g_dig (M : ewM) : Int := f_h (M 94) (M 88 8).toNat (gH9 M)
theorem f_h_z (vals : Int → Int) (h : Int) : f_h vals (0 : Int).toNat h = h := rfl
theorem g_die_s (f : Int → Int) {k : Int} (h0 : 0 ≤ k) (H : Int) : f_h (fun q => g_die f (q / 4) (q % 4)) (4 * (k + 1)).toNat H = f_h (g_die f k) 4 (f_h (fun q => g_die f (q / 4) (q % 4)) (4 * k).toNat H) := by
  rw [show (4 * (k + 1)).toNat = (4 * k + 1 + 1 + 1 + 1).toNat by omega, f_h_s _ (by omega), f_h_s _ (by omega), f_h_s _ (by omega), f_h_s _ (by omega), g_die_h]
  rw [show (4 * k + 1 + 1 + 1) / 4 = k by omega, show (4 * k + 1 + 1 + 1) % 4 = 3 by omega, show (4 * k + 1 + 1) / 4 = k by omega, show (4 * k + 1 + 1) % 4 = 2 by omega, show (4 * k + 1) / 4 = k by omega, show (4 * k + 1) % 4 = 1 by omega, show 4 * k / 4 = k by omega, show 4 * k % 4 = 0 by omega]
/-- the reference's world where its digest begins -/
def gB (M : ewM) : ewM := mu (mu M 88 0 0) 88 13 3319
theorem gB_o (M : ewM) {o : Nat} (h : o ≠ 88) : gB M o = M o := by unfold gB; rw [mu_ne _ _ _ h, mu_ne _ _ _ h]
theorem gB_k (M : ewM) {k : Int} (h0 : k ≠ 0) (h1 : k ≠ 13) : gB M 88 k = M 88 k := by unfold gB; rw [mu_nk _ _ _ h1, mu_nk _ _ _ h0]
theorem hs_89 {M M1 : ewM} {H : Int} (h : hs_ (gB M) M1 H) : M1 89 = M 89 := (h.2.2 89 (by decide) (by decide) (by decide)).trans (gB_o M (by decide))
theorem hs_o {M M1 : ewM} {H : Int} (h : hs_ (gB M) M1 H) {o : Nat} (h1 : o ≠ 88) (h2 : o ≠ 90) (h3 : o ≠ 95) : M1 o = M o := (h.2.2 o h1 h2 h3).trans (gB_o M h1)
theorem hs_88 {M M1 : ewM} {H : Int} (h : hs_ (gB M) M1 H) {k : Int} (h0 : k ≠ 0) (h1 : k ≠ 13) : M1 88 k = M 88 k := (h.2.1 k h1).trans (gB_k M h0 h1)
theorem hs_e {M M1 : ewM} {H G : Int} (h : hs_ M M1 H) (e : H = G) : hs_ M M1 G := e ▸ h
set_option maxRecDepth 100000 in
set_option maxHeartbeats 4000000 in
theorem c_X4_digest (l : Launch) (E : ewE) (M : ewM) (h0 : st0 M) (hl : 0 ≤ M 81 1 ∧ M 81 1 ≤ 40) (hz : ∀ q : Int, M 79 q = 0 ∨ M 79 q = 1) : Ct l E yX4_digest (.code yX4_digest cX4_digest 3 (some .long)) 7 [vR E 77] M (fun v M1 => v = some (vJ (a_dig M)) ∧ lk M M1) := by
  refine ct_of (L0 := [(0, vR E 77)]) (by decide +kernel) rfl (Nat.le_of_ble_eq_true rfl) ?_
  intro zp ze zs zm za zb zt zc zA hC
  have hb := f_sum_C h0.2.1
  refine jw_aload_n hC dX4_digest_0 0 rfl rfl ?_
  refine jw_ldc2 (n := 3319) hC dX4_digest_1 w2_92 ?_
  refine jw_callV hC (c_X4_mixNumbers l E M h0 _) sV_X4_280 ewF_x4.o dX4_digest_4 rfl rfl ⟨Nat.le_of_ble_eq_true rfl, Nat.le_of_ble_eq_true rfl⟩ ⟨Nat.zero_le _, Nat.zero_le _⟩ (Nat.le_of_ble_eq_true rfl) (fun v4 M4 g4 => ?_)
  obtain ⟨rfl, rfl⟩ := g4
  refine jw_lstore_n (L' := [(1, _), (0, _)]) hC dX4_digest_7 rfl (by decide) rfl ?_
  refine jw_aload_n hC dX4_digest_8 1 rfl rfl ?_
  refine jw_lload_n hC dX4_digest_9 0 rfl rfl ?_
  refine jw_callV hC (c_X4_mixDies l E M h0 _) sV_X4_284 ewF_x4.o dX4_digest_10 rfl rfl ⟨Nat.le_of_ble_eq_true rfl, Nat.le_of_ble_eq_true rfl⟩ ⟨Nat.zero_le _, Nat.zero_le _⟩ (Nat.le_of_ble_eq_true rfl) (fun v10 M10 g10 => ?_)
  obtain ⟨rfl, rfl⟩ := g10
  refine jw_lstore_n (L' := [(1, _), (0, _)]) hC dX4_digest_13 rfl (by decide) rfl ?_
  refine jw_aload_n hC dX4_digest_14 1 rfl rfl ?_
  refine jw_lload_n hC dX4_digest_15 0 rfl rfl ?_
  refine jw_callV hC (c_X4_mixPlaces l E M h0 _) sV_X4_287 ewF_x4.o dX4_digest_16 rfl rfl ⟨Nat.le_of_ble_eq_true rfl, Nat.le_of_ble_eq_true rfl⟩ ⟨Nat.zero_le _, Nat.zero_le _⟩ (Nat.le_of_ble_eq_true rfl) (fun v16 M16 g16 => ?_)
  obtain ⟨rfl, rfl⟩ := g16
  refine jw_lstore_n (L' := [(1, _), (0, _)]) hC dX4_digest_19 rfl (by decide) rfl ?_
  refine jw_aload_n hC dX4_digest_20 1 rfl rfl ?_
  refine jw_lload_n hC dX4_digest_21 0 rfl rfl ?_
  refine jw_callV hC (c_X4_mixLooks l E M h0 _) sV_X4_290 ewF_x4.o dX4_digest_22 rfl rfl ⟨Nat.le_of_ble_eq_true rfl, Nat.le_of_ble_eq_true rfl⟩ ⟨Nat.zero_le _, Nat.zero_le _⟩ (Nat.le_of_ble_eq_true rfl) (fun v22 M22 g22 => ?_)
  obtain ⟨rfl, k22⟩ := g22
  have e3 : M22 3 = M 3 := k22 3 (by omega)
  have e79 : M22 79 = M 79 := k22 79 (by omega)
  have e81 : M22 81 = M 81 := k22 81 (by omega)
  have e82 : M22 82 = M 82 := k22 82 (by omega)
  refine jw_lstore_n (L' := [(1, _), (0, _)]) hC dX4_digest_25 rfl (by decide) rfl ?_
  refine jw_lload_n hC dX4_digest_26 0 rfl rfl ?_
  refine jw_aload_n hC dX4_digest_27 1 rfl rfl ?_
  refine jw_callV hC (c_X4_wholeShare l E M22 (lk_st0 k22 h0)) sV_X4_293 ewF_x4.o dX4_digest_28 rfl rfl ⟨Nat.le_of_ble_eq_true rfl, Nat.le_of_ble_eq_true rfl⟩ ⟨Nat.zero_le _, Nat.zero_le _⟩ (Nat.le_of_ble_eq_true rfl) (fun v28 M28 g28 => ?_)
  obtain ⟨rfl, rfl⟩ := g28
  rw [e3]
  refine jw_callS hC (c_X4_bitsOfShare l E M22 _ (f_all_n (by omega) (by omega))) sS_X4_297 dX4_digest_31 rfl rfl ⟨Nat.le_of_ble_eq_true rfl, Nat.le_of_ble_eq_true rfl⟩ ⟨Nat.zero_le _, Nat.zero_le _⟩ (Nat.le_of_ble_eq_true rfl) (fun v31 M31 g31 => ?_)
  obtain ⟨rfl, rfl⟩ := g31
  refine jw_callS hC (c_X4_mix l E _ _ _) sS_X4_301 dX4_digest_34 rfl rfl ⟨Nat.le_of_ble_eq_true rfl, Nat.le_of_ble_eq_true rfl⟩ ⟨Nat.zero_le _, Nat.zero_le _⟩ (Nat.le_of_ble_eq_true rfl) (fun v34 M34 g34 => ?_)
  obtain ⟨rfl, rfl⟩ := g34
  refine jw_lstore_n (L' := [(1, _), (0, _)]) hC dX4_digest_37 rfl (by decide) rfl ?_
  refine jw_aload_n hC dX4_digest_38 1 rfl rfl ?_
  refine jw_lload_n hC dX4_digest_39 0 rfl rfl ?_
  refine jw_callV hC (c_X4_mixSlotsAndBuffer l E M22 (by rw [e81]; exact hl) (by rw [e79]; exact hz) _) sV_X4_305 ewF_x4.o dX4_digest_40 rfl rfl ⟨Nat.le_of_ble_eq_true rfl, Nat.le_of_ble_eq_true rfl⟩ ⟨Nat.zero_le _, Nat.zero_le _⟩ (Nat.le_of_ble_eq_true rfl) (fun v40 M40 g40 => ?_)
  obtain ⟨rfl, rfl⟩ := g40
  rw [e79, e81, e82]
  refine jw_lret hC dX4_digest_43 ?_
  exact ⟨rfl, k22⟩
set_option maxRecDepth 100000 in
set_option maxHeartbeats 4000000 in
theorem c_X5_digest (l : Launch) (E : ewE) (M : ewM) (h0 : svI (M 89)) (hl : 0 ≤ M 88 8 ∧ M 88 8 ≤ 40) (hz : ∀ q : Int, M 93 q = 0 ∨ M 93 q = 1) : Ct l E yX5_digest (.code yX5_digest cX5_digest 2 (some .long)) 10 [vR E 88] M (fun v M1 => v = some (vJ (g_dig M)) ∧ M1 88 0 = 0 ∧ (∀ k : Int, k ≠ 0 → k ≠ 13 → M1 88 k = M 88 k) ∧ ∀ o : Nat, o ≠ 88 → o ≠ 90 → o ≠ 95 → M1 o = M o) := by
  refine ct_of (L0 := [(0, vR E 88)]) (by decide +kernel) rfl (Nat.le_of_ble_eq_true rfl) ?_
  intro zp ze zs zm za zb zt zc zA hC
  have hz0 := hz 0
  have hz1 := hz 1
  obtain ⟨p1, p2, p3, p4, p5, p6, p7, p8, p9, pf⟩ := id h0
  have hb := f_sum_C p2
  have K239 : ∀ (n : Nat) (k : Int) (M1 : ewM), (M 88 8) - k < n → 0 ≤ k → k ≤ (M 88 8) → hs_ (gB M) M1 (f_h (M 94) (k).toNat (gH9 M)) → jJ zp l ze (ct_rm 10) zs zm za zb zt zc E zA 2 0 0 (MQ zb (ct_Q E zA (fun v M1 => v = some (vJ (g_dig M)) ∧ M1 88 0 = 0 ∧ (∀ k : Int, k ≠ 0 → k ≠ 13 → M1 88 k = M 88 k) ∧ ∀ o : Nat, o ≠ 88 → o ≠ 90 → o ≠ 95 → M1 o = M o)) za zs 0 0 zA) 239 [(0, vR E 88), (1, vI k)] [] M1 := by
    intro n
    induction n with
    | zero => intros; omega
    | succ n ih =>
      intro k M1 i1 i2 i3 hs
      have e89 := hs_89 hs
      have e8 := hs_88 (k := 8) hs (by decide) (by decide)
      have e94 := hs_o (o := 94) hs (by decide) (by decide) (by decide)
      refine jw_iload_n hC dX5_digest_239 1 rfl rfl ?_
      refine jw_aload_n hC dX5_digest_240 0 rfl rfl ?_
      refine jw_geti hC fL_X5_122.r ewF_m8 (kI := 8) rfl dX5_digest_241 (by omega) (fun b241 c241 => ?_)
      rw [e8] at b241 c241 ⊢
      refine jw_icmp_ge (tgt := 264) hC dX5_digest_244 (by decide) (by omega) (by omega) (by omega) (by omega) (fun h244 => ?_) (fun h244 => ?_)
      · skip
        refine jw_aload_n hC dX5_digest_264 0 rfl rfl ?_
        refine jw_getj hC fL_X5_201.r dX5_digest_265 ?_
        refine jw_lret hC dX5_digest_268 ?_
        have e9 : k = M 88 8 := by omega
        subst e9
        exact ⟨by rw [hs.1]; rfl, (hs.2.1 0 (by decide)).trans (by unfold gB; rw [mu_nk _ _ _ (by decide), mu_eq]), fun k k0 k1 => hs_88 hs k0 k1, fun o o1 o2 o3 => hs_o hs o1 o2 o3⟩
      · skip
        refine jw_aload_n hC dX5_digest_247 0 rfl rfl ?_
        refine jw_aload_n hC dX5_digest_248 0 rfl rfl ?_
        refine jw_getr hC fL_X5_26 ewR_m7 dX5_digest_249 ?_
        refine jw_iload_n hC dX5_digest_252 1 rfl rfl ?_
        refine jw_iald hC ewA_94 dX5_digest_253 (by omega) (by omega) (by decide) (fun b253 c253 => ?_)
        rw [e94] at b253 c253 ⊢
        refine jw_i2l hC dX5_digest_254 (by omega) (by omega) ?_
        refine jw_callV hC (c_X5_hashes l E _ _) sV_X5_205 ewF_m0.o dX5_digest_255 rfl rfl ⟨Nat.le_of_ble_eq_true rfl, Nat.le_of_ble_eq_true rfl⟩ ⟨Nat.zero_le _, Nat.zero_le _⟩ (Nat.le_of_ble_eq_true rfl) (fun v255 M255 g255 => ?_)
        obtain ⟨rfl, rfl⟩ := g255
        refine jw_iinc (L' := [(1, _), (0, _)]) hC dX5_digest_258 1 rfl (by decide) rfl ?_
        refine jw_goto (tgt := 239) hC dX5_digest_261 (by decide) ?_
        refine jw_loc (L' := [(0, _), (1, _)]) [1, 0] rfl ?_
        exact ih (k + 1) _ (by omega) (by omega) (by omega) (hs_e (hs_s hs _) (f_h_s _ (by omega) _).symm)
  have K150 : ∀ (n : Nat) (k : Int) (M1 : ewM), 12 - k < n → 1 ≤ k → k ≤ 12 → hs_ (gB M) M1 (f_h (fun q => f_fc (vD (M 89)) (vC (M 89)) (q + 1) (M 89 0) (M 89 1)) (k - 1).toNat (gH5 (M 89) (M 88 4))) → jJ zp l ze (ct_rm 10) zs zm za zb zt zc E zA 2 0 0 (MQ zb (ct_Q E zA (fun v M1 => v = some (vJ (g_dig M)) ∧ M1 88 0 = 0 ∧ (∀ k : Int, k ≠ 0 → k ≠ 13 → M1 88 k = M 88 k) ∧ ∀ o : Nat, o ≠ 88 → o ≠ 90 → o ≠ 95 → M1 o = M o)) za zs 0 0 zA) 150 [(0, vR E 88), (1, vI k)] [] M1 := by
    intro n
    induction n with
    | zero => intros; omega
    | succ n ih =>
      intro k M1 i1 i2 i3 hs
      have e89 := hs_89 hs
      refine jw_iload_n hC dX5_digest_150 1 rfl rfl ?_
      refine jw_bipush hC dX5_digest_151 (by decide) ?_
      refine jw_icmp_ge (tgt := 172) hC dX5_digest_153 (by decide) (by omega) (by omega) (by omega) (by omega) (fun h153 => ?_) (fun h153 => ?_)
      · skip
        refine jw_aload_n hC dX5_digest_172 0 rfl rfl ?_
        refine jw_aload_n hC dX5_digest_173 0 rfl rfl ?_
        have e9 : k = 12 := by omega
        subst e9
        have hs : hs_ (gB M) M1 (gH6 (M 89) (M 88 4)) := hs
        refine jw_callV hC (c_X5_best l E M1 (by rw [e89]; exact h0)) sV_X5_181 ewF_m0.o dX5_digest_174 rfl rfl ⟨Nat.le_of_ble_eq_true rfl, Nat.le_of_ble_eq_true rfl⟩ ⟨Nat.zero_le _, Nat.zero_le _⟩ (Nat.le_of_ble_eq_true rfl) (fun v174 M174 g174 => ?_)
        obtain ⟨rfl, k9⟩ := g174
        have hs2 := hs_k hs k9
        rw [e89]
        have hfb := f_fr_b (fun q => f_fc (vD (M 89)) (vC (M 89)) q (M 89 0) (M 89 1)) 10
        refine jw_i2l hC dX5_digest_177 (by omega) (by omega) ?_
        refine jw_callV hC (c_X5_hashes l E M174 _) sV_X5_205 ewF_m0.o dX5_digest_178 rfl rfl ⟨Nat.le_of_ble_eq_true rfl, Nat.le_of_ble_eq_true rfl⟩ ⟨Nat.zero_le _, Nat.zero_le _⟩ (Nat.le_of_ble_eq_true rfl) (fun v178 M178 g178 => ?_)
        obtain ⟨rfl, rfl⟩ := g178
        have hs4 : hs_ (gB M) _ (gH7 (M 89) (M 88 4)) := hs_s hs2 _
        generalize mu M174 88 13 _ = M4 at hs4 ⊢
        have d89 := hs_89 hs4
        refine jw_aload_n hC dX5_digest_181 0 rfl rfl ?_
        refine jw_aload_n hC dX5_digest_182 0 rfl rfl ?_
        refine jw_callV hC (c_X5_share l E M4 (by rw [d89]; exact h0)) sV_X5_195 ewF_m0.o dX5_digest_183 rfl rfl ⟨Nat.le_of_ble_eq_true rfl, Nat.le_of_ble_eq_true rfl⟩ ⟨Nat.zero_le _, Nat.zero_le _⟩ (Nat.le_of_ble_eq_true rfl) (fun v183 M183 g183 => ?_)
        obtain ⟨rfl, rfl⟩ := g183
        rw [d89]
        refine jw_callS hC (c_Jxe99ae_doubleToLongBits_ccdee l E M4 _ (f_all_n (by omega) (by omega))) sS_X5_214 dX5_digest_186 rfl rfl ⟨Nat.le_of_ble_eq_true rfl, Nat.le_of_ble_eq_true rfl⟩ ⟨Nat.zero_le _, Nat.zero_le _⟩ (Nat.le_of_ble_eq_true rfl) (fun v186 M186 g186 => ?_)
        obtain ⟨rfl, rfl⟩ := g186
        refine jw_callV hC (c_X5_hashes l E M4 _) sV_X5_205 ewF_m0.o dX5_digest_189 rfl rfl ⟨Nat.le_of_ble_eq_true rfl, Nat.le_of_ble_eq_true rfl⟩ ⟨Nat.zero_le _, Nat.zero_le _⟩ (Nat.le_of_ble_eq_true rfl) (fun v189 M189 g189 => ?_)
        obtain ⟨rfl, rfl⟩ := g189
        have hs6 : hs_ (gB M) _ (gH8 (M 89) (M 88 4)) := hs_s hs4 _
        generalize mu M4 88 13 _ = M6 at hs6 ⊢
        have d93 := hs_o (o := 93) hs6 (by decide) (by decide) (by decide)
        have d8 := hs_88 (k := 8) hs6 (by decide) (by decide)
        refine jw_aload_n hC dX5_digest_192 0 rfl rfl ?_
        refine jw_aload_n hC dX5_digest_193 0 rfl rfl ?_
        refine jw_getr hC fL_X5_22 ewR_m6 dX5_digest_194 ?_
        refine jw_iconst hC dX5_digest_197 ?_
        refine jw_zald hC ewA_93 dX5_digest_198 (by omega) (by omega) (by decide) (fun b198 c198 => ?_)
        rw [d93] at b198 c198 ⊢
        refine jw_if_eq (tgt := 206) hC dX5_digest_199 (by decide) (by omega) (by omega) (fun h199 => ?_) (fun h199 => ?_)
        · skip
          refine jw_lconst (v := 0) hC dX5_digest_206 rfl ?_
          refine jw_callV hC (c_X5_hashes l E _ _) sV_X5_205 ewF_m0.o dX5_digest_207 rfl rfl ⟨Nat.le_of_ble_eq_true rfl, Nat.le_of_ble_eq_true rfl⟩ ⟨Nat.zero_le _, Nat.zero_le _⟩ (Nat.le_of_ble_eq_true rfl) (fun v207 M207 g207 => ?_)
          obtain ⟨rfl, rfl⟩ := g207
          refine jw_aload_n hC dX5_digest_210 0 rfl rfl ?_
          refine jw_aload_n hC dX5_digest_211 0 rfl rfl ?_
          refine jw_getr hC fL_X5_22 ewR_m6 dX5_digest_212 ?_
          refine jw_iconst hC dX5_digest_215 ?_
          refine jw_zald hC ewA_93 dX5_digest_216 (by omega) (by omega) (by decide) (fun b216 c216 => ?_)
          rw [mu_ne _ _ _ (by decide), d93] at b216 c216 ⊢
          refine jw_if_eq (tgt := 224) hC dX5_digest_217 (by decide) (by omega) (by omega) (fun h217 => ?_) (fun h217 => ?_)
          · skip
            refine jw_lconst (v := 0) hC dX5_digest_224 rfl ?_
            refine jw_callV hC (c_X5_hashes l E _ _) sV_X5_205 ewF_m0.o dX5_digest_225 rfl rfl ⟨Nat.le_of_ble_eq_true rfl, Nat.le_of_ble_eq_true rfl⟩ ⟨Nat.zero_le _, Nat.zero_le _⟩ (Nat.le_of_ble_eq_true rfl) (fun v225 M225 g225 => ?_)
            obtain ⟨rfl, rfl⟩ := g225
            refine jw_aload_n hC dX5_digest_228 0 rfl rfl ?_
            refine jw_aload_n hC dX5_digest_229 0 rfl rfl ?_
            refine jw_geti hC fL_X5_122.r ewF_m8 (kI := 8) rfl dX5_digest_230 (by omega) (fun b230 c230 => ?_)
            rw [mu_nk _ _ _ (by decide), mu_nk _ _ _ (by decide), d8] at b230 c230 ⊢
            refine jw_i2l hC dX5_digest_233 (by omega) (by omega) ?_
            refine jw_callV hC (c_X5_hashes l E _ _) sV_X5_205 ewF_m0.o dX5_digest_234 rfl rfl ⟨Nat.le_of_ble_eq_true rfl, Nat.le_of_ble_eq_true rfl⟩ ⟨Nat.zero_le _, Nat.zero_le _⟩ (Nat.le_of_ble_eq_true rfl) (fun v234 M234 g234 => ?_)
            obtain ⟨rfl, rfl⟩ := g234
            refine jw_iconst hC dX5_digest_237 ?_
            refine jw_istore_n (L' := [(1, _), (0, _)]) hC dX5_digest_238 rfl (by decide) rfl ?_
            refine jw_loc (L' := [(0, _), (1, _)]) [1, 0] rfl ?_
            refine K239 41 0 _ (by omega) (by omega) (by omega) (hs_e (hs_s (hs_s (hs_s hs6 _) _) _) ?_)
            rw [f_h_z]
            unfold gH9
            rw [show f_h (M 93) 2 (gH8 (M 89) (M 88 4)) = 31 * (31 * gH8 (M 89) (M 88 4) + M 93 0) + M 93 1 from rfl, show M 93 0 = 0 by omega, show M 93 1 = 0 by omega]
          · skip
            refine jw_lconst (v := 1) hC dX5_digest_220 rfl ?_
            refine jw_goto (tgt := 225) hC dX5_digest_221 (by decide) ?_
            refine jw_callV hC (c_X5_hashes l E _ _) sV_X5_205 ewF_m0.o dX5_digest_225 rfl rfl ⟨Nat.le_of_ble_eq_true rfl, Nat.le_of_ble_eq_true rfl⟩ ⟨Nat.zero_le _, Nat.zero_le _⟩ (Nat.le_of_ble_eq_true rfl) (fun v225 M225 g225 => ?_)
            obtain ⟨rfl, rfl⟩ := g225
            refine jw_aload_n hC dX5_digest_228 0 rfl rfl ?_
            refine jw_aload_n hC dX5_digest_229 0 rfl rfl ?_
            refine jw_geti hC fL_X5_122.r ewF_m8 (kI := 8) rfl dX5_digest_230 (by omega) (fun b230 c230 => ?_)
            rw [mu_nk _ _ _ (by decide), mu_nk _ _ _ (by decide), d8] at b230 c230 ⊢
            refine jw_i2l hC dX5_digest_233 (by omega) (by omega) ?_
            refine jw_callV hC (c_X5_hashes l E _ _) sV_X5_205 ewF_m0.o dX5_digest_234 rfl rfl ⟨Nat.le_of_ble_eq_true rfl, Nat.le_of_ble_eq_true rfl⟩ ⟨Nat.zero_le _, Nat.zero_le _⟩ (Nat.le_of_ble_eq_true rfl) (fun v234 M234 g234 => ?_)
            obtain ⟨rfl, rfl⟩ := g234
            refine jw_iconst hC dX5_digest_237 ?_
            refine jw_istore_n (L' := [(1, _), (0, _)]) hC dX5_digest_238 rfl (by decide) rfl ?_
            refine jw_loc (L' := [(0, _), (1, _)]) [1, 0] rfl ?_
            refine K239 41 0 _ (by omega) (by omega) (by omega) (hs_e (hs_s (hs_s (hs_s hs6 _) _) _) ?_)
            rw [f_h_z]
            unfold gH9
            rw [show f_h (M 93) 2 (gH8 (M 89) (M 88 4)) = 31 * (31 * gH8 (M 89) (M 88 4) + M 93 0) + M 93 1 from rfl, show M 93 0 = 0 by omega, show M 93 1 = 1 by omega]
        · skip
          refine jw_lconst (v := 1) hC dX5_digest_202 rfl ?_
          refine jw_goto (tgt := 207) hC dX5_digest_203 (by decide) ?_
          refine jw_callV hC (c_X5_hashes l E _ _) sV_X5_205 ewF_m0.o dX5_digest_207 rfl rfl ⟨Nat.le_of_ble_eq_true rfl, Nat.le_of_ble_eq_true rfl⟩ ⟨Nat.zero_le _, Nat.zero_le _⟩ (Nat.le_of_ble_eq_true rfl) (fun v207 M207 g207 => ?_)
          obtain ⟨rfl, rfl⟩ := g207
          refine jw_aload_n hC dX5_digest_210 0 rfl rfl ?_
          refine jw_aload_n hC dX5_digest_211 0 rfl rfl ?_
          refine jw_getr hC fL_X5_22 ewR_m6 dX5_digest_212 ?_
          refine jw_iconst hC dX5_digest_215 ?_
          refine jw_zald hC ewA_93 dX5_digest_216 (by omega) (by omega) (by decide) (fun b216 c216 => ?_)
          rw [mu_ne _ _ _ (by decide), d93] at b216 c216 ⊢
          refine jw_if_eq (tgt := 224) hC dX5_digest_217 (by decide) (by omega) (by omega) (fun h217 => ?_) (fun h217 => ?_)
          · skip
            refine jw_lconst (v := 0) hC dX5_digest_224 rfl ?_
            refine jw_callV hC (c_X5_hashes l E _ _) sV_X5_205 ewF_m0.o dX5_digest_225 rfl rfl ⟨Nat.le_of_ble_eq_true rfl, Nat.le_of_ble_eq_true rfl⟩ ⟨Nat.zero_le _, Nat.zero_le _⟩ (Nat.le_of_ble_eq_true rfl) (fun v225 M225 g225 => ?_)
            obtain ⟨rfl, rfl⟩ := g225
            refine jw_aload_n hC dX5_digest_228 0 rfl rfl ?_
            refine jw_aload_n hC dX5_digest_229 0 rfl rfl ?_
            refine jw_geti hC fL_X5_122.r ewF_m8 (kI := 8) rfl dX5_digest_230 (by omega) (fun b230 c230 => ?_)
            rw [mu_nk _ _ _ (by decide), mu_nk _ _ _ (by decide), d8] at b230 c230 ⊢
            refine jw_i2l hC dX5_digest_233 (by omega) (by omega) ?_
            refine jw_callV hC (c_X5_hashes l E _ _) sV_X5_205 ewF_m0.o dX5_digest_234 rfl rfl ⟨Nat.le_of_ble_eq_true rfl, Nat.le_of_ble_eq_true rfl⟩ ⟨Nat.zero_le _, Nat.zero_le _⟩ (Nat.le_of_ble_eq_true rfl) (fun v234 M234 g234 => ?_)
            obtain ⟨rfl, rfl⟩ := g234
            refine jw_iconst hC dX5_digest_237 ?_
            refine jw_istore_n (L' := [(1, _), (0, _)]) hC dX5_digest_238 rfl (by decide) rfl ?_
            refine jw_loc (L' := [(0, _), (1, _)]) [1, 0] rfl ?_
            refine K239 41 0 _ (by omega) (by omega) (by omega) (hs_e (hs_s (hs_s (hs_s hs6 _) _) _) ?_)
            rw [f_h_z]
            unfold gH9
            rw [show f_h (M 93) 2 (gH8 (M 89) (M 88 4)) = 31 * (31 * gH8 (M 89) (M 88 4) + M 93 0) + M 93 1 from rfl, show M 93 0 = 1 by omega, show M 93 1 = 0 by omega]
          · skip
            refine jw_lconst (v := 1) hC dX5_digest_220 rfl ?_
            refine jw_goto (tgt := 225) hC dX5_digest_221 (by decide) ?_
            refine jw_callV hC (c_X5_hashes l E _ _) sV_X5_205 ewF_m0.o dX5_digest_225 rfl rfl ⟨Nat.le_of_ble_eq_true rfl, Nat.le_of_ble_eq_true rfl⟩ ⟨Nat.zero_le _, Nat.zero_le _⟩ (Nat.le_of_ble_eq_true rfl) (fun v225 M225 g225 => ?_)
            obtain ⟨rfl, rfl⟩ := g225
            refine jw_aload_n hC dX5_digest_228 0 rfl rfl ?_
            refine jw_aload_n hC dX5_digest_229 0 rfl rfl ?_
            refine jw_geti hC fL_X5_122.r ewF_m8 (kI := 8) rfl dX5_digest_230 (by omega) (fun b230 c230 => ?_)
            rw [mu_nk _ _ _ (by decide), mu_nk _ _ _ (by decide), d8] at b230 c230 ⊢
            refine jw_i2l hC dX5_digest_233 (by omega) (by omega) ?_
            refine jw_callV hC (c_X5_hashes l E _ _) sV_X5_205 ewF_m0.o dX5_digest_234 rfl rfl ⟨Nat.le_of_ble_eq_true rfl, Nat.le_of_ble_eq_true rfl⟩ ⟨Nat.zero_le _, Nat.zero_le _⟩ (Nat.le_of_ble_eq_true rfl) (fun v234 M234 g234 => ?_)
            obtain ⟨rfl, rfl⟩ := g234
            refine jw_iconst hC dX5_digest_237 ?_
            refine jw_istore_n (L' := [(1, _), (0, _)]) hC dX5_digest_238 rfl (by decide) rfl ?_
            refine jw_loc (L' := [(0, _), (1, _)]) [1, 0] rfl ?_
            refine K239 41 0 _ (by omega) (by omega) (by omega) (hs_e (hs_s (hs_s (hs_s hs6 _) _) _) ?_)
            rw [f_h_z]
            unfold gH9
            rw [show f_h (M 93) 2 (gH8 (M 89) (M 88 4)) = 31 * (31 * gH8 (M 89) (M 88 4) + M 93 0) + M 93 1 from rfl, show M 93 0 = 1 by omega, show M 93 1 = 1 by omega]
      · skip
        refine jw_aload_n hC dX5_digest_156 0 rfl rfl ?_
        refine jw_aload_n hC dX5_digest_157 0 rfl rfl ?_
        refine jw_iload_n hC dX5_digest_158 1 rfl rfl ?_
        refine jw_callV hC (c_X5_wouldFold l E M1 (by rw [e89]; exact h0) k (by omega)) sV_X5_178 ewF_m0.o dX5_digest_159 rfl rfl ⟨Nat.le_of_ble_eq_true rfl, Nat.le_of_ble_eq_true rfl⟩ ⟨Nat.zero_le _, Nat.zero_le _⟩ (Nat.le_of_ble_eq_true rfl) (fun v159 M159 g159 => ?_)
        obtain ⟨rfl, k9⟩ := g159
        have hs2 := hs_k hs k9
        rw [e89]
        have hfb := f_fc_b (d := vD (M 89)) (c := vC (M 89)) k (M 89 0) (M 89 1) p2
        refine jw_i2l hC dX5_digest_162 (by omega) (by omega) ?_
        refine jw_callV hC (c_X5_hashes l E _ _) sV_X5_205 ewF_m0.o dX5_digest_163 rfl rfl ⟨Nat.le_of_ble_eq_true rfl, Nat.le_of_ble_eq_true rfl⟩ ⟨Nat.zero_le _, Nat.zero_le _⟩ (Nat.le_of_ble_eq_true rfl) (fun v163 M163 g163 => ?_)
        obtain ⟨rfl, rfl⟩ := g163
        refine jw_iinc (L' := [(1, _), (0, _)]) hC dX5_digest_166 1 rfl (by decide) rfl ?_
        refine jw_goto (tgt := 150) hC dX5_digest_169 (by decide) ?_
        refine jw_loc (L' := [(0, _), (1, _)]) [1, 0] rfl ?_
        refine ih (k + 1) _ (by omega) (by omega) (by omega) (hs_e (hs_s hs2 _) ?_)
        rw [show k + 1 - 1 = k - 1 + 1 by omega, f_h_s _ (by omega), show k - 1 + 1 = k by omega]
  have K132 : ∀ (n : Nat) (k : Int) (M1 : ewM), 3 - k < n → 0 ≤ k → k ≤ 3 → hs_ (gB M) M1 (f_h (fun q => g_die (M 89) (q / 4) (q % 4)) (4 * k).toNat (gH4 (M 89) (M 88 4))) → jJ zp l ze (ct_rm 10) zs zm za zb zt zc E zA 2 0 0 (MQ zb (ct_Q E zA (fun v M1 => v = some (vJ (g_dig M)) ∧ M1 88 0 = 0 ∧ (∀ k : Int, k ≠ 0 → k ≠ 13 → M1 88 k = M 88 k) ∧ ∀ o : Nat, o ≠ 88 → o ≠ 90 → o ≠ 95 → M1 o = M o)) za zs 0 0 zA) 132 [(0, vR E 88), (1, vI k)] [] M1 := by
    intro n
    induction n with
    | zero => intros; omega
    | succ n ih =>
      intro k M1 i1 i2 i3 hs
      have e89 := hs_89 hs
      refine jw_iload_n hC dX5_digest_132 1 rfl rfl ?_
      refine jw_iconst hC dX5_digest_133 ?_
      refine jw_icmp_ge (tgt := 148) hC dX5_digest_134 (by decide) (by omega) (by omega) (by omega) (by omega) (fun h134 => ?_) (fun h134 => ?_)
      · skip
        refine jw_iconst hC dX5_digest_148 ?_
        refine jw_istore_n (L' := [(1, _), (0, _)]) hC dX5_digest_149 rfl (by decide) rfl ?_
        refine jw_loc (L' := [(0, _), (1, _)]) [1, 0] rfl ?_
        have e9 : k = 3 := by omega
        subst e9
        exact K150 12 1 _ (by omega) (by omega) (by omega) (hs_e hs rfl)
      · skip
        refine jw_aload_n hC dX5_digest_137 0 rfl rfl ?_
        refine jw_iload_n hC dX5_digest_138 1 rfl rfl ?_
        refine jw_callV hC (c_X5_hashesDie l E M1 (by rw [e89]; exact h0) k (by omega)) sV_X5_211 ewF_m0.o dX5_digest_139 rfl rfl ⟨Nat.le_of_ble_eq_true rfl, Nat.le_of_ble_eq_true rfl⟩ ⟨Nat.zero_le _, Nat.zero_le _⟩ (Nat.le_of_ble_eq_true rfl) (fun v139 M139 g139 => ?_)
        obtain ⟨rfl, g9⟩ := g139
        refine jw_iinc (L' := [(1, _), (0, _)]) hC dX5_digest_142 1 rfl (by decide) rfl ?_
        refine jw_goto (tgt := 132) hC dX5_digest_145 (by decide) ?_
        refine jw_loc (L' := [(0, _), (1, _)]) [1, 0] rfl ?_
        refine ih (k + 1) _ (by omega) (by omega) (by omega) (hs_e (hs_tr hs g9) ?_)
        rw [g_die_s _ i2, hs.1, e89]
  have K90 : ∀ (n : Nat) (k : Int) (M1 : ewM), 1008 - k < n → 0 ≤ k → k ≤ 1008 → hs_ (gB M) M1 (f_h (fun q => g_prop (M 89) (12 * (q / 7 / 12) + q / 7 % 12) (q % 7)) (k).toNat (gH3 (M 89) (M 88 4))) → jJ zp l ze (ct_rm 10) zs zm za zb zt zc E zA 2 0 0 (MQ zb (ct_Q E zA (fun v M1 => v = some (vJ (g_dig M)) ∧ M1 88 0 = 0 ∧ (∀ k : Int, k ≠ 0 → k ≠ 13 → M1 88 k = M 88 k) ∧ ∀ o : Nat, o ≠ 88 → o ≠ 90 → o ≠ 95 → M1 o = M o)) za zs 0 0 zA) 90 [(0, vR E 88), (1, vI k)] [] M1 := by
    intro n
    induction n with
    | zero => intros; omega
    | succ n ih =>
      intro k M1 i1 i2 i3 hs
      have e89 := hs_89 hs
      refine jw_iload_n hC dX5_digest_90 1 rfl rfl ?_
      refine jw_sipush hC dX5_digest_91 (by decide) ?_
      refine jw_icmp_ge (tgt := 130) hC dX5_digest_94 (by decide) (by omega) (by omega) (by omega) (by omega) (fun h94 => ?_) (fun h94 => ?_)
      · skip
        refine jw_iconst hC dX5_digest_130 ?_
        refine jw_istore_n (L' := [(1, _), (0, _)]) hC dX5_digest_131 rfl (by decide) rfl ?_
        refine jw_loc (L' := [(0, _), (1, _)]) [1, 0] rfl ?_
        have e9 : k = 1008 := by omega
        subst e9
        exact K132 4 0 _ (by omega) (by omega) (by omega) (hs_e hs rfl)
      · skip
        refine jw_aload_n hC dX5_digest_97 0 rfl rfl ?_
        refine jw_aload_n hC dX5_digest_98 0 rfl rfl ?_
        refine jw_iload_n hC dX5_digest_99 1 rfl rfl ?_
        refine jw_bipush hC dX5_digest_100 (by decide) ?_
        refine jw_idiv hC dX5_digest_102 (by omega) (by omega) (by omega) (by omega) ?_
        refine jw_bipush hC dX5_digest_103 (by decide) ?_
        refine jw_irem hC dX5_digest_105 (by omega) (by omega) (by omega) (by omega) ?_
        refine jw_iload_n hC dX5_digest_106 1 rfl rfl ?_
        refine jw_bipush hC dX5_digest_107 (by decide) ?_
        refine jw_idiv hC dX5_digest_109 (by omega) (by omega) (by omega) (by omega) ?_
        refine jw_bipush hC dX5_digest_110 (by decide) ?_
        refine jw_idiv hC dX5_digest_112 (by omega) (by omega) (by omega) (by omega) ?_
        refine jw_iload_n hC dX5_digest_113 1 rfl rfl ?_
        refine jw_bipush hC dX5_digest_114 (by decide) ?_
        refine jw_irem hC dX5_digest_116 (by omega) (by omega) (by omega) (by omega) ?_
        refine jw_callV hC (c_X5_tellsPlace l E M1 (by rw [e89]; exact h0) (k / 7 % 12) (k / 7 / 12) (by omega) (by omega) (k % 7) (by omega)) sV_X5_146 ewF_m0.o dX5_digest_117 rfl rfl ⟨Nat.le_of_ble_eq_true rfl, Nat.le_of_ble_eq_true rfl⟩ ⟨Nat.zero_le _, Nat.zero_le _⟩ (Nat.le_of_ble_eq_true rfl) (fun v117 M117 g117 => ?_)
        obtain ⟨rfl, ⟨tb1, tb2⟩, rfl⟩ := g117
        rw [e89] at tb1 tb2 ⊢
        refine jw_i2l hC dX5_digest_120 (by omega) (by omega) ?_
        refine jw_callV hC (c_X5_hashes l E _ _) sV_X5_205 ewF_m0.o dX5_digest_121 rfl rfl ⟨Nat.le_of_ble_eq_true rfl, Nat.le_of_ble_eq_true rfl⟩ ⟨Nat.zero_le _, Nat.zero_le _⟩ (Nat.le_of_ble_eq_true rfl) (fun v121 M121 g121 => ?_)
        obtain ⟨rfl, rfl⟩ := g121
        refine jw_iinc (L' := [(1, _), (0, _)]) hC dX5_digest_124 1 rfl (by decide) rfl ?_
        refine jw_goto (tgt := 90) hC dX5_digest_127 (by decide) ?_
        refine jw_loc (L' := [(0, _), (1, _)]) [1, 0] rfl ?_
        exact ih (k + 1) _ (by omega) (by omega) (by omega) (hs_e (hs_s hs _) (f_h_s _ (by omega) _).symm)
  have K62 : ∀ (n : Nat) (k : Int) (M1 : ewM), 75 - k < n → 0 ≤ k → k ≤ 75 → hs_ (gB M) M1 (f_h (fun q => M 89 (16 + q)) (k).toNat (gH2 (M 89) (M 88 4))) → jJ zp l ze (ct_rm 10) zs zm za zb zt zc E zA 2 0 0 (MQ zb (ct_Q E zA (fun v M1 => v = some (vJ (g_dig M)) ∧ M1 88 0 = 0 ∧ (∀ k : Int, k ≠ 0 → k ≠ 13 → M1 88 k = M 88 k) ∧ ∀ o : Nat, o ≠ 88 → o ≠ 90 → o ≠ 95 → M1 o = M o)) za zs 0 0 zA) 62 [(0, vR E 88), (1, vI k)] [] M1 := by
    intro n
    induction n with
    | zero => intros; omega
    | succ n ih =>
      intro k M1 i1 i2 i3 hs
      have e89 := hs_89 hs
      refine jw_iload_n hC dX5_digest_62 1 rfl rfl ?_
      refine jw_bipush hC dX5_digest_63 (by decide) ?_
      refine jw_icmp_ge (tgt := 88) hC dX5_digest_65 (by decide) (by omega) (by omega) (by omega) (by omega) (fun h65 => ?_) (fun h65 => ?_)
      · skip
        refine jw_iconst hC dX5_digest_88 ?_
        refine jw_istore_n (L' := [(1, _), (0, _)]) hC dX5_digest_89 rfl (by decide) rfl ?_
        refine jw_loc (L' := [(0, _), (1, _)]) [1, 0] rfl ?_
        have e9 : k = 75 := by omega
        subst e9
        exact K90 1009 0 _ (by omega) (by omega) (by omega) (hs_e hs rfl)
      · skip
        refine jw_aload_n hC dX5_digest_68 0 rfl rfl ?_
        refine jw_aload_n hC dX5_digest_69 0 rfl rfl ?_
        refine jw_getr hC fL_X5_7 ewR_m1 dX5_digest_70 ?_
        refine jw_bipush hC dX5_digest_73 (by decide) ?_
        refine jw_iload_n hC dX5_digest_75 1 rfl rfl ?_
        refine jw_iadd hC dX5_digest_76 ?_
        refine jw_iald hC ewA_89 dX5_digest_77 (by omega) (by omega) (by decide) (fun b77 c77 => ?_)
        rw [e89] at b77 c77 ⊢
        refine jw_i2l hC dX5_digest_78 (by omega) (by omega) ?_
        refine jw_callV hC (c_X5_hashes l E _ _) sV_X5_205 ewF_m0.o dX5_digest_79 rfl rfl ⟨Nat.le_of_ble_eq_true rfl, Nat.le_of_ble_eq_true rfl⟩ ⟨Nat.zero_le _, Nat.zero_le _⟩ (Nat.le_of_ble_eq_true rfl) (fun v79 M79 g79 => ?_)
        obtain ⟨rfl, rfl⟩ := g79
        refine jw_iinc (L' := [(1, _), (0, _)]) hC dX5_digest_82 1 rfl (by decide) rfl ?_
        refine jw_goto (tgt := 62) hC dX5_digest_85 (by decide) ?_
        refine jw_loc (L' := [(0, _), (1, _)]) [1, 0] rfl ?_
        exact ih (k + 1) _ (by omega) (by omega) (by omega) (hs_e (hs_s hs _) (f_h_s _ (by omega) _).symm)
  have K38 : ∀ (n : Nat) (k : Int) (M1 : ewM), 4 - k < n → 0 ≤ k → k ≤ 4 → hs_ (gB M) M1 (f_h (M 89) (k).toNat (gH1 (M 89) (M 88 4))) → jJ zp l ze (ct_rm 10) zs zm za zb zt zc E zA 2 0 0 (MQ zb (ct_Q E zA (fun v M1 => v = some (vJ (g_dig M)) ∧ M1 88 0 = 0 ∧ (∀ k : Int, k ≠ 0 → k ≠ 13 → M1 88 k = M 88 k) ∧ ∀ o : Nat, o ≠ 88 → o ≠ 90 → o ≠ 95 → M1 o = M o)) za zs 0 0 zA) 38 [(0, vR E 88), (1, vI k)] [] M1 := by
    intro n
    induction n with
    | zero => intros; omega
    | succ n ih =>
      intro k M1 i1 i2 i3 hs
      have e89 := hs_89 hs
      refine jw_iload_n hC dX5_digest_38 1 rfl rfl ?_
      refine jw_iconst hC dX5_digest_39 ?_
      refine jw_icmp_ge (tgt := 60) hC dX5_digest_40 (by decide) (by omega) (by omega) (by omega) (by omega) (fun h40 => ?_) (fun h40 => ?_)
      · skip
        refine jw_iconst hC dX5_digest_60 ?_
        refine jw_istore_n (L' := [(1, _), (0, _)]) hC dX5_digest_61 rfl (by decide) rfl ?_
        refine jw_loc (L' := [(0, _), (1, _)]) [1, 0] rfl ?_
        have e9 : k = 4 := by omega
        subst e9
        exact K62 76 0 _ (by omega) (by omega) (by omega) (hs_e hs rfl)
      · skip
        refine jw_aload_n hC dX5_digest_43 0 rfl rfl ?_
        refine jw_aload_n hC dX5_digest_44 0 rfl rfl ?_
        refine jw_getr hC fL_X5_7 ewR_m1 dX5_digest_45 ?_
        refine jw_iload_n hC dX5_digest_48 1 rfl rfl ?_
        refine jw_iald hC ewA_89 dX5_digest_49 (by omega) (by omega) (by decide) (fun b49 c49 => ?_)
        rw [e89] at b49 c49 ⊢
        refine jw_i2l hC dX5_digest_50 (by omega) (by omega) ?_
        refine jw_callV hC (c_X5_hashes l E _ _) sV_X5_205 ewF_m0.o dX5_digest_51 rfl rfl ⟨Nat.le_of_ble_eq_true rfl, Nat.le_of_ble_eq_true rfl⟩ ⟨Nat.zero_le _, Nat.zero_le _⟩ (Nat.le_of_ble_eq_true rfl) (fun v51 M51 g51 => ?_)
        obtain ⟨rfl, rfl⟩ := g51
        refine jw_iinc (L' := [(1, _), (0, _)]) hC dX5_digest_54 1 rfl (by decide) rfl ?_
        refine jw_goto (tgt := 38) hC dX5_digest_57 (by decide) ?_
        refine jw_loc (L' := [(0, _), (1, _)]) [1, 0] rfl ?_
        exact ih (k + 1) _ (by omega) (by omega) (by omega) (hs_e (hs_s hs _) (f_h_s _ (by omega) _).symm)
  have K14 : ∀ (n : Nat) (k : Int) (M1 : ewM), 14 - k < n → 0 ≤ k → k ≤ 14 → hs_ (gB M) M1 (f_h (g_num (M 89) (M 88 4)) (k).toNat (3319)) → jJ zp l ze (ct_rm 10) zs zm za zb zt zc E zA 2 0 0 (MQ zb (ct_Q E zA (fun v M1 => v = some (vJ (g_dig M)) ∧ M1 88 0 = 0 ∧ (∀ k : Int, k ≠ 0 → k ≠ 13 → M1 88 k = M 88 k) ∧ ∀ o : Nat, o ≠ 88 → o ≠ 90 → o ≠ 95 → M1 o = M o)) za zs 0 0 zA) 14 [(0, vR E 88), (1, vI k)] [] M1 := by
    intro n
    induction n with
    | zero => intros; omega
    | succ n ih =>
      intro k M1 i1 i2 i3 hs
      have e89 := hs_89 hs
      have e4 := hs_88 (k := 4) hs (by decide) (by decide)
      refine jw_iload_n hC dX5_digest_14 1 rfl rfl ?_
      refine jw_bipush hC dX5_digest_15 (by decide) ?_
      refine jw_icmp_ge (tgt := 36) hC dX5_digest_17 (by decide) (by omega) (by omega) (by omega) (by omega) (fun h17 => ?_) (fun h17 => ?_)
      · skip
        refine jw_iconst hC dX5_digest_36 ?_
        refine jw_istore_n (L' := [(1, _), (0, _)]) hC dX5_digest_37 rfl (by decide) rfl ?_
        refine jw_loc (L' := [(0, _), (1, _)]) [1, 0] rfl ?_
        have e9 : k = 14 := by omega
        subst e9
        exact K38 5 0 _ (by omega) (by omega) (by omega) (hs_e hs rfl)
      · skip
        refine jw_aload_n hC dX5_digest_20 0 rfl rfl ?_
        refine jw_aload_n hC dX5_digest_21 0 rfl rfl ?_
        refine jw_iload_n hC dX5_digest_22 1 rfl rfl ?_
        refine jw_callV hC (c_X5_tellsCount l E M1 (by rw [e89]; exact h0) k (by omega)) sV_X5_162 ewF_m0.o dX5_digest_23 rfl rfl ⟨Nat.le_of_ble_eq_true rfl, Nat.le_of_ble_eq_true rfl⟩ ⟨Nat.zero_le _, Nat.zero_le _⟩ (Nat.le_of_ble_eq_true rfl) (fun v23 M23 g23 => ?_)
        obtain ⟨rfl, ⟨tb1, tb2⟩, rfl⟩ := g23
        rw [e89, e4] at tb1 tb2 ⊢
        refine jw_i2l hC dX5_digest_26 (by omega) (by omega) ?_
        refine jw_callV hC (c_X5_hashes l E _ _) sV_X5_205 ewF_m0.o dX5_digest_27 rfl rfl ⟨Nat.le_of_ble_eq_true rfl, Nat.le_of_ble_eq_true rfl⟩ ⟨Nat.zero_le _, Nat.zero_le _⟩ (Nat.le_of_ble_eq_true rfl) (fun v27 M27 g27 => ?_)
        obtain ⟨rfl, rfl⟩ := g27
        refine jw_iinc (L' := [(1, _), (0, _)]) hC dX5_digest_30 1 rfl (by decide) rfl ?_
        refine jw_goto (tgt := 14) hC dX5_digest_33 (by decide) ?_
        refine jw_loc (L' := [(0, _), (1, _)]) [1, 0] rfl ?_
        exact ih (k + 1) _ (by omega) (by omega) (by omega) (hs_e (hs_s hs _) (f_h_s _ (by omega) _).symm)
  refine jw_aload_n hC dX5_digest_0 0 rfl rfl ?_
  refine jw_iconst hC dX5_digest_1 ?_
  refine jw_puti hC fL_X5_35 ewF_m0 (kI := 0) rfl dX5_digest_2 (by omega) (by omega) ?_
  refine jw_aload_n hC dX5_digest_5 0 rfl rfl ?_
  refine jw_ldc2 (n := 3319) hC dX5_digest_6 w6_176 ?_
  refine jw_putj hC fL_X5_201 dX5_digest_9 ?_
  refine jw_iconst hC dX5_digest_12 ?_
  refine jw_istore_n (L' := [(1, _), (0, _)]) hC dX5_digest_13 rfl (by decide) rfl ?_
  refine jw_loc (L' := [(0, _), (1, _)]) [1, 0] rfl ?_
  exact K14 15 0 _ (by omega) (by omega) (by omega) ⟨rfl, fun _ _ => rfl, fun _ _ _ _ => rfl⟩
