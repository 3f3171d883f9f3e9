/-! THE CLASS: set, texts, snapshots, undo -/
theorem g_bnd (k : Nat) : (0 ≤ g_least k ∧ g_least k ≤ 1) ∧ 9 ≤ g_great k ∧ g_great k ≤ 99 := by
  unfold g_least g_great
  split <;> split <;> (try split) <;> omega
set_option maxRecDepth 100000 in
set_option maxHeartbeats 4000000 in
theorem c_X4_set (l : Launch) (hfl : l.stackTraces = false) (E : ewE) (M : ewM) (q4 : 0 ≤ M 77 4 ∧ M 77 4 ≤ 5) (q5 : 0 ≤ M 77 5 ∧ M 77 5 ≤ 6) (a : Int) (a1 : -2147483648 ≤ a) (a2 : a < 2147483648) (x : Int) (x1 : -2147483648 ≤ x) (x2 : x < 2147483648) : Cx l E yX4_set (.code yX4_set cX4_set 4 (some .int)) 9 [vR E 77, vI a, vI x] M (fun v M1 => ((0 ≤ a ∧ a < 4) ∧ (g_least a.toNat ≤ x ∧ x ≤ g_great a.toNat)) ∧ ∃ N : ewM, svc M N ∧ v = some (vI (M 52 a)) ∧ M1 = mu N 52 a x) (fun C => (C = xIO ∧ ¬ (0 ≤ a ∧ a < 4)) ∨ (C = xIA ∧ (0 ≤ a ∧ a < 4) ∧ ¬ (g_least a.toNat ≤ x ∧ x ≤ g_great a.toNat))) := by
  refine cx_of (L0 := [(0, vR E 77), (1, vI a), (2, vI x)]) (by decide +kernel) rfl (Nat.le_of_ble_eq_true rfl) ?_
  intro zp ze zs zm za zb zt zc zA hC hT
  have hz4 := ite_z (0 ≤ a ∧ a < 4)
  have hgb := g_bnd a.toNat
  refine jw_iload_n hC dX4_set_0 1 rfl rfl ?_
  refine jw_callS hC (c_X4_isSetting l E _ _ (by omega) (by omega)) sS_X4_182 dX4_set_1 rfl rfl ⟨Nat.le_of_ble_eq_true rfl, Nat.le_of_ble_eq_true rfl⟩ ⟨Nat.zero_le _, Nat.zero_le _⟩ (Nat.le_of_ble_eq_true rfl) (fun v1 M1 g1 => ?_)
  obtain ⟨rfl, rfl⟩ := g1
  refine jw_if_ne (tgt := 17) hC dX4_set_4 (by decide) (by omega) (by omega) (fun h4 => ?_) (fun h4 => ?_)
  · skip
    have z4 := ite_1 (C := 0 ≤ a ∧ a < 4) h4
    refine jw_iload_n hC dX4_set_17 2 rfl rfl ?_
    refine jw_gets_least hC w3_151 dX4_set_18 ?_
    refine jw_iload_n hC dX4_set_21 1 rfl rfl ?_
    refine jw_ild_least hC (by omega) (by omega) dX4_set_22 ?_
    refine jw_icmp_lt (tgt := 35) hC dX4_set_23 (by decide) (by omega) (by omega) (by omega) (by omega) (fun h23 => ?_) (fun h23 => ?_)
    · skip
      exact jx_throwS hC hfl hT xs_IA (show (193, "the value is out of range") ∈ XTL by decide +kernel) dX4_set_35 dX4_set_38 dX4_set_39 dX4_set_41 dX4_set_44 ⟨Nat.le_of_ble_eq_true rfl, Nat.le_of_ble_eq_true rfl, Nat.le_of_ble_eq_true rfl, Nat.le_of_ble_eq_true rfl⟩ (Nat.le_of_ble_eq_true rfl) (Or.inr ⟨rfl, by omega⟩)
    · skip
      refine jw_iload_n hC dX4_set_26 2 rfl rfl ?_
      refine jw_gets_great hC w2_198 dX4_set_27 ?_
      refine jw_iload_n hC dX4_set_30 1 rfl rfl ?_
      refine jw_ild_great hC (by omega) (by omega) dX4_set_31 ?_
      refine jw_icmp_le (tgt := 45) hC dX4_set_32 (by decide) (by omega) (by omega) (by omega) (by omega) (fun h32 => ?_) (fun h32 => ?_)
      · skip
        refine jw_aload_n hC dX4_set_45 0 rfl rfl ?_
        refine jw_callV hC (c_X4_saveState l E M q4 q5) sV_X4_72 ewF_x4.o dX4_set_46 rfl rfl ⟨Nat.le_of_ble_eq_true rfl, Nat.le_of_ble_eq_true rfl⟩ ⟨Nat.zero_le _, Nat.zero_le _⟩ (Nat.le_of_ble_eq_true rfl) (fun v46 M46 g46 => ?_)
        obtain ⟨rfl, s1, s2⟩ := g46
        have hsv : svc M M46 := ⟨s1, s2⟩
        have e1 := svc_o hsv 1 (by omega)
        have e2 := svc_o hsv 2 (by omega)
        have e3 := svc_o hsv 3 (by omega)
        have e4 := svc_o hsv 4 (by omega)
        have e50 := svc_o hsv 50 (by omega)
        have e51 := svc_o hsv 51 (by omega)
        have e52 := svc_o hsv 52 (by omega)
        have e79 := svc_o hsv 79 (by omega)
        have e81 := svc_o hsv 81 (by omega)
        have e82 := svc_o hsv 82 (by omega)
        refine jw_aload_n hC dX4_set_49 0 rfl rfl ?_
        refine jw_getr hC fL_X4_12 ewR_x0 dX4_set_50 ?_
        refine jw_getr hC fL_X4_165 (show ewR 50 6 1 52 from ewR_t1 (j := 0) (by decide)) dX4_set_53 ?_
        refine jw_iload_n hC dX4_set_56 1 rfl rfl ?_
        refine jw_iald hC (show ewA 52 0 4 from ewA_settings (j := 0) (by decide)) dX4_set_57 (by omega) (by omega) (by decide) (fun b57 c57 => ?_)
        rw [e52] at b57 c57 ⊢
        refine jw_istore_n (L' := [(3, _), (0, _), (1, _), (2, _)]) hC dX4_set_58 rfl (by decide) rfl ?_
        refine jw_aload_n hC dX4_set_59 1 rfl rfl ?_
        refine jw_getr hC fL_X4_12 ewR_x0 dX4_set_60 ?_
        refine jw_getr hC fL_X4_165 (show ewR 50 6 1 52 from ewR_t1 (j := 0) (by decide)) dX4_set_63 ?_
        refine jw_iload_n hC dX4_set_66 2 rfl rfl ?_
        refine jw_iload_n hC dX4_set_67 3 rfl rfl ?_
        refine jw_iast hC (show ewA 52 0 4 from ewA_settings (j := 0) (by decide)) dX4_set_68 (by omega) (by omega) (by decide) (by omega) (by omega) ?_
        refine jw_iload_n hC dX4_set_69 0 rfl rfl ?_
        refine jx_ret (Nat.zero_le _) (Nat.zero_le _) ?_
        refine jw_iret hC dX4_set_70 ?_
        exact ⟨by omega, M46, hsv, rfl, rfl⟩
      · skip
        exact jx_throwS hC hfl hT xs_IA (show (193, "the value is out of range") ∈ XTL by decide +kernel) dX4_set_35 dX4_set_38 dX4_set_39 dX4_set_41 dX4_set_44 ⟨Nat.le_of_ble_eq_true rfl, Nat.le_of_ble_eq_true rfl, Nat.le_of_ble_eq_true rfl, Nat.le_of_ble_eq_true rfl⟩ (Nat.le_of_ble_eq_true rfl) (Or.inr ⟨rfl, by omega⟩)
  · skip
    have z4 := ite_0 (C := 0 ≤ a ∧ a < 4) h4
    exact jx_throwS hC hfl hT xs_IO (show (185, "no such setting") ∈ XTL by decide +kernel) dX4_set_7 dX4_set_10 dX4_set_11 dX4_set_13 dX4_set_16 ⟨Nat.le_of_ble_eq_true rfl, Nat.le_of_ble_eq_true rfl, Nat.le_of_ble_eq_true rfl, Nat.le_of_ble_eq_true rfl⟩ (Nat.le_of_ble_eq_true rfl) (Or.inl ⟨rfl, by omega⟩)
set_option maxRecDepth 100000 in
set_option maxHeartbeats 4000000 in
theorem c_X4_append (l : Launch) (hfl : l.stackTraces = false) (E : ewE) (M : ewM) (hl : 0 ≤ M 81 1 ∧ M 81 1 ≤ 40) (a : Int) (a1 : -2147483648 ≤ a) (a2 : a < 2147483648) : Cx l E yX4_append (.code yX4_append cX4_append 2 (some .int)) 9 [vR E 77, vI a] M (fun v M1 => ((33 ≤ a ∧ a ≤ 126) ∧ M 81 1 < 40) ∧ v = some (vI (M 81 1 + 1)) ∧ M1 = mu (mu M 82 (M 81 1) a) 81 1 (M 81 1 + 1)) (fun C => (C = xIA ∧ ¬ (33 ≤ a ∧ a ≤ 126)) ∨ (C = xIS ∧ (33 ≤ a ∧ a ≤ 126) ∧ ¬ M 81 1 < 40)) := by
  refine cx_of (L0 := [(0, vR E 77), (1, vI a)]) (by decide +kernel) rfl (Nat.le_of_ble_eq_true rfl) ?_
  intro zp ze zs zm za zb zt zc zA hC hT
  have hz29 := ite_z (40 ≤ M 81 1)
  refine jw_iload_n hC dX4_append_0 1 rfl rfl ?_
  refine jw_bipush hC dX4_append_1 (by decide) ?_
  refine jw_icmp_lt (tgt := 12) hC dX4_append_3 (by decide) (by omega) (by omega) (by omega) (by omega) (fun h3 => ?_) (fun h3 => ?_)
  · skip
    exact jx_throwS hC hfl hT xs_IA (show (195, "no such character") ∈ XTL by decide +kernel) dX4_append_12 dX4_append_15 dX4_append_16 dX4_append_18 dX4_append_21 ⟨Nat.le_of_ble_eq_true rfl, Nat.le_of_ble_eq_true rfl, Nat.le_of_ble_eq_true rfl, Nat.le_of_ble_eq_true rfl⟩ (Nat.le_of_ble_eq_true rfl) (Or.inl ⟨rfl, by omega⟩)
  · skip
    refine jw_iload_n hC dX4_append_6 1 rfl rfl ?_
    refine jw_bipush hC dX4_append_7 (by decide) ?_
    refine jw_icmp_le (tgt := 22) hC dX4_append_9 (by decide) (by omega) (by omega) (by omega) (by omega) (fun h9 => ?_) (fun h9 => ?_)
    · skip
      refine jw_aload_n hC dX4_append_22 0 rfl rfl ?_
      refine jw_getr hC fL_X4_30 ewR_x6 dX4_append_23 ?_
      refine jw_callV hC (c_X1_isFull l E M hl) sV_X4_197 ewF_d1.o dX4_append_26 rfl rfl ⟨Nat.le_of_ble_eq_true rfl, Nat.le_of_ble_eq_true rfl⟩ ⟨Nat.zero_le _, Nat.zero_le _⟩ (Nat.le_of_ble_eq_true rfl) (fun v26 M26 g26 => ?_)
      obtain ⟨rfl, rfl⟩ := g26
      refine jw_if_eq (tgt := 42) hC dX4_append_29 (by decide) (by omega) (by omega) (fun h29 => ?_) (fun h29 => ?_)
      · skip
        have z29 := ite_0 (C := 40 ≤ M 81 1) h29
        refine jw_aload_n hC dX4_append_42 0 rfl rfl ?_
        refine jw_getr hC fL_X4_30 ewR_x6 dX4_append_43 ?_
        refine jw_iload_n hC dX4_append_46 1 rfl rfl ?_
        refine jw_callV hC (c_X1_add l E M hl a a1 a2) sV_X4_206 ewF_d1.o dX4_append_47 rfl rfl ⟨Nat.le_of_ble_eq_true rfl, Nat.le_of_ble_eq_true rfl⟩ ⟨Nat.zero_le _, Nat.zero_le _⟩ (Nat.le_of_ble_eq_true rfl) (fun v47 M47 g47 => ?_)
        obtain ⟨rfl, rfl⟩ := g47
        rw [if_pos (show M 81 1 < 40 by omega)]
        refine jw_aload_n hC dX4_append_50 0 rfl rfl ?_
        refine jw_getr hC fL_X4_30 ewR_x6 dX4_append_51 ?_
        refine jw_geti hC fL_X4_210.r ewF_d1 (kI := 1) rfl dX4_append_54 (by omega) (fun b54 c54 => ?_)
        rw [mu_eq] at b54 c54 ⊢
        refine jx_ret (Nat.zero_le _) (Nat.zero_le _) ?_
        refine jw_iret hC dX4_append_57 ?_
        exact ⟨by omega, rfl, rfl⟩
      · skip
        have z29 := ite_1 (C := 40 ≤ M 81 1) h29
        exact jx_throwS hC hfl hT xs_IS (show (203, "the buffer is full") ∈ XTL by decide +kernel) dX4_append_32 dX4_append_35 dX4_append_36 dX4_append_38 dX4_append_41 ⟨Nat.le_of_ble_eq_true rfl, Nat.le_of_ble_eq_true rfl, Nat.le_of_ble_eq_true rfl, Nat.le_of_ble_eq_true rfl⟩ (Nat.le_of_ble_eq_true rfl) (Or.inr ⟨rfl, by omega⟩)
    · skip
      exact jx_throwS hC hfl hT xs_IA (show (195, "no such character") ∈ XTL by decide +kernel) dX4_append_12 dX4_append_15 dX4_append_16 dX4_append_18 dX4_append_21 ⟨Nat.le_of_ble_eq_true rfl, Nat.le_of_ble_eq_true rfl, Nat.le_of_ble_eq_true rfl, Nat.le_of_ble_eq_true rfl⟩ (Nat.le_of_ble_eq_true rfl) (Or.inl ⟨rfl, by omega⟩)
set_option maxRecDepth 100000 in
set_option maxHeartbeats 4000000 in
theorem c_X4_clearBuffer (l : Launch) (E : ewE) (M : ewM) (hl : 0 ≤ M 81 1 ∧ M 81 1 ≤ 40)  : Ct l E yX4_clearBuffer (.code yX4_clearBuffer cX4_clearBuffer 2 (some .int)) 9 [vR E 77] M (fun v M1 => v = some (vI (M 81 1)) ∧ M1 = mu M 81 1 0) := by
  refine ct_of (L0 := [(0, vR E 77)]) (by decide +kernel) rfl (Nat.le_of_ble_eq_true rfl) ?_
  intro zp ze zs zm za zb zt zc zA hC
  refine jw_aload_n hC dX4_clearBuffer_0 0 rfl rfl ?_
  refine jw_getr hC fL_X4_30 ewR_x6 dX4_clearBuffer_1 ?_
  refine jw_geti hC fL_X4_210.r ewF_d1 (kI := 1) rfl dX4_clearBuffer_4 (by omega) (fun b4 c4 => ?_)
  refine jw_istore_n (L' := [(1, _), (0, _)]) hC dX4_clearBuffer_7 rfl (by decide) rfl ?_
  refine jw_aload_n hC dX4_clearBuffer_8 1 rfl rfl ?_
  refine jw_getr hC fL_X4_30 ewR_x6 dX4_clearBuffer_9 ?_
  refine jw_iconst hC dX4_clearBuffer_12 ?_
  refine jw_puti hC fL_X4_210 ewF_d1 (kI := 1) rfl dX4_clearBuffer_13 (by omega) (by omega) ?_
  refine jw_iload_n hC dX4_clearBuffer_16 0 rfl rfl ?_
  refine jw_iret hC dX4_clearBuffer_17 ?_
  exact ⟨rfl, rfl⟩
set_option maxRecDepth 100000 in
set_option maxHeartbeats 4000000 in
theorem c_X4_firstError (l : Launch) (E : ewE) (M : ewM) (hl : 0 ≤ M 81 1 ∧ M 81 1 ≤ 40)  : Ct l E yX4_firstError (.code yX4_firstError cX4_firstError 1 (some .int)) 9 [vR E 77] M (fun v M1 => ∃ x : Int, f_fw (M 82) (M 81 1) x ∧ v = some (vI x) ∧ M = M1) := by
  refine ct_of (L0 := [(0, vR E 77)]) (by decide +kernel) rfl (Nat.le_of_ble_eq_true rfl) ?_
  intro zp ze zs zm za zb zt zc zA hC
  refine jw_aload_n hC dX4_firstError_0 0 rfl rfl ?_
  refine jw_getr hC fL_X4_30 ewR_x6 dX4_firstError_1 ?_
  refine jw_callV hC (c_X1_firstWrong l E M hl) sV_X4_213 ewF_d1.o dX4_firstError_4 rfl rfl ⟨Nat.le_of_ble_eq_true rfl, Nat.le_of_ble_eq_true rfl⟩ ⟨Nat.zero_le _, Nat.zero_le _⟩ (Nat.le_of_ble_eq_true rfl) (fun v4 M4 g4 => ?_)
  obtain ⟨x, hfw, rfl, rfl⟩ := g4
  refine jw_iret hC dX4_firstError_7 ?_
  exact ⟨_, hfw, rfl, rfl⟩
set_option maxRecDepth 100000 in
set_option maxHeartbeats 4000000 in
theorem c_X4_load (l : Launch) (hfl : l.stackTraces = false) (E : ewE) (M : ewM) (q4 : 0 ≤ M 77 4 ∧ M 77 4 ≤ 5) (q5 : 0 ≤ M 77 5 ∧ M 77 5 ≤ 6) (hl : 0 ≤ M 81 1 ∧ M 81 1 ≤ 40) (a : Int) (a1 : -2147483648 ≤ a) (a2 : a < 2147483648) : Cx l E yX4_load (.code yX4_load cX4_load 2 (some .int)) 9 [vR E 77, vI a] M (fun v M1 => ((0 ≤ a ∧ a < 3) ∧ f_tl (M 82) (M 81 1)) ∧ ∃ N : ewM, svc M N ∧ v = some (vI (f_sum (fun q => if 0 < M1 51 (a * 25 + q) then 1 else 0) 25)) ∧ M1 = mu (mset N 51 (fun q => if a * 25 ≤ q ∧ q < a * 25 + 25 then f_rp (M 82) (M 81 1).toNat (q - a * 25) else M 51 q)) 81 1 0) (fun C => (C = xIO ∧ ¬ (0 ≤ a ∧ a < 3)) ∨ (C = xIA ∧ (0 ≤ a ∧ a < 3) ∧ ¬ f_tl (M 82) (M 81 1))) := by
  refine cx_of (L0 := [(0, vR E 77), (1, vI a)]) (by decide +kernel) rfl (Nat.le_of_ble_eq_true rfl) ?_
  intro zp ze zs zm za zb zt zc zA hC hT
  have hz4 := ite_z (0 ≤ a ∧ a < 3)
  refine jw_iload_n hC dX4_load_0 1 rfl rfl ?_
  refine jw_callS hC (c_X4_isDie l E _ _ (by omega) (by omega)) sS_X4_52 dX4_load_1 rfl rfl ⟨Nat.le_of_ble_eq_true rfl, Nat.le_of_ble_eq_true rfl⟩ ⟨Nat.zero_le _, Nat.zero_le _⟩ (Nat.le_of_ble_eq_true rfl) (fun v1 M1 g1 => ?_)
  obtain ⟨rfl, rfl⟩ := g1
  refine jw_if_ne (tgt := 17) hC dX4_load_4 (by decide) (by omega) (by omega) (fun h4 => ?_) (fun h4 => ?_)
  · skip
    have z4 := ite_1 (C := 0 ≤ a ∧ a < 3) h4
    refine jw_aload_n hC dX4_load_17 0 rfl rfl ?_
    refine jw_getr hC fL_X4_30 ewR_x6 dX4_load_18 ?_
    refine jw_callV hC (c_X1_tellsDie l E M hl) sV_X4_216 ewF_d1.o dX4_load_21 rfl rfl ⟨Nat.le_of_ble_eq_true rfl, Nat.le_of_ble_eq_true rfl⟩ ⟨Nat.zero_le _, Nat.zero_le _⟩ (Nat.le_of_ble_eq_true rfl) (fun v21 M21 g21 => ?_)
    obtain ⟨x9, hfw, rfl, rfl⟩ := g21
    have hz24 := ite_z (0 < M 81 1 ∧ x9 = M 81 1 ∧ M 82 (M 81 1 - 1) ≠ 47)
    refine jw_if_ne (tgt := 37) hC dX4_load_24 (by decide) (by omega) (by omega) (fun h24 => ?_) (fun h24 => ?_)
    · skip
      have z24 := ite_1 (C := 0 < M 81 1 ∧ x9 = M 81 1 ∧ M 82 (M 81 1 - 1) ≠ 47) h24
      refine jw_aload_n hC dX4_load_37 0 rfl rfl ?_
      refine jw_callV hC (c_X4_saveState l E M q4 q5) sV_X4_72 ewF_x4.o dX4_load_38 rfl rfl ⟨Nat.le_of_ble_eq_true rfl, Nat.le_of_ble_eq_true rfl⟩ ⟨Nat.zero_le _, Nat.zero_le _⟩ (Nat.le_of_ble_eq_true rfl) (fun v38 M38 g38 => ?_)
      obtain ⟨rfl, s1, s2⟩ := g38
      have hsv : svc M M38 := ⟨s1, s2⟩
      have e1 := svc_o hsv 1 (by omega)
      have e2 := svc_o hsv 2 (by omega)
      have e3 := svc_o hsv 3 (by omega)
      have e4 := svc_o hsv 4 (by omega)
      have e50 := svc_o hsv 50 (by omega)
      have e51 := svc_o hsv 51 (by omega)
      have e52 := svc_o hsv 52 (by omega)
      have e79 := svc_o hsv 79 (by omega)
      have e81 := svc_o hsv 81 (by omega)
      have e82 := svc_o hsv 82 (by omega)
      refine jw_aload_n hC dX4_load_41 0 rfl rfl ?_
      refine jw_getr hC fL_X4_30 ewR_x6 dX4_load_42 ?_
      refine jw_aload_n hC dX4_load_45 0 rfl rfl ?_
      refine jw_getr hC fL_X4_12 ewR_x0 dX4_load_46 ?_
      refine jw_iload_n hC dX4_load_49 1 rfl rfl ?_
      refine jw_callV hC (c_X1_readInto l E M38 (by rw [e81]; exact hl) 0 (by decide) a (by omega) (by rw [e81, e82]; exact fun i hi => hfw.2.2.1 i (by rw [z24.2.1]; exact hi))) sV_X4_221 ewF_d1.o dX4_load_50 rfl rfl ⟨Nat.le_of_ble_eq_true rfl, Nat.le_of_ble_eq_true rfl⟩ ⟨Nat.zero_le _, Nat.zero_le _⟩ (Nat.le_of_ble_eq_true rfl) (fun v50 M50 g50 => ?_)
      obtain ⟨rfl, g9⟩ := g50
      have g9 : M50 = mset M38 51 (fun q => if a * 25 ≤ q ∧ q < a * 25 + 25 then f_rp (M38 82) (M38 81 1).toNat (q - a * 25) else M38 51 q) := g9
      rw [e81, e82, e51] at g9
      subst g9
      refine jw_aload_n hC dX4_load_53 0 rfl rfl ?_
      refine jw_getr hC fL_X4_30 ewR_x6 dX4_load_54 ?_
      refine jw_iconst hC dX4_load_57 ?_
      refine jw_puti hC fL_X4_210 ewF_d1 (kI := 1) rfl dX4_load_58 (by omega) (by omega) ?_
      refine jw_aload_n hC dX4_load_61 0 rfl rfl ?_
      refine jw_getr hC fL_X4_12 ewR_x0 dX4_load_62 ?_
      refine jw_iload_n hC dX4_load_65 1 rfl rfl ?_
      refine jw_callV hC (c_X3_raisedPoints l E _ 0 (by decide) a (by omega)) sV_X4_100 (show ewO 50 6 from ewO_state (j := 0) (by decide)) dX4_load_66 rfl rfl ⟨Nat.le_of_ble_eq_true rfl, Nat.le_of_ble_eq_true rfl⟩ ⟨Nat.zero_le _, Nat.zero_le _⟩ (Nat.le_of_ble_eq_true rfl) (fun v66 M66 g66 => ?_)
      obtain ⟨rfl, rfl⟩ := g66
      refine jx_ret (Nat.zero_le _) (Nat.zero_le _) ?_
      refine jw_iret hC dX4_load_69 ?_
      exact ⟨⟨by omega, x9, hfw, z24⟩, M38, hsv, rfl, rfl⟩
    · skip
      have z24 := ite_0 (C := 0 < M 81 1 ∧ x9 = M 81 1 ∧ M 82 (M 81 1 - 1) ≠ 47) h24
      exact jx_throwS hC hfl hT xs_IA (show (219, "the buffer does not tell a die") ∈ XTL by decide +kernel) dX4_load_27 dX4_load_30 dX4_load_31 dX4_load_33 dX4_load_36 ⟨Nat.le_of_ble_eq_true rfl, Nat.le_of_ble_eq_true rfl, Nat.le_of_ble_eq_true rfl, Nat.le_of_ble_eq_true rfl⟩ (Nat.le_of_ble_eq_true rfl) (Or.inr ⟨rfl, by omega, f_tl_no hfw z24⟩)
  · skip
    have z4 := ite_0 (C := 0 ≤ a ∧ a < 3) h4
    exact jx_throwS hC hfl hT xs_IO (show (140, "no such die") ∈ XTL by decide +kernel) dX4_load_7 dX4_load_10 dX4_load_11 dX4_load_13 dX4_load_16 ⟨Nat.le_of_ble_eq_true rfl, Nat.le_of_ble_eq_true rfl, Nat.le_of_ble_eq_true rfl, Nat.le_of_ble_eq_true rfl⟩ (Nat.le_of_ble_eq_true rfl) (Or.inl ⟨rfl, by omega⟩)
set_option maxRecDepth 100000 in
set_option maxHeartbeats 4000000 in
theorem c_X4_keep (l : Launch) (hfl : l.stackTraces = false) (E : ewE) (M : ewM) (a : Int) (a1 : -2147483648 ≤ a) (a2 : a < 2147483648) : Cx l E yX4_keep (.code yX4_keep cX4_keep 2 (some .int)) 9 [vR E 77, vI a] M (fun v M1 => (0 ≤ a ∧ a < 2) ∧ v = some (vI (M 50 4)) ∧ ∀ j : Nat, (j : Int) = 1 + a → cpS M 0 M1 j ∧ M1 79 = (fun q => if q = a then 1 else M 79 q) ∧ ∀ o, o ≠ 79 → (o < 5 * j + 1 ∨ 5 * j + 4 < o) → (o < 50 + 3 * j ∨ 50 + 3 * j + 2 < o) → M1 o = M o) (fun C => (C = xIA ∧ ¬ (0 ≤ a ∧ a < 2))) := by
  refine cx_of (L0 := [(0, vR E 77), (1, vI a)]) (by decide +kernel) rfl (Nat.le_of_ble_eq_true rfl) ?_
  intro zp ze zs zm za zb zt zc zA hC hT
  have hz4 := ite_z (0 ≤ a ∧ a < 2)
  refine jw_iload_n hC dX4_keep_0 1 rfl rfl ?_
  refine jw_callS hC (c_X4_isSlot l E _ _ (by omega) (by omega)) sS_X4_225 dX4_keep_1 rfl rfl ⟨Nat.le_of_ble_eq_true rfl, Nat.le_of_ble_eq_true rfl⟩ ⟨Nat.zero_le _, Nat.zero_le _⟩ (Nat.le_of_ble_eq_true rfl) (fun v1 M1 g1 => ?_)
  obtain ⟨rfl, rfl⟩ := g1
  refine jw_if_ne (tgt := 17) hC dX4_keep_4 (by decide) (by omega) (by omega) (fun h4 => ?_) (fun h4 => ?_)
  · skip
    have z4 := ite_1 (C := 0 ≤ a ∧ a < 2) h4
    refine jw_aload_n hC dX4_keep_17 0 rfl rfl ?_
    refine jw_getr hC fL_X4_16 ewR_x1 dX4_keep_18 ?_
    refine jw_iload_n hC dX4_keep_21 1 rfl rfl ?_
    obtain ⟨jj, hjv⟩ : ∃ jj : Nat, (jj : Int) = 1 + a := ⟨(1 + a).toNat, by omega⟩
    refine jw_aald_slots hC (jj - 1) (by omega) (by omega) dX4_keep_22 ?_
    rw [show 53 + 3 * (jj - 1) = 50 + 3 * jj by omega]
    refine jw_aload_n hC dX4_keep_23 0 rfl rfl ?_
    refine jw_getr hC fL_X4_12 ewR_x0 dX4_keep_24 ?_
    refine jw_callV hC (c_X3_copyFrom l E M jj (by omega) 0 (by decide) (by omega)) sV_X4_230 (ewO_state (j := jj) (by omega)) dX4_keep_27 rfl rfl ⟨Nat.le_of_ble_eq_true rfl, Nat.le_of_ble_eq_true rfl⟩ ⟨Nat.zero_le _, Nat.zero_le _⟩ (Nat.le_of_ble_eq_true rfl) (fun v27 M27 g27 => ?_)
    obtain ⟨rfl, c1, c2, c3, c4, c5⟩ := g27
    have e50 : M27 50 = M 50 := c5 50 (by omega) (by omega)
    refine jw_aload_n hC dX4_keep_30 0 rfl rfl ?_
    refine jw_getr hC fL_X4_20 ewR_x2 dX4_keep_31 ?_
    refine jw_iload_n hC dX4_keep_34 1 rfl rfl ?_
    refine jw_iconst hC dX4_keep_35 ?_
    refine jw_zast hC ewA_79 dX4_keep_36 (by omega) (by omega) (by decide) (by omega) ?_
    refine jw_aload_n hC dX4_keep_37 0 rfl rfl ?_
    refine jw_getr hC fL_X4_12 ewR_x0 dX4_keep_38 ?_
    refine jw_geti hC fL_X4_234.r (show ewF 50 6 4 from ewF_t (j := 0) (k := 4) (by decide) (by decide) (by decide)) (kI := 4) rfl dX4_keep_41 (by omega) (fun b41 c41 => ?_)
    rw [mu_ne _ _ _ (by decide), e50] at b41 c41 ⊢
    refine jx_ret (Nat.zero_le _) (Nat.zero_le _) ?_
    refine jw_iret hC dX4_keep_44 ?_
    refine ⟨by omega, rfl, fun j9 hj9 => ?_⟩
    have e9 : j9 = jj := by omega
    rw [e9]
    refine ⟨⟨?_, ?_, fun r r0 r1 => ?_, fun k k0 k1 => ?_⟩, ?_, fun o o1 o2 o3 => ?_⟩
    · rw [mu_ne _ _ _ (by omega)]; exact c1
    · rw [mu_ne _ _ _ (by omega)]; exact c2
    · rw [mu_ne _ _ _ (by omega)]; exact c3 r r0 r1
    · rw [mu_ne _ _ _ (by omega)]; exact c4 k k0 k1
    · rw [mu_at, c5 79 (by omega) (by omega)]
    · rw [mu_ne _ _ _ o1]; exact c5 o o2 o3
  · skip
    have z4 := ite_0 (C := 0 ≤ a ∧ a < 2) h4
    exact jx_throwS hC hfl hT xs_IA (show (228, "no such slot") ∈ XTL by decide +kernel) dX4_keep_7 dX4_keep_10 dX4_keep_11 dX4_keep_13 dX4_keep_16 ⟨Nat.le_of_ble_eq_true rfl, Nat.le_of_ble_eq_true rfl, Nat.le_of_ble_eq_true rfl, Nat.le_of_ble_eq_true rfl⟩ (Nat.le_of_ble_eq_true rfl) (⟨rfl, by omega⟩)
set_option maxRecDepth 100000 in
set_option maxHeartbeats 4000000 in
theorem c_X4_goBack (l : Launch) (hfl : l.stackTraces = false) (E : ewE) (M : ewM) (q4 : 0 ≤ M 77 4 ∧ M 77 4 ≤ 5) (q5 : 0 ≤ M 77 5 ∧ M 77 5 ≤ 6) (a : Int) (a1 : -2147483648 ≤ a) (a2 : a < 2147483648) : Cx l E yX4_goBack (.code yX4_goBack cX4_goBack 2 (some .int)) 9 [vR E 77, vI a] M (fun v M1 => ((0 ≤ a ∧ a < 2) ∧ ¬ M 79 a = 0) ∧ ∃ N : ewM, svc M N ∧ v = some (vI (M1 50 4)) ∧ ∀ j : Nat, (j : Int) = 1 + a → cpS N j M1 0 ∧ ∀ o, (o < 1 ∨ 4 < o) → (o < 50 ∨ 52 < o) → M1 o = N o) (fun C => (C = xIA ∧ ¬ (0 ≤ a ∧ a < 2)) ∨ (C = xIS ∧ (0 ≤ a ∧ a < 2) ∧ M 79 a = 0)) := by
  refine cx_of (L0 := [(0, vR E 77), (1, vI a)]) (by decide +kernel) rfl (Nat.le_of_ble_eq_true rfl) ?_
  intro zp ze zs zm za zb zt zc zA hC hT
  have hz4 := ite_z (0 ≤ a ∧ a < 2)
  refine jw_iload_n hC dX4_goBack_0 1 rfl rfl ?_
  refine jw_callS hC (c_X4_isSlot l E _ _ (by omega) (by omega)) sS_X4_225 dX4_goBack_1 rfl rfl ⟨Nat.le_of_ble_eq_true rfl, Nat.le_of_ble_eq_true rfl⟩ ⟨Nat.zero_le _, Nat.zero_le _⟩ (Nat.le_of_ble_eq_true rfl) (fun v1 M1 g1 => ?_)
  obtain ⟨rfl, rfl⟩ := g1
  refine jw_if_ne (tgt := 17) hC dX4_goBack_4 (by decide) (by omega) (by omega) (fun h4 => ?_) (fun h4 => ?_)
  · skip
    have z4 := ite_1 (C := 0 ≤ a ∧ a < 2) h4
    refine jw_aload_n hC dX4_goBack_17 0 rfl rfl ?_
    refine jw_getr hC fL_X4_20 ewR_x2 dX4_goBack_18 ?_
    refine jw_iload_n hC dX4_goBack_21 1 rfl rfl ?_
    refine jw_zald hC ewA_79 dX4_goBack_22 (by omega) (by omega) (by decide) (fun b22 c22 => ?_)
    refine jw_if_ne (tgt := 36) hC dX4_goBack_23 (by decide) (by omega) (by omega) (fun h23 => ?_) (fun h23 => ?_)
    · skip
      refine jw_aload_n hC dX4_goBack_36 0 rfl rfl ?_
      refine jw_callV hC (c_X4_saveState l E M q4 q5) sV_X4_72 ewF_x4.o dX4_goBack_37 rfl rfl ⟨Nat.le_of_ble_eq_true rfl, Nat.le_of_ble_eq_true rfl⟩ ⟨Nat.zero_le _, Nat.zero_le _⟩ (Nat.le_of_ble_eq_true rfl) (fun v37 M37 g37 => ?_)
      obtain ⟨rfl, s1, s2⟩ := g37
      have hsv : svc M M37 := ⟨s1, s2⟩
      have e1 := svc_o hsv 1 (by omega)
      have e2 := svc_o hsv 2 (by omega)
      have e3 := svc_o hsv 3 (by omega)
      have e4 := svc_o hsv 4 (by omega)
      have e50 := svc_o hsv 50 (by omega)
      have e51 := svc_o hsv 51 (by omega)
      have e52 := svc_o hsv 52 (by omega)
      have e79 := svc_o hsv 79 (by omega)
      have e81 := svc_o hsv 81 (by omega)
      have e82 := svc_o hsv 82 (by omega)
      refine jw_aload_n hC dX4_goBack_40 0 rfl rfl ?_
      refine jw_getr hC fL_X4_12 ewR_x0 dX4_goBack_41 ?_
      refine jw_aload_n hC dX4_goBack_44 0 rfl rfl ?_
      refine jw_getr hC fL_X4_16 ewR_x1 dX4_goBack_45 ?_
      refine jw_iload_n hC dX4_goBack_48 1 rfl rfl ?_
      obtain ⟨jj, hjv⟩ : ∃ jj : Nat, (jj : Int) = 1 + a := ⟨(1 + a).toNat, by omega⟩
      refine jw_aald_slots hC (jj - 1) (by omega) (by omega) dX4_goBack_49 ?_
      rw [show 53 + 3 * (jj - 1) = 50 + 3 * jj by omega]
      refine jw_callV hC (c_X3_copyFrom l E M37 0 (by decide) jj (by omega) (by omega)) sV_X4_230 (show ewO 50 6 from ewO_state (j := 0) (by decide)) dX4_goBack_50 rfl rfl ⟨Nat.le_of_ble_eq_true rfl, Nat.le_of_ble_eq_true rfl⟩ ⟨Nat.zero_le _, Nat.zero_le _⟩ (Nat.le_of_ble_eq_true rfl) (fun v50 M50 g50 => ?_)
      obtain ⟨rfl, c1, c2, c3, c4, c5⟩ := g50
      refine jw_aload_n hC dX4_goBack_53 0 rfl rfl ?_
      refine jw_getr hC fL_X4_12 ewR_x0 dX4_goBack_54 ?_
      refine jw_geti hC fL_X4_234.r (show ewF 50 6 4 from ewF_t (j := 0) (k := 4) (by decide) (by decide) (by decide)) (kI := 4) rfl dX4_goBack_57 (by omega) (fun b57 c57 => ?_)
      refine jx_ret (Nat.zero_le _) (Nat.zero_le _) ?_
      refine jw_iret hC dX4_goBack_60 ?_
      refine ⟨by omega, M37, hsv, rfl, fun j9 hj9 => ?_⟩
      have e9 : j9 = jj := by omega
      rw [e9]
      exact ⟨⟨c1, c2, c3, c4⟩, fun o o1 o2 => c5 o (by omega) (by omega)⟩
    · skip
      exact jx_throwS hC hfl hT xs_IS (show (237, "no snapshot in this slot") ∈ XTL by decide +kernel) dX4_goBack_26 dX4_goBack_29 dX4_goBack_30 dX4_goBack_32 dX4_goBack_35 ⟨Nat.le_of_ble_eq_true rfl, Nat.le_of_ble_eq_true rfl, Nat.le_of_ble_eq_true rfl, Nat.le_of_ble_eq_true rfl⟩ (Nat.le_of_ble_eq_true rfl) (Or.inr ⟨rfl, by omega⟩)
  · skip
    have z4 := ite_0 (C := 0 ≤ a ∧ a < 2) h4
    exact jx_throwS hC hfl hT xs_IA (show (228, "no such slot") ∈ XTL by decide +kernel) dX4_goBack_7 dX4_goBack_10 dX4_goBack_11 dX4_goBack_13 dX4_goBack_16 ⟨Nat.le_of_ble_eq_true rfl, Nat.le_of_ble_eq_true rfl, Nat.le_of_ble_eq_true rfl, Nat.le_of_ble_eq_true rfl⟩ (Nat.le_of_ble_eq_true rfl) (Or.inl ⟨rfl, by omega⟩)
set_option maxRecDepth 100000 in
set_option maxHeartbeats 4000000 in
theorem c_X4_undo (l : Launch) (hfl : l.stackTraces = false) (E : ewE) (M : ewM) (q4 : 0 ≤ M 77 4 ∧ M 77 4 ≤ 5) (q5 : 0 ≤ M 77 5 ∧ M 77 5 ≤ 6)  : Cx l E yX4_undo (.code yX4_undo cX4_undo 1 (some .int)) 9 [vR E 77] M (fun v M1 => (¬ M 77 5 = 0) ∧ v = some (vI (M 77 5 - 1)) ∧ ∀ j : Nat, (j : Int) = 3 + (M 77 4 + (M 77 5 - 1)) % 6 → cpS M j M1 0 ∧ M1 77 = (mu M 77 5 (M 77 5 - 1)) 77 ∧ ∀ o, o ≠ 77 → (o < 1 ∨ 4 < o) → (o < 50 ∨ 52 < o) → M1 o = M o) (fun C => (C = xIS ∧ M 77 5 = 0)) := by
  refine cx_of (L0 := [(0, vR E 77)]) (by decide +kernel) rfl (Nat.le_of_ble_eq_true rfl) ?_
  intro zp ze zs zm za zb zt zc zA hC hT
  skip
  refine jw_aload_n hC dX4_undo_0 0 rfl rfl ?_
  refine jw_geti hC fL_X4_239.r ewF_x5 (kI := 5) rfl dX4_undo_1 (by omega) (fun b1 c1 => ?_)
  refine jw_if_ne (tgt := 17) hC dX4_undo_4 (by decide) (by omega) (by omega) (fun h4 => ?_) (fun h4 => ?_)
  · skip
    refine jw_aload_n hC dX4_undo_17 0 rfl rfl ?_
    refine jw_dupr hC dX4_undo_18 ?_
    refine jw_geti hC fL_X4_239.r ewF_x5 (kI := 5) rfl dX4_undo_19 (by omega) (fun b19 c19 => ?_)
    refine jw_iconst hC dX4_undo_22 ?_
    refine jw_isub hC dX4_undo_23 ?_
    refine jw_puti hC fL_X4_239 ewF_x5 (kI := 5) rfl dX4_undo_24 (by omega) (by omega) ?_
    refine jw_aload_n hC dX4_undo_27 0 rfl rfl ?_
    refine jw_getr hC fL_X4_12 ewR_x0 dX4_undo_28 ?_
    refine jw_aload_n hC dX4_undo_31 0 rfl rfl ?_
    refine jw_getr hC fL_X4_24 ewR_x3 dX4_undo_32 ?_
    refine jw_aload_n hC dX4_undo_35 0 rfl rfl ?_
    refine jw_geti hC fL_X4_244.r ewF_x4 (kI := 4) rfl dX4_undo_36 (by omega) (fun b36 c36 => ?_)
    rw [mu_nk _ _ _ (by decide)] at b36 c36 ⊢
    refine jw_aload_n hC dX4_undo_39 0 rfl rfl ?_
    refine jw_geti hC fL_X4_239.r ewF_x5 (kI := 5) rfl dX4_undo_40 (by omega) (fun b40 c40 => ?_)
    rw [mu_eq] at b40 c40 ⊢
    refine jw_iadd hC dX4_undo_43 ?_
    refine jw_bipush hC dX4_undo_44 (by decide) ?_
    refine jw_irem hC dX4_undo_46 (by omega) (by omega) (by omega) (by omega) ?_
    obtain ⟨jj, hjv⟩ : ∃ jj : Nat, (jj : Int) = 3 + (M 77 4 + (M 77 5 - 1)) % 6 := ⟨(3 + (M 77 4 + (M 77 5 - 1)) % 6).toNat, by omega⟩
    refine jw_aald_saved hC (jj - 3) (by omega) (by omega) dX4_undo_47 ?_
    rw [show 59 + 3 * (jj - 3) = 50 + 3 * jj by omega]
    refine jw_callV hC (c_X3_copyFrom l E (mu M 77 5 (M 77 5 - 1)) 0 (by decide) jj (by omega) (by omega)) sV_X4_230 (show ewO 50 6 from ewO_state (j := 0) (by decide)) dX4_undo_48 rfl rfl ⟨Nat.le_of_ble_eq_true rfl, Nat.le_of_ble_eq_true rfl⟩ ⟨Nat.zero_le _, Nat.zero_le _⟩ (Nat.le_of_ble_eq_true rfl) (fun v48 M48 g48 => ?_)
    obtain ⟨rfl, c1, c2, c3, c4, c5⟩ := g48
    have e77 : M48 77 = (mu M 77 5 (M 77 5 - 1)) 77 := c5 77 (by omega) (by omega)
    refine jw_aload_n hC dX4_undo_51 0 rfl rfl ?_
    refine jw_geti hC fL_X4_239.r ewF_x5 (kI := 5) rfl dX4_undo_52 (by omega) (fun b52 c52 => ?_)
    rw [e77, mu_eq] at b52 c52 ⊢
    refine jx_ret (Nat.zero_le _) (Nat.zero_le _) ?_
    refine jw_iret hC dX4_undo_55 ?_
    refine ⟨by omega, rfl, fun j9 hj9 => ?_⟩
    have e9 : j9 = jj := by omega
    rw [e9]
    exact ⟨⟨by rw [c1, mu_ne _ _ _ (by omega)], by rw [c2, mu_ne _ _ _ (by omega)], fun r r0 r1 => by rw [c3 r r0 r1, mu_ne _ _ _ (by omega)], fun k k0 k1 => by rw [c4 k k0 k1, mu_ne _ _ _ (by omega)]⟩, c5 77 (by omega) (by omega), fun o o1 o2 o3 => by rw [c5 o (by omega) (by omega), mu_ne _ _ _ o1]⟩
  · skip
    exact jx_throwS hC hfl hT xs_IS (show (242, "no saved state") ∈ XTL by decide +kernel) dX4_undo_7 dX4_undo_10 dX4_undo_11 dX4_undo_13 dX4_undo_16 ⟨Nat.le_of_ble_eq_true rfl, Nat.le_of_ble_eq_true rfl, Nat.le_of_ble_eq_true rfl, Nat.le_of_ble_eq_true rfl⟩ (Nat.le_of_ble_eq_true rfl) (⟨rfl, by omega⟩)
