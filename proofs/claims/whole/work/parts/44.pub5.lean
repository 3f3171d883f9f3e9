/-! THE REFERENCE: settings, foil -/
/-- x is a value that the setting a may have -/
def f_okv (a x : Int) : Prop := 0 ≤ x ∧ (a ≠ 2 ∨ 1 ≤ x) ∧ (a ≠ 0 ∨ x ≤ 99) ∧ (a ≠ 1 ∨ x ≤ 20) ∧ (a = 0 ∨ a = 1 ∨ x ≤ 9)
set_option maxRecDepth 100000 in
set_option maxHeartbeats 4000000 in
theorem c_X5_set (l : Launch) (E : ewE) (M : ewM) (hc : 0 ≤ M 88 4 ∧ M 88 4 ≤ 6) (a : Int) (a1 : -2147483648 ≤ a) (a2 : a < 2147483648) (x : Int) (x1 : -2147483648 ≤ x) (x2 : x < 2147483648) : Ct l E yX5_set (.code yX5_set cX5_set 5 (some .int)) 2 [vR E 88, vI a, vI x] M (fun v M1 => (¬ (0 ≤ a ∧ a ≤ 3) → v = some (vI 0) ∧ M1 = mu (mu M 88 0 0) 88 0 1) ∧ (0 ≤ a ∧ a ≤ 3 → ¬ f_okv a x → v = some (vI 0) ∧ M1 = mu (mu M 88 0 0) 88 0 2) ∧ (0 ≤ a ∧ a ≤ 3 → f_okv a x → ∃ N : ewM, svs (mu M 88 0 0) N ∧ v = some (vI (M 89 a)) ∧ M1 = mu N 89 a x)) := by
  refine ct_of (L0 := [(0, vR E 88), (1, vI a), (2, vI x)]) (by decide +kernel) rfl (Nat.le_of_ble_eq_true rfl) ?_
  intro zp ze zs zm za zb zt zc zA hC
  have hz0 := ite_z (0 ≤ a ∧ a ≤ 3)
  have hz1 := ite_z (0 ≤ x ∧ x ≤ 99)
  have hz2 := ite_z (0 ≤ x ∧ x ≤ 20)
  have hz3 := ite_z (1 ≤ x ∧ x ≤ 9)
  have hz4 := ite_z (0 ≤ x ∧ x ≤ 9)
  refine jw_aload_n hC dX5_set_0 0 rfl rfl ?_
  refine jw_iconst hC dX5_set_1 ?_
  refine jw_puti hC fL_X5_35 ewF_m0 (kI := 0) rfl dX5_set_2 (by omega) (by omega) ?_
  refine jw_iload_n hC dX5_set_5 1 rfl rfl ?_
  refine jw_iconst hC dX5_set_6 ?_
  refine jw_iconst hC dX5_set_7 ?_
  refine jw_callS hC (c_X5_in l E _ _ _ _ (by omega) (by omega) (by omega) (by omega) (by omega) (by omega)) sS_X5_39 dX5_set_8 rfl rfl ⟨Nat.le_of_ble_eq_true rfl, Nat.le_of_ble_eq_true rfl⟩ ⟨Nat.zero_le _, Nat.zero_le _⟩ (Nat.le_of_ble_eq_true rfl) (fun v8 M8 g8 => ?_)
  obtain ⟨rfl, rfl⟩ := g8
  refine jw_if_ne (tgt := 20) hC dX5_set_11 (by decide) (by omega) (by omega) (fun h11 => ?_) (fun h11 => ?_)
  · skip
    have q0 := ite_1 (C := 0 ≤ a ∧ a ≤ 3) h11
    refine jw_iload_n hC dX5_set_20 1 rfl rfl ?_
    refine jw_if_ne (tgt := 29) hC dX5_set_21 (by decide) (by omega) (by omega) (fun h21 => ?_) (fun h21 => ?_)
    · skip
      refine jw_iload_n hC dX5_set_29 1 rfl rfl ?_
      refine jw_iconst hC dX5_set_30 ?_
      refine jw_icmp_ne (tgt := 39) hC dX5_set_31 (by decide) (by omega) (by omega) (by omega) (by omega) (fun h31 => ?_) (fun h31 => ?_)
      · skip
        refine jw_bipush hC dX5_set_39 (by decide) ?_
        refine jw_istore_n (L' := [(3, _), (0, _), (1, _), (2, _)]) hC dX5_set_41 rfl (by decide) rfl ?_
        refine jw_iload_n hC dX5_set_42 3 rfl rfl ?_
        refine jw_iload_n hC dX5_set_43 2 rfl rfl ?_
        refine jw_iconst hC dX5_set_44 ?_
        refine jw_icmp_ne (tgt := 52) hC dX5_set_45 (by decide) (by omega) (by omega) (by omega) (by omega) (fun h45 => ?_) (fun h45 => ?_)
        · skip
          refine jw_iconst hC dX5_set_52 ?_
          refine jw_iload_n hC dX5_set_53 0 rfl rfl ?_
          refine jw_callS hC (c_X5_in l E _ _ _ _ (by omega) (by omega) (by omega) (by omega) (by omega) (by omega)) sS_X5_39 dX5_set_54 rfl rfl ⟨Nat.le_of_ble_eq_true rfl, Nat.le_of_ble_eq_true rfl⟩ ⟨Nat.zero_le _, Nat.zero_le _⟩ (Nat.le_of_ble_eq_true rfl) (fun v54 M54 g54 => ?_)
          obtain ⟨rfl, rfl⟩ := g54
          refine jw_if_ne (tgt := 66) hC dX5_set_57 (by decide) (by omega) (by omega) (fun h57 => ?_) (fun h57 => ?_)
          · skip
            refine jw_aload_n hC dX5_set_66 1 rfl rfl ?_
            refine jw_callV hC (c_X5_saves l E (mu M 88 0 0) (svs_c hc)) sV_X5_104 ewF_m0.o dX5_set_67 rfl rfl ⟨Nat.le_of_ble_eq_true rfl, Nat.le_of_ble_eq_true rfl⟩ ⟨Nat.zero_le _, Nat.zero_le _⟩ (Nat.le_of_ble_eq_true rfl) (fun v67 M67 g67 => ?_)
            obtain ⟨rfl, s1, s2, s3⟩ := g67
            have hsv : svs (mu M 88 0 0) M67 := ⟨s1, s2, s3⟩
            have e89 := svs_89 hsv
            refine jw_aload_n hC dX5_set_70 1 rfl rfl ?_
            refine jw_getr hC fL_X5_7 ewR_m1 dX5_set_71 ?_
            refine jw_iload_n hC dX5_set_74 2 rfl rfl ?_
            refine jw_iald hC ewA_89 dX5_set_75 (by omega) (by omega) (by decide) (fun b75 c75 => ?_)
            rw [e89] at b75 c75 ⊢
            refine jw_istore (L' := [(4, _), (3, _), (0, _), (1, _), (2, _)]) hC dX5_set_76 (by decide) rfl ?_
            refine jw_aload_n hC dX5_set_78 2 rfl rfl ?_
            refine jw_getr hC fL_X5_7 ewR_m1 dX5_set_79 ?_
            refine jw_iload_n hC dX5_set_82 3 rfl rfl ?_
            refine jw_iload_n hC dX5_set_83 4 rfl rfl ?_
            refine jw_iast hC ewA_89 dX5_set_84 (by omega) (by omega) (by decide) (by omega) (by omega) ?_
            refine jw_iload hC dX5_set_85 0 rfl ?_
            refine jw_iret hC dX5_set_87 ?_
            have q1 := ite_1 (C := 0 ≤ x ∧ x ≤ 9) h57
            exact ⟨fun z => absurd q0 z, fun _ z => absurd (show f_okv a x by unfold f_okv; omega) z, fun _ _ => ⟨M67, hsv, rfl, rfl⟩⟩
          · skip
            refine jw_aload_n hC dX5_set_60 1 rfl rfl ?_
            refine jw_iconst hC dX5_set_61 ?_
            refine jw_callV hC (c_X5_fails l E _ _ (by decide) (by decide)) sV_X5_101 ewF_m0.o dX5_set_62 rfl rfl ⟨Nat.le_of_ble_eq_true rfl, Nat.le_of_ble_eq_true rfl⟩ ⟨Nat.zero_le _, Nat.zero_le _⟩ (Nat.le_of_ble_eq_true rfl) (fun v62 M62 g62 => ?_)
            obtain ⟨rfl, rfl⟩ := g62
            refine jw_iret hC dX5_set_65 ?_
            have q1 := ite_0 (C := 0 ≤ x ∧ x ≤ 9) h57
            exact ⟨fun z => absurd q0 z, fun _ _ => ⟨rfl, rfl⟩, fun _ z => by unfold f_okv at z; exfalso; omega⟩
        · skip
          refine jw_iconst hC dX5_set_48 ?_
          refine jw_goto (tgt := 53) hC dX5_set_49 (by decide) ?_
          refine jw_iload_n hC dX5_set_53 0 rfl rfl ?_
          refine jw_callS hC (c_X5_in l E _ _ _ _ (by omega) (by omega) (by omega) (by omega) (by omega) (by omega)) sS_X5_39 dX5_set_54 rfl rfl ⟨Nat.le_of_ble_eq_true rfl, Nat.le_of_ble_eq_true rfl⟩ ⟨Nat.zero_le _, Nat.zero_le _⟩ (Nat.le_of_ble_eq_true rfl) (fun v54 M54 g54 => ?_)
          obtain ⟨rfl, rfl⟩ := g54
          refine jw_if_ne (tgt := 66) hC dX5_set_57 (by decide) (by omega) (by omega) (fun h57 => ?_) (fun h57 => ?_)
          · skip
            refine jw_aload_n hC dX5_set_66 1 rfl rfl ?_
            refine jw_callV hC (c_X5_saves l E (mu M 88 0 0) (svs_c hc)) sV_X5_104 ewF_m0.o dX5_set_67 rfl rfl ⟨Nat.le_of_ble_eq_true rfl, Nat.le_of_ble_eq_true rfl⟩ ⟨Nat.zero_le _, Nat.zero_le _⟩ (Nat.le_of_ble_eq_true rfl) (fun v67 M67 g67 => ?_)
            obtain ⟨rfl, s1, s2, s3⟩ := g67
            have hsv : svs (mu M 88 0 0) M67 := ⟨s1, s2, s3⟩
            have e89 := svs_89 hsv
            refine jw_aload_n hC dX5_set_70 1 rfl rfl ?_
            refine jw_getr hC fL_X5_7 ewR_m1 dX5_set_71 ?_
            refine jw_iload_n hC dX5_set_74 2 rfl rfl ?_
            refine jw_iald hC ewA_89 dX5_set_75 (by omega) (by omega) (by decide) (fun b75 c75 => ?_)
            rw [e89] at b75 c75 ⊢
            refine jw_istore (L' := [(4, _), (3, _), (0, _), (1, _), (2, _)]) hC dX5_set_76 (by decide) rfl ?_
            refine jw_aload_n hC dX5_set_78 2 rfl rfl ?_
            refine jw_getr hC fL_X5_7 ewR_m1 dX5_set_79 ?_
            refine jw_iload_n hC dX5_set_82 3 rfl rfl ?_
            refine jw_iload_n hC dX5_set_83 4 rfl rfl ?_
            refine jw_iast hC ewA_89 dX5_set_84 (by omega) (by omega) (by decide) (by omega) (by omega) ?_
            refine jw_iload hC dX5_set_85 0 rfl ?_
            refine jw_iret hC dX5_set_87 ?_
            have q1 := ite_1 (C := 1 ≤ x ∧ x ≤ 9) h57
            exact ⟨fun z => absurd q0 z, fun _ z => absurd (show f_okv a x by unfold f_okv; omega) z, fun _ _ => ⟨M67, hsv, rfl, rfl⟩⟩
          · skip
            refine jw_aload_n hC dX5_set_60 1 rfl rfl ?_
            refine jw_iconst hC dX5_set_61 ?_
            refine jw_callV hC (c_X5_fails l E _ _ (by decide) (by decide)) sV_X5_101 ewF_m0.o dX5_set_62 rfl rfl ⟨Nat.le_of_ble_eq_true rfl, Nat.le_of_ble_eq_true rfl⟩ ⟨Nat.zero_le _, Nat.zero_le _⟩ (Nat.le_of_ble_eq_true rfl) (fun v62 M62 g62 => ?_)
            obtain ⟨rfl, rfl⟩ := g62
            refine jw_iret hC dX5_set_65 ?_
            have q1 := ite_0 (C := 1 ≤ x ∧ x ≤ 9) h57
            exact ⟨fun z => absurd q0 z, fun _ _ => ⟨rfl, rfl⟩, fun _ z => by unfold f_okv at z; exfalso; omega⟩
      · skip
        refine jw_bipush hC dX5_set_34 (by decide) ?_
        refine jw_goto (tgt := 41) hC dX5_set_36 (by decide) ?_
        refine jw_istore_n (L' := [(3, _), (0, _), (1, _), (2, _)]) hC dX5_set_41 rfl (by decide) rfl ?_
        refine jw_iload_n hC dX5_set_42 3 rfl rfl ?_
        refine jw_iload_n hC dX5_set_43 2 rfl rfl ?_
        refine jw_iconst hC dX5_set_44 ?_
        refine jw_icmp_ne (tgt := 52) hC dX5_set_45 (by decide) (by omega) (by omega) (by omega) (by omega) (fun h45 => ?_) (fun h45 => ?_)
        · skip
          refine jw_iconst hC dX5_set_52 ?_
          refine jw_iload_n hC dX5_set_53 0 rfl rfl ?_
          refine jw_callS hC (c_X5_in l E _ _ _ _ (by omega) (by omega) (by omega) (by omega) (by omega) (by omega)) sS_X5_39 dX5_set_54 rfl rfl ⟨Nat.le_of_ble_eq_true rfl, Nat.le_of_ble_eq_true rfl⟩ ⟨Nat.zero_le _, Nat.zero_le _⟩ (Nat.le_of_ble_eq_true rfl) (fun v54 M54 g54 => ?_)
          obtain ⟨rfl, rfl⟩ := g54
          refine jw_if_ne (tgt := 66) hC dX5_set_57 (by decide) (by omega) (by omega) (fun h57 => ?_) (fun h57 => ?_)
          · skip
            refine jw_aload_n hC dX5_set_66 1 rfl rfl ?_
            refine jw_callV hC (c_X5_saves l E (mu M 88 0 0) (svs_c hc)) sV_X5_104 ewF_m0.o dX5_set_67 rfl rfl ⟨Nat.le_of_ble_eq_true rfl, Nat.le_of_ble_eq_true rfl⟩ ⟨Nat.zero_le _, Nat.zero_le _⟩ (Nat.le_of_ble_eq_true rfl) (fun v67 M67 g67 => ?_)
            obtain ⟨rfl, s1, s2, s3⟩ := g67
            have hsv : svs (mu M 88 0 0) M67 := ⟨s1, s2, s3⟩
            have e89 := svs_89 hsv
            refine jw_aload_n hC dX5_set_70 1 rfl rfl ?_
            refine jw_getr hC fL_X5_7 ewR_m1 dX5_set_71 ?_
            refine jw_iload_n hC dX5_set_74 2 rfl rfl ?_
            refine jw_iald hC ewA_89 dX5_set_75 (by omega) (by omega) (by decide) (fun b75 c75 => ?_)
            rw [e89] at b75 c75 ⊢
            refine jw_istore (L' := [(4, _), (3, _), (0, _), (1, _), (2, _)]) hC dX5_set_76 (by decide) rfl ?_
            refine jw_aload_n hC dX5_set_78 2 rfl rfl ?_
            refine jw_getr hC fL_X5_7 ewR_m1 dX5_set_79 ?_
            refine jw_iload_n hC dX5_set_82 3 rfl rfl ?_
            refine jw_iload_n hC dX5_set_83 4 rfl rfl ?_
            refine jw_iast hC ewA_89 dX5_set_84 (by omega) (by omega) (by decide) (by omega) (by omega) ?_
            refine jw_iload hC dX5_set_85 0 rfl ?_
            refine jw_iret hC dX5_set_87 ?_
            have q1 := ite_1 (C := 0 ≤ x ∧ x ≤ 20) h57
            exact ⟨fun z => absurd q0 z, fun _ z => absurd (show f_okv a x by unfold f_okv; omega) z, fun _ _ => ⟨M67, hsv, rfl, rfl⟩⟩
          · skip
            refine jw_aload_n hC dX5_set_60 1 rfl rfl ?_
            refine jw_iconst hC dX5_set_61 ?_
            refine jw_callV hC (c_X5_fails l E _ _ (by decide) (by decide)) sV_X5_101 ewF_m0.o dX5_set_62 rfl rfl ⟨Nat.le_of_ble_eq_true rfl, Nat.le_of_ble_eq_true rfl⟩ ⟨Nat.zero_le _, Nat.zero_le _⟩ (Nat.le_of_ble_eq_true rfl) (fun v62 M62 g62 => ?_)
            obtain ⟨rfl, rfl⟩ := g62
            refine jw_iret hC dX5_set_65 ?_
            have q1 := ite_0 (C := 0 ≤ x ∧ x ≤ 20) h57
            exact ⟨fun z => absurd q0 z, fun _ _ => ⟨rfl, rfl⟩, fun _ z => by unfold f_okv at z; exfalso; omega⟩
        · skip
          exfalso; omega
    · skip
      refine jw_bipush hC dX5_set_24 (by decide) ?_
      refine jw_goto (tgt := 41) hC dX5_set_26 (by decide) ?_
      refine jw_istore_n (L' := [(3, _), (0, _), (1, _), (2, _)]) hC dX5_set_41 rfl (by decide) rfl ?_
      refine jw_iload_n hC dX5_set_42 3 rfl rfl ?_
      refine jw_iload_n hC dX5_set_43 2 rfl rfl ?_
      refine jw_iconst hC dX5_set_44 ?_
      refine jw_icmp_ne (tgt := 52) hC dX5_set_45 (by decide) (by omega) (by omega) (by omega) (by omega) (fun h45 => ?_) (fun h45 => ?_)
      · skip
        refine jw_iconst hC dX5_set_52 ?_
        refine jw_iload_n hC dX5_set_53 0 rfl rfl ?_
        refine jw_callS hC (c_X5_in l E _ _ _ _ (by omega) (by omega) (by omega) (by omega) (by omega) (by omega)) sS_X5_39 dX5_set_54 rfl rfl ⟨Nat.le_of_ble_eq_true rfl, Nat.le_of_ble_eq_true rfl⟩ ⟨Nat.zero_le _, Nat.zero_le _⟩ (Nat.le_of_ble_eq_true rfl) (fun v54 M54 g54 => ?_)
        obtain ⟨rfl, rfl⟩ := g54
        refine jw_if_ne (tgt := 66) hC dX5_set_57 (by decide) (by omega) (by omega) (fun h57 => ?_) (fun h57 => ?_)
        · skip
          refine jw_aload_n hC dX5_set_66 1 rfl rfl ?_
          refine jw_callV hC (c_X5_saves l E (mu M 88 0 0) (svs_c hc)) sV_X5_104 ewF_m0.o dX5_set_67 rfl rfl ⟨Nat.le_of_ble_eq_true rfl, Nat.le_of_ble_eq_true rfl⟩ ⟨Nat.zero_le _, Nat.zero_le _⟩ (Nat.le_of_ble_eq_true rfl) (fun v67 M67 g67 => ?_)
          obtain ⟨rfl, s1, s2, s3⟩ := g67
          have hsv : svs (mu M 88 0 0) M67 := ⟨s1, s2, s3⟩
          have e89 := svs_89 hsv
          refine jw_aload_n hC dX5_set_70 1 rfl rfl ?_
          refine jw_getr hC fL_X5_7 ewR_m1 dX5_set_71 ?_
          refine jw_iload_n hC dX5_set_74 2 rfl rfl ?_
          refine jw_iald hC ewA_89 dX5_set_75 (by omega) (by omega) (by decide) (fun b75 c75 => ?_)
          rw [e89] at b75 c75 ⊢
          refine jw_istore (L' := [(4, _), (3, _), (0, _), (1, _), (2, _)]) hC dX5_set_76 (by decide) rfl ?_
          refine jw_aload_n hC dX5_set_78 2 rfl rfl ?_
          refine jw_getr hC fL_X5_7 ewR_m1 dX5_set_79 ?_
          refine jw_iload_n hC dX5_set_82 3 rfl rfl ?_
          refine jw_iload_n hC dX5_set_83 4 rfl rfl ?_
          refine jw_iast hC ewA_89 dX5_set_84 (by omega) (by omega) (by decide) (by omega) (by omega) ?_
          refine jw_iload hC dX5_set_85 0 rfl ?_
          refine jw_iret hC dX5_set_87 ?_
          have q1 := ite_1 (C := 0 ≤ x ∧ x ≤ 99) h57
          exact ⟨fun z => absurd q0 z, fun _ z => absurd (show f_okv a x by unfold f_okv; omega) z, fun _ _ => ⟨M67, hsv, rfl, rfl⟩⟩
        · skip
          refine jw_aload_n hC dX5_set_60 1 rfl rfl ?_
          refine jw_iconst hC dX5_set_61 ?_
          refine jw_callV hC (c_X5_fails l E _ _ (by decide) (by decide)) sV_X5_101 ewF_m0.o dX5_set_62 rfl rfl ⟨Nat.le_of_ble_eq_true rfl, Nat.le_of_ble_eq_true rfl⟩ ⟨Nat.zero_le _, Nat.zero_le _⟩ (Nat.le_of_ble_eq_true rfl) (fun v62 M62 g62 => ?_)
          obtain ⟨rfl, rfl⟩ := g62
          refine jw_iret hC dX5_set_65 ?_
          have q1 := ite_0 (C := 0 ≤ x ∧ x ≤ 99) h57
          exact ⟨fun z => absurd q0 z, fun _ _ => ⟨rfl, rfl⟩, fun _ z => by unfold f_okv at z; exfalso; omega⟩
      · skip
        exfalso; omega
  · skip
    refine jw_aload_n hC dX5_set_14 0 rfl rfl ?_
    refine jw_iconst hC dX5_set_15 ?_
    refine jw_callV hC (c_X5_fails l E _ _ (by decide) (by decide)) sV_X5_101 ewF_m0.o dX5_set_16 rfl rfl ⟨Nat.le_of_ble_eq_true rfl, Nat.le_of_ble_eq_true rfl⟩ ⟨Nat.zero_le _, Nat.zero_le _⟩ (Nat.le_of_ble_eq_true rfl) (fun v16 M16 g16 => ?_)
    obtain ⟨rfl, rfl⟩ := g16
    refine jw_iret hC dX5_set_19 ?_
    exact ⟨fun _ => ⟨rfl, rfl⟩, fun z => absurd z (ite_0 h11), fun z => absurd z (ite_0 h11)⟩
set_option maxRecDepth 100000 in
set_option maxHeartbeats 4000000 in
theorem c_X5_foil (l : Launch) (E : ewE) (M : ewM) (hc : 0 ≤ M 88 4 ∧ M 88 4 ≤ 6) (f : Int) (f1 : -2147483648 ≤ f) (f2 : f < 2147483648) (x : Int) (x1 : -2147483648 ≤ x) (x2 : x < 2147483648) (y : Int) (y1 : -2147483648 ≤ y) (y2 : y < 2147483648) (u : Int) (u1 : -2147483648 ≤ u) (u2 : u < 2147483648) (w : Int) (w1 : -2147483648 ≤ w) (w2 : w < 2147483648) : Ct l E yX5_foil (.code yX5_foil cX5_foil 6 (some .int)) 3 [vR E 88, vI f, vI x, vI y, vI u, vI w] M (fun v M1 => (¬ (((0 ≤ x ∧ x ≤ 11) ∧ (0 ≤ y ∧ y ≤ 11)) ∧ ((0 ≤ u ∧ u ≤ 11) ∧ (0 ≤ w ∧ w ≤ 11))) → v = some (vI 0) ∧ M1 = mu (mu M 88 0 0) 88 0 1) ∧ (((0 ≤ x ∧ x ≤ 11) ∧ (0 ≤ y ∧ y ≤ 11)) ∧ ((0 ≤ u ∧ u ≤ 11) ∧ (0 ≤ w ∧ w ≤ 11)) → ¬ ((1 ≤ f ∧ f ≤ 9) ∧ x ≤ u ∧ y ≤ w) → v = some (vI 0) ∧ M1 = mu (mu M 88 0 0) 88 0 2) ∧ (((0 ≤ x ∧ x ≤ 11) ∧ (0 ≤ y ∧ y ≤ 11)) ∧ ((0 ≤ u ∧ u ≤ 11) ∧ (0 ≤ w ∧ w ≤ 11)) → (1 ≤ f ∧ f ≤ 9) ∧ x ≤ u ∧ y ≤ w → ∃ N : ewM, svs (mu M 88 0 0) N ∧ v = some (vI ((u - x + 1) * (w - y + 1))) ∧ M1 = mu (mu (mu (mu (mu N 89 8 f) 89 9 x) 89 10 y) 89 11 u) 89 12 w)) := by
  refine ct_of (L0 := [(0, vR E 88), (1, vI f), (2, vI x), (3, vI y), (4, vI u), (5, vI w)]) (by decide +kernel) rfl (Nat.le_of_ble_eq_true rfl) ?_
  intro zp ze zs zm za zb zt zc zA hC
  have hz0 := ite_z ((0 ≤ x ∧ x ≤ 11) ∧ (0 ≤ y ∧ y ≤ 11))
  have hz1 := ite_z ((0 ≤ u ∧ u ≤ 11) ∧ (0 ≤ w ∧ w ≤ 11))
  have hz2 := ite_z (1 ≤ f ∧ f ≤ 9)
  refine jw_aload_n hC dX5_foil_0 0 rfl rfl ?_
  refine jw_iconst hC dX5_foil_1 ?_
  refine jw_puti hC fL_X5_35 ewF_m0 (kI := 0) rfl dX5_foil_2 (by omega) (by omega) ?_
  refine jw_iload_n hC dX5_foil_5 2 rfl rfl ?_
  refine jw_iload_n hC dX5_foil_6 3 rfl rfl ?_
  refine jw_callS hC (c_X5_isPlace l E _ _ _ (by omega) (by omega) (by omega) (by omega)) sS_X5_53 dX5_foil_7 rfl rfl ⟨Nat.le_of_ble_eq_true rfl, Nat.le_of_ble_eq_true rfl⟩ ⟨Nat.zero_le _, Nat.zero_le _⟩ (Nat.le_of_ble_eq_true rfl) (fun v7 M7 g7 => ?_)
  obtain ⟨rfl, rfl⟩ := g7
  refine jw_if_eq (tgt := 23) hC dX5_foil_10 (by decide) (by omega) (by omega) (fun h10 => ?_) (fun h10 => ?_)
  · skip
    refine jw_aload_n hC dX5_foil_23 0 rfl rfl ?_
    refine jw_iconst hC dX5_foil_24 ?_
    refine jw_callV hC (c_X5_fails l E _ _ (by decide) (by decide)) sV_X5_101 ewF_m0.o dX5_foil_25 rfl rfl ⟨Nat.le_of_ble_eq_true rfl, Nat.le_of_ble_eq_true rfl⟩ ⟨Nat.zero_le _, Nat.zero_le _⟩ (Nat.le_of_ble_eq_true rfl) (fun v25 M25 g25 => ?_)
    obtain ⟨rfl, rfl⟩ := g25
    refine jw_iret hC dX5_foil_28 ?_
    exact ⟨fun _ => ⟨rfl, rfl⟩, fun z => absurd z.1 (ite_0 h10), fun z => absurd z.1 (ite_0 h10)⟩
  · skip
    refine jw_iload hC dX5_foil_13 4 rfl ?_
    refine jw_iload hC dX5_foil_15 5 rfl ?_
    refine jw_callS hC (c_X5_isPlace l E _ _ _ (by omega) (by omega) (by omega) (by omega)) sS_X5_53 dX5_foil_17 rfl rfl ⟨Nat.le_of_ble_eq_true rfl, Nat.le_of_ble_eq_true rfl⟩ ⟨Nat.zero_le _, Nat.zero_le _⟩ (Nat.le_of_ble_eq_true rfl) (fun v17 M17 g17 => ?_)
    obtain ⟨rfl, rfl⟩ := g17
    refine jw_if_ne (tgt := 29) hC dX5_foil_20 (by decide) (by omega) (by omega) (fun h20 => ?_) (fun h20 => ?_)
    · skip
      refine jw_iload_n hC dX5_foil_29 1 rfl rfl ?_
      refine jw_iconst hC dX5_foil_30 ?_
      refine jw_bipush hC dX5_foil_31 (by decide) ?_
      refine jw_callS hC (c_X5_in l E _ _ _ _ (by omega) (by omega) (by omega) (by omega) (by omega) (by omega)) sS_X5_39 dX5_foil_33 rfl rfl ⟨Nat.le_of_ble_eq_true rfl, Nat.le_of_ble_eq_true rfl⟩ ⟨Nat.zero_le _, Nat.zero_le _⟩ (Nat.le_of_ble_eq_true rfl) (fun v33 M33 g33 => ?_)
      obtain ⟨rfl, rfl⟩ := g33
      refine jw_if_eq (tgt := 51) hC dX5_foil_36 (by decide) (by omega) (by omega) (fun h36 => ?_) (fun h36 => ?_)
      · skip
        refine jw_aload_n hC dX5_foil_51 0 rfl rfl ?_
        refine jw_iconst hC dX5_foil_52 ?_
        refine jw_callV hC (c_X5_fails l E _ _ (by decide) (by decide)) sV_X5_101 ewF_m0.o dX5_foil_53 rfl rfl ⟨Nat.le_of_ble_eq_true rfl, Nat.le_of_ble_eq_true rfl⟩ ⟨Nat.zero_le _, Nat.zero_le _⟩ (Nat.le_of_ble_eq_true rfl) (fun v53 M53 g53 => ?_)
        obtain ⟨rfl, rfl⟩ := g53
        refine jw_iret hC dX5_foil_56 ?_
        have q0 := ite_1 (C := (0 ≤ x ∧ x ≤ 11) ∧ (0 ≤ y ∧ y ≤ 11)) h10
        have q1 := ite_1 (C := (0 ≤ u ∧ u ≤ 11) ∧ (0 ≤ w ∧ w ≤ 11)) h20
        exact ⟨fun z => absurd ⟨q0, q1⟩ z, fun _ _ => ⟨rfl, rfl⟩, fun _ z => absurd z.1 (ite_0 h36)⟩
      · skip
        refine jw_iload hC dX5_foil_39 4 rfl ?_
        refine jw_iload_n hC dX5_foil_41 2 rfl rfl ?_
        refine jw_icmp_lt (tgt := 51) hC dX5_foil_42 (by decide) (by omega) (by omega) (by omega) (by omega) (fun h42 => ?_) (fun h42 => ?_)
        · skip
          refine jw_aload_n hC dX5_foil_51 0 rfl rfl ?_
          refine jw_iconst hC dX5_foil_52 ?_
          refine jw_callV hC (c_X5_fails l E _ _ (by decide) (by decide)) sV_X5_101 ewF_m0.o dX5_foil_53 rfl rfl ⟨Nat.le_of_ble_eq_true rfl, Nat.le_of_ble_eq_true rfl⟩ ⟨Nat.zero_le _, Nat.zero_le _⟩ (Nat.le_of_ble_eq_true rfl) (fun v53 M53 g53 => ?_)
          obtain ⟨rfl, rfl⟩ := g53
          refine jw_iret hC dX5_foil_56 ?_
          have q0 := ite_1 (C := (0 ≤ x ∧ x ≤ 11) ∧ (0 ≤ y ∧ y ≤ 11)) h10
          have q1 := ite_1 (C := (0 ≤ u ∧ u ≤ 11) ∧ (0 ≤ w ∧ w ≤ 11)) h20
          exact ⟨fun z => absurd ⟨q0, q1⟩ z, fun _ _ => ⟨rfl, rfl⟩, fun _ z => by exfalso; omega⟩
        · skip
          refine jw_iload hC dX5_foil_45 5 rfl ?_
          refine jw_iload_n hC dX5_foil_47 3 rfl rfl ?_
          refine jw_icmp_ge (tgt := 57) hC dX5_foil_48 (by decide) (by omega) (by omega) (by omega) (by omega) (fun h48 => ?_) (fun h48 => ?_)
          · skip
            refine jw_aload_n hC dX5_foil_57 0 rfl rfl ?_
            refine jw_callV hC (c_X5_saves l E (mu M 88 0 0) (svs_c hc)) sV_X5_104 ewF_m0.o dX5_foil_58 rfl rfl ⟨Nat.le_of_ble_eq_true rfl, Nat.le_of_ble_eq_true rfl⟩ ⟨Nat.zero_le _, Nat.zero_le _⟩ (Nat.le_of_ble_eq_true rfl) (fun v58 M58 g58 => ?_)
            obtain ⟨rfl, s1, s2, s3⟩ := g58
            have hsv : svs (mu M 88 0 0) M58 := ⟨s1, s2, s3⟩
            have e89 := svs_89 hsv
            refine jw_aload_n hC dX5_foil_61 0 rfl rfl ?_
            refine jw_getr hC fL_X5_7 ewR_m1 dX5_foil_62 ?_
            refine jw_bipush hC dX5_foil_65 (by decide) ?_
            refine jw_iload_n hC dX5_foil_67 1 rfl rfl ?_
            refine jw_iast hC ewA_89 dX5_foil_68 (by omega) (by omega) (by decide) (by omega) (by omega) ?_
            refine jw_aload_n hC dX5_foil_69 0 rfl rfl ?_
            refine jw_getr hC fL_X5_7 ewR_m1 dX5_foil_70 ?_
            refine jw_bipush hC dX5_foil_73 (by decide) ?_
            refine jw_iload_n hC dX5_foil_75 2 rfl rfl ?_
            refine jw_iast hC ewA_89 dX5_foil_76 (by omega) (by omega) (by decide) (by omega) (by omega) ?_
            refine jw_aload_n hC dX5_foil_77 0 rfl rfl ?_
            refine jw_getr hC fL_X5_7 ewR_m1 dX5_foil_78 ?_
            refine jw_bipush hC dX5_foil_81 (by decide) ?_
            refine jw_iload_n hC dX5_foil_83 3 rfl rfl ?_
            refine jw_iast hC ewA_89 dX5_foil_84 (by omega) (by omega) (by decide) (by omega) (by omega) ?_
            refine jw_aload_n hC dX5_foil_85 0 rfl rfl ?_
            refine jw_getr hC fL_X5_7 ewR_m1 dX5_foil_86 ?_
            refine jw_bipush hC dX5_foil_89 (by decide) ?_
            refine jw_iload hC dX5_foil_91 4 rfl ?_
            refine jw_iast hC ewA_89 dX5_foil_93 (by omega) (by omega) (by decide) (by omega) (by omega) ?_
            refine jw_aload_n hC dX5_foil_94 0 rfl rfl ?_
            refine jw_getr hC fL_X5_7 ewR_m1 dX5_foil_95 ?_
            refine jw_bipush hC dX5_foil_98 (by decide) ?_
            refine jw_iload hC dX5_foil_100 5 rfl ?_
            refine jw_iast hC ewA_89 dX5_foil_102 (by omega) (by omega) (by decide) (by omega) (by omega) ?_
            refine jw_iload hC dX5_foil_103 4 rfl ?_
            refine jw_iload_n hC dX5_foil_105 2 rfl rfl ?_
            refine jw_isub hC dX5_foil_106 ?_
            refine jw_iconst hC dX5_foil_107 ?_
            refine jw_iadd hC dX5_foil_108 ?_
            refine jw_iload hC dX5_foil_109 5 rfl ?_
            refine jw_iload_n hC dX5_foil_111 3 rfl rfl ?_
            refine jw_isub hC dX5_foil_112 ?_
            refine jw_iconst hC dX5_foil_113 ?_
            refine jw_iadd hC dX5_foil_114 ?_
            refine jw_imul hC dX5_foil_115 ?_
            refine jw_iret hC dX5_foil_116 ?_
            have q0 := ite_1 (C := (0 ≤ x ∧ x ≤ 11) ∧ (0 ≤ y ∧ y ≤ 11)) h10
            have q1 := ite_1 (C := (0 ≤ u ∧ u ≤ 11) ∧ (0 ≤ w ∧ w ≤ 11)) h20
            have q2 := ite_1 (C := 1 ≤ f ∧ f ≤ 9) h36
            exact ⟨fun z => absurd ⟨q0, q1⟩ z, fun _ z => absurd ⟨q2, by omega, by omega⟩ z, fun _ _ => ⟨M58, hsv, rfl, rfl⟩⟩
          · skip
            refine jw_aload_n hC dX5_foil_51 0 rfl rfl ?_
            refine jw_iconst hC dX5_foil_52 ?_
            refine jw_callV hC (c_X5_fails l E _ _ (by decide) (by decide)) sV_X5_101 ewF_m0.o dX5_foil_53 rfl rfl ⟨Nat.le_of_ble_eq_true rfl, Nat.le_of_ble_eq_true rfl⟩ ⟨Nat.zero_le _, Nat.zero_le _⟩ (Nat.le_of_ble_eq_true rfl) (fun v53 M53 g53 => ?_)
            obtain ⟨rfl, rfl⟩ := g53
            refine jw_iret hC dX5_foil_56 ?_
            have q0 := ite_1 (C := (0 ≤ x ∧ x ≤ 11) ∧ (0 ≤ y ∧ y ≤ 11)) h10
            have q1 := ite_1 (C := (0 ≤ u ∧ u ≤ 11) ∧ (0 ≤ w ∧ w ≤ 11)) h20
            exact ⟨fun z => absurd ⟨q0, q1⟩ z, fun _ _ => ⟨rfl, rfl⟩, fun _ z => by exfalso; omega⟩
    · skip
      refine jw_aload_n hC dX5_foil_23 0 rfl rfl ?_
      refine jw_iconst hC dX5_foil_24 ?_
      refine jw_callV hC (c_X5_fails l E _ _ (by decide) (by decide)) sV_X5_101 ewF_m0.o dX5_foil_25 rfl rfl ⟨Nat.le_of_ble_eq_true rfl, Nat.le_of_ble_eq_true rfl⟩ ⟨Nat.zero_le _, Nat.zero_le _⟩ (Nat.le_of_ble_eq_true rfl) (fun v25 M25 g25 => ?_)
      obtain ⟨rfl, rfl⟩ := g25
      refine jw_iret hC dX5_foil_28 ?_
      exact ⟨fun _ => ⟨rfl, rfl⟩, fun z => absurd z.2 (ite_0 h20), fun z => absurd z.2 (ite_0 h20)⟩
