/-! THE CLASS: its public methods that change -/
/-- N is M with the present state saved -/
def svc (M N : ewM) : Prop := (∀ k : Int, N 77 k = if k = 4 then rg_o M else if k = 5 then rg_n M + 1 else M 77 k) ∧ ∀ j : Nat, (j : Int) = 3 + (rg_o M + rg_n M) % 6 → N (50 + 3 * j + 1) = M 51 ∧ N (50 + 3 * j + 2) = M 52 ∧ (∀ r, 1 ≤ r → r ≤ 4 → N (5 * j + r) = M r) ∧ (∀ k : Int, 3 ≤ k → k ≤ 14 → N (50 + 3 * j) k = M 50 k) ∧ ∀ o, o ≠ 77 → (o < 5 * j + 1 ∨ 5 * j + 4 < o) → (o < 50 + 3 * j ∨ 50 + 3 * j + 2 < o) → N o = M o
theorem svc_o {M N : ewM} (h : svc M N) : ∀ o : Nat, (o ≤ 15 ∨ (45 ≤ o ∧ o ≤ 58) ∨ 78 ≤ o) → N o = M o := by
  intro o ho
  obtain ⟨j, hj⟩ : ∃ j : Nat, (j : Int) = 3 + (rg_o M + rg_n M) % 6 := ⟨(3 + (rg_o M + rg_n M) % 6).toNat, by omega⟩
  exact (h.2 j hj).2.2.2.2 o (by omega) (by omega) (by omega)
theorem st0_cg {M N : ewM} (h0 : st0 M) (h1 : N 1 = M 1) (h2 : N 3 = M 3) (h3 : N 50 = M 50) (h4 : N 51 = M 51) (h5 : N 52 = M 52) : st0 N := by
  unfold st0
  rw [h1, h2, h3, h4, h5]
  exact h0
theorem svc_st0 {M N : ewM} (h : svc M N) (h0 : st0 M) : st0 N :=
  st0_cg h0 (svc_o h 1 (by omega)) (svc_o h 3 (by omega)) (svc_o h 50 (by omega)) (svc_o h 51 (by omega)) (svc_o h 52 (by omega))
/-- state j of N is state i of M -/
def cpS (M : ewM) (i : Nat) (N : ewM) (j : Nat) : Prop := N (50 + 3 * j + 1) = M (50 + 3 * i + 1) ∧ N (50 + 3 * j + 2) = M (50 + 3 * i + 2) ∧ (∀ r, 1 ≤ r → r ≤ 4 → N (5 * j + r) = M (5 * i + r)) ∧ ∀ k : Int, 3 ≤ k → k ≤ 14 → N (50 + 3 * j) k = M (50 + 3 * i) k
/-- the depth that a cast takes at the point k -/
def f_cw (d : Int → Int) (x y k : Int) : Int := min (if f_pl (x + k % 5) (y + k / 5) = -1 then 0 else d (f_pl (x + k % 5) (y + k / 5))) 9
/-- the setting a takes the value x -/
def f_okc (a x : Int) : Prop := g_least a.toNat ≤ x ∧ x ≤ g_great a.toNat
set_option maxRecDepth 100000 in
set_option maxHeartbeats 4000000 in
theorem c_X4_point (l : Launch) (E : ewE) (M : ewM) (q4 : 0 ≤ M 77 4 ∧ M 77 4 ≤ 5) (q5 : 0 ≤ M 77 5 ∧ M 77 5 ≤ 6) (a : Int) (a1 : -2147483648 ≤ a) (a2 : a < 2147483648) (x : Int) (x1 : -2147483648 ≤ x) (x2 : x < 2147483648) (y : Int) (y1 : -2147483648 ≤ y) (y2 : y < 2147483648) (dd : Int) (dd1 : -2147483648 ≤ dd) (dd2 : dd < 2147483648) (hok : ((0 ≤ a ∧ a < 3) ∧ (0 ≤ x ∧ x < 5 ∧ 0 ≤ y ∧ y < 5)) ∧ (0 ≤ dd ∧ dd ≤ 9)) : Ct l E yX4_point (.code yX4_point cX4_point 7 (some .int)) 5 [vR E 77, vI a, vI x, vI y, vI dd] M (fun v M1 => (((0 ≤ a ∧ a < 3) ∧ (0 ≤ x ∧ x < 5 ∧ 0 ≤ y ∧ y < 5)) ∧ (0 ≤ dd ∧ dd ≤ 9)) ∧ ∃ N : ewM, svc M N ∧ v = some (vI (M 51 (a * 25 + y * 5 + x))) ∧ M1 = mu N 51 (a * 25 + y * 5 + x) dd) := by
  refine ct_of (L0 := [(0, vR E 77), (1, vI a), (2, vI x), (3, vI y), (4, vI dd)]) (by decide +kernel) rfl (Nat.le_of_ble_eq_true rfl) ?_
  intro zp ze zs zm za zb zt zc zA hC
  have hz4 := ite_z (0 ≤ a ∧ a < 3)
  have hz12 := ite_z (0 ≤ x ∧ x < 5 ∧ 0 ≤ y ∧ y < 5)
  refine jw_iload_n hC dX4_point_0 1 rfl rfl ?_
  refine jw_callS hC (c_X4_isDie l E _ _ (by omega) (by omega)) sS_X4_52 dX4_point_1 rfl rfl ⟨Nat.le_of_ble_eq_true rfl, Nat.le_of_ble_eq_true rfl⟩ ⟨Nat.zero_le _, Nat.zero_le _⟩ (Nat.le_of_ble_eq_true rfl) (fun v1 M1 g1 => ?_)
  obtain ⟨rfl, rfl⟩ := g1
  refine jw_if_eq (tgt := 15) hC dX4_point_4 (by decide) (by omega) (by omega) (fun h4 => ?_) (fun h4 => ?_)
  · skip
    have z4 := ite_0 (C := 0 ≤ a ∧ a < 3) h4
    exfalso; omega
  · skip
    have z4 := ite_1 (C := 0 ≤ a ∧ a < 3) h4
    refine jw_iload_n hC dX4_point_7 2 rfl rfl ?_
    refine jw_iload_n hC dX4_point_8 3 rfl rfl ?_
    refine jw_callS hC (c_X4_isPoint l E _ _ _ (by omega) (by omega) (by omega) (by omega)) sS_X4_56 dX4_point_9 rfl rfl ⟨Nat.le_of_ble_eq_true rfl, Nat.le_of_ble_eq_true rfl⟩ ⟨Nat.zero_le _, Nat.zero_le _⟩ (Nat.le_of_ble_eq_true rfl) (fun v9 M9 g9 => ?_)
    obtain ⟨rfl, rfl⟩ := g9
    refine jw_if_ne (tgt := 25) hC dX4_point_12 (by decide) (by omega) (by omega) (fun h12 => ?_) (fun h12 => ?_)
    · skip
      have z12 := ite_1 (C := 0 ≤ x ∧ x < 5 ∧ 0 ≤ y ∧ y < 5) h12
      refine jw_iload hC dX4_point_25 4 rfl ?_
      refine jw_if_lt (tgt := 37) hC dX4_point_27 (by decide) (by omega) (by omega) (fun h27 => ?_) (fun h27 => ?_)
      · skip
        exfalso; omega
      · skip
        refine jw_iload hC dX4_point_30 4 rfl ?_
        refine jw_bipush hC dX4_point_32 (by decide) ?_
        refine jw_icmp_le (tgt := 47) hC dX4_point_34 (by decide) (by omega) (by omega) (by omega) (by omega) (fun h34 => ?_) (fun h34 => ?_)
        · skip
          refine jw_aload_n hC dX4_point_47 0 rfl rfl ?_
          refine jw_callV hC (c_X4_saveState l E M q4 q5) sV_X4_72 ewF_x4.o dX4_point_48 rfl rfl ⟨Nat.le_of_ble_eq_true rfl, Nat.le_of_ble_eq_true rfl⟩ ⟨Nat.zero_le _, Nat.zero_le _⟩ (Nat.le_of_ble_eq_true rfl) (fun v48 M48 g48 => ?_)
          obtain ⟨rfl, s1, s2⟩ := g48
          have hsv : svc M M48 := ⟨s1, s2⟩
          have e1 := svc_o hsv 1 (by omega)
          have e2 := svc_o hsv 2 (by omega)
          have e3 := svc_o hsv 3 (by omega)
          have e4 := svc_o hsv 4 (by omega)
          have e50 := svc_o hsv 50 (by omega)
          have e51 := svc_o hsv 51 (by omega)
          have e52 := svc_o hsv 52 (by omega)
          have e79 := svc_o hsv 79 (by omega)
          have e81 := svc_o hsv 81 (by omega)
          have e82 := svc_o hsv 82 (by omega)
          refine jw_iload_n hC dX4_point_51 1 rfl rfl ?_
          refine jw_iload_n hC dX4_point_52 2 rfl rfl ?_
          refine jw_iload_n hC dX4_point_53 3 rfl rfl ?_
          refine jw_callS hC (c_X4_pointIndex l E _ _ _ _) sS_X4_75 dX4_point_54 rfl rfl ⟨Nat.le_of_ble_eq_true rfl, Nat.le_of_ble_eq_true rfl⟩ ⟨Nat.zero_le _, Nat.zero_le _⟩ (Nat.le_of_ble_eq_true rfl) (fun v54 M54 g54 => ?_)
          obtain ⟨rfl, rfl⟩ := g54
          refine jw_istore (L' := [(5, _), (0, _), (1, _), (2, _), (3, _), (4, _)]) hC dX4_point_57 (by decide) rfl ?_
          refine jw_aload_n hC dX4_point_59 1 rfl rfl ?_
          refine jw_getr hC fL_X4_12 ewR_x0 dX4_point_60 ?_
          refine jw_getr hC fL_X4_79 (show ewR 50 6 0 51 from ewR_t0 (j := 0) (by decide)) dX4_point_63 ?_
          refine jw_iload hC dX4_point_66 0 rfl ?_
          refine jw_iald hC (show ewA 51 0 75 from ewA_points (j := 0) (by decide)) dX4_point_68 (by omega) (by omega) (by decide) (fun b68 c68 => ?_)
          rw [e51] at b68 c68 ⊢
          refine jw_istore (L' := [(6, _), (5, _), (0, _), (1, _), (2, _), (3, _), (4, _)]) hC dX4_point_69 (by decide) rfl ?_
          refine jw_aload_n hC dX4_point_71 2 rfl rfl ?_
          refine jw_getr hC fL_X4_12 ewR_x0 dX4_point_72 ?_
          refine jw_getr hC fL_X4_79 (show ewR 50 6 0 51 from ewR_t0 (j := 0) (by decide)) dX4_point_75 ?_
          refine jw_iload hC dX4_point_78 1 rfl ?_
          refine jw_iload hC dX4_point_80 6 rfl ?_
          refine jw_iast hC (show ewA 51 0 75 from ewA_points (j := 0) (by decide)) dX4_point_82 (by omega) (by omega) (by decide) (by omega) (by omega) ?_
          refine jw_iload hC dX4_point_83 0 rfl ?_
          refine jw_iret hC dX4_point_85 ?_
          exact ⟨by omega, M48, hsv, rfl, rfl⟩
        · skip
          exfalso; omega
    · skip
      have z12 := ite_0 (C := 0 ≤ x ∧ x < 5 ∧ 0 ≤ y ∧ y < 5) h12
      exfalso; omega
set_option maxRecDepth 100000 in
set_option maxHeartbeats 4000000 in
theorem c_X4_cast (l : Launch) (E : ewE) (M : ewM) (h0 : st0 M) (q4 : 0 ≤ M 77 4 ∧ M 77 4 ≤ 5) (q5 : 0 ≤ M 77 5 ∧ M 77 5 ≤ 6) (a : Int) (a1 : -2147483648 ≤ a) (a2 : a < 2147483648) (x : Int) (x1 : -2147483648 ≤ x) (x2 : x < 2147483648) (y : Int) (y1 : -2147483648 ≤ y) (y2 : y < 2147483648) (hok : (0 ≤ a ∧ a < 3) ∧ (0 ≤ x ∧ x < 12 ∧ 0 ≤ y ∧ y < 12)) : Ct l E yX4_cast (.code yX4_cast cX4_cast 7 (some .int)) 5 [vR E 77, vI a, vI x, vI y] M (fun v M1 => ((0 ≤ a ∧ a < 3) ∧ (0 ≤ x ∧ x < 12 ∧ 0 ≤ y ∧ y < 12)) ∧ ∃ N : ewM, svc M N ∧ v = some (vI (f_sum (fun q => if 0 < M1 51 (a * 25 + q) then 1 else 0) 25)) ∧ (∀ q : Int, M1 51 q = if a * 25 ≤ q ∧ q < a * 25 + 25 then f_cw (M 1) x y (q - a * 25) else M 51 q) ∧ ∀ o, o ≠ 51 → M1 o = N o) := by
  refine ct_of (L0 := [(0, vR E 77), (1, vI a), (2, vI x), (3, vI y)]) (by decide +kernel) rfl (Nat.le_of_ble_eq_true rfl) ?_
  intro zp ze zs zm za zb zt zc zA hC
  have hz4 := ite_z (0 ≤ a ∧ a < 3)
  have hpa := f_pl_bd x y
  have K44 : ∀ (N : ewM) (hsv : svc M N) (z4 : 0 ≤ a ∧ a < 3) (z15 : 0 ≤ x ∧ x < 12 ∧ 0 ≤ y ∧ y < 12) (e1 : N 1 = M 1) (e51 : N 51 = M 51), ∀ (n : Nat) (rr cc : Int) (M1 : ewM), 30 - (6 * rr + cc) < n → 0 ≤ rr → rr < 5 → 0 ≤ cc → cc ≤ 5 → (∀ q : Int, M1 51 q = if a * 25 ≤ q ∧ q < a * 25 + (5 * rr + cc) then f_cw (M 1) x y (q - a * 25) else M 51 q) → (∀ o, o ≠ 51 → M1 o = N o) → jJ zp l ze (ct_rm 5) zs zm za zb zt zc E zA 7 0 0 (MQ zb (ct_Q E zA (fun v M1 => ((0 ≤ a ∧ a < 3) ∧ (0 ≤ x ∧ x < 12 ∧ 0 ≤ y ∧ y < 12)) ∧ ∃ N : ewM, svc M N ∧ v = some (vI (f_sum (fun q => if 0 < M1 51 (a * 25 + q) then 1 else 0) 25)) ∧ (∀ q : Int, M1 51 q = if a * 25 ≤ q ∧ q < a * 25 + 25 then f_cw (M 1) x y (q - a * 25) else M 51 q) ∧ ∀ o, o ≠ 51 → M1 o = N o)) za zs 0 0 zA) 44 [(0, vR E 77), (1, vI a), (2, vI x), (3, vI y), (4, vI rr), (5, vI cc)] [] M1 := by
    intro N hsv z4 z15 e1 e51 n
    induction n with
    | zero => intros; omega
    | succ n ih =>
      intro rr cc M1 i1 i2 i3 i4 i5 g1 g2
      refine jw_iload hC dX4_cast_44 5 rfl ?_
      refine jw_iconst hC dX4_cast_46 ?_
      refine jw_icmp_ge (tgt := 99) hC dX4_cast_47 (by decide) (by omega) (by omega) (by omega) (by omega) (fun h47 => ?_) (fun h47 => ?_)
      · skip
        refine jw_iinc (L' := [(4, _), (0, _), (1, _), (2, _), (3, _), (5, _)]) hC dX4_cast_99 4 rfl (by decide) rfl ?_
        refine jw_goto (tgt := 35) hC dX4_cast_102 (by decide) ?_
        refine jw_iload hC dX4_cast_35 0 rfl ?_
        refine jw_iconst hC dX4_cast_37 ?_
        refine jw_icmp_ge (tgt := 105) hC dX4_cast_38 (by decide) (by omega) (by omega) (by omega) (by omega) (fun h38 => ?_) (fun h38 => ?_)
        · skip
          refine jw_aload_n hC dX4_cast_105 1 rfl rfl ?_
          refine jw_getr hC fL_X4_12 ewR_x0 dX4_cast_106 ?_
          refine jw_iload_n hC dX4_cast_109 2 rfl rfl ?_
          refine jw_callV hC (c_X3_raisedPoints l E M1 0 (by decide) a (by omega)) sV_X4_100 (show ewO 50 6 from ewO_state (j := 0) (by decide)) dX4_cast_110 rfl rfl ⟨Nat.le_of_ble_eq_true rfl, Nat.le_of_ble_eq_true rfl⟩ ⟨Nat.zero_le _, Nat.zero_le _⟩ (Nat.le_of_ble_eq_true rfl) (fun v110 M110 g110 => ?_)
          obtain ⟨rfl, rfl⟩ := g110
          show jJ _ _ _ _ _ _ _ _ _ _ _ _ _ _ _ _ _ _ (vI (f_sum (fun q => if 0 < M1 51 (a * 25 + q) then 1 else 0) 25) :: _) _
          refine jw_iret hC dX4_cast_113 ?_
          have e9 : 5 * rr + cc = 25 := by omega
          rw [e9] at g1
          exact ⟨by omega, N, hsv, rfl, g1, g2⟩
        · skip
          refine jw_iconst hC dX4_cast_41 ?_
          refine jw_istore (L' := [(5, _), (4, _), (0, _), (1, _), (2, _), (3, _)]) hC dX4_cast_42 (by decide) rfl ?_
          refine jw_loc (L' := [(0, _), (1, _), (2, _), (3, _), (4, _), (5, _)]) [2, 3, 4, 5, 1, 0] rfl ?_
          exact ih _ _ _ (by omega) (by omega) (by omega) (by omega) (by omega) (fun q => by rw [show 5 * (rr + 1) + 0 = 5 * rr + cc by omega]; exact g1 q) g2
      · skip
        refine jw_aload_n hC dX4_cast_50 0 rfl rfl ?_
        refine jw_getr hC fL_X4_12 ewR_x0 dX4_cast_51 ?_
        refine jw_getr hC fL_X4_88 (show ewR 50 6 2 0 from ewR_t2 (j := 0) (by decide)) dX4_cast_54 ?_
        refine jw_iload_n hC dX4_cast_57 2 rfl rfl ?_
        refine jw_iload hC dX4_cast_58 5 rfl ?_
        refine jw_iadd hC dX4_cast_60 ?_
        refine jw_iload_n hC dX4_cast_61 3 rfl rfl ?_
        refine jw_iload hC dX4_cast_62 4 rfl ?_
        refine jw_iadd hC dX4_cast_64 ?_
        refine jw_callV hC (c_X2_depthAt l E M1 0 (by decide) _ _ (by omega) (by omega) (by omega) (by omega)) sV_X4_91 (show ewO 0 5 from ewO_sheet (j := 0) (by decide)) dX4_cast_65 rfl rfl ⟨Nat.le_of_ble_eq_true rfl, Nat.le_of_ble_eq_true rfl⟩ ⟨Nat.zero_le _, Nat.zero_le _⟩ (Nat.le_of_ble_eq_true rfl) (fun v65 M65 g65 => ?_)
        obtain ⟨rfl, rfl⟩ := g65
        have m1e : M1 1 = M 1 := (g2 1 (by decide)).trans e1
        have hpb := f_pl_bd (x + cc) (y + rr)
        have hdb : 0 ≤ (if f_pl (x + cc) (y + rr) = -1 then 0 else M1 (5 * 0 + 1) (f_pl (x + cc) (y + rr))) ∧ (if f_pl (x + cc) (y + rr) = -1 then 0 else M1 (5 * 0 + 1) (f_pl (x + cc) (y + rr))) ≤ 9 := by
          split
          · omega
          · have z := h0.1 (f_pl (x + cc) (y + rr))
            rw [← m1e] at z
            exact z
        refine jw_istore (L' := [(6, _), (0, _), (1, _), (2, _), (3, _), (4, _), (5, _)]) hC dX4_cast_68 (by decide) rfl ?_
        refine jw_aload_n hC dX4_cast_70 1 rfl rfl ?_
        refine jw_getr hC fL_X4_12 ewR_x0 dX4_cast_71 ?_
        refine jw_getr hC fL_X4_79 (show ewR 50 6 0 51 from ewR_t0 (j := 0) (by decide)) dX4_cast_74 ?_
        refine jw_iload_n hC dX4_cast_77 2 rfl rfl ?_
        refine jw_iload hC dX4_cast_78 6 rfl ?_
        refine jw_iload hC dX4_cast_80 5 rfl ?_
        refine jw_callS hC (c_X4_pointIndex l E _ _ _ _) sS_X4_75 dX4_cast_82 rfl rfl ⟨Nat.le_of_ble_eq_true rfl, Nat.le_of_ble_eq_true rfl⟩ ⟨Nat.zero_le _, Nat.zero_le _⟩ (Nat.le_of_ble_eq_true rfl) (fun v82 M82 g82 => ?_)
        obtain ⟨rfl, rfl⟩ := g82
        refine jw_iload hC dX4_cast_85 0 rfl ?_
        refine jw_bipush hC dX4_cast_87 (by decide) ?_
        refine jw_min hC dX4_cast_89 (by omega) (by omega) (by omega) (by omega) w3_22 w3_23 w1_10 w3_24 ⟨Nat.le_of_ble_eq_true rfl, Nat.le_of_ble_eq_true rfl⟩ ⟨Nat.zero_le _, Nat.zero_le _⟩ ?_
        have hmb : 0 ≤ min (if f_pl (x + cc) (y + rr) = -1 then 0 else M1 (5 * 0 + 1) (f_pl (x + cc) (y + rr))) 9 ∧ min (if f_pl (x + cc) (y + rr) = -1 then 0 else M1 (5 * 0 + 1) (f_pl (x + cc) (y + rr))) 9 ≤ 9 := by omega
        refine jw_iast hC (show ewA 51 0 75 from ewA_points (j := 0) (by decide)) dX4_cast_92 (by omega) (by omega) (by decide) (by omega) (by omega) ?_
        refine jw_iinc (L' := [(5, _), (6, _), (0, _), (1, _), (2, _), (3, _), (4, _)]) hC dX4_cast_93 6 rfl (by decide) rfl ?_
        refine jw_goto (tgt := 44) hC dX4_cast_96 (by decide) ?_
        refine jw_loc (L' := [(0, _), (1, _), (2, _), (3, _), (4, _), (5, _)]) [2, 3, 4, 5, 6, 0] rfl ?_
        refine ih _ _ _ (by omega) (by omega) (by omega) (by omega) (by omega) (fun q => ?_) (fun o o1 => by rw [mu_ne _ _ _ o1]; exact g2 o o1)
        by_cases hq : q = a * 25 + rr * 5 + cc
        · rw [hq, mu_eq, if_pos (show a * 25 ≤ a * 25 + rr * 5 + cc ∧ a * 25 + rr * 5 + cc < a * 25 + (5 * rr + (cc + 1)) by omega)]
          unfold f_cw
          rw [show (a * 25 + rr * 5 + cc - a * 25) % 5 = cc by omega, show (a * 25 + rr * 5 + cc - a * 25) / 5 = rr by omega]
          show min (if f_pl (x + cc) (y + rr) = -1 then 0 else M1 1 (f_pl (x + cc) (y + rr))) 9 = _
          rw [m1e]
        · rw [mu_nk _ _ _ hq, g1]
          by_cases h9 : a * 25 ≤ q ∧ q < a * 25 + (5 * rr + cc)
          · rw [if_pos h9, if_pos (by omega)]
          · rw [if_neg h9, if_neg (by omega)]
  refine jw_iload_n hC dX4_cast_0 1 rfl rfl ?_
  refine jw_callS hC (c_X4_isDie l E _ _ (by omega) (by omega)) sS_X4_52 dX4_cast_1 rfl rfl ⟨Nat.le_of_ble_eq_true rfl, Nat.le_of_ble_eq_true rfl⟩ ⟨Nat.zero_le _, Nat.zero_le _⟩ (Nat.le_of_ble_eq_true rfl) (fun v1 M1 g1 => ?_)
  obtain ⟨rfl, rfl⟩ := g1
  refine jw_if_eq (tgt := 18) hC dX4_cast_4 (by decide) (by omega) (by omega) (fun h4 => ?_) (fun h4 => ?_)
  · skip
    have z4 := ite_0 (C := 0 ≤ a ∧ a < 3) h4
    exfalso; omega
  · skip
    have z4 := ite_1 (C := 0 ≤ a ∧ a < 3) h4
    refine jw_iload_n hC dX4_cast_7 2 rfl rfl ?_
    refine jw_i2l hC dX4_cast_8 (by omega) (by omega) ?_
    refine jw_iload_n hC dX4_cast_9 3 rfl rfl ?_
    refine jw_i2l hC dX4_cast_10 (by omega) (by omega) ?_
    refine jw_callS hC (c_X4_placeIndex l E _ _ _ (by omega) (by omega) (by omega) (by omega)) sS_X4_82 dX4_cast_11 rfl rfl ⟨Nat.le_of_ble_eq_true rfl, Nat.le_of_ble_eq_true rfl⟩ ⟨Nat.zero_le _, Nat.zero_le _⟩ (Nat.le_of_ble_eq_true rfl) (fun v11 M11 g11 => ?_)
    obtain ⟨rfl, rfl⟩ := g11
    refine jw_iconst hC dX4_cast_14 ?_
    refine jw_icmp_ne (tgt := 28) hC dX4_cast_15 (by decide) (by omega) (by omega) (by omega) (by omega) (fun h15 => ?_) (fun h15 => ?_)
    · skip
      have z15 := f_pl_2 h15
      refine jw_aload_n hC dX4_cast_28 0 rfl rfl ?_
      refine jw_callV hC (c_X4_saveState l E M q4 q5) sV_X4_72 ewF_x4.o dX4_cast_29 rfl rfl ⟨Nat.le_of_ble_eq_true rfl, Nat.le_of_ble_eq_true rfl⟩ ⟨Nat.zero_le _, Nat.zero_le _⟩ (Nat.le_of_ble_eq_true rfl) (fun v29 M29 g29 => ?_)
      obtain ⟨rfl, s1, s2⟩ := g29
      have hsv : svc M M29 := ⟨s1, s2⟩
      have e1 := svc_o hsv 1 (by omega)
      have e2 := svc_o hsv 2 (by omega)
      have e3 := svc_o hsv 3 (by omega)
      have e4 := svc_o hsv 4 (by omega)
      have e50 := svc_o hsv 50 (by omega)
      have e51 := svc_o hsv 51 (by omega)
      have e52 := svc_o hsv 52 (by omega)
      have e79 := svc_o hsv 79 (by omega)
      have e81 := svc_o hsv 81 (by omega)
      have e82 := svc_o hsv 82 (by omega)
      refine jw_iconst hC dX4_cast_32 ?_
      refine jw_istore (L' := [(4, _), (0, _), (1, _), (2, _), (3, _)]) hC dX4_cast_33 (by decide) rfl ?_
      refine jw_iload hC dX4_cast_35 0 rfl ?_
      refine jw_iconst hC dX4_cast_37 ?_
      refine jw_icmp_ge (tgt := 105) hC dX4_cast_38 (by decide) (by omega) (by omega) (by omega) (by omega) (fun h38 => ?_) (fun h38 => ?_)
      · skip
        exfalso; omega
      · skip
        refine jw_iconst hC dX4_cast_41 ?_
        refine jw_istore (L' := [(5, _), (4, _), (0, _), (1, _), (2, _), (3, _)]) hC dX4_cast_42 (by decide) rfl ?_
        refine jw_loc (L' := [(0, _), (1, _), (2, _), (3, _), (4, _), (5, _)]) [2, 3, 4, 5, 1, 0] rfl ?_
        exact K44 M29 hsv z4 z15 e1 e51 31 0 0 M29 (by omega) (by omega) (by omega) (by omega) (by omega) (fun q => by rw [e51, if_neg (by omega)]) (fun _ _ => rfl)
    · skip
      have z15 := f_pl_1 h15
      exfalso; omega
set_option maxRecDepth 100000 in
set_option maxHeartbeats 4000000 in
theorem c_X4_sheet (l : Launch) (E : ewE) (M : ewM) (h0 : st0 M) (q4 : 0 ≤ M 77 4 ∧ M 77 4 ≤ 5) (q5 : 0 ≤ M 77 5 ∧ M 77 5 ≤ 6)  : Ct l E yX4_sheet (.code yX4_sheet cX4_sheet 2 (some .int)) 5 [vR E 77] M (fun v M1 => ∃ N : ewM, svc M N ∧ v = some (vI (f_sum (M 3) 144)) ∧ (∀ r, 1 ≤ r → r ≤ 4 → M1 r = fun _ => 0) ∧ (∀ k : Int, M1 50 k = if k = 3 ∨ k = 5 ∨ k = 10 then 0 else if k = 8 then wr (M 50 8 + 1) else M 50 k) ∧ ∀ o, (o < 1 ∨ 4 < o) → o ≠ 50 → M1 o = N o) := by
  refine ct_of (L0 := [(0, vR E 77)]) (by decide +kernel) rfl (Nat.le_of_ble_eq_true rfl) ?_
  intro zp ze zs zm za zb zt zc zA hC
  refine jw_aload_n hC dX4_sheet_0 0 rfl rfl ?_
  refine jw_callV hC (c_X4_saveState l E M q4 q5) sV_X4_72 ewF_x4.o dX4_sheet_1 rfl rfl ⟨Nat.le_of_ble_eq_true rfl, Nat.le_of_ble_eq_true rfl⟩ ⟨Nat.zero_le _, Nat.zero_le _⟩ (Nat.le_of_ble_eq_true rfl) (fun v1 M1 g1 => ?_)
  obtain ⟨rfl, s1, s2⟩ := g1
  have hsv : svc M M1 := ⟨s1, s2⟩
  have e1 := svc_o hsv 1 (by omega)
  have e2 := svc_o hsv 2 (by omega)
  have e3 := svc_o hsv 3 (by omega)
  have e4 := svc_o hsv 4 (by omega)
  have e50 := svc_o hsv 50 (by omega)
  have e51 := svc_o hsv 51 (by omega)
  have e52 := svc_o hsv 52 (by omega)
  have e79 := svc_o hsv 79 (by omega)
  have e81 := svc_o hsv 81 (by omega)
  have e82 := svc_o hsv 82 (by omega)
  refine jw_aload_n hC dX4_sheet_4 0 rfl rfl ?_
  refine jw_getr hC fL_X4_12 ewR_x0 dX4_sheet_5 ?_
  refine jw_getr hC fL_X4_88 (show ewR 50 6 2 0 from ewR_t2 (j := 0) (by decide)) dX4_sheet_8 ?_
  refine jw_callV hC (c_X2_cracked l E M1 0 (by decide)) sV_X4_104 (show ewO 0 5 from ewO_sheet (j := 0) (by decide)) dX4_sheet_11 rfl rfl ⟨Nat.le_of_ble_eq_true rfl, Nat.le_of_ble_eq_true rfl⟩ ⟨Nat.zero_le _, Nat.zero_le _⟩ (Nat.le_of_ble_eq_true rfl) (fun v11 M11 g11 => ?_)
  obtain ⟨rfl, rfl⟩ := g11
  show jJ _ _ _ _ _ _ _ _ _ _ _ _ _ _ _ _ _ _ (vI (f_sum (M1 3) 144) :: _) _
  rw [e3]
  refine jw_istore_n (L' := [(1, _), (0, _)]) hC dX4_sheet_14 rfl (by decide) rfl ?_
  refine jw_aload_n hC dX4_sheet_15 1 rfl rfl ?_
  refine jw_getr hC fL_X4_12 ewR_x0 dX4_sheet_16 ?_
  refine jw_getr hC fL_X4_88 (show ewR 50 6 2 0 from ewR_t2 (j := 0) (by decide)) dX4_sheet_19 ?_
  refine jw_callV hC (c_X2_makeNew l E M1 0 (by decide)) sV_X4_108 (show ewO 0 5 from ewO_sheet (j := 0) (by decide)) dX4_sheet_22 rfl rfl ⟨Nat.le_of_ble_eq_true rfl, Nat.le_of_ble_eq_true rfl⟩ ⟨Nat.zero_le _, Nat.zero_le _⟩ (Nat.le_of_ble_eq_true rfl) (fun v22 M22 g22 => ?_)
  obtain ⟨rfl, g1, g2⟩ := g22
  have c50 : M22 50 = M 50 := (g2 50 (by omega)).trans e50
  refine jw_aload_n hC dX4_sheet_25 1 rfl rfl ?_
  refine jw_getr hC fL_X4_12 ewR_x0 dX4_sheet_26 ?_
  refine jw_callV hC (c_X3_unslip l E M22 0 (by decide)) sV_X4_111 (show ewO 50 6 from ewO_state (j := 0) (by decide)) dX4_sheet_29 rfl rfl ⟨Nat.le_of_ble_eq_true rfl, Nat.le_of_ble_eq_true rfl⟩ ⟨Nat.zero_le _, Nat.zero_le _⟩ (Nat.le_of_ble_eq_true rfl) (fun v29 M29 g29 => ?_)
  obtain ⟨rfl, rfl⟩ := g29
  show jJ _ _ _ _ _ _ _ _ _ _ _ _ _ _ _ _ _ _ _ (mu (mu M22 50 3 0) 50 5 0)
  refine jw_aload_n hC dX4_sheet_32 1 rfl rfl ?_
  refine jw_getr hC fL_X4_12 ewR_x0 dX4_sheet_33 ?_
  refine jw_iconst hC dX4_sheet_36 ?_
  refine jw_puti hC fL_X4_114 (show ewF 50 6 10 from ewF_t (j := 0) (k := 10) (by decide) (by decide) (by decide)) (kI := 10) rfl dX4_sheet_37 (by omega) (by omega) ?_
  refine jw_aload_n hC dX4_sheet_40 1 rfl rfl ?_
  refine jw_getr hC fL_X4_12 ewR_x0 dX4_sheet_41 ?_
  refine jw_dupr hC dX4_sheet_44 ?_
  refine jw_geti hC fL_X4_118.r (show ewF 50 6 8 from ewF_t (j := 0) (k := 8) (by decide) (by decide) (by decide)) (kI := 8) rfl dX4_sheet_45 (by omega) (fun b45 c45 => ?_)
  rw [mu_nk _ _ _ (by decide), mu_nk _ _ _ (by decide), mu_nk _ _ _ (by decide), c50] at b45 c45 ⊢
  refine jw_iconst hC dX4_sheet_48 ?_
  refine jw_iadd hC dX4_sheet_49 ?_
  refine jw_putiw hC fL_X4_118 (show ewF 50 6 8 from ewF_t (j := 0) (k := 8) (by decide) (by decide) (by decide)) (kI := 8) rfl dX4_sheet_50  ?_
  refine jw_iload_n hC dX4_sheet_53 0 rfl rfl ?_
  refine jw_iret hC dX4_sheet_54 ?_
  refine ⟨M1, hsv, rfl, fun r r0 r1 => ?_, fun k => ?_, fun o o1 o2 => ?_⟩
  · rw [mu_ne _ _ _ (by omega), mu_ne _ _ _ (by omega), mu_ne _ _ _ (by omega), mu_ne _ _ _ (by omega)]
    have z := g1 r r0 r1
    rwa [show 5 * 0 + r = r by omega] at z
  · have z := congrFun c50 k
    by_cases k8 : k = 8
    · rw [k8, mu_eq, if_neg (by decide), if_pos rfl]
    · rw [mu_nk _ _ _ k8]
      by_cases k10 : k = 10
      · rw [k10, mu_eq, if_pos (by decide)]
      · rw [mu_nk _ _ _ k10]
        by_cases k5 : k = 5
        · rw [k5, mu_eq, if_pos (by decide)]
        · rw [mu_nk _ _ _ k5]
          by_cases k3 : k = 3
          · rw [k3, mu_eq, if_pos (by decide)]
          · rw [mu_nk _ _ _ k3, if_neg (by omega), if_neg k8, z]
  · rw [mu_ne _ _ _ o2, mu_ne _ _ _ o2, mu_ne _ _ _ o2, mu_ne _ _ _ o2, g2 o (by omega)]
set_option maxRecDepth 100000 in
set_option maxHeartbeats 4000000 in
theorem c_X4_pin (l : Launch) (E : ewE) (M : ewM) (q4 : 0 ≤ M 77 4 ∧ M 77 4 ≤ 5) (q5 : 0 ≤ M 77 5 ∧ M 77 5 ≤ 6)  : Ct l E yX4_pin (.code yX4_pin cX4_pin 2 (some .int)) 5 [vR E 77] M (fun v M1 => ∃ N : ewM, svc M N ∧ v = some (vI (M 50 3)) ∧ M1 = mu (mu N 50 3 0) 50 5 0) := by
  refine ct_of (L0 := [(0, vR E 77)]) (by decide +kernel) rfl (Nat.le_of_ble_eq_true rfl) ?_
  intro zp ze zs zm za zb zt zc zA hC
  refine jw_aload_n hC dX4_pin_0 0 rfl rfl ?_
  refine jw_callV hC (c_X4_saveState l E M q4 q5) sV_X4_72 ewF_x4.o dX4_pin_1 rfl rfl ⟨Nat.le_of_ble_eq_true rfl, Nat.le_of_ble_eq_true rfl⟩ ⟨Nat.zero_le _, Nat.zero_le _⟩ (Nat.le_of_ble_eq_true rfl) (fun v1 M1 g1 => ?_)
  obtain ⟨rfl, s1, s2⟩ := g1
  have hsv : svc M M1 := ⟨s1, s2⟩
  have e1 := svc_o hsv 1 (by omega)
  have e2 := svc_o hsv 2 (by omega)
  have e3 := svc_o hsv 3 (by omega)
  have e4 := svc_o hsv 4 (by omega)
  have e50 := svc_o hsv 50 (by omega)
  have e51 := svc_o hsv 51 (by omega)
  have e52 := svc_o hsv 52 (by omega)
  have e79 := svc_o hsv 79 (by omega)
  have e81 := svc_o hsv 81 (by omega)
  have e82 := svc_o hsv 82 (by omega)
  refine jw_aload_n hC dX4_pin_4 0 rfl rfl ?_
  refine jw_getr hC fL_X4_12 ewR_x0 dX4_pin_5 ?_
  refine jw_geti hC fL_X4_121.r (show ewF 50 6 3 from ewF_t (j := 0) (k := 3) (by decide) (by decide) (by decide)) (kI := 3) rfl dX4_pin_8 (by omega) (fun b8 c8 => ?_)
  rw [e50] at b8 c8 ⊢
  refine jw_istore_n (L' := [(1, _), (0, _)]) hC dX4_pin_11 rfl (by decide) rfl ?_
  refine jw_aload_n hC dX4_pin_12 1 rfl rfl ?_
  refine jw_getr hC fL_X4_12 ewR_x0 dX4_pin_13 ?_
  refine jw_callV hC (c_X3_unslip l E M1 0 (by decide)) sV_X4_111 (show ewO 50 6 from ewO_state (j := 0) (by decide)) dX4_pin_16 rfl rfl ⟨Nat.le_of_ble_eq_true rfl, Nat.le_of_ble_eq_true rfl⟩ ⟨Nat.zero_le _, Nat.zero_le _⟩ (Nat.le_of_ble_eq_true rfl) (fun v16 M16 g16 => ?_)
  obtain ⟨rfl, rfl⟩ := g16
  show jJ _ _ _ _ _ _ _ _ _ _ _ _ _ _ _ _ _ _ _ (mu (mu M1 50 3 0) 50 5 0)
  refine jw_iload_n hC dX4_pin_19 0 rfl rfl ?_
  refine jw_iret hC dX4_pin_20 ?_
  exact ⟨M1, hsv, rfl, rfl⟩
set_option maxRecDepth 100000 in
set_option maxHeartbeats 4000000 in
theorem c_X4_foil (l : Launch) (E : ewE) (M : ewM) (q4 : 0 ≤ M 77 4 ∧ M 77 4 ≤ 5) (q5 : 0 ≤ M 77 5 ∧ M 77 5 ≤ 6) (f : Int) (f1 : -2147483648 ≤ f) (f2 : f < 2147483648) (x : Int) (x1 : -2147483648 ≤ x) (x2 : x < 2147483648) (y : Int) (y1 : -2147483648 ≤ y) (y2 : y < 2147483648) (u : Int) (u1 : -2147483648 ≤ u) (u2 : u < 2147483648) (w : Int) (w1 : -2147483648 ≤ w) (w2 : w < 2147483648) (hok : ((0 ≤ x ∧ x < 12 ∧ 0 ≤ y ∧ y < 12) ∧ (0 ≤ u ∧ u < 12 ∧ 0 ≤ w ∧ w < 12)) ∧ ((1 ≤ f ∧ f ≤ 9) ∧ x ≤ u ∧ y ≤ w)) : Ct l E yX4_foil (.code yX4_foil cX4_foil 6 (some .int)) 5 [vR E 77, vI f, vI x, vI y, vI u, vI w] M (fun v M1 => (((0 ≤ x ∧ x < 12 ∧ 0 ≤ y ∧ y < 12) ∧ (0 ≤ u ∧ u < 12 ∧ 0 ≤ w ∧ w < 12)) ∧ ((1 ≤ f ∧ f ≤ 9) ∧ x ≤ u ∧ y ≤ w)) ∧ ∃ N : ewM, svc M N ∧ v = some (vI ((u - x + 1) * (w - y + 1))) ∧ M1 = mu (mu (mu (mu (mu N 50 10 f) 50 11 x) 50 12 y) 50 13 u) 50 14 w) := by
  refine ct_of (L0 := [(0, vR E 77), (1, vI f), (2, vI x), (3, vI y), (4, vI u), (5, vI w)]) (by decide +kernel) rfl (Nat.le_of_ble_eq_true rfl) ?_
  intro zp ze zs zm za zb zt zc zA hC
  have hpb := f_pl_bd x y
  have hpc := f_pl_bd u w
  refine jw_iload_n hC dX4_foil_0 2 rfl rfl ?_
  refine jw_i2l hC dX4_foil_1 (by omega) (by omega) ?_
  refine jw_iload_n hC dX4_foil_2 3 rfl rfl ?_
  refine jw_i2l hC dX4_foil_3 (by omega) (by omega) ?_
  refine jw_callS hC (c_X4_placeIndex l E _ _ _ (by omega) (by omega) (by omega) (by omega)) sS_X4_82 dX4_foil_4 rfl rfl ⟨Nat.le_of_ble_eq_true rfl, Nat.le_of_ble_eq_true rfl⟩ ⟨Nat.zero_le _, Nat.zero_le _⟩ (Nat.le_of_ble_eq_true rfl) (fun v4 M4 g4 => ?_)
  obtain ⟨rfl, rfl⟩ := g4
  refine jw_iconst hC dX4_foil_7 ?_
  refine jw_icmp_eq (tgt := 24) hC dX4_foil_8 (by decide) (by omega) (by omega) (by omega) (by omega) (fun h8 => ?_) (fun h8 => ?_)
  · skip
    have z8 := f_pl_1 h8
    exfalso; omega
  · skip
    have z8 := f_pl_2 h8
    refine jw_iload hC dX4_foil_11 4 rfl ?_
    refine jw_i2l hC dX4_foil_13 (by omega) (by omega) ?_
    refine jw_iload hC dX4_foil_14 5 rfl ?_
    refine jw_i2l hC dX4_foil_16 (by omega) (by omega) ?_
    refine jw_callS hC (c_X4_placeIndex l E _ _ _ (by omega) (by omega) (by omega) (by omega)) sS_X4_82 dX4_foil_17 rfl rfl ⟨Nat.le_of_ble_eq_true rfl, Nat.le_of_ble_eq_true rfl⟩ ⟨Nat.zero_le _, Nat.zero_le _⟩ (Nat.le_of_ble_eq_true rfl) (fun v17 M17 g17 => ?_)
    obtain ⟨rfl, rfl⟩ := g17
    refine jw_iconst hC dX4_foil_20 ?_
    refine jw_icmp_ne (tgt := 34) hC dX4_foil_21 (by decide) (by omega) (by omega) (by omega) (by omega) (fun h21 => ?_) (fun h21 => ?_)
    · skip
      have z21 := f_pl_2 h21
      refine jw_iload_n hC dX4_foil_34 1 rfl rfl ?_
      refine jw_iconst hC dX4_foil_35 ?_
      refine jw_icmp_lt (tgt := 57) hC dX4_foil_36 (by decide) (by omega) (by omega) (by omega) (by omega) (fun h36 => ?_) (fun h36 => ?_)
      · skip
        exfalso; omega
      · skip
        refine jw_iload_n hC dX4_foil_39 1 rfl rfl ?_
        refine jw_bipush hC dX4_foil_40 (by decide) ?_
        refine jw_icmp_gt (tgt := 57) hC dX4_foil_42 (by decide) (by omega) (by omega) (by omega) (by omega) (fun h42 => ?_) (fun h42 => ?_)
        · skip
          exfalso; omega
        · skip
          refine jw_iload hC dX4_foil_45 4 rfl ?_
          refine jw_iload_n hC dX4_foil_47 2 rfl rfl ?_
          refine jw_icmp_lt (tgt := 57) hC dX4_foil_48 (by decide) (by omega) (by omega) (by omega) (by omega) (fun h48 => ?_) (fun h48 => ?_)
          · skip
            exfalso; omega
          · skip
            refine jw_iload hC dX4_foil_51 5 rfl ?_
            refine jw_iload_n hC dX4_foil_53 3 rfl rfl ?_
            refine jw_icmp_ge (tgt := 67) hC dX4_foil_54 (by decide) (by omega) (by omega) (by omega) (by omega) (fun h54 => ?_) (fun h54 => ?_)
            · skip
              refine jw_aload_n hC dX4_foil_67 0 rfl rfl ?_
              refine jw_callV hC (c_X4_saveState l E M q4 q5) sV_X4_72 ewF_x4.o dX4_foil_68 rfl rfl ⟨Nat.le_of_ble_eq_true rfl, Nat.le_of_ble_eq_true rfl⟩ ⟨Nat.zero_le _, Nat.zero_le _⟩ (Nat.le_of_ble_eq_true rfl) (fun v68 M68 g68 => ?_)
              obtain ⟨rfl, s1, s2⟩ := g68
              have hsv : svc M M68 := ⟨s1, s2⟩
              have e1 := svc_o hsv 1 (by omega)
              have e2 := svc_o hsv 2 (by omega)
              have e3 := svc_o hsv 3 (by omega)
              have e4 := svc_o hsv 4 (by omega)
              have e50 := svc_o hsv 50 (by omega)
              have e51 := svc_o hsv 51 (by omega)
              have e52 := svc_o hsv 52 (by omega)
              have e79 := svc_o hsv 79 (by omega)
              have e81 := svc_o hsv 81 (by omega)
              have e82 := svc_o hsv 82 (by omega)
              refine jw_aload_n hC dX4_foil_71 0 rfl rfl ?_
              refine jw_getr hC fL_X4_12 ewR_x0 dX4_foil_72 ?_
              refine jw_iload_n hC dX4_foil_75 1 rfl rfl ?_
              refine jw_puti hC fL_X4_114 (show ewF 50 6 10 from ewF_t (j := 0) (k := 10) (by decide) (by decide) (by decide)) (kI := 10) rfl dX4_foil_76 (by omega) (by omega) ?_
              refine jw_aload_n hC dX4_foil_79 0 rfl rfl ?_
              refine jw_getr hC fL_X4_12 ewR_x0 dX4_foil_80 ?_
              refine jw_iload_n hC dX4_foil_83 2 rfl rfl ?_
              refine jw_puti hC fL_X4_128 (show ewF 50 6 11 from ewF_t (j := 0) (k := 11) (by decide) (by decide) (by decide)) (kI := 11) rfl dX4_foil_84 (by omega) (by omega) ?_
              refine jw_aload_n hC dX4_foil_87 0 rfl rfl ?_
              refine jw_getr hC fL_X4_12 ewR_x0 dX4_foil_88 ?_
              refine jw_iload_n hC dX4_foil_91 3 rfl rfl ?_
              refine jw_puti hC fL_X4_131 (show ewF 50 6 12 from ewF_t (j := 0) (k := 12) (by decide) (by decide) (by decide)) (kI := 12) rfl dX4_foil_92 (by omega) (by omega) ?_
              refine jw_aload_n hC dX4_foil_95 0 rfl rfl ?_
              refine jw_getr hC fL_X4_12 ewR_x0 dX4_foil_96 ?_
              refine jw_iload hC dX4_foil_99 4 rfl ?_
              refine jw_puti hC fL_X4_134 (show ewF 50 6 13 from ewF_t (j := 0) (k := 13) (by decide) (by decide) (by decide)) (kI := 13) rfl dX4_foil_101 (by omega) (by omega) ?_
              refine jw_aload_n hC dX4_foil_104 0 rfl rfl ?_
              refine jw_getr hC fL_X4_12 ewR_x0 dX4_foil_105 ?_
              refine jw_iload hC dX4_foil_108 5 rfl ?_
              refine jw_puti hC fL_X4_137 (show ewF 50 6 14 from ewF_t (j := 0) (k := 14) (by decide) (by decide) (by decide)) (kI := 14) rfl dX4_foil_110 (by omega) (by omega) ?_
              refine jw_iload hC dX4_foil_113 4 rfl ?_
              refine jw_iload_n hC dX4_foil_115 2 rfl rfl ?_
              refine jw_isub hC dX4_foil_116 ?_
              refine jw_iconst hC dX4_foil_117 ?_
              refine jw_iadd hC dX4_foil_118 ?_
              refine jw_iload hC dX4_foil_119 5 rfl ?_
              refine jw_iload_n hC dX4_foil_121 3 rfl rfl ?_
              refine jw_isub hC dX4_foil_122 ?_
              refine jw_iconst hC dX4_foil_123 ?_
              refine jw_iadd hC dX4_foil_124 ?_
              refine jw_imul hC dX4_foil_125 ?_
              refine jw_iret hC dX4_foil_126 ?_
              exact ⟨by omega, M68, hsv, rfl, rfl⟩
            · skip
              exfalso; omega
    · skip
      have z21 := f_pl_1 h21
      exfalso; omega
set_option maxRecDepth 100000 in
set_option maxHeartbeats 4000000 in
theorem c_X4_press (l : Launch) (E : ewE) (M : ewM) (h0 : st0 M) (q4 : 0 ≤ M 77 4 ∧ M 77 4 ≤ 5) (q5 : 0 ≤ M 77 5 ∧ M 77 5 ≤ 6) (a : Int) (a1 : -2147483648 ≤ a) (a2 : a < 2147483648) (x : Int) (x1 : -2147483648 ≤ x) (x2 : x < 2147483648) (y : Int) (y1 : -2147483648 ≤ y) (y2 : y < 2147483648) (t : Int) (t1 : -2147483648 ≤ t) (t2 : t < 2147483648) (hok : (0 ≤ a ∧ a < 3) ∧ (0 ≤ t ∧ t < 8)) : Ct l E yX4_press (.code yX4_press cX4_press 6 (some .int)) 5 [vR E 77, vI a, vI x, vI y, vI t] M (fun v M1 => ((0 ≤ a ∧ a < 3) ∧ (0 ≤ t ∧ t < 8)) ∧ ∃ N : ewM, svc M N ∧ ((0 < f_rsn (f_rel (M 51) a t) (x + M 50 3) y (M 52 2) ∧ v = some (vI (f_rsn (f_rel (M 51) a t) (x + M 50 3) y (M 52 2))) ∧ (∀ k : Int, M1 50 k = if k = 6 then wr (M 50 6 + 1) else M 50 k) ∧ ∀ o, o ≠ 50 → o ≠ 83 → M1 o = N o) ∨ (f_rsn (f_rel (M 51) a t) (x + M 50 3) y (M 52 2) = 0 ∧ v = some (vI (100 + f_cks (f_rel (M 51) a t) (x + M 50 3) y (M 1) (M 3) (M 52 0) (M 52 1))) ∧ M1 1 = f_emb (f_rel (M 51) a t) (x + M 50 3) y (M 1) 25 ∧ M1 2 = f_stk (M 50) (f_rel (M 51) a t) (x + M 50 3) y (M 2) 25 ∧ M1 3 = f_it (f_emb (f_rel (M 51) a t) (x + M 50 3) y (M 1) 25) (M 52 0) (M 52 1) (M 3) 144 ∧ M1 4 = f_prs (f_rel (M 51) a t) (x + M 50 3) y (M 4) 25 ∧ (∀ k : Int, M1 50 k = if k = 3 then f_sl (M 52 3) (wr (M 50 5 + 1)) (M 50 3) else if k = 4 then wr (M 50 4 + 1) else if k = 5 then wr (M 50 5 + 1) else if k = 7 then wr (M 50 7 + f_cks (f_rel (M 51) a t) (x + M 50 3) y (M 1) (M 3) (M 52 0) (M 52 1)) else if k = 10 then 0 else M 50 k) ∧ ∀ o, o ≠ 1 → o ≠ 2 → o ≠ 3 → o ≠ 4 → o ≠ 50 → o ≠ 83 → (o < 84 ∨ 87 < o) → M1 o = N o))) := by
  refine ct_of (L0 := [(0, vR E 77), (1, vI a), (2, vI x), (3, vI y), (4, vI t)]) (by decide +kernel) rfl (Nat.le_of_ble_eq_true rfl) ?_
  intro zp ze zs zm za zb zt zc zA hC
  have hz4 := ite_z (0 ≤ a ∧ a < 3)
  have hz22 := ite_z (0 ≤ t ∧ t < 8)
  have hrb := f_rsn_b (f_rel (M 51) a t) (x + M 50 3) y (M 52 2)
  have hcb := f_cks_b (r := (f_rel (M 51) a t)) (left := x + M 50 3) (top := y) (d := M 1) (b := M 52 0) (t := M 52 1) h0.2.1
  refine jw_iload_n hC dX4_press_0 1 rfl rfl ?_
  refine jw_callS hC (c_X4_isDie l E _ _ (by omega) (by omega)) sS_X4_52 dX4_press_1 rfl rfl ⟨Nat.le_of_ble_eq_true rfl, Nat.le_of_ble_eq_true rfl⟩ ⟨Nat.zero_le _, Nat.zero_le _⟩ (Nat.le_of_ble_eq_true rfl) (fun v1 M1 g1 => ?_)
  obtain ⟨rfl, rfl⟩ := g1
  refine jw_if_ne (tgt := 17) hC dX4_press_4 (by decide) (by omega) (by omega) (fun h4 => ?_) (fun h4 => ?_)
  · skip
    have z4 := ite_1 (C := 0 ≤ a ∧ a < 3) h4
    refine jw_iload hC dX4_press_17 4 rfl ?_
    refine jw_callS hC (c_X4_isTurn l E _ _ (by omega) (by omega)) sS_X4_142 dX4_press_19 rfl rfl ⟨Nat.le_of_ble_eq_true rfl, Nat.le_of_ble_eq_true rfl⟩ ⟨Nat.zero_le _, Nat.zero_le _⟩ (Nat.le_of_ble_eq_true rfl) (fun v19 M19 g19 => ?_)
    obtain ⟨rfl, rfl⟩ := g19
    refine jw_if_ne (tgt := 35) hC dX4_press_22 (by decide) (by omega) (by omega) (fun h22 => ?_) (fun h22 => ?_)
    · skip
      have z22 := ite_1 (C := 0 ≤ t ∧ t < 8) h22
      refine jw_aload_n hC dX4_press_35 0 rfl rfl ?_
      refine jw_callV hC (c_X4_saveState l E M q4 q5) sV_X4_72 ewF_x4.o dX4_press_36 rfl rfl ⟨Nat.le_of_ble_eq_true rfl, Nat.le_of_ble_eq_true rfl⟩ ⟨Nat.zero_le _, Nat.zero_le _⟩ (Nat.le_of_ble_eq_true rfl) (fun v36 M36 g36 => ?_)
      obtain ⟨rfl, s1, s2⟩ := g36
      have hsv : svc M M36 := ⟨s1, s2⟩
      have e1 := svc_o hsv 1 (by omega)
      have e2 := svc_o hsv 2 (by omega)
      have e3 := svc_o hsv 3 (by omega)
      have e4 := svc_o hsv 4 (by omega)
      have e50 := svc_o hsv 50 (by omega)
      have e51 := svc_o hsv 51 (by omega)
      have e52 := svc_o hsv 52 (by omega)
      have e79 := svc_o hsv 79 (by omega)
      have e81 := svc_o hsv 81 (by omega)
      have e82 := svc_o hsv 82 (by omega)
      refine jw_aload_n hC dX4_press_39 0 rfl rfl ?_
      refine jw_getr hC fL_X4_12 ewR_x0 dX4_press_40 ?_
      refine jw_iload_n hC dX4_press_43 1 rfl rfl ?_
      refine jw_iload hC dX4_press_44 4 rfl ?_
      refine jw_aload_n hC dX4_press_46 0 rfl rfl ?_
      refine jw_getr hC fL_X4_34 ewR_x7 dX4_press_47 ?_
      refine jw_callV hC (c_X3_turnDie l E M36 0 (by decide) a t (by omega) (by omega) (show pD (M36 51) by rw [e51]; exact h0.2.2.1)) sV_X4_147 (show ewO 50 6 from ewO_state (j := 0) (by decide)) dX4_press_50 rfl rfl ⟨Nat.le_of_ble_eq_true rfl, Nat.le_of_ble_eq_true rfl⟩ ⟨Nat.zero_le _, Nat.zero_le _⟩ (Nat.le_of_ble_eq_true rfl) (fun v50 M50 g50 => ?_)
      obtain ⟨rfl, g9⟩ := g50
      have g9 : M50 = mset M36 83 (f_rel (M36 51) a t) := g9
      have t83 : M50 83 = (f_rel (M 51) a t) := by rw [g9, mset_at, e51]
      have t2 : ∀ o, o ≠ 83 → M50 o = M36 o := fun o ho => by rw [g9, mset_ne _ _ ho]
      have t50 : M50 50 = M 50 := (t2 50 (by decide)).trans e50
      have t52 : M50 52 = M 52 := (t2 52 (by decide)).trans e52
      have t1 : M50 1 = M 1 := (t2 1 (by decide)).trans e1
      have t1b : M50 2 = M 2 := (t2 2 (by decide)).trans e2
      have t3 : M50 3 = M 3 := (t2 3 (by decide)).trans e3
      have t4 : M50 4 = M 4 := (t2 4 (by decide)).trans e4
      have t0 : st0 M50 := st0_cg h0 t1 t3 t50 ((t2 51 (by decide)).trans e51) t52
      have tr : pD (M50 83) := by rw [t83]; exact f_rel_D h0.2.2.1 a t
      refine jw_aload_n hC dX4_press_53 0 rfl rfl ?_
      refine jw_iload_n hC dX4_press_54 2 rfl rfl ?_
      refine jw_iload_n hC dX4_press_55 3 rfl rfl ?_
      refine jw_callV hC (c_X4_refusal l E M50 t0 x y x1 x2 y1 y2 tr) sV_X4_151 ewF_x4.o dX4_press_56 rfl rfl ⟨Nat.le_of_ble_eq_true rfl, Nat.le_of_ble_eq_true rfl⟩ ⟨Nat.zero_le _, Nat.zero_le _⟩ (Nat.le_of_ble_eq_true rfl) (fun v56 M56 g56 => ?_)
      obtain ⟨rfl, rfl⟩ := g56
      rw [t83, t50, t52]
      refine jw_istore (L' := [(5, _), (0, _), (1, _), (2, _), (3, _), (4, _)]) hC dX4_press_59 (by decide) rfl ?_
      refine jw_iload hC dX4_press_61 0 rfl ?_
      refine jw_if_eq (tgt := 82) hC dX4_press_63 (by decide) (by omega) (by omega) (fun h63 => ?_) (fun h63 => ?_)
      · skip
        refine jw_bipush hC dX4_press_82 (by decide) ?_
        refine jw_aload_n hC dX4_press_84 1 rfl rfl ?_
        refine jw_iload_n hC dX4_press_85 3 rfl rfl ?_
        refine jw_iload_n hC dX4_press_86 4 rfl rfl ?_
        refine jw_callV hC (c_X4_pressRelief l E M50 t0 x y x1 x2 y1 y2 tr) sV_X4_157 ewF_x4.o dX4_press_87 rfl rfl ⟨Nat.le_of_ble_eq_true rfl, Nat.le_of_ble_eq_true rfl⟩ ⟨Nat.zero_le _, Nat.zero_le _⟩ (Nat.le_of_ble_eq_true rfl) (fun v87 M87 g87 => ?_)
        obtain ⟨rfl, g1, g2, g3, g4, g5, g6⟩ := g87
        rw [t83, t50, t1, t3, t52] at g3 ⊢
        rw [t83, t50, t1] at g1
        rw [t83, t50, t1b] at g2
        rw [t83, t50, t4] at g4
        rw [t83, t50, t1, t3, t52] at g5
        refine jw_iadd hC dX4_press_90 ?_
        refine jw_iret hC dX4_press_91 ?_
        refine ⟨by omega, M36, hsv, Or.inr ⟨by omega, rfl, g1, g2, g3, g4, g5, fun o o1 o2 o3 o4 o5 o6 o7 => by rw [g6 o o1 o2 o3 o4 o5 o7]; exact t2 o o6⟩⟩
      · skip
        refine jw_aload_n hC dX4_press_66 1 rfl rfl ?_
        refine jw_getr hC fL_X4_12 ewR_x0 dX4_press_67 ?_
        refine jw_dupr hC dX4_press_70 ?_
        refine jw_geti hC fL_X4_154.r (show ewF 50 6 6 from ewF_t (j := 0) (k := 6) (by decide) (by decide) (by decide)) (kI := 6) rfl dX4_press_71 (by omega) (fun b71 c71 => ?_)
        rw [t50] at b71 c71 ⊢
        refine jw_iconst hC dX4_press_74 ?_
        refine jw_iadd hC dX4_press_75 ?_
        refine jw_putiw hC fL_X4_154 (show ewF 50 6 6 from ewF_t (j := 0) (k := 6) (by decide) (by decide) (by decide)) (kI := 6) rfl dX4_press_76  ?_
        refine jw_iload hC dX4_press_79 0 rfl ?_
        refine jw_iret hC dX4_press_81 ?_
        refine ⟨by omega, M36, hsv, Or.inl ⟨by omega, rfl, fun k => ?_, fun o o1 o2 => by rw [mu_ne _ _ _ o1]; exact t2 o o2⟩⟩
        by_cases k6 : k = 6
        · rw [k6, mu_eq, if_pos rfl]
        · rw [mu_nk _ _ _ k6, if_neg k6, t50]
    · skip
      have z22 := ite_0 (C := 0 ≤ t ∧ t < 8) h22
      exfalso; omega
  · skip
    have z4 := ite_0 (C := 0 ≤ a ∧ a < 3) h4
    exfalso; omega
set_option maxRecDepth 100000 in
set_option maxHeartbeats 4000000 in
theorem c_X4_fold (l : Launch) (E : ewE) (M : ewM) (h0 : st0 M) (q4 : 0 ≤ M 77 4 ∧ M 77 4 ≤ 5) (q5 : 0 ≤ M 77 5 ∧ M 77 5 ≤ 6) (r : Int) (r1 : -2147483648 ≤ r) (r2 : r < 2147483648) (hok : 1 ≤ r ∧ r < 12) : Ct l E yX4_fold (.code yX4_fold cX4_fold 5 (some .int)) 5 [vR E 77, vI r] M (fun v M1 => (1 ≤ r ∧ r < 12) ∧ ∃ N : ewM, svc M N ∧ v = some (vI (f_fc (M 1) (M 3) r (M 52 0) (M 52 1))) ∧ M1 3 = f_it (M 1) (M 52 0) (M 52 1) (f_brk (f_ovf (M 1) (M 3) r (M 52 0) (M 52 1)) (M 3)) 144 ∧ (∀ k : Int, M1 50 k = if k = 7 then wr (M 50 7 + f_fc (M 1) (M 3) r (M 52 0) (M 52 1)) else if k = 9 then wr (M 50 9 + 1) else M 50 k) ∧ ∀ o, o ≠ 3 → o ≠ 50 → (o < 84 ∨ 87 < o) → M1 o = N o) := by
  refine ct_of (L0 := [(0, vR E 77), (1, vI r)]) (by decide +kernel) rfl (Nat.le_of_ble_eq_true rfl) ?_
  intro zp ze zs zm za zb zt zc zA hC
  have hz4 := ite_z (1 ≤ r ∧ r < 12)
  obtain ⟨p1, p2, p3, p4, p5, p6, p7, p8⟩ := id h0
  have hfb := f_fc_b (d := M 1) r (M 52 0) (M 52 1) p2
  refine jw_iload_n hC dX4_fold_0 1 rfl rfl ?_
  refine jw_callS hC (c_X4_isFoldRow l E _ _ (by omega) (by omega)) sS_X4_160 dX4_fold_1 rfl rfl ⟨Nat.le_of_ble_eq_true rfl, Nat.le_of_ble_eq_true rfl⟩ ⟨Nat.zero_le _, Nat.zero_le _⟩ (Nat.le_of_ble_eq_true rfl) (fun v1 M1 g1 => ?_)
  obtain ⟨rfl, rfl⟩ := g1
  refine jw_if_ne (tgt := 17) hC dX4_fold_4 (by decide) (by omega) (by omega) (fun h4 => ?_) (fun h4 => ?_)
  · skip
    have z4 := ite_1 (C := 1 ≤ r ∧ r < 12) h4
    refine jw_aload_n hC dX4_fold_17 0 rfl rfl ?_
    refine jw_callV hC (c_X4_saveState l E M q4 q5) sV_X4_72 ewF_x4.o dX4_fold_18 rfl rfl ⟨Nat.le_of_ble_eq_true rfl, Nat.le_of_ble_eq_true rfl⟩ ⟨Nat.zero_le _, Nat.zero_le _⟩ (Nat.le_of_ble_eq_true rfl) (fun v18 M18 g18 => ?_)
    obtain ⟨rfl, s1, s2⟩ := g18
    have hsv : svc M M18 := ⟨s1, s2⟩
    have e1 := svc_o hsv 1 (by omega)
    have e2 := svc_o hsv 2 (by omega)
    have e3 := svc_o hsv 3 (by omega)
    have e4 := svc_o hsv 4 (by omega)
    have e50 := svc_o hsv 50 (by omega)
    have e51 := svc_o hsv 51 (by omega)
    have e52 := svc_o hsv 52 (by omega)
    have e79 := svc_o hsv 79 (by omega)
    have e81 := svc_o hsv 81 (by omega)
    have e82 := svc_o hsv 82 (by omega)
    refine jw_aload_n hC dX4_fold_21 0 rfl rfl ?_
    refine jw_getr hC fL_X4_12 ewR_x0 dX4_fold_22 ?_
    refine jw_getr hC fL_X4_165 (show ewR 50 6 1 52 from ewR_t1 (j := 0) (by decide)) dX4_fold_25 ?_
    refine jw_iconst hC dX4_fold_28 ?_
    refine jw_iald hC (show ewA 52 0 4 from ewA_settings (j := 0) (by decide)) dX4_fold_29 (by omega) (by omega) (by decide) (fun b29 c29 => ?_)
    rw [e52] at b29 c29 ⊢
    refine jw_istore_n (L' := [(2, _), (0, _), (1, _)]) hC dX4_fold_30 rfl (by decide) rfl ?_
    refine jw_aload_n hC dX4_fold_31 1 rfl rfl ?_
    refine jw_getr hC fL_X4_12 ewR_x0 dX4_fold_32 ?_
    refine jw_getr hC fL_X4_165 (show ewR 50 6 1 52 from ewR_t1 (j := 0) (by decide)) dX4_fold_35 ?_
    refine jw_iconst hC dX4_fold_38 ?_
    refine jw_iald hC (show ewA 52 0 4 from ewA_settings (j := 0) (by decide)) dX4_fold_39 (by omega) (by omega) (by decide) (fun b39 c39 => ?_)
    rw [e52] at b39 c39 ⊢
    refine jw_istore_n (L' := [(3, _), (2, _), (0, _), (1, _)]) hC dX4_fold_40 rfl (by decide) rfl ?_
    refine jw_aload_n hC dX4_fold_41 2 rfl rfl ?_
    refine jw_getr hC fL_X4_48 ewR_x9 dX4_fold_42 ?_
    refine jw_aload_n hC dX4_fold_45 2 rfl rfl ?_
    refine jw_getr hC fL_X4_12 ewR_x0 dX4_fold_46 ?_
    refine jw_getr hC fL_X4_88 (show ewR 50 6 2 0 from ewR_t2 (j := 0) (by decide)) dX4_fold_49 ?_
    refine jw_iload_n hC dX4_fold_52 3 rfl rfl ?_
    refine jw_iload_n hC dX4_fold_53 1 rfl rfl ?_
    refine jw_iload_n hC dX4_fold_54 0 rfl rfl ?_
    refine jw_callV hC (c_X0_crackAtFold l E M18 0 (by decide) _ _ _ (by omega) p4 p5 (show pD (M18 1) by rw [e1]; exact p1) (show pC (M18 3) by rw [e3]; exact p2)) sV_X4_168 ewF_k3.o dX4_fold_55 rfl rfl ⟨Nat.le_of_ble_eq_true rfl, Nat.le_of_ble_eq_true rfl⟩ ⟨Nat.zero_le _, Nat.zero_le _⟩ (Nat.le_of_ble_eq_true rfl) (fun v55 M55 g55 => ?_)
    obtain ⟨rfl, g2, g3⟩ := g55
    have u3 : M55 3 = f_brk (f_ovf (M18 1) (M18 3) r (M 52 0) (M 52 1)) (M18 3) := g2
    have uo : ∀ o, o ≠ 3 → o ≠ 84 → o ≠ 86 → o ≠ 87 → M55 o = M18 o := g3
    rw [e1, e3] at u3
    have u1 : M55 1 = M 1 := (uo 1 (by decide) (by decide) (by decide) (by decide)).trans e1
    have u50 : M55 50 = M 50 := (uo 50 (by decide) (by decide) (by decide) (by decide)).trans e50
    refine jw_istore (L' := [(4, _), (3, _), (2, _), (0, _), (1, _)]) hC dX4_fold_58 (by decide) rfl ?_
    refine jw_iload hC dX4_fold_60 0 rfl ?_
    refine jw_aload_n hC dX4_fold_62 3 rfl rfl ?_
    refine jw_getr hC fL_X4_48 ewR_x9 dX4_fold_63 ?_
    refine jw_aload_n hC dX4_fold_66 3 rfl rfl ?_
    refine jw_getr hC fL_X4_12 ewR_x0 dX4_fold_67 ?_
    refine jw_getr hC fL_X4_88 (show ewR 50 6 2 0 from ewR_t2 (j := 0) (by decide)) dX4_fold_70 ?_
    refine jw_iload_n hC dX4_fold_73 2 rfl rfl ?_
    refine jw_iload_n hC dX4_fold_74 1 rfl rfl ?_
    refine jw_callV hC (c_X0_crackAll l E M55 0 (by decide) _ _ p4 p5 (show pD (M55 1) by rw [u1]; exact p1) (show pC (M55 3) by rw [u3]; exact f_brk_C p2)) sV_X4_172 ewF_k3.o dX4_fold_75 rfl rfl ⟨Nat.le_of_ble_eq_true rfl, Nat.le_of_ble_eq_true rfl⟩ ⟨Nat.zero_le _, Nat.zero_le _⟩ (Nat.le_of_ble_eq_true rfl) (fun v75 M75 g75 => ?_)
    obtain ⟨rfl, g4, g5, g6⟩ := g75
    have v3 : M75 3 = f_it (M55 1) (M 52 0) (M 52 1) (M55 3) 144 := g4
    have vo : ∀ o, o ≠ 3 → (o < 84 ∨ 87 < o) → M75 o = M55 o := g6
    have v50 : M75 50 = M 50 := (vo 50 (by decide) (by decide)).trans u50
    have e9 : f_sum (M55 (5 * 0 + 3)) 144 - f_sum (M18 (5 * 0 + 3)) 144 + (f_sum (f_it (M55 (5 * 0 + 1)) (M 52 0) (M 52 1) (M55 (5 * 0 + 3)) 144) 144 - f_sum (M55 (5 * 0 + 3)) 144) = f_fc (M 1) (M 3) r (M 52 0) (M 52 1) := by
      show f_sum (M55 3) 144 - f_sum (M18 3) 144 + (f_sum (f_it (M55 1) (M 52 0) (M 52 1) (M55 3) 144) 144 - f_sum (M55 3) 144) = _
      unfold f_fc
      rw [u1, u3, e3]
      omega
    refine jw_iadd hC dX4_fold_78 ?_
    refine jw_istore (L' := [(4, _), (3, _), (2, _), (0, _), (1, _)]) hC dX4_fold_79 (by decide) rfl ?_
    refine jw_aload_n hC dX4_fold_81 3 rfl rfl ?_
    refine jw_getr hC fL_X4_12 ewR_x0 dX4_fold_82 ?_
    refine jw_dupr hC dX4_fold_85 ?_
    refine jw_geti hC fL_X4_176.r (show ewF 50 6 7 from ewF_t (j := 0) (k := 7) (by decide) (by decide) (by decide)) (kI := 7) rfl dX4_fold_86 (by omega) (fun b86 c86 => ?_)
    rw [v50] at b86 c86 ⊢
    refine jw_iload hC dX4_fold_89 0 rfl ?_
    refine jw_iadd hC dX4_fold_91 ?_
    refine jw_putiw hC fL_X4_176 (show ewF 50 6 7 from ewF_t (j := 0) (k := 7) (by decide) (by decide) (by decide)) (kI := 7) rfl dX4_fold_92  ?_
    refine jw_aload_n hC dX4_fold_95 3 rfl rfl ?_
    refine jw_getr hC fL_X4_12 ewR_x0 dX4_fold_96 ?_
    refine jw_dupr hC dX4_fold_99 ?_
    refine jw_geti hC fL_X4_179.r (show ewF 50 6 9 from ewF_t (j := 0) (k := 9) (by decide) (by decide) (by decide)) (kI := 9) rfl dX4_fold_100 (by omega) (fun b100 c100 => ?_)
    rw [mu_nk _ _ _ (by decide), v50] at b100 c100 ⊢
    refine jw_iconst hC dX4_fold_103 ?_
    refine jw_iadd hC dX4_fold_104 ?_
    refine jw_putiw hC fL_X4_179 (show ewF 50 6 9 from ewF_t (j := 0) (k := 9) (by decide) (by decide) (by decide)) (kI := 9) rfl dX4_fold_105  ?_
    refine jw_iload hC dX4_fold_108 0 rfl ?_
    refine jw_iret hC dX4_fold_110 ?_
    refine ⟨by omega, M18, hsv, by rw [e9], ?_, fun k => ?_, fun o o1 o2 o3 => ?_⟩
    · rw [mu_ne _ _ _ (by decide), mu_ne _ _ _ (by decide), v3, u1, u3]
    · by_cases k9 : k = 9
      · rw [k9, mu_eq, if_neg (by decide), if_pos rfl]
      · rw [mu_nk _ _ _ k9]
        by_cases k7 : k = 7
        · rw [k7, mu_eq, if_pos rfl, e9]
        · rw [mu_nk _ _ _ k7, if_neg k7, if_neg k9, v50]
    · rw [mu_ne _ _ _ o2, mu_ne _ _ _ o2, vo o o1 o3, uo o o1 (by omega) (by omega) (by omega)]
  · skip
    have z4 := ite_0 (C := 1 ≤ r ∧ r < 12) h4
    exfalso; omega
