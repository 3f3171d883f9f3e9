/-! THE LAW'S OWN METHODS -/
/-- what a setting is set to -/
def f_sv (s w : Int) : Int := if s = 0 then f_lo (i_shr w 2) 100 else if s = 1 then f_lo (i_shr w 2) 21 else if s = 2 then 1 + f_lo (i_shr w 2) 9 else f_lo (i_shr w 2) 10
theorem f_sv_ok {s : Int} (w : Int) (h : 0 ≤ s ∧ s < 4) : g_least s.toNat ≤ f_sv s w ∧ f_sv s w ≤ g_great s.toNat := by
  have h1 := f_lo_b (i_shr w 2) (n := 100) (by decide)
  have h2 := f_lo_b (i_shr w 2) (n := 21) (by decide)
  have h3 := f_lo_b (i_shr w 2) (n := 9) (by decide)
  have h4 := f_lo_b (i_shr w 2) (n := 10) (by decide)
  rcases (show s = 0 ∨ s = 1 ∨ s = 2 ∨ s = 3 by omega) with rfl | rfl | rfl | rfl
  · show (0 : Int) ≤ f_lo (i_shr w 2) 100 ∧ f_lo (i_shr w 2) 100 ≤ 99
    omega
  · show (0 : Int) ≤ f_lo (i_shr w 2) 21 ∧ f_lo (i_shr w 2) 21 ≤ 20
    omega
  · show (1 : Int) ≤ 1 + f_lo (i_shr w 2) 9 ∧ 1 + f_lo (i_shr w 2) 9 ≤ 9
    omega
  · show (0 : Int) ≤ f_lo (i_shr w 2) 10 ∧ f_lo (i_shr w 2) 10 ≤ 9
    omega
/-- an undoable call by its kind and two numbers: its answer, the new state -/
def f_act (kd v w : Int) (S : sT) : Int × sT :=
  if kd = 0 then (if i_and (i_shr w 20) 1 = 0 then o_sheet S else o_pin S)
  else if kd = 1 then o_pin S
  else if kd = 2 then o_foil (1 + f_lo (i_shr v 6) 9) (f_lo w 12) (f_lo (i_shr w 4) 12) (f_lo w 12 + f_lo (i_shr w 8) (12 - f_lo w 12)) (f_lo (i_shr w 4) 12 + f_lo (i_shr w 12) (12 - f_lo (i_shr w 4) 12)) S
  else if kd = 3 then o_fold (1 + f_lo w 11) S
  else if kd = 4 then o_set (f_lo w 4) (f_sv (f_lo w 4) w) S
  else if kd = 5 then o_cast (f_lo (i_shr v 4) 3) (f_lo w 12) (f_lo (i_shr w 4) 12) S
  else if kd = 6 ∨ kd = 7 ∨ kd = 8 ∨ kd = 9 ∨ kd = 10 then o_press (f_lo (i_shr v 4) 3) (f_lo w 12 - 2) (f_lo (i_shr w 4) 12 - 2) (f_lo (i_shr w 8) 8) S
  else o_point (f_lo (i_shr v 4) 3) (f_lo w 5) (f_lo (i_shr w 3) 5) (f_lo (i_shr w 6) 10) S
theorem f_share_k : ∀ k : Fin 145, Op.cmpValue (FP.dcmp (f_sh ((k.val : Nat) : Int)) (f_sh ((k.val : Nat) : Int))) .l = Int32.ofInt 0 := by decide +kernel
theorem f_share_e {n : Int} (h0 : 0 ≤ n) (h1 : n ≤ 144) : Op.cmpValue (FP.dcmp (f_sh n) (f_sh n)) .l = Int32.ofInt 0 := by
  have := f_share_k ⟨n.toNat, by omega⟩
  rw [show (((⟨n.toNat, by omega⟩ : Fin 145).val : Nat) : Int) = n from by show ((n.toNat : Nat) : Int) = n; omega] at this
  exact this
theorem f_pl_k {k : Int} (h0 : 0 ≤ k) (h1 : k < 144) : f_pl (k % 12) (k / 12) = k := by
  unfold f_pl
  rw [if_pos (by omega)]
  omega
theorem f_sum_pos {f : Int → Int} (h : ∀ q : Int, 0 ≤ f q ∧ f q ≤ 9) : ∀ n : Nat, f_sum (fun q => if 0 < f q then 1 else 0) n = f_sum (fun q => if f q = 0 then 0 else 1) n := fun n => f_sum_cg n (fun k _ _ => by
  have := h k
  show (if 0 < f k then (1 : Int) else 0) = if f k = 0 then 0 else 1
  by_cases h9 : f k = 0
  · rw [if_pos h9, if_neg (by omega)]
  · rw [if_neg h9, if_pos (by omega)])
set_option maxRecDepth 100000 in
set_option maxHeartbeats 4000000 in
theorem c_L_low (l : Launch) (E : ewE) (M : ewM) (a n : Int) (hn : 0 < n ∧ n < 2147483648) : Ct l E yL_low (.code yL_low cL_low 2 (some .int)) 1 [vI a, vI n] M (fun v M1 => v = some (vI (f_lo a n)) ∧ M = M1) := by
  refine ct_of (L0 := [(0, vI a), (1, vI n)]) (by decide +kernel) rfl (Nat.le_of_ble_eq_true rfl) ?_
  intro zp ze zs zm za zb zt zc zA hC
  have hb := i_and_b a (y := 2147483647) (by decide) (by decide)
  refine jw_iload_n hC dL_low_0 0 rfl rfl ?_
  refine jw_ldc (n := 2147483647) hC dL_low_1 w2_172 ?_
  refine jw_iand hC dL_low_3 (fun b3 c3 => ?_)
  refine jw_iload_n hC dL_low_4 1 rfl rfl ?_
  refine jw_irem hC dL_low_5 (by omega) (by omega) (by omega) (by omega) ?_
  refine jw_iret hC dL_low_6 ?_
  exact ⟨rfl, rfl⟩
set_option maxRecDepth 100000 in
set_option maxHeartbeats 4000000 in
theorem c_L_cell (l : Launch) (E : ewE) (M : ewM) (k : Int) (hk : 0 ≤ k ∧ k < 1000) : Ct l E yL_cell (.code yL_cell cL_cell 2 (some .int)) 1 [vR E 203, vI k] M (fun v M1 => ∃ x : Int, (-2147483648 ≤ x ∧ x < 2147483648) ∧ v = some (vI x) ∧ M = M1) := by
  refine ct_of (L0 := [(0, vR E 203), (1, vI k)]) (by decide +kernel) rfl (Nat.le_of_ble_eq_true rfl) ?_
  intro zp ze zs zm za zb zt zc zA hC
  have hN := jw_sN hC
  refine jw_iload_n hC dL_cell_0 1 rfl rfl ?_
  refine jw_aload_n hC dL_cell_1 0 rfl rfl ?_
  refine jw_slen hC dL_cell_2 ?_
  refine jw_icmp_ge (tgt := 12) hC dL_cell_3 (by decide) (by omega) (by omega) (by omega) (by omega) (fun h3 => ?_) (fun h3 => ?_)
  · skip
    refine jw_sipush hC dL_cell_12 (by decide) ?_
    refine jw_iload_n hC dL_cell_15 1 rfl rfl ?_
    refine jw_iconst hC dL_cell_16 ?_
    refine jw_iadd hC dL_cell_17 ?_
    refine jw_imul hC dL_cell_18 ?_
    refine jw_iload_n hC dL_cell_19 1 rfl rfl ?_
    refine jw_bipush hC dL_cell_20 (by decide) ?_
    refine jw_iadd hC dL_cell_22 ?_
    refine jw_imul hC dL_cell_23 ?_
    refine jw_iret hC dL_cell_24 ?_
    first
    | exact ⟨_, sx_b E k, rfl, rfl⟩
    | exact ⟨wr _, ⟨wr_b1 _, wr_b2 _⟩, by rw [vI_wr], rfl⟩
  · skip
    refine jw_aload_n hC dL_cell_6 0 rfl rfl ?_
    refine jw_iload_n hC dL_cell_7 1 rfl rfl ?_
    refine jw_sld hC (by omega) (by omega) dL_cell_8 ?_
    refine jw_goto (tgt := 24) hC dL_cell_9 (by decide) ?_
    refine jw_iret hC dL_cell_24 ?_
    first
    | exact ⟨_, sx_b E k, rfl, rfl⟩
    | exact ⟨wr _, ⟨wr_b1 _, wr_b2 _⟩, by rw [vI_wr], rfl⟩
set_option maxRecDepth 100000 in
set_option maxHeartbeats 4000000 in
theorem c_L_told (l : Launch) (E : ewE) (M : ewM) (h0 : st0 M) : Ct l E yL_told (.code yL_told cL_told 4 (some .long)) 6 [vR E 77] M (fun v M1 => v = some (vJ (f_told M)) ∧ M = M1) := by
  refine ct_of (L0 := [(0, vR E 77)]) (by decide +kernel) rfl (Nat.le_of_ble_eq_true rfl) ?_
  intro zp ze zs zm za zb zt zc zA hC
  have K72 : ∀ (n : Nat) (k h : Int), 144 - k < n → 0 ≤ k → k ≤ 144 → h = f_h (fun q => f_prop M (q / 4) (f_tw q)) (4 * k).toNat (f_h (fun k => f_tp (M 51) (k / 25) (k % 5) (k / 5 % 5) 0) 75 (f_h (f_num M) 13 3)) → jJ zp l ze (ct_rm 6) zs zm za zb zt zc E zA 4 0 0 (MQ zb (ct_Q E zA (fun v M1 => v = some (vJ (f_told M)) ∧ M = M1)) za zs 0 0 zA) 72 [(0, vR E 77), (1, vJ h), (3, vI k)] [] M := by
    intro n
    induction n with
    | zero => intros; omega
    | succ n ih =>
      intro k h i1 i2 i3 hh
      refine jw_iload_n hC dL_told_72 2 rfl rfl ?_
      refine jw_sipush hC dL_told_73 (by decide) ?_
      refine jw_icmp_ge (tgt := 164) hC dL_told_76 (by decide) (by omega) (by omega) (by omega) (by omega) (fun h76 => ?_) (fun h76 => ?_)
      · skip
        refine jw_lload_n hC dL_told_164 1 rfl rfl ?_
        refine jw_lret hC dL_told_165 ?_
        refine ⟨?_, rfl⟩
        rw [hh, show 4 * k = 576 by omega]
        rfl
      · skip
        refine jw_ldc2 (n := 31) hC dL_told_79 w2_101 ?_
        refine jw_ldc2 (n := 31) hC dL_told_82 w2_101 ?_
        refine jw_ldc2 (n := 31) hC dL_told_85 w2_101 ?_
        refine jw_ldc2 (n := 31) hC dL_told_88 w2_101 ?_
        refine jw_lload_n hC dL_told_91 1 rfl rfl ?_
        refine jw_lmul hC dL_told_92 ?_
        refine jw_aload_n hC dL_told_93 0 rfl rfl ?_
        refine jw_iload_n hC dL_told_94 2 rfl rfl ?_
        refine jw_bipush hC dL_told_95 (by decide) ?_
        refine jw_irem hC dL_told_97 (by omega) (by omega) (by omega) (by omega) ?_
        refine jw_iload_n hC dL_told_98 2 rfl rfl ?_
        refine jw_bipush hC dL_told_99 (by decide) ?_
        refine jw_idiv hC dL_told_101 (by omega) (by omega) (by omega) (by omega) ?_
        refine jw_iconst hC dL_told_102 ?_
        refine jw_callV hC (c_X4_place l E M h0 _ (by omega) (by omega) _ (by omega) (by omega) _ (by decide) (by decide) ⟨⟨by omega, by omega, by omega, by omega⟩, by decide, by decide⟩) sV_L_22 ewF_x4.o dL_told_103 rfl rfl ⟨Nat.le_of_ble_eq_true rfl, Nat.le_of_ble_eq_true rfl⟩ ⟨Nat.zero_le _, Nat.zero_le _⟩ (Nat.le_of_ble_eq_true rfl) (fun v103 M103 g103 => ?_)
        obtain ⟨-, rfl, hb103, rfl⟩ := g103
        have hpl103 := f_pl_k (k := k) (by omega) (by omega)
        rw [hpl103] at hb103 ⊢
        refine jw_i2l hC dL_told_106 (by omega) (by omega) ?_
        refine jw_ladd hC dL_told_107 ?_
        refine jw_lmul hC dL_told_108 ?_
        refine jw_aload_n hC dL_told_109 0 rfl rfl ?_
        refine jw_iload_n hC dL_told_110 2 rfl rfl ?_
        refine jw_bipush hC dL_told_111 (by decide) ?_
        refine jw_irem hC dL_told_113 (by omega) (by omega) (by omega) (by omega) ?_
        refine jw_iload_n hC dL_told_114 2 rfl rfl ?_
        refine jw_bipush hC dL_told_115 (by decide) ?_
        refine jw_idiv hC dL_told_117 (by omega) (by omega) (by omega) (by omega) ?_
        refine jw_iconst hC dL_told_118 ?_
        refine jw_callV hC (c_X4_place l E M h0 _ (by omega) (by omega) _ (by omega) (by omega) _ (by decide) (by decide) ⟨⟨by omega, by omega, by omega, by omega⟩, by decide, by decide⟩) sV_L_22 ewF_x4.o dL_told_119 rfl rfl ⟨Nat.le_of_ble_eq_true rfl, Nat.le_of_ble_eq_true rfl⟩ ⟨Nat.zero_le _, Nat.zero_le _⟩ (Nat.le_of_ble_eq_true rfl) (fun v119 M119 g119 => ?_)
        obtain ⟨-, rfl, hb119, rfl⟩ := g119
        have hpl119 := f_pl_k (k := k) (by omega) (by omega)
        rw [hpl119] at hb119 ⊢
        refine jw_i2l hC dL_told_122 (by omega) (by omega) ?_
        refine jw_ladd hC dL_told_123 ?_
        refine jw_lmul hC dL_told_124 ?_
        refine jw_aload_n hC dL_told_125 0 rfl rfl ?_
        refine jw_iload_n hC dL_told_126 2 rfl rfl ?_
        refine jw_bipush hC dL_told_127 (by decide) ?_
        refine jw_irem hC dL_told_129 (by omega) (by omega) (by omega) (by omega) ?_
        refine jw_iload_n hC dL_told_130 2 rfl rfl ?_
        refine jw_bipush hC dL_told_131 (by decide) ?_
        refine jw_idiv hC dL_told_133 (by omega) (by omega) (by omega) (by omega) ?_
        refine jw_iconst hC dL_told_134 ?_
        refine jw_callV hC (c_X4_place l E M h0 _ (by omega) (by omega) _ (by omega) (by omega) _ (by decide) (by decide) ⟨⟨by omega, by omega, by omega, by omega⟩, by decide, by decide⟩) sV_L_22 ewF_x4.o dL_told_135 rfl rfl ⟨Nat.le_of_ble_eq_true rfl, Nat.le_of_ble_eq_true rfl⟩ ⟨Nat.zero_le _, Nat.zero_le _⟩ (Nat.le_of_ble_eq_true rfl) (fun v135 M135 g135 => ?_)
        obtain ⟨-, rfl, hb135, rfl⟩ := g135
        have hpl135 := f_pl_k (k := k) (by omega) (by omega)
        rw [hpl135] at hb135 ⊢
        refine jw_i2l hC dL_told_138 (by omega) (by omega) ?_
        refine jw_ladd hC dL_told_139 ?_
        refine jw_lmul hC dL_told_140 ?_
        refine jw_aload_n hC dL_told_141 0 rfl rfl ?_
        refine jw_iload_n hC dL_told_142 2 rfl rfl ?_
        refine jw_bipush hC dL_told_143 (by decide) ?_
        refine jw_irem hC dL_told_145 (by omega) (by omega) (by omega) (by omega) ?_
        refine jw_iload_n hC dL_told_146 2 rfl rfl ?_
        refine jw_bipush hC dL_told_147 (by decide) ?_
        refine jw_idiv hC dL_told_149 (by omega) (by omega) (by omega) (by omega) ?_
        refine jw_bipush hC dL_told_150 (by decide) ?_
        refine jw_callV hC (c_X4_place l E M h0 _ (by omega) (by omega) _ (by omega) (by omega) _ (by decide) (by decide) ⟨⟨by omega, by omega, by omega, by omega⟩, by decide, by decide⟩) sV_L_22 ewF_x4.o dL_told_152 rfl rfl ⟨Nat.le_of_ble_eq_true rfl, Nat.le_of_ble_eq_true rfl⟩ ⟨Nat.zero_le _, Nat.zero_le _⟩ (Nat.le_of_ble_eq_true rfl) (fun v152 M152 g152 => ?_)
        obtain ⟨-, rfl, hb152, rfl⟩ := g152
        have hpl152 := f_pl_k (k := k) (by omega) (by omega)
        rw [hpl152] at hb152 ⊢
        refine jw_i2l hC dL_told_155 (by omega) (by omega) ?_
        refine jw_ladd hC dL_told_156 ?_
        refine jw_lstore_n (L' := [(1, _), (0, _), (3, _)]) hC dL_told_157 rfl (by decide) rfl ?_
        refine jw_iinc (L' := [(3, _), (1, _), (0, _)]) hC dL_told_158 2 rfl (by decide) rfl ?_
        refine jw_goto (tgt := 72) hC dL_told_161 (by decide) ?_
        refine jw_loc (L' := [(0, _), (1, _), (3, _)]) [2, 1, 0] rfl ?_
        exact ih (k + 1) _ (by omega) (by omega) (by omega) (by
          rw [show 4 * (k + 1) = 4 * k + 3 + 1 by omega, f_h_s _ (by omega), show 4 * k + 3 = 4 * k + 2 + 1 by omega, f_h_s _ (by omega), show 4 * k + 2 = 4 * k + 1 + 1 by omega, f_h_s _ (by omega), f_h_s _ (by omega), hh]
          try dsimp only
          rw [show 4 * k / 4 = k by omega, show (4 * k + 1) / 4 = k by omega, show (4 * k + 1 + 1) / 4 = k by omega, show (4 * k + 1 + 1 + 1) / 4 = k by omega,
            show f_tw (4 * k) = 0 by unfold f_tw; rw [if_neg (by omega)]; omega, show f_tw (4 * k + 1) = 1 by unfold f_tw; rw [if_neg (by omega)]; omega, show f_tw (4 * k + 1 + 1) = 2 by unfold f_tw; rw [if_neg (by omega)]; omega, show f_tw (4 * k + 1 + 1 + 1) = 6 by unfold f_tw; rw [if_pos (by omega)]])
  have K33 : ∀ (n : Nat) (k h : Int), 75 - k < n → 0 ≤ k → k ≤ 75 → h = f_h (fun k => f_tp (M 51) (k / 25) (k % 5) (k / 5 % 5) 0) k.toNat (f_h (f_num M) 13 3) → jJ zp l ze (ct_rm 6) zs zm za zb zt zc E zA 4 0 0 (MQ zb (ct_Q E zA (fun v M1 => v = some (vJ (f_told M)) ∧ M = M1)) za zs 0 0 zA) 33 [(0, vR E 77), (1, vJ h), (3, vI k)] [] M := by
    intro n
    induction n with
    | zero => intros; omega
    | succ n ih =>
      intro k h i1 i2 i3 hh
      refine jw_iload_n hC dL_told_33 2 rfl rfl ?_
      refine jw_bipush hC dL_told_34 (by decide) ?_
      refine jw_icmp_ge (tgt := 70) hC dL_told_36 (by decide) (by omega) (by omega) (by omega) (by omega) (fun h36 => ?_) (fun h36 => ?_)
      · skip
        refine jw_iconst hC dL_told_70 ?_
        refine jw_istore_n (L' := [(3, _), (0, _), (1, _)]) hC dL_told_71 rfl (by decide) rfl ?_
        refine jw_loc (L' := [(0, _), (1, _), (3, _)]) [1, 2, 0] rfl ?_
        exact K72 145 0 _ (by omega) (by omega) (by omega) (by rw [hh, show k = 75 by omega]; rfl)
      · skip
        refine jw_ldc2 (n := 31) hC dL_told_39 w2_101 ?_
        refine jw_lload_n hC dL_told_42 1 rfl rfl ?_
        refine jw_lmul hC dL_told_43 ?_
        refine jw_aload_n hC dL_told_44 0 rfl rfl ?_
        refine jw_iload_n hC dL_told_45 2 rfl rfl ?_
        refine jw_bipush hC dL_told_46 (by decide) ?_
        refine jw_idiv hC dL_told_48 (by omega) (by omega) (by omega) (by omega) ?_
        refine jw_iload_n hC dL_told_49 2 rfl rfl ?_
        refine jw_iconst hC dL_told_50 ?_
        refine jw_irem hC dL_told_51 (by omega) (by omega) (by omega) (by omega) ?_
        refine jw_iload_n hC dL_told_52 2 rfl rfl ?_
        refine jw_iconst hC dL_told_53 ?_
        refine jw_idiv hC dL_told_54 (by omega) (by omega) (by omega) (by omega) ?_
        refine jw_iconst hC dL_told_55 ?_
        refine jw_irem hC dL_told_56 (by omega) (by omega) (by omega) (by omega) ?_
        refine jw_iconst hC dL_told_57 ?_
        refine jw_callV hC (c_X4_dieOf l E M _ (by omega) (by omega) _ (by omega) (by omega) _ (by omega) (by omega) _ (by decide) (by decide) ⟨⟨⟨by omega, by omega⟩, by omega, by omega, by omega, by omega⟩, by decide, by decide⟩) sV_L_18 ewF_x4.o dL_told_58 rfl rfl ⟨Nat.le_of_ble_eq_true rfl, Nat.le_of_ble_eq_true rfl⟩ ⟨Nat.zero_le _, Nat.zero_le _⟩ (Nat.le_of_ble_eq_true rfl) (fun v58 M58 g58 => ?_)
        obtain ⟨-, rfl, rfl⟩ := g58
        have hb58 : 0 ≤ f_tp (M 51) (k / 25) (k % 5) (k / 5 % 5) 0 ∧ f_tp (M 51) (k / 25) (k % 5) (k / 5 % 5) 0 ≤ 9 := h0.2.2.1 _
        refine jw_i2l hC dL_told_61 (by omega) (by omega) ?_
        refine jw_ladd hC dL_told_62 ?_
        refine jw_lstore_n (L' := [(1, _), (0, _), (3, _)]) hC dL_told_63 rfl (by decide) rfl ?_
        refine jw_iinc (L' := [(3, _), (1, _), (0, _)]) hC dL_told_64 2 rfl (by decide) rfl ?_
        refine jw_goto (tgt := 33) hC dL_told_67 (by decide) ?_
        refine jw_loc (L' := [(0, _), (1, _), (3, _)]) [2, 1, 0] rfl ?_
        exact ih _ _ (by omega) (by omega) (by omega) (by rw [f_h_s _ i2, hh])
  have K6 : ∀ (n : Nat) (k h : Int), 13 - k < n → 0 ≤ k → k ≤ 13 → h = f_h (f_num M) k.toNat 3 → jJ zp l ze (ct_rm 6) zs zm za zb zt zc E zA 4 0 0 (MQ zb (ct_Q E zA (fun v M1 => v = some (vJ (f_told M)) ∧ M = M1)) za zs 0 0 zA) 6 [(0, vR E 77), (1, vJ h), (3, vI k)] [] M := by
    intro n
    induction n with
    | zero => intros; omega
    | succ n ih =>
      intro k h i1 i2 i3 hh
      refine jw_iload_n hC dL_told_6 2 rfl rfl ?_
      refine jw_bipush hC dL_told_7 (by decide) ?_
      refine jw_icmp_ge (tgt := 31) hC dL_told_9 (by decide) (by omega) (by omega) (by omega) (by omega) (fun h9 => ?_) (fun h9 => ?_)
      · skip
        refine jw_iconst hC dL_told_31 ?_
        refine jw_istore_n (L' := [(3, _), (0, _), (1, _)]) hC dL_told_32 rfl (by decide) rfl ?_
        refine jw_loc (L' := [(0, _), (1, _), (3, _)]) [1, 2, 0] rfl ?_
        exact K33 76 0 _ (by omega) (by omega) (by omega) (by rw [hh, show k = 13 by omega]; rfl)
      · skip
        refine jw_ldc2 (n := 31) hC dL_told_12 w2_101 ?_
        refine jw_lload_n hC dL_told_15 1 rfl rfl ?_
        refine jw_lmul hC dL_told_16 ?_
        refine jw_aload_n hC dL_told_17 0 rfl rfl ?_
        refine jw_iload_n hC dL_told_18 2 rfl rfl ?_
        refine jw_callV hC (c_X4_count l E M h0 _ (by omega) (by omega) ⟨by omega, by omega⟩) sV_L_12 ewF_x4.o dL_told_19 rfl rfl ⟨Nat.le_of_ble_eq_true rfl, Nat.le_of_ble_eq_true rfl⟩ ⟨Nat.zero_le _, Nat.zero_le _⟩ (Nat.le_of_ble_eq_true rfl) (fun v19 M19 g19 => ?_)
        obtain ⟨-, rfl, hb19, rfl⟩ := g19
        refine jw_i2l hC dL_told_22 (by omega) (by omega) ?_
        refine jw_ladd hC dL_told_23 ?_
        refine jw_lstore_n (L' := [(1, _), (0, _), (3, _)]) hC dL_told_24 rfl (by decide) rfl ?_
        refine jw_iinc (L' := [(3, _), (1, _), (0, _)]) hC dL_told_25 2 rfl (by decide) rfl ?_
        refine jw_goto (tgt := 6) hC dL_told_28 (by decide) ?_
        refine jw_loc (L' := [(0, _), (1, _), (3, _)]) [2, 1, 0] rfl ?_
        exact ih _ _ (by omega) (by omega) (by omega) (by rw [f_h_s _ i2, hh])
  refine jw_ldc2 (n := 3) hC dL_told_0 w2_100 ?_
  refine jw_lstore_n (L' := [(1, _), (0, _)]) hC dL_told_3 rfl (by decide) rfl ?_
  refine jw_iconst hC dL_told_4 ?_
  refine jw_istore_n (L' := [(3, _), (1, _), (0, _)]) hC dL_told_5 rfl (by decide) rfl ?_
  refine jw_loc (L' := [(0, _), (1, _), (3, _)]) [2, 1, 0] rfl ?_
  exact K6 14 0 _ (by omega) (by omega) (by omega) rfl
