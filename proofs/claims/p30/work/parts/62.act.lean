/-! THE LAW'S OWN METHODS: act -/
set_option maxRecDepth 100000 in
set_option maxHeartbeats 4000000 in
theorem c_L_act (l : Launch) (E : ewE) (M : ewM) (h0 : st0 M) (q4 : 0 ≤ M 77 4 ∧ M 77 4 ≤ 5) (q5 : 0 ≤ M 77 5 ∧ M 77 5 ≤ 6) (v w : Int) : Ct l E yL_act (.code yL_act cL_act 7 (some .int)) 6 [vR E 77, vI v, vI w] M (opP M (f_act (i_and v 15) v w (sj M 0))) := by
  refine ct_of (L0 := [(0, vR E 77), (1, vI v), (2, vI w)]) (by decide +kernel) rfl (Nat.le_of_ble_eq_true rfl) ?_
  intro zp ze zs zm za zb zt zc zA hC
  have l1 := f_lo_b (i_shr v 4) (n := 3) (by decide)
  have l2 := f_lo_b w (n := 12) (by decide)
  have l3 := f_lo_b (i_shr w 4) (n := 12) (by decide)
  have l4 := f_lo_b (i_shr v 6) (n := 9) (by decide)
  have l5 := f_lo_b (i_shr w 8) (n := 12 - f_lo w 12) (by omega)
  have l6 := f_lo_b (i_shr w 12) (n := 12 - f_lo (i_shr w 4) 12) (by omega)
  have l7 := f_lo_b w (n := 11) (by decide)
  have l8 := f_lo_b w (n := 4) (by decide)
  have l9 := f_lo_b (i_shr w 8) (n := 8) (by decide)
  have m1 := f_lo_b w (n := 5) (by decide)
  have m2 := f_lo_b (i_shr w 3) (n := 5) (by decide)
  have m3 := f_lo_b (i_shr w 6) (n := 10) (by decide)
  have hsv := f_sv_ok w l8
  have hsb := g_bnd (f_lo w 4).toNat
  have hk := i_and_b v (y := 15) (by decide) (by decide)
  refine jw_iload_n hC dL_act_0 1 rfl rfl ?_
  refine jw_iconst hC dL_act_1 ?_
  refine jw_ishr hC dL_act_2 (fun b2 c2 => ?_)
  refine jw_iconst hC dL_act_3 ?_
  refine jw_callS hC (c_L_low l E _ _ _ (by omega)) sS_L_26 dL_act_4 rfl rfl ⟨Nat.le_of_ble_eq_true rfl, Nat.le_of_ble_eq_true rfl⟩ ⟨Nat.zero_le _, Nat.zero_le _⟩ (Nat.le_of_ble_eq_true rfl) (fun v4 M4 g4 => ?_)
  obtain ⟨rfl, rfl⟩ := g4
  refine jw_istore_n (L' := [(3, _), (0, _), (1, _), (2, _)]) hC dL_act_7 rfl (by decide) rfl ?_
  refine jw_iload_n hC dL_act_8 3 rfl rfl ?_
  refine jw_bipush hC dL_act_9 (by decide) ?_
  refine jw_callS hC (c_L_low l E _ _ _ (by omega)) sS_L_26 dL_act_11 rfl rfl ⟨Nat.le_of_ble_eq_true rfl, Nat.le_of_ble_eq_true rfl⟩ ⟨Nat.zero_le _, Nat.zero_le _⟩ (Nat.le_of_ble_eq_true rfl) (fun v11 M11 g11 => ?_)
  obtain ⟨rfl, rfl⟩ := g11
  refine jw_istore (L' := [(4, _), (3, _), (0, _), (1, _), (2, _)]) hC dL_act_14 (by decide) rfl ?_
  refine jw_iload_n hC dL_act_16 4 rfl rfl ?_
  refine jw_iconst hC dL_act_17 ?_
  refine jw_ishr hC dL_act_18 (fun b18 c18 => ?_)
  refine jw_bipush hC dL_act_19 (by decide) ?_
  refine jw_callS hC (c_L_low l E _ _ _ (by omega)) sS_L_26 dL_act_21 rfl rfl ⟨Nat.le_of_ble_eq_true rfl, Nat.le_of_ble_eq_true rfl⟩ ⟨Nat.zero_le _, Nat.zero_le _⟩ (Nat.le_of_ble_eq_true rfl) (fun v21 M21 g21 => ?_)
  obtain ⟨rfl, rfl⟩ := g21
  refine jw_istore (L' := [(5, _), (4, _), (3, _), (0, _), (1, _), (2, _)]) hC dL_act_24 (by decide) rfl ?_
  refine jw_iload_n hC dL_act_26 4 rfl rfl ?_
  refine jw_bipush hC dL_act_27 (by decide) ?_
  refine jw_iand hC dL_act_29 (fun b29 c29 => ?_)
  generalize i_and v 15 = kd at hk ⊢
  rcases (show kd = 0 ∨ kd = 1 ∨ kd = 2 ∨ kd = 3 ∨ kd = 4 ∨ kd = 5 ∨ kd = 6 ∨ kd = 7 ∨ kd = 8 ∨ kd = 9 ∨ kd = 10 ∨ kd = 11 ∨ kd = 12 ∨ kd = 13 ∨ kd = 14 ∨ kd = 15 by omega) with rfl | rfl | rfl | rfl | rfl | rfl | rfl | rfl | rfl | rfl | rfl | rfl | rfl | rfl | rfl | rfl
  · skip
    refine jw_tabIn (tgt := 88) hC dL_act_30 (by decide) (by decide) (by decide) (by decide) rfl (by decide) ?_
    refine jw_iload_n hC dL_act_88 5 rfl rfl ?_
    refine jw_bipush hC dL_act_89 (by decide) ?_
    refine jw_ishr hC dL_act_91 (fun b91 c91 => ?_)
    refine jw_iconst hC dL_act_92 ?_
    refine jw_iand hC dL_act_93 (fun b93 c93 => ?_)
    refine jw_if_ne (tgt := 104) hC dL_act_94 (by decide) (by omega) (by omega) (fun h94 => ?_) (fun h94 => ?_)
    · skip
      refine jw_aload_n hC dL_act_104 3 rfl rfl ?_
      refine jw_callV hC (c_X4_pin l E M q4 q5) sV_L_36 ewF_x4.o dL_act_105 rfl rfl ⟨Nat.le_of_ble_eq_true rfl, Nat.le_of_ble_eq_true rfl⟩ ⟨Nat.zero_le _, Nat.zero_le _⟩ (Nat.le_of_ble_eq_true rfl) (fun v105 M105 g105 => ?_)
      have op := op_pin q4 q5 g105
      obtain ⟨rfl, -, -⟩ := id op
      refine jw_iret hC dL_act_108 ?_
      show opP M (if i_and (i_shr w 20) 1 = 0 then o_sheet (sj M 0) else o_pin (sj M 0)) _ _
      first
      | (rw [if_pos (show i_and (i_shr w 20) 1 = 0 by omega)]; exact op)
      | (rw [if_neg (show ¬ i_and (i_shr w 20) 1 = 0 by omega)]; exact op)
    · skip
      refine jw_aload_n hC dL_act_97 3 rfl rfl ?_
      refine jw_callV hC (c_X4_sheet l E M h0 q4 q5) sV_L_32 ewF_x4.o dL_act_98 rfl rfl ⟨Nat.le_of_ble_eq_true rfl, Nat.le_of_ble_eq_true rfl⟩ ⟨Nat.zero_le _, Nat.zero_le _⟩ (Nat.le_of_ble_eq_true rfl) (fun v98 M98 g98 => ?_)
      have op := op_sheet q4 q5 g98
      obtain ⟨rfl, -, -⟩ := id op
      refine jw_goto (tgt := 108) hC dL_act_101 (by decide) ?_
      refine jw_iret hC dL_act_108 ?_
      show opP M (if i_and (i_shr w 20) 1 = 0 then o_sheet (sj M 0) else o_pin (sj M 0)) _ _
      first
      | (rw [if_pos (show i_and (i_shr w 20) 1 = 0 by omega)]; exact op)
      | (rw [if_neg (show ¬ i_and (i_shr w 20) 1 = 0 by omega)]; exact op)
  · skip
    refine jw_tabIn (tgt := 109) hC dL_act_30 (by decide) (by decide) (by decide) (by decide) rfl (by decide) ?_
    refine jw_aload_n hC dL_act_109 3 rfl rfl ?_
    refine jw_callV hC (c_X4_pin l E M q4 q5) sV_L_36 ewF_x4.o dL_act_110 rfl rfl ⟨Nat.le_of_ble_eq_true rfl, Nat.le_of_ble_eq_true rfl⟩ ⟨Nat.zero_le _, Nat.zero_le _⟩ (Nat.le_of_ble_eq_true rfl) (fun v110 M110 g110 => ?_)
    have op := op_pin q4 q5 g110
    obtain ⟨rfl, -, -⟩ := id op
    refine jw_iret hC dL_act_113 ?_
    exact op
  · skip
    refine jw_tabIn (tgt := 114) hC dL_act_30 (by decide) (by decide) (by decide) (by decide) rfl (by decide) ?_
    refine jw_aload_n hC dL_act_114 3 rfl rfl ?_
    refine jw_iconst hC dL_act_115 ?_
    refine jw_iload_n hC dL_act_116 4 rfl rfl ?_
    refine jw_bipush hC dL_act_117 (by decide) ?_
    refine jw_ishr hC dL_act_119 (fun b119 c119 => ?_)
    refine jw_bipush hC dL_act_120 (by decide) ?_
    refine jw_callS hC (c_L_low l E _ _ _ (by omega)) sS_L_26 dL_act_122 rfl rfl ⟨Nat.le_of_ble_eq_true rfl, Nat.le_of_ble_eq_true rfl⟩ ⟨Nat.zero_le _, Nat.zero_le _⟩ (Nat.le_of_ble_eq_true rfl) (fun v122 M122 g122 => ?_)
    obtain ⟨rfl, rfl⟩ := g122
    refine jw_iadd hC dL_act_125 ?_
    refine jw_iload hC dL_act_126 1 rfl ?_
    refine jw_iload hC dL_act_128 0 rfl ?_
    refine jw_iload hC dL_act_130 1 rfl ?_
    refine jw_iload_n hC dL_act_132 5 rfl rfl ?_
    refine jw_bipush hC dL_act_133 (by decide) ?_
    refine jw_ishr hC dL_act_135 (fun b135 c135 => ?_)
    refine jw_bipush hC dL_act_136 (by decide) ?_
    refine jw_iload hC dL_act_138 1 rfl ?_
    refine jw_isub hC dL_act_140 ?_
    refine jw_callS hC (c_L_low l E _ _ _ (by omega)) sS_L_26 dL_act_141 rfl rfl ⟨Nat.le_of_ble_eq_true rfl, Nat.le_of_ble_eq_true rfl⟩ ⟨Nat.zero_le _, Nat.zero_le _⟩ (Nat.le_of_ble_eq_true rfl) (fun v141 M141 g141 => ?_)
    obtain ⟨rfl, rfl⟩ := g141
    refine jw_iadd hC dL_act_144 ?_
    refine jw_iload hC dL_act_145 0 rfl ?_
    refine jw_iload_n hC dL_act_147 5 rfl rfl ?_
    refine jw_bipush hC dL_act_148 (by decide) ?_
    refine jw_ishr hC dL_act_150 (fun b150 c150 => ?_)
    refine jw_bipush hC dL_act_151 (by decide) ?_
    refine jw_iload hC dL_act_153 0 rfl ?_
    refine jw_isub hC dL_act_155 ?_
    refine jw_callS hC (c_L_low l E _ _ _ (by omega)) sS_L_26 dL_act_156 rfl rfl ⟨Nat.le_of_ble_eq_true rfl, Nat.le_of_ble_eq_true rfl⟩ ⟨Nat.zero_le _, Nat.zero_le _⟩ (Nat.le_of_ble_eq_true rfl) (fun v156 M156 g156 => ?_)
    obtain ⟨rfl, rfl⟩ := g156
    refine jw_iadd hC dL_act_159 ?_
    refine jw_callV hC (c_X4_foil l E M q4 q5 _ (by omega) (by omega) _ (by omega) (by omega) _ (by omega) (by omega) _ (by omega) (by omega) _ (by omega) (by omega) ⟨⟨⟨by omega, by omega, by omega, by omega⟩, by omega, by omega, by omega, by omega⟩, ⟨by omega, by omega⟩, by omega, by omega⟩) sV_L_39 ewF_x4.o dL_act_160 rfl rfl ⟨Nat.le_of_ble_eq_true rfl, Nat.le_of_ble_eq_true rfl⟩ ⟨Nat.zero_le _, Nat.zero_le _⟩ (Nat.le_of_ble_eq_true rfl) (fun v160 M160 g160 => ?_)
    have op := op_foil q4 q5 g160.2
    obtain ⟨rfl, -, -⟩ := id op
    refine jw_iret hC dL_act_163 ?_
    exact op
  · skip
    refine jw_tabIn (tgt := 164) hC dL_act_30 (by decide) (by decide) (by decide) (by decide) rfl (by decide) ?_
    refine jw_aload_n hC dL_act_164 3 rfl rfl ?_
    refine jw_iconst hC dL_act_165 ?_
    refine jw_iload_n hC dL_act_166 5 rfl rfl ?_
    refine jw_bipush hC dL_act_167 (by decide) ?_
    refine jw_callS hC (c_L_low l E _ _ _ (by omega)) sS_L_26 dL_act_169 rfl rfl ⟨Nat.le_of_ble_eq_true rfl, Nat.le_of_ble_eq_true rfl⟩ ⟨Nat.zero_le _, Nat.zero_le _⟩ (Nat.le_of_ble_eq_true rfl) (fun v169 M169 g169 => ?_)
    obtain ⟨rfl, rfl⟩ := g169
    refine jw_iadd hC dL_act_172 ?_
    refine jw_callV hC (c_X4_fold l E M h0 q4 q5 _ (by omega) (by omega) ⟨by omega, by omega⟩) sV_L_43 ewF_x4.o dL_act_173 rfl rfl ⟨Nat.le_of_ble_eq_true rfl, Nat.le_of_ble_eq_true rfl⟩ ⟨Nat.zero_le _, Nat.zero_le _⟩ (Nat.le_of_ble_eq_true rfl) (fun v173 M173 g173 => ?_)
    have op := op_fold q4 q5 g173.2
    obtain ⟨rfl, -, -⟩ := id op
    refine jw_iret hC dL_act_176 ?_
    exact op
  · skip
    refine jw_tabIn (tgt := 177) hC dL_act_30 (by decide) (by decide) (by decide) (by decide) rfl (by decide) ?_
    refine jw_iload_n hC dL_act_177 5 rfl rfl ?_
    refine jw_iconst hC dL_act_178 ?_
    refine jw_callS hC (c_L_low l E _ _ _ (by omega)) sS_L_26 dL_act_179 rfl rfl ⟨Nat.le_of_ble_eq_true rfl, Nat.le_of_ble_eq_true rfl⟩ ⟨Nat.zero_le _, Nat.zero_le _⟩ (Nat.le_of_ble_eq_true rfl) (fun v179 M179 g179 => ?_)
    obtain ⟨rfl, rfl⟩ := g179
    refine jw_istore (L' := [(6, _), (5, _), (4, _), (3, _), (0, _), (1, _), (2, _)]) hC dL_act_182 (by decide) rfl ?_
    refine jw_aload_n hC dL_act_184 4 rfl rfl ?_
    refine jw_iload hC dL_act_185 0 rfl ?_
    refine jw_iload hC dL_act_187 0 rfl ?_
    refine jw_if_ne (tgt := 203) hC dL_act_189 (by decide) (by omega) (by omega) (fun h189 => ?_) (fun h189 => ?_)
    · skip
      refine jw_iload hC dL_act_203 0 rfl ?_
      refine jw_iconst hC dL_act_205 ?_
      refine jw_icmp_ne (tgt := 220) hC dL_act_206 (by decide) (by omega) (by omega) (by omega) (by omega) (fun h206 => ?_) (fun h206 => ?_)
      · skip
        refine jw_iload hC dL_act_220 0 rfl ?_
        refine jw_iconst hC dL_act_222 ?_
        refine jw_icmp_ne (tgt := 239) hC dL_act_223 (by decide) (by omega) (by omega) (by omega) (by omega) (fun h223 => ?_) (fun h223 => ?_)
        · skip
          refine jw_iload_n hC dL_act_239 6 rfl rfl ?_
          refine jw_iconst hC dL_act_240 ?_
          refine jw_ishr hC dL_act_241 (fun b241 c241 => ?_)
          refine jw_bipush hC dL_act_242 (by decide) ?_
          refine jw_callS hC (c_L_low l E _ _ _ (by omega)) sS_L_26 dL_act_244 rfl rfl ⟨Nat.le_of_ble_eq_true rfl, Nat.le_of_ble_eq_true rfl⟩ ⟨Nat.zero_le _, Nat.zero_le _⟩ (Nat.le_of_ble_eq_true rfl) (fun v244 M244 g244 => ?_)
          obtain ⟨rfl, rfl⟩ := g244
          first
          | (have h9 : f_lo w 4 = 0 := by omega
             rw [show f_lo (i_shr w 2) 100 = f_sv (f_lo w 4) w by unfold f_sv; rw [if_pos h9]])
          | (have h9 : f_lo w 4 = 1 := by omega
             rw [show f_lo (i_shr w 2) 21 = f_sv (f_lo w 4) w by unfold f_sv; rw [if_neg (by omega), if_pos h9]])
          | (have h9 : f_lo w 4 = 2 := by omega
             rw [show 1 + f_lo (i_shr w 2) 9 = f_sv (f_lo w 4) w by unfold f_sv; rw [if_neg (by omega), if_neg (by omega), if_pos h9]])
          | (have h9 : f_lo w 4 = 3 := by omega
             rw [show f_lo (i_shr w 2) 10 = f_sv (f_lo w 4) w by unfold f_sv; rw [if_neg (by omega), if_neg (by omega), if_neg (by omega)]])
          refine jw_callV hC (c_X4_set l E M q4 q5 _ (by omega) (by omega) _ (by omega) (by omega) ⟨⟨by omega, by omega⟩, hsv⟩) sV_L_46 ewF_x4.o dL_act_247 rfl rfl ⟨Nat.le_of_ble_eq_true rfl, Nat.le_of_ble_eq_true rfl⟩ ⟨Nat.zero_le _, Nat.zero_le _⟩ (Nat.le_of_ble_eq_true rfl) (fun v247 M247 g247 => ?_)
          have op := op_set q4 q5 g247.2
          obtain ⟨rfl, -, -⟩ := id op
          refine jw_iret hC dL_act_250 ?_
          exact op
        · skip
          refine jw_iconst hC dL_act_226 ?_
          refine jw_iload_n hC dL_act_227 6 rfl rfl ?_
          refine jw_iconst hC dL_act_228 ?_
          refine jw_ishr hC dL_act_229 (fun b229 c229 => ?_)
          refine jw_bipush hC dL_act_230 (by decide) ?_
          refine jw_callS hC (c_L_low l E _ _ _ (by omega)) sS_L_26 dL_act_232 rfl rfl ⟨Nat.le_of_ble_eq_true rfl, Nat.le_of_ble_eq_true rfl⟩ ⟨Nat.zero_le _, Nat.zero_le _⟩ (Nat.le_of_ble_eq_true rfl) (fun v232 M232 g232 => ?_)
          obtain ⟨rfl, rfl⟩ := g232
          refine jw_iadd hC dL_act_235 ?_
          refine jw_goto (tgt := 247) hC dL_act_236 (by decide) ?_
          first
          | (have h9 : f_lo w 4 = 0 := by omega
             rw [show f_lo (i_shr w 2) 100 = f_sv (f_lo w 4) w by unfold f_sv; rw [if_pos h9]])
          | (have h9 : f_lo w 4 = 1 := by omega
             rw [show f_lo (i_shr w 2) 21 = f_sv (f_lo w 4) w by unfold f_sv; rw [if_neg (by omega), if_pos h9]])
          | (have h9 : f_lo w 4 = 2 := by omega
             rw [show 1 + f_lo (i_shr w 2) 9 = f_sv (f_lo w 4) w by unfold f_sv; rw [if_neg (by omega), if_neg (by omega), if_pos h9]])
          | (have h9 : f_lo w 4 = 3 := by omega
             rw [show f_lo (i_shr w 2) 10 = f_sv (f_lo w 4) w by unfold f_sv; rw [if_neg (by omega), if_neg (by omega), if_neg (by omega)]])
          refine jw_callV hC (c_X4_set l E M q4 q5 _ (by omega) (by omega) _ (by omega) (by omega) ⟨⟨by omega, by omega⟩, hsv⟩) sV_L_46 ewF_x4.o dL_act_247 rfl rfl ⟨Nat.le_of_ble_eq_true rfl, Nat.le_of_ble_eq_true rfl⟩ ⟨Nat.zero_le _, Nat.zero_le _⟩ (Nat.le_of_ble_eq_true rfl) (fun v247 M247 g247 => ?_)
          have op := op_set q4 q5 g247.2
          obtain ⟨rfl, -, -⟩ := id op
          refine jw_iret hC dL_act_250 ?_
          exact op
      · skip
        refine jw_iload_n hC dL_act_209 6 rfl rfl ?_
        refine jw_iconst hC dL_act_210 ?_
        refine jw_ishr hC dL_act_211 (fun b211 c211 => ?_)
        refine jw_bipush hC dL_act_212 (by decide) ?_
        refine jw_callS hC (c_L_low l E _ _ _ (by omega)) sS_L_26 dL_act_214 rfl rfl ⟨Nat.le_of_ble_eq_true rfl, Nat.le_of_ble_eq_true rfl⟩ ⟨Nat.zero_le _, Nat.zero_le _⟩ (Nat.le_of_ble_eq_true rfl) (fun v214 M214 g214 => ?_)
        obtain ⟨rfl, rfl⟩ := g214
        refine jw_goto (tgt := 247) hC dL_act_217 (by decide) ?_
        first
        | (have h9 : f_lo w 4 = 0 := by omega
           rw [show f_lo (i_shr w 2) 100 = f_sv (f_lo w 4) w by unfold f_sv; rw [if_pos h9]])
        | (have h9 : f_lo w 4 = 1 := by omega
           rw [show f_lo (i_shr w 2) 21 = f_sv (f_lo w 4) w by unfold f_sv; rw [if_neg (by omega), if_pos h9]])
        | (have h9 : f_lo w 4 = 2 := by omega
           rw [show 1 + f_lo (i_shr w 2) 9 = f_sv (f_lo w 4) w by unfold f_sv; rw [if_neg (by omega), if_neg (by omega), if_pos h9]])
        | (have h9 : f_lo w 4 = 3 := by omega
           rw [show f_lo (i_shr w 2) 10 = f_sv (f_lo w 4) w by unfold f_sv; rw [if_neg (by omega), if_neg (by omega), if_neg (by omega)]])
        refine jw_callV hC (c_X4_set l E M q4 q5 _ (by omega) (by omega) _ (by omega) (by omega) ⟨⟨by omega, by omega⟩, hsv⟩) sV_L_46 ewF_x4.o dL_act_247 rfl rfl ⟨Nat.le_of_ble_eq_true rfl, Nat.le_of_ble_eq_true rfl⟩ ⟨Nat.zero_le _, Nat.zero_le _⟩ (Nat.le_of_ble_eq_true rfl) (fun v247 M247 g247 => ?_)
        have op := op_set q4 q5 g247.2
        obtain ⟨rfl, -, -⟩ := id op
        refine jw_iret hC dL_act_250 ?_
        exact op
    · skip
      refine jw_iload_n hC dL_act_192 6 rfl rfl ?_
      refine jw_iconst hC dL_act_193 ?_
      refine jw_ishr hC dL_act_194 (fun b194 c194 => ?_)
      refine jw_bipush hC dL_act_195 (by decide) ?_
      refine jw_callS hC (c_L_low l E _ _ _ (by omega)) sS_L_26 dL_act_197 rfl rfl ⟨Nat.le_of_ble_eq_true rfl, Nat.le_of_ble_eq_true rfl⟩ ⟨Nat.zero_le _, Nat.zero_le _⟩ (Nat.le_of_ble_eq_true rfl) (fun v197 M197 g197 => ?_)
      obtain ⟨rfl, rfl⟩ := g197
      refine jw_goto (tgt := 247) hC dL_act_200 (by decide) ?_
      first
      | (have h9 : f_lo w 4 = 0 := by omega
         rw [show f_lo (i_shr w 2) 100 = f_sv (f_lo w 4) w by unfold f_sv; rw [if_pos h9]])
      | (have h9 : f_lo w 4 = 1 := by omega
         rw [show f_lo (i_shr w 2) 21 = f_sv (f_lo w 4) w by unfold f_sv; rw [if_neg (by omega), if_pos h9]])
      | (have h9 : f_lo w 4 = 2 := by omega
         rw [show 1 + f_lo (i_shr w 2) 9 = f_sv (f_lo w 4) w by unfold f_sv; rw [if_neg (by omega), if_neg (by omega), if_pos h9]])
      | (have h9 : f_lo w 4 = 3 := by omega
         rw [show f_lo (i_shr w 2) 10 = f_sv (f_lo w 4) w by unfold f_sv; rw [if_neg (by omega), if_neg (by omega), if_neg (by omega)]])
      refine jw_callV hC (c_X4_set l E M q4 q5 _ (by omega) (by omega) _ (by omega) (by omega) ⟨⟨by omega, by omega⟩, hsv⟩) sV_L_46 ewF_x4.o dL_act_247 rfl rfl ⟨Nat.le_of_ble_eq_true rfl, Nat.le_of_ble_eq_true rfl⟩ ⟨Nat.zero_le _, Nat.zero_le _⟩ (Nat.le_of_ble_eq_true rfl) (fun v247 M247 g247 => ?_)
      have op := op_set q4 q5 g247.2
      obtain ⟨rfl, -, -⟩ := id op
      refine jw_iret hC dL_act_250 ?_
      exact op
  · skip
    refine jw_tabIn (tgt := 251) hC dL_act_30 (by decide) (by decide) (by decide) (by decide) rfl (by decide) ?_
    refine jw_aload_n hC dL_act_251 3 rfl rfl ?_
    refine jw_iload_n hC dL_act_252 2 rfl rfl ?_
    refine jw_iload hC dL_act_253 1 rfl ?_
    refine jw_iload hC dL_act_255 0 rfl ?_
    refine jw_callV hC (c_X4_cast l E M h0 q4 q5 _ (by omega) (by omega) _ (by omega) (by omega) _ (by omega) (by omega) ⟨⟨by omega, by omega⟩, by omega, by omega, by omega, by omega⟩) sV_L_49 ewF_x4.o dL_act_257 rfl rfl ⟨Nat.le_of_ble_eq_true rfl, Nat.le_of_ble_eq_true rfl⟩ ⟨Nat.zero_le _, Nat.zero_le _⟩ (Nat.le_of_ble_eq_true rfl) (fun v257 M257 g257 => ?_)
    have op := op_cast q4 q5 g257.2
    obtain ⟨rfl, -, -⟩ := id op
    refine jw_iret hC dL_act_260 ?_
    exact op
  · skip
    refine jw_tabIn (tgt := 261) hC dL_act_30 (by decide) (by decide) (by decide) (by decide) rfl (by decide) ?_
    refine jw_aload_n hC dL_act_261 3 rfl rfl ?_
    refine jw_iload_n hC dL_act_262 2 rfl rfl ?_
    refine jw_iload hC dL_act_263 1 rfl ?_
    refine jw_iconst hC dL_act_265 ?_
    refine jw_isub hC dL_act_266 ?_
    refine jw_iload hC dL_act_267 0 rfl ?_
    refine jw_iconst hC dL_act_269 ?_
    refine jw_isub hC dL_act_270 ?_
    refine jw_iload_n hC dL_act_271 5 rfl rfl ?_
    refine jw_bipush hC dL_act_272 (by decide) ?_
    refine jw_ishr hC dL_act_274 (fun b274 c274 => ?_)
    refine jw_bipush hC dL_act_275 (by decide) ?_
    refine jw_callS hC (c_L_low l E _ _ _ (by omega)) sS_L_26 dL_act_277 rfl rfl ⟨Nat.le_of_ble_eq_true rfl, Nat.le_of_ble_eq_true rfl⟩ ⟨Nat.zero_le _, Nat.zero_le _⟩ (Nat.le_of_ble_eq_true rfl) (fun v277 M277 g277 => ?_)
    obtain ⟨rfl, rfl⟩ := g277
    refine jw_callV hC (c_X4_press l E M h0 q4 q5 _ (by omega) (by omega) _ (by omega) (by omega) _ (by omega) (by omega) _ (by omega) (by omega) ⟨⟨by omega, by omega⟩, by omega, by omega⟩) sV_L_52 ewF_x4.o dL_act_280 rfl rfl ⟨Nat.le_of_ble_eq_true rfl, Nat.le_of_ble_eq_true rfl⟩ ⟨Nat.zero_le _, Nat.zero_le _⟩ (Nat.le_of_ble_eq_true rfl) (fun v280 M280 g280 => ?_)
    have op := op_press q4 q5 g280.2
    obtain ⟨rfl, -, -⟩ := id op
    refine jw_iret hC dL_act_283 ?_
    exact op
  · skip
    refine jw_tabIn (tgt := 261) hC dL_act_30 (by decide) (by decide) (by decide) (by decide) rfl (by decide) ?_
    refine jw_aload_n hC dL_act_261 3 rfl rfl ?_
    refine jw_iload_n hC dL_act_262 2 rfl rfl ?_
    refine jw_iload hC dL_act_263 1 rfl ?_
    refine jw_iconst hC dL_act_265 ?_
    refine jw_isub hC dL_act_266 ?_
    refine jw_iload hC dL_act_267 0 rfl ?_
    refine jw_iconst hC dL_act_269 ?_
    refine jw_isub hC dL_act_270 ?_
    refine jw_iload_n hC dL_act_271 5 rfl rfl ?_
    refine jw_bipush hC dL_act_272 (by decide) ?_
    refine jw_ishr hC dL_act_274 (fun b274 c274 => ?_)
    refine jw_bipush hC dL_act_275 (by decide) ?_
    refine jw_callS hC (c_L_low l E _ _ _ (by omega)) sS_L_26 dL_act_277 rfl rfl ⟨Nat.le_of_ble_eq_true rfl, Nat.le_of_ble_eq_true rfl⟩ ⟨Nat.zero_le _, Nat.zero_le _⟩ (Nat.le_of_ble_eq_true rfl) (fun v277 M277 g277 => ?_)
    obtain ⟨rfl, rfl⟩ := g277
    refine jw_callV hC (c_X4_press l E M h0 q4 q5 _ (by omega) (by omega) _ (by omega) (by omega) _ (by omega) (by omega) _ (by omega) (by omega) ⟨⟨by omega, by omega⟩, by omega, by omega⟩) sV_L_52 ewF_x4.o dL_act_280 rfl rfl ⟨Nat.le_of_ble_eq_true rfl, Nat.le_of_ble_eq_true rfl⟩ ⟨Nat.zero_le _, Nat.zero_le _⟩ (Nat.le_of_ble_eq_true rfl) (fun v280 M280 g280 => ?_)
    have op := op_press q4 q5 g280.2
    obtain ⟨rfl, -, -⟩ := id op
    refine jw_iret hC dL_act_283 ?_
    exact op
  · skip
    refine jw_tabIn (tgt := 261) hC dL_act_30 (by decide) (by decide) (by decide) (by decide) rfl (by decide) ?_
    refine jw_aload_n hC dL_act_261 3 rfl rfl ?_
    refine jw_iload_n hC dL_act_262 2 rfl rfl ?_
    refine jw_iload hC dL_act_263 1 rfl ?_
    refine jw_iconst hC dL_act_265 ?_
    refine jw_isub hC dL_act_266 ?_
    refine jw_iload hC dL_act_267 0 rfl ?_
    refine jw_iconst hC dL_act_269 ?_
    refine jw_isub hC dL_act_270 ?_
    refine jw_iload_n hC dL_act_271 5 rfl rfl ?_
    refine jw_bipush hC dL_act_272 (by decide) ?_
    refine jw_ishr hC dL_act_274 (fun b274 c274 => ?_)
    refine jw_bipush hC dL_act_275 (by decide) ?_
    refine jw_callS hC (c_L_low l E _ _ _ (by omega)) sS_L_26 dL_act_277 rfl rfl ⟨Nat.le_of_ble_eq_true rfl, Nat.le_of_ble_eq_true rfl⟩ ⟨Nat.zero_le _, Nat.zero_le _⟩ (Nat.le_of_ble_eq_true rfl) (fun v277 M277 g277 => ?_)
    obtain ⟨rfl, rfl⟩ := g277
    refine jw_callV hC (c_X4_press l E M h0 q4 q5 _ (by omega) (by omega) _ (by omega) (by omega) _ (by omega) (by omega) _ (by omega) (by omega) ⟨⟨by omega, by omega⟩, by omega, by omega⟩) sV_L_52 ewF_x4.o dL_act_280 rfl rfl ⟨Nat.le_of_ble_eq_true rfl, Nat.le_of_ble_eq_true rfl⟩ ⟨Nat.zero_le _, Nat.zero_le _⟩ (Nat.le_of_ble_eq_true rfl) (fun v280 M280 g280 => ?_)
    have op := op_press q4 q5 g280.2
    obtain ⟨rfl, -, -⟩ := id op
    refine jw_iret hC dL_act_283 ?_
    exact op
  · skip
    refine jw_tabIn (tgt := 261) hC dL_act_30 (by decide) (by decide) (by decide) (by decide) rfl (by decide) ?_
    refine jw_aload_n hC dL_act_261 3 rfl rfl ?_
    refine jw_iload_n hC dL_act_262 2 rfl rfl ?_
    refine jw_iload hC dL_act_263 1 rfl ?_
    refine jw_iconst hC dL_act_265 ?_
    refine jw_isub hC dL_act_266 ?_
    refine jw_iload hC dL_act_267 0 rfl ?_
    refine jw_iconst hC dL_act_269 ?_
    refine jw_isub hC dL_act_270 ?_
    refine jw_iload_n hC dL_act_271 5 rfl rfl ?_
    refine jw_bipush hC dL_act_272 (by decide) ?_
    refine jw_ishr hC dL_act_274 (fun b274 c274 => ?_)
    refine jw_bipush hC dL_act_275 (by decide) ?_
    refine jw_callS hC (c_L_low l E _ _ _ (by omega)) sS_L_26 dL_act_277 rfl rfl ⟨Nat.le_of_ble_eq_true rfl, Nat.le_of_ble_eq_true rfl⟩ ⟨Nat.zero_le _, Nat.zero_le _⟩ (Nat.le_of_ble_eq_true rfl) (fun v277 M277 g277 => ?_)
    obtain ⟨rfl, rfl⟩ := g277
    refine jw_callV hC (c_X4_press l E M h0 q4 q5 _ (by omega) (by omega) _ (by omega) (by omega) _ (by omega) (by omega) _ (by omega) (by omega) ⟨⟨by omega, by omega⟩, by omega, by omega⟩) sV_L_52 ewF_x4.o dL_act_280 rfl rfl ⟨Nat.le_of_ble_eq_true rfl, Nat.le_of_ble_eq_true rfl⟩ ⟨Nat.zero_le _, Nat.zero_le _⟩ (Nat.le_of_ble_eq_true rfl) (fun v280 M280 g280 => ?_)
    have op := op_press q4 q5 g280.2
    obtain ⟨rfl, -, -⟩ := id op
    refine jw_iret hC dL_act_283 ?_
    exact op
  · skip
    refine jw_tabIn (tgt := 261) hC dL_act_30 (by decide) (by decide) (by decide) (by decide) rfl (by decide) ?_
    refine jw_aload_n hC dL_act_261 3 rfl rfl ?_
    refine jw_iload_n hC dL_act_262 2 rfl rfl ?_
    refine jw_iload hC dL_act_263 1 rfl ?_
    refine jw_iconst hC dL_act_265 ?_
    refine jw_isub hC dL_act_266 ?_
    refine jw_iload hC dL_act_267 0 rfl ?_
    refine jw_iconst hC dL_act_269 ?_
    refine jw_isub hC dL_act_270 ?_
    refine jw_iload_n hC dL_act_271 5 rfl rfl ?_
    refine jw_bipush hC dL_act_272 (by decide) ?_
    refine jw_ishr hC dL_act_274 (fun b274 c274 => ?_)
    refine jw_bipush hC dL_act_275 (by decide) ?_
    refine jw_callS hC (c_L_low l E _ _ _ (by omega)) sS_L_26 dL_act_277 rfl rfl ⟨Nat.le_of_ble_eq_true rfl, Nat.le_of_ble_eq_true rfl⟩ ⟨Nat.zero_le _, Nat.zero_le _⟩ (Nat.le_of_ble_eq_true rfl) (fun v277 M277 g277 => ?_)
    obtain ⟨rfl, rfl⟩ := g277
    refine jw_callV hC (c_X4_press l E M h0 q4 q5 _ (by omega) (by omega) _ (by omega) (by omega) _ (by omega) (by omega) _ (by omega) (by omega) ⟨⟨by omega, by omega⟩, by omega, by omega⟩) sV_L_52 ewF_x4.o dL_act_280 rfl rfl ⟨Nat.le_of_ble_eq_true rfl, Nat.le_of_ble_eq_true rfl⟩ ⟨Nat.zero_le _, Nat.zero_le _⟩ (Nat.le_of_ble_eq_true rfl) (fun v280 M280 g280 => ?_)
    have op := op_press q4 q5 g280.2
    obtain ⟨rfl, -, -⟩ := id op
    refine jw_iret hC dL_act_283 ?_
    exact op
  · skip
    refine jw_tabOut (tgt := 284) hC dL_act_30 (by decide) (by decide) (by decide) (by decide) ?_
    refine jw_aload_n hC dL_act_284 3 rfl rfl ?_
    refine jw_iload_n hC dL_act_285 2 rfl rfl ?_
    refine jw_iload_n hC dL_act_286 5 rfl rfl ?_
    refine jw_iconst hC dL_act_287 ?_
    refine jw_callS hC (c_L_low l E _ _ _ (by omega)) sS_L_26 dL_act_288 rfl rfl ⟨Nat.le_of_ble_eq_true rfl, Nat.le_of_ble_eq_true rfl⟩ ⟨Nat.zero_le _, Nat.zero_le _⟩ (Nat.le_of_ble_eq_true rfl) (fun v288 M288 g288 => ?_)
    obtain ⟨rfl, rfl⟩ := g288
    refine jw_iload_n hC dL_act_291 5 rfl rfl ?_
    refine jw_iconst hC dL_act_292 ?_
    refine jw_ishr hC dL_act_293 (fun b293 c293 => ?_)
    refine jw_iconst hC dL_act_294 ?_
    refine jw_callS hC (c_L_low l E _ _ _ (by omega)) sS_L_26 dL_act_295 rfl rfl ⟨Nat.le_of_ble_eq_true rfl, Nat.le_of_ble_eq_true rfl⟩ ⟨Nat.zero_le _, Nat.zero_le _⟩ (Nat.le_of_ble_eq_true rfl) (fun v295 M295 g295 => ?_)
    obtain ⟨rfl, rfl⟩ := g295
    refine jw_iload_n hC dL_act_298 5 rfl rfl ?_
    refine jw_bipush hC dL_act_299 (by decide) ?_
    refine jw_ishr hC dL_act_301 (fun b301 c301 => ?_)
    refine jw_bipush hC dL_act_302 (by decide) ?_
    refine jw_callS hC (c_L_low l E _ _ _ (by omega)) sS_L_26 dL_act_304 rfl rfl ⟨Nat.le_of_ble_eq_true rfl, Nat.le_of_ble_eq_true rfl⟩ ⟨Nat.zero_le _, Nat.zero_le _⟩ (Nat.le_of_ble_eq_true rfl) (fun v304 M304 g304 => ?_)
    obtain ⟨rfl, rfl⟩ := g304
    refine jw_callV hC (c_X4_point l E M q4 q5 _ (by omega) (by omega) _ (by omega) (by omega) _ (by omega) (by omega) _ (by omega) (by omega) ⟨⟨⟨by omega, by omega⟩, by omega, by omega, by omega, by omega⟩, by omega, by omega⟩) sV_L_55 ewF_x4.o dL_act_307 rfl rfl ⟨Nat.le_of_ble_eq_true rfl, Nat.le_of_ble_eq_true rfl⟩ ⟨Nat.zero_le _, Nat.zero_le _⟩ (Nat.le_of_ble_eq_true rfl) (fun v307 M307 g307 => ?_)
    have op := op_point q4 q5 g307.2
    obtain ⟨rfl, -, -⟩ := id op
    refine jw_iret hC dL_act_310 ?_
    exact op
  · skip
    refine jw_tabOut (tgt := 284) hC dL_act_30 (by decide) (by decide) (by decide) (by decide) ?_
    refine jw_aload_n hC dL_act_284 3 rfl rfl ?_
    refine jw_iload_n hC dL_act_285 2 rfl rfl ?_
    refine jw_iload_n hC dL_act_286 5 rfl rfl ?_
    refine jw_iconst hC dL_act_287 ?_
    refine jw_callS hC (c_L_low l E _ _ _ (by omega)) sS_L_26 dL_act_288 rfl rfl ⟨Nat.le_of_ble_eq_true rfl, Nat.le_of_ble_eq_true rfl⟩ ⟨Nat.zero_le _, Nat.zero_le _⟩ (Nat.le_of_ble_eq_true rfl) (fun v288 M288 g288 => ?_)
    obtain ⟨rfl, rfl⟩ := g288
    refine jw_iload_n hC dL_act_291 5 rfl rfl ?_
    refine jw_iconst hC dL_act_292 ?_
    refine jw_ishr hC dL_act_293 (fun b293 c293 => ?_)
    refine jw_iconst hC dL_act_294 ?_
    refine jw_callS hC (c_L_low l E _ _ _ (by omega)) sS_L_26 dL_act_295 rfl rfl ⟨Nat.le_of_ble_eq_true rfl, Nat.le_of_ble_eq_true rfl⟩ ⟨Nat.zero_le _, Nat.zero_le _⟩ (Nat.le_of_ble_eq_true rfl) (fun v295 M295 g295 => ?_)
    obtain ⟨rfl, rfl⟩ := g295
    refine jw_iload_n hC dL_act_298 5 rfl rfl ?_
    refine jw_bipush hC dL_act_299 (by decide) ?_
    refine jw_ishr hC dL_act_301 (fun b301 c301 => ?_)
    refine jw_bipush hC dL_act_302 (by decide) ?_
    refine jw_callS hC (c_L_low l E _ _ _ (by omega)) sS_L_26 dL_act_304 rfl rfl ⟨Nat.le_of_ble_eq_true rfl, Nat.le_of_ble_eq_true rfl⟩ ⟨Nat.zero_le _, Nat.zero_le _⟩ (Nat.le_of_ble_eq_true rfl) (fun v304 M304 g304 => ?_)
    obtain ⟨rfl, rfl⟩ := g304
    refine jw_callV hC (c_X4_point l E M q4 q5 _ (by omega) (by omega) _ (by omega) (by omega) _ (by omega) (by omega) _ (by omega) (by omega) ⟨⟨⟨by omega, by omega⟩, by omega, by omega, by omega, by omega⟩, by omega, by omega⟩) sV_L_55 ewF_x4.o dL_act_307 rfl rfl ⟨Nat.le_of_ble_eq_true rfl, Nat.le_of_ble_eq_true rfl⟩ ⟨Nat.zero_le _, Nat.zero_le _⟩ (Nat.le_of_ble_eq_true rfl) (fun v307 M307 g307 => ?_)
    have op := op_point q4 q5 g307.2
    obtain ⟨rfl, -, -⟩ := id op
    refine jw_iret hC dL_act_310 ?_
    exact op
  · skip
    refine jw_tabOut (tgt := 284) hC dL_act_30 (by decide) (by decide) (by decide) (by decide) ?_
    refine jw_aload_n hC dL_act_284 3 rfl rfl ?_
    refine jw_iload_n hC dL_act_285 2 rfl rfl ?_
    refine jw_iload_n hC dL_act_286 5 rfl rfl ?_
    refine jw_iconst hC dL_act_287 ?_
    refine jw_callS hC (c_L_low l E _ _ _ (by omega)) sS_L_26 dL_act_288 rfl rfl ⟨Nat.le_of_ble_eq_true rfl, Nat.le_of_ble_eq_true rfl⟩ ⟨Nat.zero_le _, Nat.zero_le _⟩ (Nat.le_of_ble_eq_true rfl) (fun v288 M288 g288 => ?_)
    obtain ⟨rfl, rfl⟩ := g288
    refine jw_iload_n hC dL_act_291 5 rfl rfl ?_
    refine jw_iconst hC dL_act_292 ?_
    refine jw_ishr hC dL_act_293 (fun b293 c293 => ?_)
    refine jw_iconst hC dL_act_294 ?_
    refine jw_callS hC (c_L_low l E _ _ _ (by omega)) sS_L_26 dL_act_295 rfl rfl ⟨Nat.le_of_ble_eq_true rfl, Nat.le_of_ble_eq_true rfl⟩ ⟨Nat.zero_le _, Nat.zero_le _⟩ (Nat.le_of_ble_eq_true rfl) (fun v295 M295 g295 => ?_)
    obtain ⟨rfl, rfl⟩ := g295
    refine jw_iload_n hC dL_act_298 5 rfl rfl ?_
    refine jw_bipush hC dL_act_299 (by decide) ?_
    refine jw_ishr hC dL_act_301 (fun b301 c301 => ?_)
    refine jw_bipush hC dL_act_302 (by decide) ?_
    refine jw_callS hC (c_L_low l E _ _ _ (by omega)) sS_L_26 dL_act_304 rfl rfl ⟨Nat.le_of_ble_eq_true rfl, Nat.le_of_ble_eq_true rfl⟩ ⟨Nat.zero_le _, Nat.zero_le _⟩ (Nat.le_of_ble_eq_true rfl) (fun v304 M304 g304 => ?_)
    obtain ⟨rfl, rfl⟩ := g304
    refine jw_callV hC (c_X4_point l E M q4 q5 _ (by omega) (by omega) _ (by omega) (by omega) _ (by omega) (by omega) _ (by omega) (by omega) ⟨⟨⟨by omega, by omega⟩, by omega, by omega, by omega, by omega⟩, by omega, by omega⟩) sV_L_55 ewF_x4.o dL_act_307 rfl rfl ⟨Nat.le_of_ble_eq_true rfl, Nat.le_of_ble_eq_true rfl⟩ ⟨Nat.zero_le _, Nat.zero_le _⟩ (Nat.le_of_ble_eq_true rfl) (fun v307 M307 g307 => ?_)
    have op := op_point q4 q5 g307.2
    obtain ⟨rfl, -, -⟩ := id op
    refine jw_iret hC dL_act_310 ?_
    exact op
  · skip
    refine jw_tabOut (tgt := 284) hC dL_act_30 (by decide) (by decide) (by decide) (by decide) ?_
    refine jw_aload_n hC dL_act_284 3 rfl rfl ?_
    refine jw_iload_n hC dL_act_285 2 rfl rfl ?_
    refine jw_iload_n hC dL_act_286 5 rfl rfl ?_
    refine jw_iconst hC dL_act_287 ?_
    refine jw_callS hC (c_L_low l E _ _ _ (by omega)) sS_L_26 dL_act_288 rfl rfl ⟨Nat.le_of_ble_eq_true rfl, Nat.le_of_ble_eq_true rfl⟩ ⟨Nat.zero_le _, Nat.zero_le _⟩ (Nat.le_of_ble_eq_true rfl) (fun v288 M288 g288 => ?_)
    obtain ⟨rfl, rfl⟩ := g288
    refine jw_iload_n hC dL_act_291 5 rfl rfl ?_
    refine jw_iconst hC dL_act_292 ?_
    refine jw_ishr hC dL_act_293 (fun b293 c293 => ?_)
    refine jw_iconst hC dL_act_294 ?_
    refine jw_callS hC (c_L_low l E _ _ _ (by omega)) sS_L_26 dL_act_295 rfl rfl ⟨Nat.le_of_ble_eq_true rfl, Nat.le_of_ble_eq_true rfl⟩ ⟨Nat.zero_le _, Nat.zero_le _⟩ (Nat.le_of_ble_eq_true rfl) (fun v295 M295 g295 => ?_)
    obtain ⟨rfl, rfl⟩ := g295
    refine jw_iload_n hC dL_act_298 5 rfl rfl ?_
    refine jw_bipush hC dL_act_299 (by decide) ?_
    refine jw_ishr hC dL_act_301 (fun b301 c301 => ?_)
    refine jw_bipush hC dL_act_302 (by decide) ?_
    refine jw_callS hC (c_L_low l E _ _ _ (by omega)) sS_L_26 dL_act_304 rfl rfl ⟨Nat.le_of_ble_eq_true rfl, Nat.le_of_ble_eq_true rfl⟩ ⟨Nat.zero_le _, Nat.zero_le _⟩ (Nat.le_of_ble_eq_true rfl) (fun v304 M304 g304 => ?_)
    obtain ⟨rfl, rfl⟩ := g304
    refine jw_callV hC (c_X4_point l E M q4 q5 _ (by omega) (by omega) _ (by omega) (by omega) _ (by omega) (by omega) _ (by omega) (by omega) ⟨⟨⟨by omega, by omega⟩, by omega, by omega, by omega, by omega⟩, by omega, by omega⟩) sV_L_55 ewF_x4.o dL_act_307 rfl rfl ⟨Nat.le_of_ble_eq_true rfl, Nat.le_of_ble_eq_true rfl⟩ ⟨Nat.zero_le _, Nat.zero_le _⟩ (Nat.le_of_ble_eq_true rfl) (fun v307 M307 g307 => ?_)
    have op := op_point q4 q5 g307.2
    obtain ⟨rfl, -, -⟩ := id op
    refine jw_iret hC dL_act_310 ?_
    exact op
  · skip
    refine jw_tabOut (tgt := 284) hC dL_act_30 (by decide) (by decide) (by decide) (by decide) ?_
    refine jw_aload_n hC dL_act_284 3 rfl rfl ?_
    refine jw_iload_n hC dL_act_285 2 rfl rfl ?_
    refine jw_iload_n hC dL_act_286 5 rfl rfl ?_
    refine jw_iconst hC dL_act_287 ?_
    refine jw_callS hC (c_L_low l E _ _ _ (by omega)) sS_L_26 dL_act_288 rfl rfl ⟨Nat.le_of_ble_eq_true rfl, Nat.le_of_ble_eq_true rfl⟩ ⟨Nat.zero_le _, Nat.zero_le _⟩ (Nat.le_of_ble_eq_true rfl) (fun v288 M288 g288 => ?_)
    obtain ⟨rfl, rfl⟩ := g288
    refine jw_iload_n hC dL_act_291 5 rfl rfl ?_
    refine jw_iconst hC dL_act_292 ?_
    refine jw_ishr hC dL_act_293 (fun b293 c293 => ?_)
    refine jw_iconst hC dL_act_294 ?_
    refine jw_callS hC (c_L_low l E _ _ _ (by omega)) sS_L_26 dL_act_295 rfl rfl ⟨Nat.le_of_ble_eq_true rfl, Nat.le_of_ble_eq_true rfl⟩ ⟨Nat.zero_le _, Nat.zero_le _⟩ (Nat.le_of_ble_eq_true rfl) (fun v295 M295 g295 => ?_)
    obtain ⟨rfl, rfl⟩ := g295
    refine jw_iload_n hC dL_act_298 5 rfl rfl ?_
    refine jw_bipush hC dL_act_299 (by decide) ?_
    refine jw_ishr hC dL_act_301 (fun b301 c301 => ?_)
    refine jw_bipush hC dL_act_302 (by decide) ?_
    refine jw_callS hC (c_L_low l E _ _ _ (by omega)) sS_L_26 dL_act_304 rfl rfl ⟨Nat.le_of_ble_eq_true rfl, Nat.le_of_ble_eq_true rfl⟩ ⟨Nat.zero_le _, Nat.zero_le _⟩ (Nat.le_of_ble_eq_true rfl) (fun v304 M304 g304 => ?_)
    obtain ⟨rfl, rfl⟩ := g304
    refine jw_callV hC (c_X4_point l E M q4 q5 _ (by omega) (by omega) _ (by omega) (by omega) _ (by omega) (by omega) _ (by omega) (by omega) ⟨⟨⟨by omega, by omega⟩, by omega, by omega, by omega, by omega⟩, by omega, by omega⟩) sV_L_55 ewF_x4.o dL_act_307 rfl rfl ⟨Nat.le_of_ble_eq_true rfl, Nat.le_of_ble_eq_true rfl⟩ ⟨Nat.zero_le _, Nat.zero_le _⟩ (Nat.le_of_ble_eq_true rfl) (fun v307 M307 g307 => ?_)
    have op := op_point q4 q5 g307.2
    obtain ⟨rfl, -, -⟩ := id op
    refine jw_iret hC dL_act_310 ?_
    exact op
