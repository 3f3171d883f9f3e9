/-! THE LAW'S OWN METHODS: isSettled, holds -/
set_option maxRecDepth 100000 in
set_option maxHeartbeats 4000000 in
theorem c_L_isSettled (l : Launch) (E : ewE) (M : ewM) (h0 : st0 M) (hs : f_set (M 1) (M 3) (M 52 0) (M 52 1)) : Ct l E yL_isSettled (.code yL_isSettled cL_isSettled 3 (some .boolean)) 6 [vR E 77] M (fun v M1 => v = some (vI 1) ∧ M = M1) := by
  refine ct_of (L0 := [(0, vR E 77)]) (by decide +kernel) rfl (Nat.le_of_ble_eq_true rfl) ?_
  intro zp ze zs zm za zb zt zc zA hC
  have K4 : ∀ (n : Nat) (k : Int), 144 - k < n → 0 ≤ k → k ≤ 144 → jJ zp l ze (ct_rm 6) zs zm za zb zt zc E zA 3 0 0 (MQ zb (ct_Q E zA (fun v M1 => v = some (vI 1) ∧ M = M1)) za zs 0 0 zA) 4 [(0, vR E 77), (1, vI 1), (2, vI k)] [] M := by
    intro n
    induction n with
    | zero => intros; omega
    | succ n ih =>
      intro k i1 i2 i3
      refine jw_iload_n hC dL_isSettled_4 2 rfl rfl ?_
      refine jw_sipush hC dL_isSettled_5 (by decide) ?_
      refine jw_icmp_ge (tgt := 73) hC dL_isSettled_8 (by decide) (by omega) (by omega) (by omega) (by omega) (fun h8 => ?_) (fun h8 => ?_)
      · skip
        refine jw_iload_n hC dL_isSettled_73 1 rfl rfl ?_
        refine jw_zret hC (by omega) dL_isSettled_74 ?_
        exact ⟨rfl, rfl⟩
      · skip
        refine jw_iload_n hC dL_isSettled_11 1 rfl rfl ?_
        refine jw_if_eq (tgt := 65) hC dL_isSettled_12 (by decide) (by omega) (by omega) (fun h12 => ?_) (fun h12 => ?_)
        · skip
          exfalso; omega
        · skip
          refine jw_aload_n hC dL_isSettled_15 0 rfl rfl ?_
          refine jw_iload_n hC dL_isSettled_16 2 rfl rfl ?_
          refine jw_bipush hC dL_isSettled_17 (by decide) ?_
          refine jw_irem hC dL_isSettled_19 (by omega) (by omega) (by omega) (by omega) ?_
          refine jw_iload_n hC dL_isSettled_20 2 rfl rfl ?_
          refine jw_bipush hC dL_isSettled_21 (by decide) ?_
          refine jw_idiv hC dL_isSettled_23 (by omega) (by omega) (by omega) (by omega) ?_
          refine jw_iconst hC dL_isSettled_24 ?_
          refine jw_callV hC (c_X4_place l E M h0 _ (by omega) (by omega) _ (by omega) (by omega) _ (by decide) (by decide) ⟨⟨by omega, by omega, by omega, by omega⟩, by decide, by decide⟩) sV_L_22 ewF_x4.o dL_isSettled_25 rfl rfl ⟨Nat.le_of_ble_eq_true rfl, Nat.le_of_ble_eq_true rfl⟩ ⟨Nat.zero_le _, Nat.zero_le _⟩ (Nat.le_of_ble_eq_true rfl) (fun v25 M25 g25 => ?_)
          obtain ⟨-, rfl, hb25, rfl⟩ := g25
          have hpl25 := f_pl_k (k := k) (by omega) (by omega)
          rw [hpl25, show f_prop M k 2 = M 3 k from rfl] at hb25 ⊢
          refine jw_iconst hC dL_isSettled_28 ?_
          refine jw_icmp_eq (tgt := 61) hC dL_isSettled_29 (by decide) (by omega) (by omega) (by omega) (by omega) (fun h29 => ?_) (fun h29 => ?_)
          · skip
            refine jw_iconst hC dL_isSettled_61 ?_
            refine jw_goto (tgt := 66) hC dL_isSettled_62 (by decide) ?_
            refine jw_istore_n (L' := [(1, _), (0, _), (2, _)]) hC dL_isSettled_66 rfl (by decide) rfl ?_
            refine jw_iinc (L' := [(2, _), (1, _), (0, _)]) hC dL_isSettled_67 2 rfl (by decide) rfl ?_
            refine jw_goto (tgt := 4) hC dL_isSettled_70 (by decide) ?_
            refine jw_loc (L' := [(0, _), (1, _), (2, _)]) [2, 1, 0] rfl ?_
            exact ih _ (by omega) (by omega) (by omega)
          · skip
            refine jw_aload_n hC dL_isSettled_32 0 rfl rfl ?_
            refine jw_iload_n hC dL_isSettled_33 2 rfl rfl ?_
            refine jw_bipush hC dL_isSettled_34 (by decide) ?_
            refine jw_irem hC dL_isSettled_36 (by omega) (by omega) (by omega) (by omega) ?_
            refine jw_iload_n hC dL_isSettled_37 2 rfl rfl ?_
            refine jw_bipush hC dL_isSettled_38 (by decide) ?_
            refine jw_idiv hC dL_isSettled_40 (by omega) (by omega) (by omega) (by omega) ?_
            refine jw_iconst hC dL_isSettled_41 ?_
            refine jw_callV hC (c_X4_place l E M h0 _ (by omega) (by omega) _ (by omega) (by omega) _ (by decide) (by decide) ⟨⟨by omega, by omega, by omega, by omega⟩, by decide, by decide⟩) sV_L_22 ewF_x4.o dL_isSettled_42 rfl rfl ⟨Nat.le_of_ble_eq_true rfl, Nat.le_of_ble_eq_true rfl⟩ ⟨Nat.zero_le _, Nat.zero_le _⟩ (Nat.le_of_ble_eq_true rfl) (fun v42 M42 g42 => ?_)
            obtain ⟨-, rfl, hb42, rfl⟩ := g42
            have hpl42 := f_pl_k (k := k) (by omega) (by omega)
            rw [hpl42, show f_prop M k 3 = f_str (M 1) k from rfl] at hb42 ⊢
            refine jw_aload_n hC dL_isSettled_45 0 rfl rfl ?_
            refine jw_iload_n hC dL_isSettled_46 2 rfl rfl ?_
            refine jw_bipush hC dL_isSettled_47 (by decide) ?_
            refine jw_irem hC dL_isSettled_49 (by omega) (by omega) (by omega) (by omega) ?_
            refine jw_iload_n hC dL_isSettled_50 2 rfl rfl ?_
            refine jw_bipush hC dL_isSettled_51 (by decide) ?_
            refine jw_idiv hC dL_isSettled_53 (by omega) (by omega) (by omega) (by omega) ?_
            refine jw_iconst hC dL_isSettled_54 ?_
            refine jw_callV hC (c_X4_place l E M h0 _ (by omega) (by omega) _ (by omega) (by omega) _ (by decide) (by decide) ⟨⟨by omega, by omega, by omega, by omega⟩, by decide, by decide⟩) sV_L_22 ewF_x4.o dL_isSettled_55 rfl rfl ⟨Nat.le_of_ble_eq_true rfl, Nat.le_of_ble_eq_true rfl⟩ ⟨Nat.zero_le _, Nat.zero_le _⟩ (Nat.le_of_ble_eq_true rfl) (fun v55 M55 g55 => ?_)
            obtain ⟨-, rfl, hb55, rfl⟩ := g55
            have hpl55 := f_pl_k (k := k) (by omega) (by omega)
            rw [hpl55, show f_prop M k 4 = f_bear (M 3) k (M 52 0) (M 52 1) from rfl] at hb55 ⊢
            refine jw_icmp_gt (tgt := 65) hC dL_isSettled_58 (by decide) (by omega) (by omega) (by omega) (by omega) (fun h58 => ?_) (fun h58 => ?_)
            · skip
              exfalso; have := hs k (by omega) (by omega); omega
            · skip
              refine jw_iconst hC dL_isSettled_61 ?_
              refine jw_goto (tgt := 66) hC dL_isSettled_62 (by decide) ?_
              refine jw_istore_n (L' := [(1, _), (0, _), (2, _)]) hC dL_isSettled_66 rfl (by decide) rfl ?_
              refine jw_iinc (L' := [(2, _), (1, _), (0, _)]) hC dL_isSettled_67 2 rfl (by decide) rfl ?_
              refine jw_goto (tgt := 4) hC dL_isSettled_70 (by decide) ?_
              refine jw_loc (L' := [(0, _), (1, _), (2, _)]) [2, 1, 0] rfl ?_
              exact ih _ (by omega) (by omega) (by omega)
  refine jw_iconst hC dL_isSettled_0 ?_
  refine jw_istore_n (L' := [(1, _), (0, _)]) hC dL_isSettled_1 rfl (by decide) rfl ?_
  refine jw_iconst hC dL_isSettled_2 ?_
  refine jw_istore_n (L' := [(2, _), (1, _), (0, _)]) hC dL_isSettled_3 rfl (by decide) rfl ?_
  refine jw_loc (L' := [(0, _), (1, _), (2, _)]) [2, 1, 0] rfl ?_
  exact K4 145 0 (by omega) (by omega) (by omega)
set_option maxRecDepth 100000 in
set_option maxHeartbeats 4000000 in
theorem c_L_holds (l : Launch) (E : ewE) (M : ewM) (h0 : st0 M) (hp : ∀ q : Int, 0 < M 1 q ↔ 0 < M 4 q) (hq : ∀ q : Int, 0 ≤ M 2 q ∧ M 2 q ≤ 9) (hck : f_sum (M 3) 144 ≤ M 50 7) : Ct l E yL_holds (.code yL_holds cL_holds 9 (some .boolean)) 6 [vR E 77] M (fun v M1 => v = some (vI 1) ∧ M = M1) := by
  refine ct_of (L0 := [(0, vR E 77)]) (by decide +kernel) rfl (Nat.le_of_ble_eq_true rfl) ?_
  intro zp ze zs zm za zb zt zc zA hC
  obtain ⟨p1, p2, p3, p4, p5, p6, p7, p8⟩ := id h0
  have hcs := f_sum_C p2
  have htwo := f_two (M 1)
  have hpos := f_sum_pos hq 144
  have K105 : ∀ (k cr sr fo de : Int), 0 ≤ k → k < 144 → cr = f_sum (M 3) (k + 1).toNat → sr = f_sum (f_str (M 1)) (k + 1).toNat → fo = f_sum (fun q => if 0 < M 2 q then 1 else 0) (k + 1).toNat → de = f_max (M 1) (k + 1).toNat → jJ zp l ze (ct_rm 6) zs zm za zb zt zc E zA 9 0 0 (MQ zb (ct_Q E zA (fun v M1 => v = some (vI 1) ∧ M = M1)) za zs 0 0 zA) 12 [(0, vR E 77), (1, vI cr), (2, vI sr), (3, vI fo), (4, vI de), (5, vI (k + 1))] [] M → jJ zp l ze (ct_rm 6) zs zm za zb zt zc E zA 9 0 0 (MQ zb (ct_Q E zA (fun v M1 => v = some (vI 1) ∧ M = M1)) za zs 0 0 zA) 105 [(0, vR E 77), (1, vI cr), (2, vI sr), (3, vI fo), (4, vI de), (5, vI k), (6, vI (k % 12)), (7, vI (k / 12)), (8, vI (M 1 k))] [] M := by
    intro k cr sr fo de i2 i3 hc hr hf hd hkn
    have hpk := hp k
    have hqk := hq k
    have hdk := p1 k
    have hcb := f_cb_b p2 k
    have htk := f_tk_b p5.1 p5.2 hcb.1 hcb.2
    have hbk : f_bear (M 3) k (M 52 0) (M 52 1) = max 0 (M 52 0 - M 52 1 * f_cb (M 3) k) := rfl
    refine jw_iload hC dL_holds_105 8 rfl ?_
    refine jw_if_lt (tgt := 213) hC dL_holds_107 (by decide) (by omega) (by omega) (fun h107 => ?_) (fun h107 => ?_)
    · skip
      exfalso; omega
    · skip
      refine jw_iload hC dL_holds_110 8 rfl ?_
      refine jw_bipush hC dL_holds_112 (by decide) ?_
      refine jw_icmp_gt (tgt := 213) hC dL_holds_114 (by decide) (by omega) (by omega) (by omega) (by omega) (fun h114 => ?_) (fun h114 => ?_)
      · skip
        exfalso; omega
      · skip
        refine jw_iload hC dL_holds_117 8 rfl ?_
        refine jw_if_le (tgt := 126) hC dL_holds_119 (by decide) (by omega) (by omega) (fun h119 => ?_) (fun h119 => ?_)
        · skip
          refine jw_iconst hC dL_holds_126 ?_
          refine jw_aload_n hC dL_holds_127 0 rfl rfl ?_
          refine jw_iload hC dL_holds_128 6 rfl ?_
          refine jw_iload hC dL_holds_130 7 rfl ?_
          refine jw_bipush hC dL_holds_132 (by decide) ?_
          refine jw_callV hC (c_X4_place l E M h0 _ (by omega) (by omega) _ (by omega) (by omega) _ (by decide) (by decide) ⟨⟨by omega, by omega, by omega, by omega⟩, by decide, by decide⟩) sV_L_22 ewF_x4.o dL_holds_134 rfl rfl ⟨Nat.le_of_ble_eq_true rfl, Nat.le_of_ble_eq_true rfl⟩ ⟨Nat.zero_le _, Nat.zero_le _⟩ (Nat.le_of_ble_eq_true rfl) (fun v134 M134 g134 => ?_)
          obtain ⟨-, rfl, hb134, rfl⟩ := g134
          have hpl134 := f_pl_k (k := k) (by omega) (by omega)
          rw [hpl134, show f_prop M k 6 = M 4 k from rfl] at hb134 ⊢
          refine jw_if_le (tgt := 144) hC dL_holds_137 (by decide) (by omega) (by omega) (fun h137 => ?_) (fun h137 => ?_)
          · skip
            refine jw_iconst hC dL_holds_144 ?_
            refine jw_icmp_ne (tgt := 213) hC dL_holds_145 (by decide) (by omega) (by omega) (by omega) (by omega) (fun h145 => ?_) (fun h145 => ?_)
            · skip
              exfalso; omega
            · skip
              refine jw_aload_n hC dL_holds_148 0 rfl rfl ?_
              refine jw_iload hC dL_holds_149 6 rfl ?_
              refine jw_iload hC dL_holds_151 7 rfl ?_
              refine jw_iconst hC dL_holds_153 ?_
              refine jw_callV hC (c_X4_place l E M h0 _ (by omega) (by omega) _ (by omega) (by omega) _ (by decide) (by decide) ⟨⟨by omega, by omega, by omega, by omega⟩, by decide, by decide⟩) sV_L_22 ewF_x4.o dL_holds_154 rfl rfl ⟨Nat.le_of_ble_eq_true rfl, Nat.le_of_ble_eq_true rfl⟩ ⟨Nat.zero_le _, Nat.zero_le _⟩ (Nat.le_of_ble_eq_true rfl) (fun v154 M154 g154 => ?_)
              obtain ⟨-, rfl, hb154, rfl⟩ := g154
              have hpl154 := f_pl_k (k := k) (by omega) (by omega)
              rw [hpl154, show f_prop M k 4 = f_bear (M 3) k (M 52 0) (M 52 1) from rfl] at hb154 ⊢
              refine jw_aload_n hC dL_holds_157 0 rfl rfl ?_
              refine jw_iconst hC dL_holds_158 ?_
              refine jw_callV hC (c_X4_setting l E M _ (by decide) (by decide) ⟨by decide, by decide⟩) sV_L_58 ewF_x4.o dL_holds_159 rfl rfl ⟨Nat.le_of_ble_eq_true rfl, Nat.le_of_ble_eq_true rfl⟩ ⟨Nat.zero_le _, Nat.zero_le _⟩ (Nat.le_of_ble_eq_true rfl) (fun v159 M159 g159 => ?_)
              obtain ⟨-, rfl, rfl⟩ := g159
              refine jw_icmp_gt (tgt := 213) hC dL_holds_162 (by decide) (by omega) (by omega) (by omega) (by omega) (fun h162 => ?_) (fun h162 => ?_)
              · skip
                exfalso; omega
              · skip
                refine jw_aload_n hC dL_holds_165 0 rfl rfl ?_
                refine jw_iload hC dL_holds_166 6 rfl ?_
                refine jw_iload hC dL_holds_168 7 rfl ?_
                refine jw_iconst hC dL_holds_170 ?_
                refine jw_callV hC (c_X4_place l E M h0 _ (by omega) (by omega) _ (by omega) (by omega) _ (by decide) (by decide) ⟨⟨by omega, by omega, by omega, by omega⟩, by decide, by decide⟩) sV_L_22 ewF_x4.o dL_holds_171 rfl rfl ⟨Nat.le_of_ble_eq_true rfl, Nat.le_of_ble_eq_true rfl⟩ ⟨Nat.zero_le _, Nat.zero_le _⟩ (Nat.le_of_ble_eq_true rfl) (fun v171 M171 g171 => ?_)
                obtain ⟨-, rfl, hb171, rfl⟩ := g171
                have hpl171 := f_pl_k (k := k) (by omega) (by omega)
                rw [hpl171, show f_prop M k 4 = f_bear (M 3) k (M 52 0) (M 52 1) from rfl] at hb171 ⊢
                refine jw_if_lt (tgt := 213) hC dL_holds_174 (by decide) (by omega) (by omega) (fun h174 => ?_) (fun h174 => ?_)
                · skip
                  exfalso; omega
                · skip
                  refine jw_aload_n hC dL_holds_177 0 rfl rfl ?_
                  refine jw_iload hC dL_holds_178 6 rfl ?_
                  refine jw_iload hC dL_holds_180 7 rfl ?_
                  refine jw_iconst hC dL_holds_182 ?_
                  refine jw_callV hC (c_X4_place l E M h0 _ (by omega) (by omega) _ (by omega) (by omega) _ (by decide) (by decide) ⟨⟨by omega, by omega, by omega, by omega⟩, by decide, by decide⟩) sV_L_22 ewF_x4.o dL_holds_183 rfl rfl ⟨Nat.le_of_ble_eq_true rfl, Nat.le_of_ble_eq_true rfl⟩ ⟨Nat.zero_le _, Nat.zero_le _⟩ (Nat.le_of_ble_eq_true rfl) (fun v183 M183 g183 => ?_)
                  obtain ⟨-, rfl, hb183, rfl⟩ := g183
                  have hpl183 := f_pl_k (k := k) (by omega) (by omega)
                  rw [hpl183, show f_prop M k 1 = M 2 k from rfl] at hb183 ⊢
                  refine jw_bipush hC dL_holds_186 (by decide) ?_
                  refine jw_icmp_gt (tgt := 213) hC dL_holds_188 (by decide) (by omega) (by omega) (by omega) (by omega) (fun h188 => ?_) (fun h188 => ?_)
                  · skip
                    exfalso; omega
                  · skip
                    refine jw_aload_n hC dL_holds_191 0 rfl rfl ?_
                    refine jw_iload hC dL_holds_192 6 rfl ?_
                    refine jw_iload hC dL_holds_194 7 rfl ?_
                    refine jw_iconst hC dL_holds_196 ?_
                    refine jw_callV hC (c_X4_place l E M h0 _ (by omega) (by omega) _ (by omega) (by omega) _ (by decide) (by decide) ⟨⟨by omega, by omega, by omega, by omega⟩, by decide, by decide⟩) sV_L_22 ewF_x4.o dL_holds_197 rfl rfl ⟨Nat.le_of_ble_eq_true rfl, Nat.le_of_ble_eq_true rfl⟩ ⟨Nat.zero_le _, Nat.zero_le _⟩ (Nat.le_of_ble_eq_true rfl) (fun v197 M197 g197 => ?_)
                    obtain ⟨-, rfl, hb197, rfl⟩ := g197
                    have hpl197 := f_pl_k (k := k) (by omega) (by omega)
                    rw [hpl197, show f_prop M k 5 = if f_ov (M 50) k then 1 else 0 from rfl] at hb197 ⊢
                    refine jw_iconst hC dL_holds_200 ?_
                    refine jw_icmp_ne (tgt := 215) hC dL_holds_201 (by decide) (by omega) (by omega) (by omega) (by omega) (fun h201 => ?_) (fun h201 => ?_)
                    · skip
                      refine jw_iinc (L' := [(5, _), (0, _), (1, _), (2, _), (3, _), (4, _), (6, _), (7, _), (8, _)]) hC dL_holds_215 5 rfl (by decide) rfl ?_
                      refine jw_goto (tgt := 12) hC dL_holds_218 (by decide) ?_
                      refine jw_loc (L' := [(0, _), (1, _), (2, _), (3, _), (4, _), (5, _)]) [1, 2, 3, 4, 5, 0] rfl ?_
                      exact hkn
                    · skip
                      refine jw_aload_n hC dL_holds_204 0 rfl rfl ?_
                      refine jw_bipush hC dL_holds_205 (by decide) ?_
                      refine jw_callV hC (c_X4_count l E M h0 _ (by decide) (by decide) ⟨by decide, by decide⟩) sV_L_12 ewF_x4.o dL_holds_207 rfl rfl ⟨Nat.le_of_ble_eq_true rfl, Nat.le_of_ble_eq_true rfl⟩ ⟨Nat.zero_le _, Nat.zero_le _⟩ (Nat.le_of_ble_eq_true rfl) (fun v207 M207 g207 => ?_)
                      obtain ⟨-, rfl, hb207, rfl⟩ := g207
                      rw [show f_num M 9 = M 50 10 from rfl] at hb207 ⊢
                      refine jw_if_ne (tgt := 215) hC dL_holds_210 (by decide) (by omega) (by omega) (fun h210 => ?_) (fun h210 => ?_)
                      · skip
                        refine jw_iinc (L' := [(5, _), (0, _), (1, _), (2, _), (3, _), (4, _), (6, _), (7, _), (8, _)]) hC dL_holds_215 5 rfl (by decide) rfl ?_
                        refine jw_goto (tgt := 12) hC dL_holds_218 (by decide) ?_
                        refine jw_loc (L' := [(0, _), (1, _), (2, _), (3, _), (4, _), (5, _)]) [1, 2, 3, 4, 5, 0] rfl ?_
                        exact hkn
                      · skip
                        exfalso
                        have hv := ite_1 (C := f_ov (M 50) k) (by omega)
                        exact hv.1 (by omega)
          · skip
            exfalso; omega
        · skip
          refine jw_iconst hC dL_holds_122 ?_
          refine jw_goto (tgt := 127) hC dL_holds_123 (by decide) ?_
          refine jw_aload_n hC dL_holds_127 0 rfl rfl ?_
          refine jw_iload hC dL_holds_128 6 rfl ?_
          refine jw_iload hC dL_holds_130 7 rfl ?_
          refine jw_bipush hC dL_holds_132 (by decide) ?_
          refine jw_callV hC (c_X4_place l E M h0 _ (by omega) (by omega) _ (by omega) (by omega) _ (by decide) (by decide) ⟨⟨by omega, by omega, by omega, by omega⟩, by decide, by decide⟩) sV_L_22 ewF_x4.o dL_holds_134 rfl rfl ⟨Nat.le_of_ble_eq_true rfl, Nat.le_of_ble_eq_true rfl⟩ ⟨Nat.zero_le _, Nat.zero_le _⟩ (Nat.le_of_ble_eq_true rfl) (fun v134 M134 g134 => ?_)
          obtain ⟨-, rfl, hb134, rfl⟩ := g134
          have hpl134 := f_pl_k (k := k) (by omega) (by omega)
          rw [hpl134, show f_prop M k 6 = M 4 k from rfl] at hb134 ⊢
          refine jw_if_le (tgt := 144) hC dL_holds_137 (by decide) (by omega) (by omega) (fun h137 => ?_) (fun h137 => ?_)
          · skip
            exfalso; omega
          · skip
            refine jw_iconst hC dL_holds_140 ?_
            refine jw_goto (tgt := 145) hC dL_holds_141 (by decide) ?_
            refine jw_icmp_ne (tgt := 213) hC dL_holds_145 (by decide) (by omega) (by omega) (by omega) (by omega) (fun h145 => ?_) (fun h145 => ?_)
            · skip
              exfalso; omega
            · skip
              refine jw_aload_n hC dL_holds_148 0 rfl rfl ?_
              refine jw_iload hC dL_holds_149 6 rfl ?_
              refine jw_iload hC dL_holds_151 7 rfl ?_
              refine jw_iconst hC dL_holds_153 ?_
              refine jw_callV hC (c_X4_place l E M h0 _ (by omega) (by omega) _ (by omega) (by omega) _ (by decide) (by decide) ⟨⟨by omega, by omega, by omega, by omega⟩, by decide, by decide⟩) sV_L_22 ewF_x4.o dL_holds_154 rfl rfl ⟨Nat.le_of_ble_eq_true rfl, Nat.le_of_ble_eq_true rfl⟩ ⟨Nat.zero_le _, Nat.zero_le _⟩ (Nat.le_of_ble_eq_true rfl) (fun v154 M154 g154 => ?_)
              obtain ⟨-, rfl, hb154, rfl⟩ := g154
              have hpl154 := f_pl_k (k := k) (by omega) (by omega)
              rw [hpl154, show f_prop M k 4 = f_bear (M 3) k (M 52 0) (M 52 1) from rfl] at hb154 ⊢
              refine jw_aload_n hC dL_holds_157 0 rfl rfl ?_
              refine jw_iconst hC dL_holds_158 ?_
              refine jw_callV hC (c_X4_setting l E M _ (by decide) (by decide) ⟨by decide, by decide⟩) sV_L_58 ewF_x4.o dL_holds_159 rfl rfl ⟨Nat.le_of_ble_eq_true rfl, Nat.le_of_ble_eq_true rfl⟩ ⟨Nat.zero_le _, Nat.zero_le _⟩ (Nat.le_of_ble_eq_true rfl) (fun v159 M159 g159 => ?_)
              obtain ⟨-, rfl, rfl⟩ := g159
              refine jw_icmp_gt (tgt := 213) hC dL_holds_162 (by decide) (by omega) (by omega) (by omega) (by omega) (fun h162 => ?_) (fun h162 => ?_)
              · skip
                exfalso; omega
              · skip
                refine jw_aload_n hC dL_holds_165 0 rfl rfl ?_
                refine jw_iload hC dL_holds_166 6 rfl ?_
                refine jw_iload hC dL_holds_168 7 rfl ?_
                refine jw_iconst hC dL_holds_170 ?_
                refine jw_callV hC (c_X4_place l E M h0 _ (by omega) (by omega) _ (by omega) (by omega) _ (by decide) (by decide) ⟨⟨by omega, by omega, by omega, by omega⟩, by decide, by decide⟩) sV_L_22 ewF_x4.o dL_holds_171 rfl rfl ⟨Nat.le_of_ble_eq_true rfl, Nat.le_of_ble_eq_true rfl⟩ ⟨Nat.zero_le _, Nat.zero_le _⟩ (Nat.le_of_ble_eq_true rfl) (fun v171 M171 g171 => ?_)
                obtain ⟨-, rfl, hb171, rfl⟩ := g171
                have hpl171 := f_pl_k (k := k) (by omega) (by omega)
                rw [hpl171, show f_prop M k 4 = f_bear (M 3) k (M 52 0) (M 52 1) from rfl] at hb171 ⊢
                refine jw_if_lt (tgt := 213) hC dL_holds_174 (by decide) (by omega) (by omega) (fun h174 => ?_) (fun h174 => ?_)
                · skip
                  exfalso; omega
                · skip
                  refine jw_aload_n hC dL_holds_177 0 rfl rfl ?_
                  refine jw_iload hC dL_holds_178 6 rfl ?_
                  refine jw_iload hC dL_holds_180 7 rfl ?_
                  refine jw_iconst hC dL_holds_182 ?_
                  refine jw_callV hC (c_X4_place l E M h0 _ (by omega) (by omega) _ (by omega) (by omega) _ (by decide) (by decide) ⟨⟨by omega, by omega, by omega, by omega⟩, by decide, by decide⟩) sV_L_22 ewF_x4.o dL_holds_183 rfl rfl ⟨Nat.le_of_ble_eq_true rfl, Nat.le_of_ble_eq_true rfl⟩ ⟨Nat.zero_le _, Nat.zero_le _⟩ (Nat.le_of_ble_eq_true rfl) (fun v183 M183 g183 => ?_)
                  obtain ⟨-, rfl, hb183, rfl⟩ := g183
                  have hpl183 := f_pl_k (k := k) (by omega) (by omega)
                  rw [hpl183, show f_prop M k 1 = M 2 k from rfl] at hb183 ⊢
                  refine jw_bipush hC dL_holds_186 (by decide) ?_
                  refine jw_icmp_gt (tgt := 213) hC dL_holds_188 (by decide) (by omega) (by omega) (by omega) (by omega) (fun h188 => ?_) (fun h188 => ?_)
                  · skip
                    exfalso; omega
                  · skip
                    refine jw_aload_n hC dL_holds_191 0 rfl rfl ?_
                    refine jw_iload hC dL_holds_192 6 rfl ?_
                    refine jw_iload hC dL_holds_194 7 rfl ?_
                    refine jw_iconst hC dL_holds_196 ?_
                    refine jw_callV hC (c_X4_place l E M h0 _ (by omega) (by omega) _ (by omega) (by omega) _ (by decide) (by decide) ⟨⟨by omega, by omega, by omega, by omega⟩, by decide, by decide⟩) sV_L_22 ewF_x4.o dL_holds_197 rfl rfl ⟨Nat.le_of_ble_eq_true rfl, Nat.le_of_ble_eq_true rfl⟩ ⟨Nat.zero_le _, Nat.zero_le _⟩ (Nat.le_of_ble_eq_true rfl) (fun v197 M197 g197 => ?_)
                    obtain ⟨-, rfl, hb197, rfl⟩ := g197
                    have hpl197 := f_pl_k (k := k) (by omega) (by omega)
                    rw [hpl197, show f_prop M k 5 = if f_ov (M 50) k then 1 else 0 from rfl] at hb197 ⊢
                    refine jw_iconst hC dL_holds_200 ?_
                    refine jw_icmp_ne (tgt := 215) hC dL_holds_201 (by decide) (by omega) (by omega) (by omega) (by omega) (fun h201 => ?_) (fun h201 => ?_)
                    · skip
                      refine jw_iinc (L' := [(5, _), (0, _), (1, _), (2, _), (3, _), (4, _), (6, _), (7, _), (8, _)]) hC dL_holds_215 5 rfl (by decide) rfl ?_
                      refine jw_goto (tgt := 12) hC dL_holds_218 (by decide) ?_
                      refine jw_loc (L' := [(0, _), (1, _), (2, _), (3, _), (4, _), (5, _)]) [1, 2, 3, 4, 5, 0] rfl ?_
                      exact hkn
                    · skip
                      refine jw_aload_n hC dL_holds_204 0 rfl rfl ?_
                      refine jw_bipush hC dL_holds_205 (by decide) ?_
                      refine jw_callV hC (c_X4_count l E M h0 _ (by decide) (by decide) ⟨by decide, by decide⟩) sV_L_12 ewF_x4.o dL_holds_207 rfl rfl ⟨Nat.le_of_ble_eq_true rfl, Nat.le_of_ble_eq_true rfl⟩ ⟨Nat.zero_le _, Nat.zero_le _⟩ (Nat.le_of_ble_eq_true rfl) (fun v207 M207 g207 => ?_)
                      obtain ⟨-, rfl, hb207, rfl⟩ := g207
                      rw [show f_num M 9 = M 50 10 from rfl] at hb207 ⊢
                      refine jw_if_ne (tgt := 215) hC dL_holds_210 (by decide) (by omega) (by omega) (fun h210 => ?_) (fun h210 => ?_)
                      · skip
                        refine jw_iinc (L' := [(5, _), (0, _), (1, _), (2, _), (3, _), (4, _), (6, _), (7, _), (8, _)]) hC dL_holds_215 5 rfl (by decide) rfl ?_
                        refine jw_goto (tgt := 12) hC dL_holds_218 (by decide) ?_
                        refine jw_loc (L' := [(0, _), (1, _), (2, _), (3, _), (4, _), (5, _)]) [1, 2, 3, 4, 5, 0] rfl ?_
                        exact hkn
                      · skip
                        exfalso
                        have hv := ite_1 (C := f_ov (M 50) k) (by omega)
                        exact hv.1 (by omega)
  have K12 : ∀ (n : Nat) (k cr sr fo de : Int), 144 - k < n → 0 ≤ k → k ≤ 144 → cr = f_sum (M 3) k.toNat → sr = f_sum (f_str (M 1)) k.toNat → fo = f_sum (fun q => if 0 < M 2 q then 1 else 0) k.toNat → de = f_max (M 1) k.toNat → jJ zp l ze (ct_rm 6) zs zm za zb zt zc E zA 9 0 0 (MQ zb (ct_Q E zA (fun v M1 => v = some (vI 1) ∧ M = M1)) za zs 0 0 zA) 12 [(0, vR E 77), (1, vI cr), (2, vI sr), (3, vI fo), (4, vI de), (5, vI k)] [] M := by
    intro n
    induction n with
    | zero => intros; omega
    | succ n ih =>
      intro k cr sr fo de i1 i2 i3 hc hr hf hd
      have hmb := f_max_D p1 k.toNat
      have hpk := hp k
      have hqk := hq k
      have hdk := p1 k
      refine jw_iload hC dL_holds_12 5 rfl ?_
      refine jw_sipush hC dL_holds_14 (by decide) ?_
      refine jw_icmp_ge (tgt := 221) hC dL_holds_17 (by decide) (by omega) (by omega) (by omega) (by omega) (fun h17 => ?_) (fun h17 => ?_)
      · skip
        have e9 : k = 144 := by omega
        subst e9
        have hc : cr = f_sum (M 3) 144 := hc
        have hr : sr = f_sum (f_str (M 1)) 144 := hr
        have hf : fo = f_sum (fun q => if 0 < M 2 q then 1 else 0) 144 := hf
        rw [hpos] at hf
        have hd : de = f_max (M 1) 144 := hd
        refine jw_iload_n hC dL_holds_221 1 rfl rfl ?_
        refine jw_aload_n hC dL_holds_222 0 rfl rfl ?_
        refine jw_iconst hC dL_holds_223 ?_
        refine jw_callV hC (c_X4_count l E M h0 _ (by decide) (by decide) ⟨by decide, by decide⟩) sV_L_12 ewF_x4.o dL_holds_224 rfl rfl ⟨Nat.le_of_ble_eq_true rfl, Nat.le_of_ble_eq_true rfl⟩ ⟨Nat.zero_le _, Nat.zero_le _⟩ (Nat.le_of_ble_eq_true rfl) (fun v224 M224 g224 => ?_)
        obtain ⟨-, rfl, hb224, rfl⟩ := g224
        rw [show f_num M 4 = f_sum (M 3) 144 from rfl] at hb224 ⊢
        refine jw_icmp_ne (tgt := 274) hC dL_holds_227 (by decide) (by omega) (by omega) (by omega) (by omega) (fun h227 => ?_) (fun h227 => ?_)
        · skip
          exfalso; omega
        · skip
          refine jw_iload_n hC dL_holds_230 2 rfl rfl ?_
          refine jw_aload_n hC dL_holds_231 0 rfl rfl ?_
          refine jw_bipush hC dL_holds_232 (by decide) ?_
          refine jw_callV hC (c_X4_count l E M h0 _ (by decide) (by decide) ⟨by decide, by decide⟩) sV_L_12 ewF_x4.o dL_holds_234 rfl rfl ⟨Nat.le_of_ble_eq_true rfl, Nat.le_of_ble_eq_true rfl⟩ ⟨Nat.zero_le _, Nat.zero_le _⟩ (Nat.le_of_ble_eq_true rfl) (fun v234 M234 g234 => ?_)
          obtain ⟨-, rfl, hb234, rfl⟩ := g234
          rw [show f_num M 6 = f_sum (f_str (M 1)) 144 from rfl] at hb234 ⊢
          refine jw_icmp_ne (tgt := 274) hC dL_holds_237 (by decide) (by omega) (by omega) (by omega) (by omega) (fun h237 => ?_) (fun h237 => ?_)
          · skip
            exfalso; omega
          · skip
            refine jw_iload_n hC dL_holds_240 2 rfl rfl ?_
            refine jw_aload_n hC dL_holds_241 0 rfl rfl ?_
            refine jw_bipush hC dL_holds_242 (by decide) ?_
            refine jw_callV hC (c_X4_count l E M h0 _ (by decide) (by decide) ⟨by decide, by decide⟩) sV_L_12 ewF_x4.o dL_holds_244 rfl rfl ⟨Nat.le_of_ble_eq_true rfl, Nat.le_of_ble_eq_true rfl⟩ ⟨Nat.zero_le _, Nat.zero_le _⟩ (Nat.le_of_ble_eq_true rfl) (fun v244 M244 g244 => ?_)
            obtain ⟨-, rfl, hb244, rfl⟩ := g244
            rw [show f_num M 7 = 2 * f_sum (fun q => f_s2 (M 1) q + f_s4 (M 1) q) 144 from rfl] at hb244 ⊢
            refine jw_icmp_ne (tgt := 274) hC dL_holds_247 (by decide) (by omega) (by omega) (by omega) (by omega) (fun h247 => ?_) (fun h247 => ?_)
            · skip
              exfalso; omega
            · skip
              refine jw_iload_n hC dL_holds_250 3 rfl rfl ?_
              refine jw_aload_n hC dL_holds_251 0 rfl rfl ?_
              refine jw_bipush hC dL_holds_252 (by decide) ?_
              refine jw_callV hC (c_X4_count l E M h0 _ (by decide) (by decide) ⟨by decide, by decide⟩) sV_L_12 ewF_x4.o dL_holds_254 rfl rfl ⟨Nat.le_of_ble_eq_true rfl, Nat.le_of_ble_eq_true rfl⟩ ⟨Nat.zero_le _, Nat.zero_le _⟩ (Nat.le_of_ble_eq_true rfl) (fun v254 M254 g254 => ?_)
              obtain ⟨-, rfl, hb254, rfl⟩ := g254
              rw [show f_num M 8 = f_sum (fun q => if M 2 q = 0 then 0 else 1) 144 from rfl] at hb254 ⊢
              refine jw_icmp_ne (tgt := 274) hC dL_holds_257 (by decide) (by omega) (by omega) (by omega) (by omega) (fun h257 => ?_) (fun h257 => ?_)
              · skip
                exfalso; omega
              · skip
                refine jw_iload hC dL_holds_260 4 rfl ?_
                refine jw_aload_n hC dL_holds_262 0 rfl rfl ?_
                refine jw_iconst hC dL_holds_263 ?_
                refine jw_callV hC (c_X4_count l E M h0 _ (by decide) (by decide) ⟨by decide, by decide⟩) sV_L_12 ewF_x4.o dL_holds_264 rfl rfl ⟨Nat.le_of_ble_eq_true rfl, Nat.le_of_ble_eq_true rfl⟩ ⟨Nat.zero_le _, Nat.zero_le _⟩ (Nat.le_of_ble_eq_true rfl) (fun v264 M264 g264 => ?_)
                obtain ⟨-, rfl, hb264, rfl⟩ := g264
                rw [show f_num M 5 = f_max (M 1) 144 from rfl] at hb264 ⊢
                refine jw_icmp_ne (tgt := 274) hC dL_holds_267 (by decide) (by omega) (by omega) (by omega) (by omega) (fun h267 => ?_) (fun h267 => ?_)
                · skip
                  exfalso; omega
                · skip
                  refine jw_iconst hC dL_holds_270 ?_
                  refine jw_goto (tgt := 275) hC dL_holds_271 (by decide) ?_
                  refine jw_istore (L' := [(5, _), (0, _), (1, _), (2, _), (3, _), (4, _)]) hC dL_holds_275 (by decide) rfl ?_
                  refine jw_iload hC dL_holds_277 0 rfl ?_
                  refine jw_if_eq (tgt := 331) hC dL_holds_279 (by decide) (by omega) (by omega) (fun h279 => ?_) (fun h279 => ?_)
                  · skip
                    exfalso; omega
                  · skip
                    refine jw_aload_n hC dL_holds_282 1 rfl rfl ?_
                    refine jw_iconst hC dL_holds_283 ?_
                    refine jw_callV hC (c_X4_count l E M h0 _ (by decide) (by decide) ⟨by decide, by decide⟩) sV_L_12 ewF_x4.o dL_holds_284 rfl rfl ⟨Nat.le_of_ble_eq_true rfl, Nat.le_of_ble_eq_true rfl⟩ ⟨Nat.zero_le _, Nat.zero_le _⟩ (Nat.le_of_ble_eq_true rfl) (fun v284 M284 g284 => ?_)
                    obtain ⟨-, rfl, hb284, rfl⟩ := g284
                    rw [show f_num M 2 = M 50 3 from rfl] at hb284 ⊢
                    refine jw_if_lt (tgt := 331) hC dL_holds_287 (by decide) (by omega) (by omega) (fun h287 => ?_) (fun h287 => ?_)
                    · skip
                      exfalso; omega
                    · skip
                      refine jw_aload_n hC dL_holds_290 1 rfl rfl ?_
                      refine jw_iconst hC dL_holds_291 ?_
                      refine jw_callV hC (c_X4_count l E M h0 _ (by decide) (by decide) ⟨by decide, by decide⟩) sV_L_12 ewF_x4.o dL_holds_292 rfl rfl ⟨Nat.le_of_ble_eq_true rfl, Nat.le_of_ble_eq_true rfl⟩ ⟨Nat.zero_le _, Nat.zero_le _⟩ (Nat.le_of_ble_eq_true rfl) (fun v292 M292 g292 => ?_)
                      obtain ⟨-, rfl, hb292, rfl⟩ := g292
                      rw [show f_num M 2 = M 50 3 from rfl] at hb292 ⊢
                      refine jw_iconst hC dL_holds_295 ?_
                      refine jw_icmp_gt (tgt := 331) hC dL_holds_296 (by decide) (by omega) (by omega) (by omega) (by omega) (fun h296 => ?_) (fun h296 => ?_)
                      · skip
                        exfalso; omega
                      · skip
                        refine jw_iload_n hC dL_holds_299 2 rfl rfl ?_
                        refine jw_aload_n hC dL_holds_300 1 rfl rfl ?_
                        refine jw_bipush hC dL_holds_301 (by decide) ?_
                        refine jw_callV hC (c_X4_count l E M h0 _ (by decide) (by decide) ⟨by decide, by decide⟩) sV_L_12 ewF_x4.o dL_holds_303 rfl rfl ⟨Nat.le_of_ble_eq_true rfl, Nat.le_of_ble_eq_true rfl⟩ ⟨Nat.zero_le _, Nat.zero_le _⟩ (Nat.le_of_ble_eq_true rfl) (fun v303 M303 g303 => ?_)
                        obtain ⟨-, rfl, hb303, rfl⟩ := g303
                        rw [show f_num M 10 = M 50 7 from rfl] at hb303 ⊢
                        refine jw_icmp_gt (tgt := 331) hC dL_holds_306 (by decide) (by omega) (by omega) (by omega) (by omega) (fun h306 => ?_) (fun h306 => ?_)
                        · skip
                          exfalso; omega
                        · skip
                          refine jw_aload_n hC dL_holds_309 1 rfl rfl ?_
                          refine jw_callV hC (c_X4_wholeShare l E M h0) sV_L_61 ewF_x4.o dL_holds_310 rfl rfl ⟨Nat.le_of_ble_eq_true rfl, Nat.le_of_ble_eq_true rfl⟩ ⟨Nat.zero_le _, Nat.zero_le _⟩ (Nat.le_of_ble_eq_true rfl) (fun v310 M310 g310 => ?_)
                          obtain ⟨rfl, rfl⟩ := g310
                          refine jw_sipush hC dL_holds_313 (by decide) ?_
                          refine jw_iload_n hC dL_holds_316 2 rfl rfl ?_
                          refine jw_isub hC dL_holds_317 ?_
                          refine jw_i2d hC dL_holds_318 ?_
                          refine jw_ldc2d hC w3_84 dL_holds_319 ?_
                          refine jw_ddiv hC (show vf_n64 (f_sh (144 - cr)) from f_sh_n (by omega) (by omega)) dL_holds_322 ?_
                          refine jw_dcmp (n := 0) hC (by rw [← hc]; exact f_share_e (by omega) (by omega)) dL_holds_323 ?_
                          refine jw_if_ne (tgt := 331) hC dL_holds_324 (by decide) (by omega) (by omega) (fun h324 => ?_) (fun h324 => ?_)
                          · skip
                            exfalso; omega
                          · skip
                            refine jw_iconst hC dL_holds_327 ?_
                            refine jw_goto (tgt := 332) hC dL_holds_328 (by decide) ?_
                            refine jw_zret hC (by omega) dL_holds_332 ?_
                            exact ⟨rfl, rfl⟩
      · skip
        refine jw_iload hC dL_holds_20 5 rfl ?_
        refine jw_bipush hC dL_holds_22 (by decide) ?_
        refine jw_irem hC dL_holds_24 (by omega) (by omega) (by omega) (by omega) ?_
        refine jw_istore (L' := [(6, _), (0, _), (1, _), (2, _), (3, _), (4, _), (5, _)]) hC dL_holds_25 (by decide) rfl ?_
        refine jw_iload hC dL_holds_27 6 rfl ?_
        refine jw_bipush hC dL_holds_29 (by decide) ?_
        refine jw_idiv hC dL_holds_31 (by omega) (by omega) (by omega) (by omega) ?_
        refine jw_istore (L' := [(7, _), (6, _), (0, _), (1, _), (2, _), (3, _), (4, _), (5, _)]) hC dL_holds_32 (by decide) rfl ?_
        refine jw_aload_n hC dL_holds_34 2 rfl rfl ?_
        refine jw_iload hC dL_holds_35 1 rfl ?_
        refine jw_iload hC dL_holds_37 0 rfl ?_
        refine jw_iconst hC dL_holds_39 ?_
        refine jw_callV hC (c_X4_place l E M h0 _ (by omega) (by omega) _ (by omega) (by omega) _ (by decide) (by decide) ⟨⟨by omega, by omega, by omega, by omega⟩, by decide, by decide⟩) sV_L_22 ewF_x4.o dL_holds_40 rfl rfl ⟨Nat.le_of_ble_eq_true rfl, Nat.le_of_ble_eq_true rfl⟩ ⟨Nat.zero_le _, Nat.zero_le _⟩ (Nat.le_of_ble_eq_true rfl) (fun v40 M40 g40 => ?_)
        obtain ⟨-, rfl, hb40, rfl⟩ := g40
        have hpl40 := f_pl_k (k := k) (by omega) (by omega)
        rw [hpl40, show f_prop M k 0 = M 1 k from rfl] at hb40 ⊢
        refine jw_istore (L' := [(8, _), (7, _), (6, _), (0, _), (1, _), (2, _), (3, _), (4, _), (5, _)]) hC dL_holds_43 (by decide) rfl ?_
        refine jw_iload_n hC dL_holds_45 4 rfl rfl ?_
        refine jw_aload_n hC dL_holds_46 3 rfl rfl ?_
        refine jw_iload hC dL_holds_47 2 rfl ?_
        refine jw_iload hC dL_holds_49 1 rfl ?_
        refine jw_iconst hC dL_holds_51 ?_
        refine jw_callV hC (c_X4_place l E M h0 _ (by omega) (by omega) _ (by omega) (by omega) _ (by decide) (by decide) ⟨⟨by omega, by omega, by omega, by omega⟩, by decide, by decide⟩) sV_L_22 ewF_x4.o dL_holds_52 rfl rfl ⟨Nat.le_of_ble_eq_true rfl, Nat.le_of_ble_eq_true rfl⟩ ⟨Nat.zero_le _, Nat.zero_le _⟩ (Nat.le_of_ble_eq_true rfl) (fun v52 M52 g52 => ?_)
        obtain ⟨-, rfl, hb52, rfl⟩ := g52
        have hpl52 := f_pl_k (k := k) (by omega) (by omega)
        rw [hpl52, show f_prop M k 2 = M 3 k from rfl] at hb52 ⊢
        refine jw_iadd hC dL_holds_55 ?_
        refine jw_istore_n (L' := [(1, _), (8, _), (7, _), (6, _), (0, _), (2, _), (3, _), (4, _), (5, _)]) hC dL_holds_56 rfl (by decide) rfl ?_
        refine jw_iload_n hC dL_holds_57 5 rfl rfl ?_
        refine jw_aload_n hC dL_holds_58 4 rfl rfl ?_
        refine jw_iload hC dL_holds_59 3 rfl ?_
        refine jw_iload hC dL_holds_61 2 rfl ?_
        refine jw_iconst hC dL_holds_63 ?_
        refine jw_callV hC (c_X4_place l E M h0 _ (by omega) (by omega) _ (by omega) (by omega) _ (by decide) (by decide) ⟨⟨by omega, by omega, by omega, by omega⟩, by decide, by decide⟩) sV_L_22 ewF_x4.o dL_holds_64 rfl rfl ⟨Nat.le_of_ble_eq_true rfl, Nat.le_of_ble_eq_true rfl⟩ ⟨Nat.zero_le _, Nat.zero_le _⟩ (Nat.le_of_ble_eq_true rfl) (fun v64 M64 g64 => ?_)
        obtain ⟨-, rfl, hb64, rfl⟩ := g64
        have hpl64 := f_pl_k (k := k) (by omega) (by omega)
        rw [hpl64, show f_prop M k 3 = f_str (M 1) k from rfl] at hb64 ⊢
        refine jw_iadd hC dL_holds_67 ?_
        refine jw_istore_n (L' := [(2, _), (1, _), (8, _), (7, _), (6, _), (0, _), (3, _), (4, _), (5, _)]) hC dL_holds_68 rfl (by decide) rfl ?_
        refine jw_iload_n hC dL_holds_69 6 rfl rfl ?_
        refine jw_aload_n hC dL_holds_70 5 rfl rfl ?_
        refine jw_iload hC dL_holds_71 4 rfl ?_
        refine jw_iload hC dL_holds_73 3 rfl ?_
        refine jw_iconst hC dL_holds_75 ?_
        refine jw_callV hC (c_X4_place l E M h0 _ (by omega) (by omega) _ (by omega) (by omega) _ (by decide) (by decide) ⟨⟨by omega, by omega, by omega, by omega⟩, by decide, by decide⟩) sV_L_22 ewF_x4.o dL_holds_76 rfl rfl ⟨Nat.le_of_ble_eq_true rfl, Nat.le_of_ble_eq_true rfl⟩ ⟨Nat.zero_le _, Nat.zero_le _⟩ (Nat.le_of_ble_eq_true rfl) (fun v76 M76 g76 => ?_)
        obtain ⟨-, rfl, hb76, rfl⟩ := g76
        have hpl76 := f_pl_k (k := k) (by omega) (by omega)
        rw [hpl76, show f_prop M k 1 = M 2 k from rfl] at hb76 ⊢
        refine jw_if_le (tgt := 86) hC dL_holds_79 (by decide) (by omega) (by omega) (fun h79 => ?_) (fun h79 => ?_)
        · skip
          refine jw_iconst hC dL_holds_86 ?_
          refine jw_iadd hC dL_holds_87 ?_
          refine jw_istore_n (L' := [(3, _), (2, _), (1, _), (8, _), (7, _), (6, _), (0, _), (4, _), (5, _)]) hC dL_holds_88 rfl (by decide) rfl ?_
          refine jw_iload hC dL_holds_89 3 rfl ?_
          refine jw_iload hC dL_holds_91 7 rfl ?_
          refine jw_icmp_le (tgt := 101) hC dL_holds_93 (by decide) (by omega) (by omega) (by omega) (by omega) (fun h93 => ?_) (fun h93 => ?_)
          · skip
            refine jw_iload hC dL_holds_101 7 rfl ?_
            refine jw_istore (L' := [(4, _), (3, _), (2, _), (1, _), (8, _), (7, _), (6, _), (0, _), (5, _)]) hC dL_holds_103 (by decide) rfl ?_
            refine jw_loc (L' := [(0, _), (1, _), (2, _), (3, _), (4, _), (5, _), (6, _), (7, _), (8, _)]) [7, 3, 2, 1, 0, 8, 6, 5, 4] rfl ?_
            refine K105 k _ _ _ _ i2 (by omega) (by rw [f_sum_s _ i2, hc]) (by rw [f_sum_s _ i2, hr]) ?_ ?_ (ih _ _ _ _ _ (by omega) (by omega) (by omega) (by rw [f_sum_s _ i2, hc]) (by rw [f_sum_s _ i2, hr]) ?_ ?_)
            · rw [f_sum_s _ i2, hf]
              first
              | rw [if_pos (by omega)]
              | rw [if_neg (by omega)]
            · rw [f_max_s _ i2, ← hd]
              omega
            · rw [f_sum_s _ i2, hf]
              first
              | rw [if_pos (by omega)]
              | rw [if_neg (by omega)]
            · rw [f_max_s _ i2, ← hd]
              omega
          · skip
            refine jw_iload hC dL_holds_96 3 rfl ?_
            refine jw_goto (tgt := 103) hC dL_holds_98 (by decide) ?_
            refine jw_istore (L' := [(4, _), (3, _), (2, _), (1, _), (8, _), (7, _), (6, _), (0, _), (5, _)]) hC dL_holds_103 (by decide) rfl ?_
            refine jw_loc (L' := [(0, _), (1, _), (2, _), (3, _), (4, _), (5, _), (6, _), (7, _), (8, _)]) [7, 3, 2, 1, 0, 8, 6, 5, 4] rfl ?_
            refine K105 k _ _ _ _ i2 (by omega) (by rw [f_sum_s _ i2, hc]) (by rw [f_sum_s _ i2, hr]) ?_ ?_ (ih _ _ _ _ _ (by omega) (by omega) (by omega) (by rw [f_sum_s _ i2, hc]) (by rw [f_sum_s _ i2, hr]) ?_ ?_)
            · rw [f_sum_s _ i2, hf]
              first
              | rw [if_pos (by omega)]
              | rw [if_neg (by omega)]
            · rw [f_max_s _ i2, ← hd]
              omega
            · rw [f_sum_s _ i2, hf]
              first
              | rw [if_pos (by omega)]
              | rw [if_neg (by omega)]
            · rw [f_max_s _ i2, ← hd]
              omega
        · skip
          refine jw_iconst hC dL_holds_82 ?_
          refine jw_goto (tgt := 87) hC dL_holds_83 (by decide) ?_
          refine jw_iadd hC dL_holds_87 ?_
          refine jw_istore_n (L' := [(3, _), (2, _), (1, _), (8, _), (7, _), (6, _), (0, _), (4, _), (5, _)]) hC dL_holds_88 rfl (by decide) rfl ?_
          refine jw_iload hC dL_holds_89 3 rfl ?_
          refine jw_iload hC dL_holds_91 7 rfl ?_
          refine jw_icmp_le (tgt := 101) hC dL_holds_93 (by decide) (by omega) (by omega) (by omega) (by omega) (fun h93 => ?_) (fun h93 => ?_)
          · skip
            refine jw_iload hC dL_holds_101 7 rfl ?_
            refine jw_istore (L' := [(4, _), (3, _), (2, _), (1, _), (8, _), (7, _), (6, _), (0, _), (5, _)]) hC dL_holds_103 (by decide) rfl ?_
            refine jw_loc (L' := [(0, _), (1, _), (2, _), (3, _), (4, _), (5, _), (6, _), (7, _), (8, _)]) [7, 3, 2, 1, 0, 8, 6, 5, 4] rfl ?_
            refine K105 k _ _ _ _ i2 (by omega) (by rw [f_sum_s _ i2, hc]) (by rw [f_sum_s _ i2, hr]) ?_ ?_ (ih _ _ _ _ _ (by omega) (by omega) (by omega) (by rw [f_sum_s _ i2, hc]) (by rw [f_sum_s _ i2, hr]) ?_ ?_)
            · rw [f_sum_s _ i2, hf]
              first
              | rw [if_pos (by omega)]
              | rw [if_neg (by omega)]
            · rw [f_max_s _ i2, ← hd]
              omega
            · rw [f_sum_s _ i2, hf]
              first
              | rw [if_pos (by omega)]
              | rw [if_neg (by omega)]
            · rw [f_max_s _ i2, ← hd]
              omega
          · skip
            refine jw_iload hC dL_holds_96 3 rfl ?_
            refine jw_goto (tgt := 103) hC dL_holds_98 (by decide) ?_
            refine jw_istore (L' := [(4, _), (3, _), (2, _), (1, _), (8, _), (7, _), (6, _), (0, _), (5, _)]) hC dL_holds_103 (by decide) rfl ?_
            refine jw_loc (L' := [(0, _), (1, _), (2, _), (3, _), (4, _), (5, _), (6, _), (7, _), (8, _)]) [7, 3, 2, 1, 0, 8, 6, 5, 4] rfl ?_
            refine K105 k _ _ _ _ i2 (by omega) (by rw [f_sum_s _ i2, hc]) (by rw [f_sum_s _ i2, hr]) ?_ ?_ (ih _ _ _ _ _ (by omega) (by omega) (by omega) (by rw [f_sum_s _ i2, hc]) (by rw [f_sum_s _ i2, hr]) ?_ ?_)
            · rw [f_sum_s _ i2, hf]
              first
              | rw [if_pos (by omega)]
              | rw [if_neg (by omega)]
            · rw [f_max_s _ i2, ← hd]
              omega
            · rw [f_sum_s _ i2, hf]
              first
              | rw [if_pos (by omega)]
              | rw [if_neg (by omega)]
            · rw [f_max_s _ i2, ← hd]
              omega
  refine jw_iconst hC dL_holds_0 ?_
  refine jw_istore_n (L' := [(1, _), (0, _)]) hC dL_holds_1 rfl (by decide) rfl ?_
  refine jw_iconst hC dL_holds_2 ?_
  refine jw_istore_n (L' := [(2, _), (1, _), (0, _)]) hC dL_holds_3 rfl (by decide) rfl ?_
  refine jw_iconst hC dL_holds_4 ?_
  refine jw_istore_n (L' := [(3, _), (2, _), (1, _), (0, _)]) hC dL_holds_5 rfl (by decide) rfl ?_
  refine jw_iconst hC dL_holds_6 ?_
  refine jw_istore (L' := [(4, _), (3, _), (2, _), (1, _), (0, _)]) hC dL_holds_7 (by decide) rfl ?_
  refine jw_iconst hC dL_holds_9 ?_
  refine jw_istore (L' := [(5, _), (4, _), (3, _), (2, _), (1, _), (0, _)]) hC dL_holds_10 (by decide) rfl ?_
  refine jw_loc (L' := [(0, _), (1, _), (2, _), (3, _), (4, _), (5, _)]) [5, 4, 3, 2, 1, 0] rfl ?_
  exact K12 145 0 0 0 0 0 (by omega) (by omega) (by omega) rfl rfl rfl rfl
