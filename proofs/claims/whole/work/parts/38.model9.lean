/-! THE REFERENCE: a whole text; hashes -/
/-- behind the row of a text: where it stands, whether the row tells a point, what is read -/
def rd_A (cd : Int → Int) (len row z w : Int) (rp : Int → Int) : Prop := ∃ z0 : Int, 0 ≤ z0 ∧ z0 ≤ z ∧ z ≤ len ∧ (∀ i : Nat, (i : Int) < z → ¬ f_er cd i) ∧ f_tr_ cd z.toNat = row ∧ f_tc_ cd z.toNat = z - z0 ∧ (z = len ∨ ¬ f_sg (cd z) ∨ f_tc_ cd z.toNat = 5) ∧ w = (if z0 < z then 1 else 0) ∧ (z0 < z → f_sg (cd (z - 1))) ∧ (0 < z0 → cd (z0 - 1) = 47) ∧ ∀ q : Int, 0 ≤ q → q < 25 → rp q = f_rp cd z.toNat q
abbrev rd_w (cd : Int → Int) (len x : Int) : Int := if 0 < len ∧ x = len ∧ cd (len - 1) ≠ 47 then 1 else 0
theorem rd_end0 {cd : Int → Int} {len row z w : Int} {rp : Int → Int} (h : rd_A cd len row z w rp) (h0 : w = 0) : f_fw cd len z ∧ rd_w cd len z = 0 := by
  obtain ⟨z0, a1, a2, a3, a4, a5, a6, a7, a8, a9, a10, a11⟩ := h
  have e0 : z0 = z := by
    by_cases hz : z0 < z
    · rw [if_pos hz] at a8; omega
    · omega
  subst e0
  refine ⟨⟨a1, a3, a4, fun hl => ?_⟩, ?_⟩
  · rw [f_er_k a1]
    have hs : ¬ f_sg (cd z0) := by
      rcases a7 with h | h | h
      · omega
      · exact h
      · omega
    by_cases hc : cd z0 = 47
    · rw [if_pos hc]; exact Or.inl (by omega)
    · rw [if_neg hc]; exact Or.inl hs
  · unfold rd_w
    rw [if_neg]
    rintro ⟨b1, b2, b3⟩
    subst b2
    exact b3 (a10 b1)
theorem rd_end1 {cd : Int → Int} {len row z w : Int} {rp : Int → Int} (h : rd_A cd len row z w rp) (h0 : ¬ w = 0) (hl : len ≤ z) : f_fw cd len z ∧ rd_w cd len z = 1 ∧ w = 1 ∧ ∀ q : Int, 0 ≤ q → q < 25 → rp q = f_rp cd len.toNat q := by
  obtain ⟨z0, a1, a2, a3, a4, a5, a6, a7, a8, a9, a10, a11⟩ := h
  have e0 : z0 < z := by
    by_cases hz : z0 < z
    · exact hz
    · rw [if_neg hz] at a8; omega
  have e1 : z = len := by omega
  rw [if_pos e0] at a8
  subst e1
  refine ⟨⟨by omega, a3, a4, fun hl => by omega⟩, ?_, a8, a11⟩
  unfold rd_w
  have := a9 e0
  rw [if_pos ⟨by omega, rfl, by omega⟩]
theorem rd_next {cd : Int → Int} {len row z w : Int} {rp : Int → Int} (h : rd_A cd len row z w rp) (h0 : ¬ w = 0) (hl : z < len) (hc : cd z = 47) (hr : row + 1 < 5) : (∀ i : Nat, (i : Int) < z + 1 → ¬ f_er cd i) ∧ f_tr_ cd (z + 1).toNat = row + 1 ∧ f_tc_ cd (z + 1).toNat = 0 ∧ ∀ q : Int, 0 ≤ q → q < 25 → rp q = f_rp cd (z + 1).toNat q := by
  obtain ⟨z0, a1, a2, a3, a4, a5, a6, a7, a8, a9, a10, a11⟩ := h
  have e0 : z0 < z := by
    by_cases hz : z0 < z
    · exact hz
    · rw [if_neg hz] at a8; omega
  have e1 : 0 ≤ z := by omega
  have t := f_t_s cd e1
  rw [if_pos hc, if_pos hc] at t
  refine ⟨fun i hi => ?_, by rw [t.1, a5], t.2, fun q q0 q1 => ?_⟩
  · by_cases hi2 : (i : Int) = z
    · have e9 : i = z.toNat := by omega
      rw [e9, f_er_k e1, if_pos hc]
      omega
    · exact a4 i (by omega)
  · rw [f_rp_s cd e1, if_pos hc]
    exact a11 q q0 q1
theorem rd_err {cd : Int → Int} {len row z w : Int} {rp : Int → Int} (h : rd_A cd len row z w rp) (hl : z < len) (hc : ¬ (cd z = 47 ∧ row + 1 < 5)) (hr : row ≤ 4) : f_fw cd len z := by
  obtain ⟨z0, a1, a2, a3, a4, a5, a6, a7, a8, a9, a10, a11⟩ := h
  have e1 : 0 ≤ z := by omega
  refine ⟨e1, a3, a4, fun _ => ?_⟩
  rw [f_er_k e1]
  by_cases hc2 : cd z = 47
  · rw [if_pos hc2]; exact Or.inr (by omega)
  · rw [if_neg hc2]
    rcases a7 with h | h | h
    · omega
    · exact Or.inl h
    · exact Or.inr h
set_option maxRecDepth 100000 in
set_option maxHeartbeats 4000000 in
theorem c_X5_readsAll (l : Launch) (E : ewE) (M : ewM) (hl : 0 ≤ M 88 8 ∧ M 88 8 ≤ 40) : Ct l E yX5_readsAll (.code yX5_readsAll cX5_readsAll 2 none) 4 [vR E 88] M (fun v M1 => v = none ∧ ∃ x : Int, f_fw (M 94) (M 88 8) x ∧ M1 88 10 = x ∧ M1 88 11 = rd_w (M 94) (M 88 8) x ∧ (M1 88 11 = 1 → ∀ q : Int, 0 ≤ q → q < 25 → M1 96 q = f_rp (M 94) (M 88 8).toNat q) ∧ (∀ k : Int, k ≠ 10 → k ≠ 11 → M1 88 k = M 88 k) ∧ ∀ o, o ≠ 88 → o ≠ 96 → M1 o = M o) := by
  refine ct_of (L0 := [(0, vR E 88)]) (by decide +kernel) rfl (Nat.le_of_ble_eq_true rfl) ?_
  intro zp ze zs zm za zb zt zc zA hC
  have K33 : ∀ (n : Nat) (row : Int) (M1 : ewM), 6 - row < n → 0 ≤ row → row ≤ 5 → (0 ≤ M1 88 10 ∧ M1 88 10 ≤ M 88 8) → ((0 ≤ row ∧ row ≤ 4 ∧ rd_A (M 94) (M 88 8) row (M1 88 10) (M1 88 11) (M1 96)) ∨ (M1 88 11 = 0 ∧ f_fw (M 94) (M 88 8) (M1 88 10) ∧ M1 88 10 < M 88 8)) → (∀ k : Int, k ≠ 10 → k ≠ 11 → M1 88 k = M 88 k) → (∀ o, o ≠ 88 → o ≠ 96 → M1 o = M o) → jJ zp l ze (ct_rm 4) zs zm za zb zt zc E zA 2 0 0 (MQ zb (ct_Q E zA (fun v M1 => v = none ∧ ∃ x : Int, f_fw (M 94) (M 88 8) x ∧ M1 88 10 = x ∧ M1 88 11 = rd_w (M 94) (M 88 8) x ∧ (M1 88 11 = 1 → ∀ q : Int, 0 ≤ q → q < 25 → M1 96 q = f_rp (M 94) (M 88 8).toNat q) ∧ (∀ k : Int, k ≠ 10 → k ≠ 11 → M1 88 k = M 88 k) ∧ ∀ o, o ≠ 88 → o ≠ 96 → M1 o = M o)) za zs 0 0 zA) 33 [(0, vR E 88), (1, vI row)] [] M1 := by
    intro n
    induction n with
    | zero => intros; omega
    | succ n ih =>
      intro row M1 i1 i2 i3 hz hM g1 g2
      have hm8 : M1 88 8 = M 88 8 := g1 8 (by decide) (by decide)
      refine jw_aload_n hC dX5_readsAll_33 0 rfl rfl ?_
      refine jw_geti hC fL_X5_135.r ewF_m11 (kI := 11) rfl dX5_readsAll_34 (by omega) (fun b34 c34 => ?_)
      refine jw_if_eq (tgt := 113) hC dX5_readsAll_37 (by decide) (by omega) (by omega) (fun h37 => ?_) (fun h37 => ?_)
      · skip
        refine jw_vret hC dX5_readsAll_113 ?_
        first
        | (rcases hM with ⟨m1, m2, m3⟩ | ⟨m1, m2, m3⟩
           · obtain ⟨e1, e2⟩ := rd_end0 m3 h37
             exact ⟨rfl, _, e1, rfl, by rw [h37, e2], fun z => by omega, g1, g2⟩
           · exact ⟨rfl, _, m2, rfl, by rw [h37, rd_w, if_neg (by omega)], fun z => by omega, g1, g2⟩)
        | (obtain ⟨m1, m2, m3⟩ := hM.resolve_right (fun z => by omega)
           obtain ⟨e1, e2, e3, e4⟩ := rd_end1 m3 h37 (by omega)
           exact ⟨rfl, _, e1, rfl, by rw [e3, e2], fun _ => e4, g1, g2⟩)
      · skip
        refine jw_aload_n hC dX5_readsAll_40 0 rfl rfl ?_
        refine jw_geti hC fL_X5_125.r ewF_m10 (kI := 10) rfl dX5_readsAll_41 (by omega) (fun b41 c41 => ?_)
        refine jw_aload_n hC dX5_readsAll_44 0 rfl rfl ?_
        refine jw_geti hC fL_X5_122.r ewF_m8 (kI := 8) rfl dX5_readsAll_45 (by omega) (fun b45 c45 => ?_)
        refine jw_icmp_ge (tgt := 113) hC dX5_readsAll_48 (by decide) (by omega) (by omega) (by omega) (by omega) (fun h48 => ?_) (fun h48 => ?_)
        · skip
          refine jw_vret hC dX5_readsAll_113 ?_
          first
          | (rcases hM with ⟨m1, m2, m3⟩ | ⟨m1, m2, m3⟩
             · obtain ⟨e1, e2⟩ := rd_end0 m3 h37
               exact ⟨rfl, _, e1, rfl, by rw [h37, e2], fun z => by omega, g1, g2⟩
             · exact ⟨rfl, _, m2, rfl, by rw [h37, rd_w, if_neg (by omega)], fun z => by omega, g1, g2⟩)
          | (obtain ⟨m1, m2, m3⟩ := hM.resolve_right (fun z => by omega)
             obtain ⟨e1, e2, e3, e4⟩ := rd_end1 m3 h37 (by omega)
             exact ⟨rfl, _, e1, rfl, by rw [e3, e2], fun _ => e4, g1, g2⟩)
        · skip
          refine jw_S (fun hS => ?_)
          obtain ⟨m1, m2, m3⟩ := hM.resolve_right (fun z => by omega)
          have hlt : M1 88 10 < M 88 8 := by omega
          have hsb : -2147483648 ≤ M 94 (M1 88 10) ∧ M 94 (M1 88 10) < 2147483648 := by
            have := hS 94 (M1 88 10) (by decide) (by omega)
            rw [g2 94 (by decide) (by decide)] at this
            exact this
          have htm : tI M1 := by unfold tI; rw [hm8]; omega
          have esi : f_si M1 = M 94 (M1 88 10) := by unfold f_si; rw [hm8, if_pos hlt, g2 94 (by decide) (by decide)]
          refine jw_iinc (L' := [(1, _), (0, _)]) hC dX5_readsAll_51 1 rfl (by decide) rfl ?_
          refine jw_aload_n hC dX5_readsAll_54 1 rfl rfl ?_
          refine jw_aload_n hC dX5_readsAll_55 1 rfl rfl ?_
          refine jw_callV hC (c_X5_sign l E M1 htm) sV_X5_128 ewF_m0.o dX5_readsAll_56 rfl rfl ⟨Nat.le_of_ble_eq_true rfl, Nat.le_of_ble_eq_true rfl⟩ ⟨Nat.zero_le _, Nat.zero_le _⟩ (Nat.le_of_ble_eq_true rfl) (fun v56 M56 g56 => ?_)
          obtain ⟨rfl, rfl⟩ := g56
          rw [esi]
          refine jw_bipush hC dX5_readsAll_59 (by decide) ?_
          refine jw_icmp_ne (tgt := 73) hC dX5_readsAll_61 (by decide) (by omega) (by omega) (by omega) (by omega) (fun h61 => ?_) (fun h61 => ?_)
          · skip
            refine jw_iconst hC dX5_readsAll_73 ?_
            refine jw_putz hC fL_X5_135 ewF_m11 (kI := 11) rfl dX5_readsAll_74 (by omega) ?_
            refine jw_aload_n hC dX5_readsAll_77 1 rfl rfl ?_
            refine jw_dupr hC dX5_readsAll_78 ?_
            refine jw_geti hC fL_X5_125.r ewF_m10 (kI := 10) rfl dX5_readsAll_79 (by omega) (fun b79 c79 => ?_)
            rw [mu_nk _ _ _ (by decide)] at b79 c79 ⊢
            refine jw_aload_n hC dX5_readsAll_82 1 rfl rfl ?_
            refine jw_geti hC fL_X5_135.r ewF_m11 (kI := 11) rfl dX5_readsAll_83 (by omega) (fun b83 c83 => ?_)
            rw [mu_eq] at b83 ⊢
            refine jw_if_eq (tgt := 93) hC dX5_readsAll_86 (by decide) (by omega) (by omega) (fun h86 => ?_) (fun h86 => ?_)
            · skip
              refine jw_iconst hC dX5_readsAll_93 ?_
              refine jw_iadd hC dX5_readsAll_94 ?_
              refine jw_puti hC fL_X5_125 ewF_m10 (kI := 10) rfl dX5_readsAll_95 (by omega) (by omega) ?_
              refine jw_aload_n hC dX5_readsAll_98 1 rfl rfl ?_
              refine jw_geti hC fL_X5_135.r ewF_m11 (kI := 11) rfl dX5_readsAll_99 (by omega) (fun b99 c99 => ?_)
              rw [mu_nk _ _ _ (by decide), mu_eq] at b99 ⊢
              refine jw_if_eq (tgt := 33) hC dX5_readsAll_102 (by decide) (by omega) (by omega) (fun h102 => ?_) (fun h102 => ?_)
              · skip
                refine jw_loc (L' := [(0, _), (1, _)]) [1, 0] rfl ?_
                have m4 := rd_err m3 hlt (by omega) m2
                have e10 : M1 88 10 + 0 = M1 88 10 := by omega
                refine ih (row + 1) _ (by omega) (by omega) (by omega) (by rw [mu_eq]; omega) (Or.inr ⟨by rw [mu_nk _ _ _ (by decide), mu_eq], ?_⟩) (fun k k1 k2 => ?_) (fun o o1 o2 => ?_)
                · rw [mu_eq, e10]; exact ⟨m4, hlt⟩
                · rw [mu_nk _ _ _ k1, mu_nk _ _ _ k2, g1 k k1 k2]
                · rw [mu_ne _ _ _ o1, mu_ne _ _ _ o1, g2 o o1 o2]
              · skip
                exfalso; omega
            · skip
              exfalso; omega
          · skip
            refine jw_iload_n hC dX5_readsAll_64 0 rfl rfl ?_
            refine jw_iconst hC dX5_readsAll_65 ?_
            refine jw_icmp_ge (tgt := 73) hC dX5_readsAll_66 (by decide) (by omega) (by omega) (by omega) (by omega) (fun h66 => ?_) (fun h66 => ?_)
            · skip
              refine jw_iconst hC dX5_readsAll_73 ?_
              refine jw_putz hC fL_X5_135 ewF_m11 (kI := 11) rfl dX5_readsAll_74 (by omega) ?_
              refine jw_aload_n hC dX5_readsAll_77 1 rfl rfl ?_
              refine jw_dupr hC dX5_readsAll_78 ?_
              refine jw_geti hC fL_X5_125.r ewF_m10 (kI := 10) rfl dX5_readsAll_79 (by omega) (fun b79 c79 => ?_)
              rw [mu_nk _ _ _ (by decide)] at b79 c79 ⊢
              refine jw_aload_n hC dX5_readsAll_82 1 rfl rfl ?_
              refine jw_geti hC fL_X5_135.r ewF_m11 (kI := 11) rfl dX5_readsAll_83 (by omega) (fun b83 c83 => ?_)
              rw [mu_eq] at b83 ⊢
              refine jw_if_eq (tgt := 93) hC dX5_readsAll_86 (by decide) (by omega) (by omega) (fun h86 => ?_) (fun h86 => ?_)
              · skip
                refine jw_iconst hC dX5_readsAll_93 ?_
                refine jw_iadd hC dX5_readsAll_94 ?_
                refine jw_puti hC fL_X5_125 ewF_m10 (kI := 10) rfl dX5_readsAll_95 (by omega) (by omega) ?_
                refine jw_aload_n hC dX5_readsAll_98 1 rfl rfl ?_
                refine jw_geti hC fL_X5_135.r ewF_m11 (kI := 11) rfl dX5_readsAll_99 (by omega) (fun b99 c99 => ?_)
                rw [mu_nk _ _ _ (by decide), mu_eq] at b99 ⊢
                refine jw_if_eq (tgt := 33) hC dX5_readsAll_102 (by decide) (by omega) (by omega) (fun h102 => ?_) (fun h102 => ?_)
                · skip
                  refine jw_loc (L' := [(0, _), (1, _)]) [1, 0] rfl ?_
                  have m4 := rd_err m3 hlt (by omega) m2
                  have e10 : M1 88 10 + 0 = M1 88 10 := by omega
                  refine ih (row + 1) _ (by omega) (by omega) (by omega) (by rw [mu_eq]; omega) (Or.inr ⟨by rw [mu_nk _ _ _ (by decide), mu_eq], ?_⟩) (fun k k1 k2 => ?_) (fun o o1 o2 => ?_)
                  · rw [mu_eq, e10]; exact ⟨m4, hlt⟩
                  · rw [mu_nk _ _ _ k1, mu_nk _ _ _ k2, g1 k k1 k2]
                  · rw [mu_ne _ _ _ o1, mu_ne _ _ _ o1, g2 o o1 o2]
                · skip
                  exfalso; omega
              · skip
                exfalso; omega
            · skip
              refine jw_iconst hC dX5_readsAll_69 ?_
              refine jw_goto (tgt := 74) hC dX5_readsAll_70 (by decide) ?_
              refine jw_putz hC fL_X5_135 ewF_m11 (kI := 11) rfl dX5_readsAll_74 (by omega) ?_
              refine jw_aload_n hC dX5_readsAll_77 1 rfl rfl ?_
              refine jw_dupr hC dX5_readsAll_78 ?_
              refine jw_geti hC fL_X5_125.r ewF_m10 (kI := 10) rfl dX5_readsAll_79 (by omega) (fun b79 c79 => ?_)
              rw [mu_nk _ _ _ (by decide)] at b79 c79 ⊢
              refine jw_aload_n hC dX5_readsAll_82 1 rfl rfl ?_
              refine jw_geti hC fL_X5_135.r ewF_m11 (kI := 11) rfl dX5_readsAll_83 (by omega) (fun b83 c83 => ?_)
              rw [mu_eq] at b83 ⊢
              refine jw_if_eq (tgt := 93) hC dX5_readsAll_86 (by decide) (by omega) (by omega) (fun h86 => ?_) (fun h86 => ?_)
              · skip
                exfalso; omega
              · skip
                refine jw_iconst hC dX5_readsAll_89 ?_
                refine jw_goto (tgt := 94) hC dX5_readsAll_90 (by decide) ?_
                refine jw_iadd hC dX5_readsAll_94 ?_
                refine jw_puti hC fL_X5_125 ewF_m10 (kI := 10) rfl dX5_readsAll_95 (by omega) (by omega) ?_
                refine jw_aload_n hC dX5_readsAll_98 1 rfl rfl ?_
                refine jw_geti hC fL_X5_135.r ewF_m11 (kI := 11) rfl dX5_readsAll_99 (by omega) (fun b99 c99 => ?_)
                rw [mu_nk _ _ _ (by decide), mu_eq] at b99 ⊢
                refine jw_if_eq (tgt := 33) hC dX5_readsAll_102 (by decide) (by omega) (by omega) (fun h102 => ?_) (fun h102 => ?_)
                · skip
                  exfalso; omega
                · skip
                  refine jw_aload_n hC dX5_readsAll_105 1 rfl rfl ?_
                  refine jw_iload_n hC dX5_readsAll_106 0 rfl rfl ?_
                  obtain ⟨n1, n2, n3, n4⟩ := rd_next m3 h37 hlt h61 h66
                  have f10 : (mu (mu M1 88 11 1) 88 10 (M1 88 10 + 1)) 88 10 = M1 88 10 + 1 := mu_eq _ _ _ _
                  have f8 : (mu (mu M1 88 11 1) 88 10 (M1 88 10 + 1)) 88 8 = M 88 8 := by rw [mu_nk _ _ _ (by decide), mu_nk _ _ _ (by decide), hm8]
                  have f94 : (mu (mu M1 88 11 1) 88 10 (M1 88 10 + 1)) 94 = M 94 := by rw [mu_ne _ _ _ (by decide), mu_ne _ _ _ (by decide), g2 94 (by decide) (by decide)]
                  have f96 : (mu (mu M1 88 11 1) 88 10 (M1 88 10 + 1)) 96 = M1 96 := by rw [mu_ne _ _ _ (by decide), mu_ne _ _ _ (by decide)]
                  have HT : tI (mu (mu M1 88 11 1) 88 10 (M1 88 10 + 1)) := by unfold tI; rw [f10, f8]; omega
                  have HA : ∀ i : Nat, (i : Int) < (mu (mu M1 88 11 1) 88 10 (M1 88 10 + 1)) 88 10 → ¬ f_er ((mu (mu M1 88 11 1) 88 10 (M1 88 10 + 1)) 94) i := fun i hi => by rw [f10] at hi; rw [f94]; exact n1 i hi
                  have HB : f_tr_ ((mu (mu M1 88 11 1) 88 10 (M1 88 10 + 1)) 94) ((mu (mu M1 88 11 1) 88 10 (M1 88 10 + 1)) 88 10).toNat = row + 1 := by rw [f94, f10]; exact n2
                  have HC : f_tc_ ((mu (mu M1 88 11 1) 88 10 (M1 88 10 + 1)) 94) ((mu (mu M1 88 11 1) 88 10 (M1 88 10 + 1)) 88 10).toNat = 0 := by rw [f94, f10]; exact n3
                  have HD : ∀ q : Int, 0 ≤ q → q < 25 → (mu (mu M1 88 11 1) 88 10 (M1 88 10 + 1)) 96 q = f_rp ((mu (mu M1 88 11 1) 88 10 (M1 88 10 + 1)) 94) ((mu (mu M1 88 11 1) 88 10 (M1 88 10 + 1)) 88 10).toNat q := fun q q0 q1 => by rw [f96, f94, f10]; exact n4 q q0 q1
                  refine jw_callV hC (c_X5_readsRow l E _ HT (row + 1) ⟨by omega, by omega⟩ HA HB HC HD) sV_X5_139 ewF_m0.o dX5_readsAll_107 rfl rfl ⟨Nat.le_of_ble_eq_true rfl, Nat.le_of_ble_eq_true rfl⟩ ⟨Nat.zero_le _, Nat.zero_le _⟩ (Nat.le_of_ble_eq_true rfl) (fun v107 M107 g107 => ?_)
                  skip
                  refine jw_goto (tgt := 33) hC dX5_readsAll_110 (by decide) ?_
                  refine jw_loc (L' := [(0, _), (1, _)]) [1, 0] rfl ?_
                  obtain ⟨rfl, z, r1, r2, r3, r4, r5, r6, r7, r8, r9, r10⟩ := g107
                  rw [f10] at r1 r5 r7 r9
                  rw [f8] at r2 r6
                  rw [f94] at r3 r4 r5 r6 r8 r9
                  refine ih (row + 1) _ (by omega) (by omega) (by omega) (by rw [r7 10, if_pos rfl]; omega) (Or.inl ⟨by omega, by omega, M1 88 10 + 1, by omega, ?_⟩) (fun k k1 k2 => ?_) (fun o o1 o2 => ?_)
                  · rw [r7 10, if_pos rfl, r7 11, if_neg (by decide), if_pos rfl]
                    exact ⟨r1, r2, r3, r4, r5, r6, rfl, r9, fun _ => by rw [show M1 88 10 + 1 - 1 = M1 88 10 by omega]; exact h61, r8⟩
                  · rw [r7 k, if_neg k1, if_neg k2, mu_nk _ _ _ k1, mu_nk _ _ _ k2, g1 k k1 k2]
                  · rw [r10 o o1 o2, mu_ne _ _ _ o1, mu_ne _ _ _ o1, g2 o o1 o2]
  have K2 : ∀ (n : Nat) (k : Int) (g : Int → Int), 25 - k < n → 0 ≤ k → k ≤ 25 → (∀ q : Int, g q = if 0 ≤ q ∧ q < k then 0 else M 96 q) → jJ zp l ze (ct_rm 4) zs zm za zb zt zc E zA 2 0 0 (MQ zb (ct_Q E zA (fun v M1 => v = none ∧ ∃ x : Int, f_fw (M 94) (M 88 8) x ∧ M1 88 10 = x ∧ M1 88 11 = rd_w (M 94) (M 88 8) x ∧ (M1 88 11 = 1 → ∀ q : Int, 0 ≤ q → q < 25 → M1 96 q = f_rp (M 94) (M 88 8).toNat q) ∧ (∀ k : Int, k ≠ 10 → k ≠ 11 → M1 88 k = M 88 k) ∧ ∀ o, o ≠ 88 → o ≠ 96 → M1 o = M o)) za zs 0 0 zA) 2 [(0, vR E 88), (1, vI k)] [] (mset M 96 g) := by
    intro n
    induction n with
    | zero => intros; omega
    | succ n ih =>
      intro k g i1 i2 i3 hg
      refine jw_iload_n hC dX5_readsAll_2 1 rfl rfl ?_
      refine jw_bipush hC dX5_readsAll_3 (by decide) ?_
      refine jw_icmp_ge (tgt := 21) hC dX5_readsAll_5 (by decide) (by omega) (by omega) (by omega) (by omega) (fun h5 => ?_) (fun h5 => ?_)
      · skip
        refine jw_aload_n hC dX5_readsAll_21 0 rfl rfl ?_
        refine jw_iconst hC dX5_readsAll_22 ?_
        refine jw_puti hC fL_X5_125 ewF_m10 (kI := 10) rfl dX5_readsAll_23 (by omega) (by omega) ?_
        refine jw_iconst hC dX5_readsAll_26 ?_
        refine jw_istore_n (L' := [(1, _), (0, _)]) hC dX5_readsAll_27 rfl (by decide) rfl ?_
        refine jw_aload_n hC dX5_readsAll_28 1 rfl rfl ?_
        refine jw_iload_n hC dX5_readsAll_29 0 rfl rfl ?_
        have f10 : (mu (mset M 96 g) 88 10 0) 88 10 = 0 := mu_eq _ _ _ _
        have f8 : (mu (mset M 96 g) 88 10 0) 88 8 = M 88 8 := by rw [mu_nk _ _ _ (by decide), mset_ne _ _ (by decide)]
        have f94 : (mu (mset M 96 g) 88 10 0) 94 = M 94 := by rw [mu_ne _ _ _ (by decide), mset_ne _ _ (by decide)]
        have f96 : (mu (mset M 96 g) 88 10 0) 96 = g := by rw [mu_ne _ _ _ (by decide), mset_at]
        have HT0 : tI (mu (mset M 96 g) 88 10 0) := by unfold tI; rw [f10, f8]; omega
        have HA0 : ∀ i : Nat, (i : Int) < (mu (mset M 96 g) 88 10 0) 88 10 → ¬ f_er ((mu (mset M 96 g) 88 10 0) 94) i := fun i hi => by rw [f10] at hi; omega
        have HA1 : ∀ q : Int, 0 ≤ q → q < 25 → (mu (mset M 96 g) 88 10 0) 96 q = f_rp ((mu (mset M 96 g) 88 10 0) 94) ((mu (mset M 96 g) 88 10 0) 88 10).toNat q := fun q q0 q1 => by rw [f96, f10, hg q, if_pos (by omega)]; rfl
        refine jw_callV hC (c_X5_readsRow l E _ HT0 0 ⟨by omega, by omega⟩ HA0 rfl rfl HA1) sV_X5_139 ewF_m0.o dX5_readsAll_30 rfl rfl ⟨Nat.le_of_ble_eq_true rfl, Nat.le_of_ble_eq_true rfl⟩ ⟨Nat.zero_le _, Nat.zero_le _⟩ (Nat.le_of_ble_eq_true rfl) (fun v30 M30 g30 => ?_)
        obtain ⟨rfl, z, r1, r2, r3, r4, r5, r6, r7, r8, r9, r10⟩ := g30
        rw [f10, f8, f94] at *
        refine jw_loc (L' := [(0, _), (1, _)]) [1, 0] rfl ?_
        refine K33 7 0 _ (by omega) (by omega) (by omega) (by rw [r7 10, if_pos rfl]; omega) (Or.inl ⟨by omega, by omega, 0, by omega, ?_⟩) (fun k k1 k2 => ?_) (fun o o1 o2 => ?_)
        · rw [r7 10, if_pos rfl, r7 11, if_neg (by decide), if_pos rfl]
          exact ⟨r1, r2, r3, r4, by omega, r6, rfl, r9, fun z => by omega, r8⟩
        · rw [r7 k, if_neg k1, if_neg k2, mu_nk _ _ _ k1, mset_ne _ _ (by decide)]
        · rw [r10 o o1 o2, mu_ne _ _ _ o1, mset_ne _ _ o2]
      · skip
        refine jw_aload_n hC dX5_readsAll_8 0 rfl rfl ?_
        refine jw_getr hC fL_X5_32 ewR_m12 dX5_readsAll_9 ?_
        refine jw_iload_n hC dX5_readsAll_12 1 rfl rfl ?_
        refine jw_iconst hC dX5_readsAll_13 ?_
        refine jw_iast hC ewA_96 dX5_readsAll_14 (by omega) (by omega) (by decide) (by omega) (by omega) ?_
        refine jw_iinc (L' := [(1, _), (0, _)]) hC dX5_readsAll_15 1 rfl (by decide) rfl ?_
        refine jw_goto (tgt := 2) hC dX5_readsAll_18 (by decide) ?_
        refine jw_loc (L' := [(0, _), (1, _)]) [1, 0] rfl ?_
        refine jw_M (mu_mset _ _ _ _ _) ?_
        exact ih _ _ (by omega) (by omega) (by omega) (fun q => by
          by_cases hq : q = k
          · rw [if_pos hq, if_pos (by omega)]
          · rw [if_neg hq, hg]
            by_cases h9 : 0 ≤ q ∧ q < k
            · rw [if_pos h9, if_pos (by omega)]
            · rw [if_neg h9, if_neg (by omega)])
  refine jw_iconst hC dX5_readsAll_0 ?_
  refine jw_istore_n (L' := [(1, _), (0, _)]) hC dX5_readsAll_1 rfl (by decide) rfl ?_
  refine jw_loc (L' := [(0, _), (1, _)]) [1, 0] rfl ?_
  refine jw_M (M2 := mset M 96 (M 96)) (mset_id (fun _ => rfl)).symm ?_
  exact K2 26 0 _ (by omega) (by omega) (by omega) (fun q => by rw [if_neg (by omega)])
set_option maxRecDepth 100000 in
set_option maxHeartbeats 4000000 in
theorem c_X5_hashes (l : Launch) (E : ewE) (M : ewM) (v : Int) : Ct l E yX5_hashes (.code yX5_hashes cX5_hashes 3 none) 0 [vR E 88, vJ v] M (fun v1 M1 => v1 = none ∧ M1 = mu M 88 13 (31 * M 88 13 + v)) := by
  refine ct_of (L0 := [(0, vR E 88), (1, vJ v)]) (by decide +kernel) rfl (Nat.le_of_ble_eq_true rfl) ?_
  intro zp ze zs zm za zb zt zc zA hC
  refine jw_aload_n hC dX5_hashes_0 0 rfl rfl ?_
  refine jw_ldc2 (n := 31) hC dX5_hashes_1 w6_181 ?_
  refine jw_aload_n hC dX5_hashes_4 0 rfl rfl ?_
  refine jw_getj hC fL_X5_201.r dX5_hashes_5 ?_
  refine jw_lmul hC dX5_hashes_8 ?_
  refine jw_lload_n hC dX5_hashes_9 1 rfl rfl ?_
  refine jw_ladd hC dX5_hashes_10 ?_
  refine jw_putj hC fL_X5_201 dX5_hashes_11 ?_
  refine jw_vret hC dX5_hashes_14 ?_
  exact ⟨rfl, rfl⟩
/-- what is hashed so far; the buffers of the looks aside, nothing else has changed -/
def hs_ (M M1 : ewM) (H : Int) : Prop := M1 88 13 = H ∧ (∀ k : Int, k ≠ 13 → M1 88 k = M 88 k) ∧ ∀ o : Nat, o ≠ 88 → o ≠ 90 → o ≠ 95 → M1 o = M o
theorem hs_0 (M : ewM) : hs_ M M (M 88 13) := ⟨rfl, fun _ _ => rfl, fun _ _ _ _ => rfl⟩
theorem hs_k {M M1 M2 : ewM} {H : Int} (h : hs_ M M1 H) (k : mk M1 M2) : hs_ M M2 H := by
  obtain ⟨a1, a2, a3⟩ := h
  refine ⟨by rw [k 88 (by decide) (by decide), a1], fun q hq => by rw [k 88 (by decide) (by decide), a2 q hq], fun o o1 o2 o3 => by rw [k o o2 o3, a3 o o1 o2 o3]⟩
theorem hs_s {M M1 : ewM} {H : Int} (h : hs_ M M1 H) (x : Int) : hs_ M (mu M1 88 13 (31 * M1 88 13 + x)) (31 * H + x) := by
  obtain ⟨a1, a2, a3⟩ := h
  refine ⟨by rw [mu_eq, a1], fun q hq => by rw [mu_nk _ _ _ hq, a2 q hq], fun o o1 o2 o3 => by rw [mu_ne _ _ _ o1, a3 o o1 o2 o3]⟩
theorem hs_tr {M M1 M2 : ewM} {H G : Int} (h : hs_ M M1 H) (k : hs_ M1 M2 G) : hs_ M M2 G := by
  obtain ⟨a1, a2, a3⟩ := h
  obtain ⟨b1, b2, b3⟩ := k
  exact ⟨b1, fun q hq => (b2 q hq).trans (a2 q hq), fun o o1 o2 o3 => (b3 o o1 o2 o3).trans (a3 o o1 o2 o3)⟩
/-- the looks of a die -/
def g_die (f : Int → Int) (a w : Int) : Int := if w = 0 then m_ans f (f_rel (vQ f) a 0) 3 4 else if w = 1 then f_bs (fun k => m_ans f (f_rel (vQ f) a 0) (k % 12) (k / 12)) 144 else if w = 2 then f_lt (vQ f) a 0 8 0 else f_need (f_rel (vQ f) a 0) (3 + f 4) 4 (vD f) (vC f) (f 1) (f 2)
theorem g_die_h (f : Int → Int) (a h : Int) : f_h (g_die f a) 4 h = 31 * (31 * (31 * (31 * h + g_die f a 0) + g_die f a 1) + g_die f a 2) + g_die f a 3 := rfl
set_option maxRecDepth 100000 in
set_option maxHeartbeats 4000000 in
theorem c_X5_hashesDie (l : Launch) (E : ewE) (M : ewM) (h0 : svI (M 89)) (a : Int) (ha : 0 ≤ a ∧ a < 3) : Ct l E yX5_hashesDie (.code yX5_hashesDie cX5_hashesDie 2 none) 9 [vR E 88, vI a] M (fun v M1 => v = none ∧ hs_ M M1 (f_h (g_die (M 89) a) 4 (M 88 13))) := by
  refine ct_of (L0 := [(0, vR E 88), (1, vI a)]) (by decide +kernel) rfl (Nat.le_of_ble_eq_true rfl) ?_
  intro zp ze zs zm za zb zt zc zA hC
  obtain ⟨p1, p2, p3, p4, p5, p6, p7, p8, p9, pf⟩ := id h0
  refine jw_aload_n hC dX5_hashesDie_0 0 rfl rfl ?_
  refine jw_aload_n hC dX5_hashesDie_1 0 rfl rfl ?_
  refine jw_iload_n hC dX5_hashesDie_2 1 rfl rfl ?_
  refine jw_iconst hC dX5_hashesDie_3 ?_
  refine jw_iconst hC dX5_hashesDie_4 ?_
  refine jw_iconst hC dX5_hashesDie_5 ?_
  refine jw_callV hC (c_X5_would l E M h0 a ha 3 4 (by decide) (by decide) (by decide) (by decide) 0 (by decide)) sV_X5_171 ewF_m0.o dX5_hashesDie_6 rfl rfl ⟨Nat.le_of_ble_eq_true rfl, Nat.le_of_ble_eq_true rfl⟩ ⟨Nat.zero_le _, Nat.zero_le _⟩ (Nat.le_of_ble_eq_true rfl) (fun v6 M6 g6 => ?_)
  obtain ⟨rfl, k6⟩ := g6
  have b6 := m_ans_b h0 (f_rel (vQ (M 89)) a 0) 3 4
  refine jw_i2l hC dX5_hashesDie_9 (by omega) (by omega) ?_
  refine jw_callV hC (c_X5_hashes l E _ _) sV_X5_205 ewF_m0.o dX5_hashesDie_10 rfl rfl ⟨Nat.le_of_ble_eq_true rfl, Nat.le_of_ble_eq_true rfl⟩ ⟨Nat.zero_le _, Nat.zero_le _⟩ (Nat.le_of_ble_eq_true rfl) (fun v10 M10 g10 => ?_)
  obtain ⟨rfl, rfl⟩ := g10
  have a10 := hs_s (hs_k (hs_0 M) k6) (m_ans (M 89) (f_rel (vQ (M 89)) a 0) 3 4)
  generalize hz10 : mu M6 88 13 (31 * M6 88 13 + m_ans (M 89) (f_rel (vQ (M 89)) a 0) 3 4) = N10 at a10 ⊢
  have e10 := a10.2.2 89 (by decide) (by decide) (by decide)
  refine jw_aload_n hC dX5_hashesDie_13 0 rfl rfl ?_
  refine jw_aload_n hC dX5_hashesDie_14 0 rfl rfl ?_
  refine jw_iload_n hC dX5_hashesDie_15 1 rfl rfl ?_
  refine jw_iconst hC dX5_hashesDie_16 ?_
  refine jw_callV hC (c_X5_gentlestPlace l E N10 (by rw [e10]; exact h0) a ha 0 (by decide)) sV_X5_175 ewF_m0.o dX5_hashesDie_17 rfl rfl ⟨Nat.le_of_ble_eq_true rfl, Nat.le_of_ble_eq_true rfl⟩ ⟨Nat.zero_le _, Nat.zero_le _⟩ (Nat.le_of_ble_eq_true rfl) (fun v17 M17 g17 => ?_)
  obtain ⟨rfl, k17⟩ := g17
  rw [e10]
  have b17 := f_bs_b (fun k => m_ans (M 89) (f_rel (vQ (M 89)) a 0) (k % 12) (k / 12)) 144 (by decide)
  have a17 := hs_k a10 k17
  refine jw_i2l hC dX5_hashesDie_20 (by omega) (by omega) ?_
  refine jw_callV hC (c_X5_hashes l E _ _) sV_X5_205 ewF_m0.o dX5_hashesDie_21 rfl rfl ⟨Nat.le_of_ble_eq_true rfl, Nat.le_of_ble_eq_true rfl⟩ ⟨Nat.zero_le _, Nat.zero_le _⟩ (Nat.le_of_ble_eq_true rfl) (fun v21 M21 g21 => ?_)
  obtain ⟨rfl, rfl⟩ := g21
  have a21 := hs_s a17 (f_bs (fun k => m_ans (M 89) (f_rel (vQ (M 89)) a 0) (k % 12) (k / 12)) 144)
  generalize hz21 : mu M17 88 13 _ = N21 at a21 ⊢
  have e21 := a21.2.2 89 (by decide) (by decide) (by decide)
  refine jw_aload_n hC dX5_hashesDie_24 0 rfl rfl ?_
  refine jw_aload_n hC dX5_hashesDie_25 0 rfl rfl ?_
  refine jw_iload_n hC dX5_hashesDie_26 1 rfl rfl ?_
  refine jw_iconst hC dX5_hashesDie_27 ?_
  refine jw_callV hC (c_X5_alikeBy l E N21 (by rw [e21]; exact h0) a ha 0 (by decide)) sV_X5_187 ewF_m0.o dX5_hashesDie_28 rfl rfl ⟨Nat.le_of_ble_eq_true rfl, Nat.le_of_ble_eq_true rfl⟩ ⟨Nat.zero_le _, Nat.zero_le _⟩ (Nat.le_of_ble_eq_true rfl) (fun v28 M28 g28 => ?_)
  obtain ⟨rfl, rfl⟩ := g28
  rw [e21]
  have b28 := f_lt_b (vQ (M 89)) a 0 8 0 (by decide)
  refine jw_i2l hC dX5_hashesDie_31 (by omega) (by omega) ?_
  refine jw_callV hC (c_X5_hashes l E _ _) sV_X5_205 ewF_m0.o dX5_hashesDie_32 rfl rfl ⟨Nat.le_of_ble_eq_true rfl, Nat.le_of_ble_eq_true rfl⟩ ⟨Nat.zero_le _, Nat.zero_le _⟩ (Nat.le_of_ble_eq_true rfl) (fun v32 M32 g32 => ?_)
  obtain ⟨rfl, rfl⟩ := g32
  have a32 := hs_s a21 (f_lt (vQ (M 89)) a 0 8 0)
  generalize hz32 : mu N21 88 13 _ = N32 at a32 ⊢
  have e32_ := a32.2.2 89 (by decide) (by decide) (by decide)
  refine jw_aload_n hC dX5_hashesDie_35 0 rfl rfl ?_
  refine jw_aload_n hC dX5_hashesDie_36 0 rfl rfl ?_
  refine jw_iload_n hC dX5_hashesDie_37 1 rfl rfl ?_
  refine jw_iconst hC dX5_hashesDie_38 ?_
  refine jw_iconst hC dX5_hashesDie_39 ?_
  refine jw_iconst hC dX5_hashesDie_40 ?_
  refine jw_callV hC (c_X5_neededFor l E N32 (by rw [e32_]; exact h0) a ha 3 4 (by decide) (by decide) (by decide) (by decide) 0 (by decide)) sV_X5_190 ewF_m0.o dX5_hashesDie_41 rfl rfl ⟨Nat.le_of_ble_eq_true rfl, Nat.le_of_ble_eq_true rfl⟩ ⟨Nat.zero_le _, Nat.zero_le _⟩ (Nat.le_of_ble_eq_true rfl) (fun v41 M41 g41 => ?_)
  obtain ⟨rfl, k41⟩ := g41
  rw [e32_]
  have b41 := f_need_b (r := f_rel (vQ (M 89)) a 0) (d := vD (M 89)) (c := vC (M 89)) (left := 3 + M 89 4) (top := 4) (t := M 89 1) (deep := M 89 2) (f_rel_D p3 a 0) p1 p2 p5
  have a41 := hs_k a32 k41
  refine jw_i2l hC dX5_hashesDie_44 (by omega) (by omega) ?_
  refine jw_callV hC (c_X5_hashes l E _ _) sV_X5_205 ewF_m0.o dX5_hashesDie_45 rfl rfl ⟨Nat.le_of_ble_eq_true rfl, Nat.le_of_ble_eq_true rfl⟩ ⟨Nat.zero_le _, Nat.zero_le _⟩ (Nat.le_of_ble_eq_true rfl) (fun v45 M45 g45 => ?_)
  obtain ⟨rfl, rfl⟩ := g45
  have a45 := hs_s a41 (f_need (f_rel (vQ (M 89)) a 0) (3 + M 89 4) 4 (vD (M 89)) (vC (M 89)) (M 89 1) (M 89 2))
  refine jw_vret hC dX5_hashesDie_48 ?_
  exact ⟨rfl, a45⟩
