/-! THE LAW'S INVARIANT: every state of the object, behind at most K calls -/
def Lw (K : Int) (M : ewM) : Prop := (∀ j : Nat, j < 9 → SI K (sj M j)) ∧ (0 ≤ M 77 4 ∧ M 77 4 ≤ 5) ∧ (0 ≤ M 77 5 ∧ M 77 5 ≤ 6)
theorem Lw_mono {K K2 : Int} {M : ewM} (h : Lw K M) (hk : K ≤ K2) : Lw K2 M := ⟨fun j hj => SI_mono (h.1 j hj) hk, h.2⟩
theorem Lw_st0 {K : Int} {M : ewM} (h : Lw K M) : st0 M := SI_st0 (h.1 0 (by decide))
theorem Lw_holds {K : Int} {M : ewM} (h : Lw K M) : (∀ q : Int, 0 < M 1 q ↔ 0 < M 4 q) ∧ (∀ q : Int, 0 ≤ M 2 q ∧ M 2 q ≤ 9) ∧ f_sum (M 3) 144 ≤ M 50 7 := by
  obtain ⟨a1, a2, a3, a4, a5, a6, a7, a8, a9, a10, a11, a12, a13⟩ := h.1 0 (by decide)
  have n7 : s_n (sj M 0) 7 = M 50 7 := pn_in (M 50) (k := 7) (by decide) (by decide)
  rw [n7] at a12
  exact ⟨fun q => (a9 q).1, a10, a12⟩
theorem Lw_7 {K : Int} {M : ewM} (h : Lw K M) : 0 ≤ M 50 7 ∧ M 50 7 ≤ 144 * K := by
  obtain ⟨a1, a2, a3, a4, a5, a6, a7, a8, a9, a10, a11, a12, a13⟩ := h.1 0 (by decide)
  have n7 : s_n (sj M 0) 7 = M 50 7 := pn_in (M 50) (k := 7) (by decide) (by decide)
  rw [n7] at a12 a13
  have := (f_sum_C a2).1
  exact ⟨by omega, a13⟩
theorem M0_sj {j : Nat} (hj : j < 9) : sj M0 j = (fun _ => 0, fun _ => 0, fun _ => 0, fun _ => 0, fun _ => 0, fun k => g_first k.toNat, pn (fun k => if k = 8 then 1 else 0)) := by
  unfold sj
  rw [M0_sheet (by omega), M0_sheet (by omega), M0_sheet (by omega), M0_sheet (by omega), M0_pts hj, M0_set hj, M0_obj hj]
theorem Lw_M0 : Lw 0 M0 := by
  refine ⟨fun j hj => ?_, ⟨?_, ?_⟩, ⟨?_, ?_⟩⟩
  · rw [M0_sj hj]
    refine ⟨fun _ => ⟨Int.le_refl _, by show (0 : Int) ≤ 9; decide⟩, fun _ => ⟨Int.le_refl _, by show (0 : Int) ≤ 1; decide⟩, fun _ => ⟨Int.le_refl _, by show (0 : Int) ≤ 9; decide⟩, ⟨?_, ?_⟩, ⟨?_, ?_⟩, ⟨?_, ?_⟩, ⟨?_, ?_⟩, ⟨?_, ?_⟩, fun q => ⟨Iff.rfl, Int.le_refl _, by show (0 : Int) ≤ 25 * 0; decide⟩, fun _ => ⟨Int.le_refl _, by show (0 : Int) ≤ 9; decide⟩, ⟨?_, ?_⟩, ?_, ?_⟩
    · show (0 : Int) ≤ 12; decide
    · show (12 : Int) ≤ 99; decide
    · show (0 : Int) ≤ 3; decide
    · show (3 : Int) ≤ 20; decide
    · show (1 : Int) ≤ 9; decide
    · show (9 : Int) ≤ 9; decide
    · show (0 : Int) ≤ 0; decide
    · show (0 : Int) ≤ 9; decide
    · show (0 : Int) ≤ 0; decide
    · show (0 : Int) ≤ 3; decide
    · show (0 : Int) ≤ 0; decide
    · show (0 : Int) ≤ 9; decide
    · show f_sum (fun _ => 0) 144 ≤ 0
      rw [f_sum_0]
      decide
    · show (0 : Int) ≤ 144 * 0; decide
  all_goals
    rw [M0_0 (by decide)]
    decide
theorem f_act_SI {K kd v w : Int} {S : sT} (hK : 0 ≤ K ∧ K ≤ 100) (h : SI K S) : SI (K + 1) (f_act kd v w S).2 := by
  have l1 := f_lo_b (i_shr v 6) (n := 9) (by decide)
  have l2 := f_lo_b w (n := 4) (by decide)
  have l3 := f_lo_b (i_shr w 6) (n := 10) (by decide)
  unfold f_act
  split
  · split
    · exact SI_sheet hK h
    · exact SI_pin h
  · split
    · exact SI_pin h
    · split
      · exact SI_foil (by omega) h
      · split
        · exact (SI_fold hK h).1
        · split
          · exact SI_set l2 (f_sv_ok w l2) h
          · split
            · exact SI_cast h
            · split
              · exact (SI_press hK h).1
              · exact SI_point (by omega) h
theorem f_act_fold {K v w : Int} {S : sT} (hK : 0 ≤ K ∧ K ≤ 100) (h : SI K S) : s_n (f_act 3 v w S).2 7 = s_n S 7 + (f_act 3 v w S).1 ∧ f_set (s_d (f_act 3 v w S).2) (s_c (f_act 3 v w S).2) (s_t (f_act 3 v w S).2 0) (s_t (f_act 3 v w S).2 1) := (SI_fold (r := 1 + f_lo w 11) hK h).2
theorem f_act_press {K kd v w : Int} {S : sT} (hK : 0 ≤ K ∧ K ≤ 100) (h : SI K S) (hk : 6 ≤ kd ∧ kd ≤ 10) (hr : 100 ≤ (f_act kd v w S).1) : s_n (f_act kd v w S).2 7 = s_n S 7 + (f_act kd v w S).1 - 100 ∧ s_n (f_act kd v w S).2 10 = 0 ∧ f_set (s_d (f_act kd v w S).2) (s_c (f_act kd v w S).2) (s_t (f_act kd v w S).2 0) (s_t (f_act kd v w S).2 1) := by
  have e : f_act kd v w S = o_press (f_lo (i_shr v 4) 3) (f_lo w 12 - 2) (f_lo (i_shr w 4) 12 - 2) (f_lo (i_shr w 8) 8) S := by
    unfold f_act
    rw [if_neg (by omega), if_neg (by omega), if_neg (by omega), if_neg (by omega), if_neg (by omega), if_neg (by omega), if_pos (by omega)]
  rw [e] at hr ⊢
  exact (SI_press hK h).2 hr
theorem f_sum_25 {g : Int → Int} (h : ∀ k : Int, 0 ≤ g k ∧ g k ≤ 1) : 0 ≤ f_sum g 25 ∧ f_sum g 25 ≤ 25 := by
  have := f_sum_le (g := g) (a := 0) (b := 1) (fun k _ _ => h k) 25 (by decide)
  omega
theorem f_act_b {K kd v w : Int} {S : sT} (hK : 0 ≤ K ∧ K ≤ 100) (h : SI K S) : -1000 ≤ (f_act kd v w S).1 ∧ (f_act kd v w S).1 ≤ 1000 := by
  obtain ⟨a1, a2, a3, a4, a5, a6, a7, a8, a9, a10, a11, a12, a13⟩ := h
  have hs := f_sum_C a2
  unfold f_act
  split
  · split
    · show -1000 ≤ f_sum (s_c S) 144 ∧ f_sum (s_c S) 144 ≤ 1000
      omega
    · show -1000 ≤ s_n S 3 ∧ s_n S 3 ≤ 1000
      omega
  · split
    · show -1000 ≤ s_n S 3 ∧ s_n S 3 ≤ 1000
      omega
    · split
      · have l2 := f_lo_b w (n := 12) (by decide)
        have l3 := f_lo_b (i_shr w 4) (n := 12) (by decide)
        have l5 := f_lo_b (i_shr w 8) (n := 12 - f_lo w 12) (by omega)
        have l6 := f_lo_b (i_shr w 12) (n := 12 - f_lo (i_shr w 4) 12) (by omega)
        show -1000 ≤ (f_lo w 12 + f_lo (i_shr w 8) (12 - f_lo w 12) - f_lo w 12 + 1) * (f_lo (i_shr w 4) 12 + f_lo (i_shr w 12) (12 - f_lo (i_shr w 4) 12) - f_lo (i_shr w 4) 12 + 1) ∧ (f_lo w 12 + f_lo (i_shr w 8) (12 - f_lo w 12) - f_lo w 12 + 1) * (f_lo (i_shr w 4) 12 + f_lo (i_shr w 12) (12 - f_lo (i_shr w 4) 12) - f_lo (i_shr w 4) 12 + 1) ≤ 1000
        have h1 : 0 ≤ (f_lo w 12 + f_lo (i_shr w 8) (12 - f_lo w 12) - f_lo w 12 + 1) * (f_lo (i_shr w 4) 12 + f_lo (i_shr w 12) (12 - f_lo (i_shr w 4) 12) - f_lo (i_shr w 4) 12 + 1) := Int.mul_nonneg (by omega) (by omega)
        have h2 : (f_lo w 12 + f_lo (i_shr w 8) (12 - f_lo w 12) - f_lo w 12 + 1) * (f_lo (i_shr w 4) 12 + f_lo (i_shr w 12) (12 - f_lo (i_shr w 4) 12) - f_lo (i_shr w 4) 12 + 1) ≤ 12 * 12 := Int.mul_le_mul (by omega) (by omega) (by omega) (by decide)
        omega
      · split
        · have := f_fc_b (d := s_d S) (c := s_c S) (1 + f_lo w 11) (s_t S 0) (s_t S 1) a2
          show -1000 ≤ f_fc (s_d S) (s_c S) (1 + f_lo w 11) (s_t S 0) (s_t S 1) ∧ f_fc (s_d S) (s_c S) (1 + f_lo w 11) (s_t S 0) (s_t S 1) ≤ 1000
          omega
        · split
          · have l2 := f_lo_b w (n := 4) (by decide)
            show -1000 ≤ s_t S (f_lo w 4) ∧ s_t S (f_lo w 4) ≤ 1000
            generalize f_lo w 4 = a at l2
            rcases (show a = 0 ∨ a = 1 ∨ a = 2 ∨ a = 3 by omega) with rfl | rfl | rfl | rfl <;> omega
          · split
            · have := f_sum_25 (g := fun k => if 0 < f_cq (s_d S) (s_q S) (f_lo (i_shr v 4) 3) (f_lo w 12) (f_lo (i_shr w 4) 12) (f_lo (i_shr v 4) 3 * 25 + k) then 1 else 0) (fun k => by split <;> omega)
              show -1000 ≤ f_sum (fun k => if 0 < f_cq (s_d S) (s_q S) (f_lo (i_shr v 4) 3) (f_lo w 12) (f_lo (i_shr w 4) 12) (f_lo (i_shr v 4) 3 * 25 + k) then 1 else 0) 25 ∧ f_sum (fun k => if 0 < f_cq (s_d S) (s_q S) (f_lo (i_shr v 4) 3) (f_lo w 12) (f_lo (i_shr w 4) 12) (f_lo (i_shr v 4) 3 * 25 + k) then 1 else 0) 25 ≤ 1000
              omega
            · split
              · have h1 : ∀ a x y t : Int, -1000 ≤ (o_press a x y t S).1 ∧ (o_press a x y t S).1 ≤ 1000 := fun a x y t => by
                  have h2 := f_rsn_b (f_rel (s_q S) a t) (x + s_n S 3) y (s_t S 2)
                  have h3 := f_cks_b (r := f_rel (s_q S) a t) (left := x + s_n S 3) (top := y) (d := s_d S) (b := s_t S 0) (t := s_t S 1) a2
                  have h4 : f_why a x y t S = f_rsn (f_rel (s_q S) a t) (x + s_n S 3) y (s_t S 2) := rfl
                  have h5 : f_pk a x y t S = f_cks (f_rel (s_q S) a t) (x + s_n S 3) y (s_d S) (s_c S) (s_t S 0) (s_t S 1) := rfl
                  unfold o_press
                  split
                  · show -1000 ≤ 100 + f_pk a x y t S ∧ 100 + f_pk a x y t S ≤ 1000
                    omega
                  · show -1000 ≤ f_why a x y t S ∧ f_why a x y t S ≤ 1000
                    omega
                exact h1 _ _ _ _
              · have := a3 (f_lo (i_shr v 4) 3 * 25 + f_lo (i_shr w 3) 5 * 5 + f_lo w 5)
                show -1000 ≤ s_q S (f_lo (i_shr v 4) 3 * 25 + f_lo (i_shr w 3) 5 * 5 + f_lo w 5) ∧ s_q S (f_lo (i_shr v 4) 3 * 25 + f_lo (i_shr w 3) 5 * 5 + f_lo w 5) ≤ 1000
                omega
theorem Lw_act {K : Int} {M M1 : ewM} {r : Int × sT} (h : Lw K M) (hr : SI (K + 1) r.2) (e : sj M1 0 = r.2) (hs : svd M M1) : Lw (K + 1) M1 := by
  obtain ⟨h1, h2, h3⟩ := h
  obtain ⟨s1, s2, s3⟩ := hs
  have hb := rg_b h2 h3
  refine ⟨fun j hj => ?_, by rw [s1]; exact hb.1, by rw [s2]; omega⟩
  by_cases h0 : j = 0
  · subst h0
    rw [e]
    exact hr
  · rw [s3 j (by omega) hj]
    split
    · exact SI_mono (h1 0 (by decide)) (by omega)
    · exact SI_mono (h1 j hj) (by omega)
theorem Lw_und {K : Int} {M M1 : ewM} (h : Lw K M) (hn : ¬ M 77 5 = 0) (hu : und M M1) : Lw K M1 := by
  obtain ⟨h1, h2, h3⟩ := h
  obtain ⟨s1, s2, s3, s4⟩ := hu
  obtain ⟨jj, hjj⟩ : ∃ jj : Nat, (jj : Int) = 3 + (M 77 4 + (M 77 5 - 1)) % 6 := ⟨(3 + (M 77 4 + (M 77 5 - 1)) % 6).toNat, by omega⟩
  refine ⟨fun j hj => ?_, by rw [s1]; exact h2, by rw [s2]; omega⟩
  by_cases h0 : j = 0
  · subst h0
    rw [s3 jj hjj]
    exact h1 jj (by omega)
  · rw [s4 j (by omega) hj]
    exact h1 j hj
/-- an undo brings back the state from before the call -/
theorem und_back {K : Int} {M M1 M2 : ewM} (h : Lw K M) (h5 : M 77 5 ≤ 5) (hs : svd M M1) (hu : und M1 M2) : sj M2 0 = sj M 0 := by
  obtain ⟨h1, h2, h3⟩ := h
  obtain ⟨s1, s2, s3⟩ := hs
  obtain ⟨u1, u2, u3, u4⟩ := hu
  have eo : rg_o M = M 77 4 := if_neg (by omega)
  have en : rg_n M = M 77 5 := if_neg (by omega)
  rw [eo] at s1 s3
  rw [en] at s2 s3
  obtain ⟨jj, hjj⟩ : ∃ jj : Nat, (jj : Int) = 3 + (M 77 4 + M 77 5) % 6 := ⟨(3 + (M 77 4 + M 77 5) % 6).toNat, by omega⟩
  rw [u3 jj (by rw [s1, s2, hjj]; omega), s3 jj (by omega) (by omega), if_pos hjj]
