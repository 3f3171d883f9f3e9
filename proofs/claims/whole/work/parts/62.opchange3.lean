/-! WHAT A CALL DOES on both sides: texts, snapshots, undo -/
def hp_append (M : ewM) (a : Int) : Option Value → ewM → Prop := fun v M1 => (v = some (vI 0) ∧ ∃ (z9 : Int) (M0 : ewM), cp_append M a (some (vI z9)) M0 ∧ M1 = mu M0 97 0 (wr z9)) ∨ (v = some (vI 1) ∧ (¬ (33 ≤ a ∧ a ≤ 126)) ∧ M1 = M) ∨ (v = some (vI 2) ∧ ((33 ≤ a ∧ a ≤ 126) ∧ ¬ M 81 1 < 40) ∧ M1 = M)
theorem m_append (l : Launch) (E : ewE) {M : ewM} (a : Int) (a1 : -2147483648 ≤ a) (a2 : a < 2147483648) (h : Rl M) {v1 : Option Value} {M1 : ewM} (hH : hp_append M a v1 M1) : ∃ kk : Int, v1 = some (vI kk) ∧ (0 ≤ kk ∧ kk ≤ 2) ∧ Ct l E yX5_append (.code yX5_append cX5_append 2 (some .int)) 2 [vR E 88, vI a] M1 (okT kk) := by
  have h48 := h.2.2.2.2.1
  have hlb := h.2.2.2.1
  rcases hH with ⟨rfl, z9, M0, ⟨hok, hv, rfl⟩, rfl⟩ | ⟨rfl, hn, rfl⟩ | ⟨rfl, hn, rfl⟩
  · have f88 : (mu (mu (mu M 82 (M 81 1) a) 81 1 (M 81 1 + 1)) 97 0 (wr z9)) 88 = M 88 := by rw [mu_ne _ _ _ (by decide), mu_ne _ _ _ (by decide), mu_ne _ _ _ (by decide)]
    refine ⟨0, rfl, by omega, ct_mono (c_X5_append l E _ a a1 a2 (c888 h f88)) (fun v T hT => ?_)⟩
    rw [f88] at hT
    obtain ⟨rfl, rfl⟩ := hT.2.2 (by omega) (by omega)
    have tM : ∀ o : Nat, o ≠ 81 → o ≠ 82 → o ≠ 88 → o ≠ 94 → o ≠ 97 → (mu (mu (mu (mu (mu (mu M 82 (M 81 1) a) 81 1 (M 81 1 + 1)) 97 0 (wr z9)) 88 0 0) 94 (M 88 8) a) 88 8 (M 88 8 + 1)) o = M o := fun o o1 o2 o3 o4 o5 => by
      rw [mu_ne _ _ _ o3, mu_ne _ _ _ o4, mu_ne _ _ _ o3, mu_ne _ _ _ o5, mu_ne _ _ _ o1, mu_ne _ _ _ o2]
    have t88 : ∀ k : Int, (mu (mu (mu (mu (mu (mu M 82 (M 81 1) a) 81 1 (M 81 1 + 1)) 97 0 (wr z9)) 88 0 0) 94 (M 88 8) a) 88 8 (M 88 8 + 1)) 88 k = if k = 8 then M 88 8 + 1 else if k = 0 then 0 else M 88 k := fun k => by
      rw [mu_at]
      show (if k = 8 then M 88 8 + 1 else (mu (mu (mu (mu (mu M 82 (M 81 1) a) 81 1 (M 81 1 + 1)) 97 0 (wr z9)) 88 0 0) 94 (M 88 8) a) 88 k) = _
      rw [mu_ne _ _ _ (by decide), mu_at]
      show (if k = 8 then M 88 8 + 1 else if k = 0 then 0 else (mu (mu (mu M 82 (M 81 1) a) 81 1 (M 81 1 + 1)) 97 0 (wr z9)) 88 k) = _
      rw [f88]
    have t81 : (mu (mu (mu (mu (mu (mu M 82 (M 81 1) a) 81 1 (M 81 1 + 1)) 97 0 (wr z9)) 88 0 0) 94 (M 88 8) a) 88 8 (M 88 8 + 1)) 81 1 = M 81 1 + 1 := by
      rw [mu_ne _ _ _ (by decide), mu_ne _ _ _ (by decide), mu_ne _ _ _ (by decide), mu_ne _ _ _ (by decide), mu_eq]
    have t82 : (mu (mu (mu (mu (mu (mu M 82 (M 81 1) a) 81 1 (M 81 1 + 1)) 97 0 (wr z9)) 88 0 0) 94 (M 88 8) a) 88 8 (M 88 8 + 1)) 82 = fun b => if b = M 81 1 then a else M 82 b := by
      rw [mu_ne _ _ _ (by decide), mu_ne _ _ _ (by decide), mu_ne _ _ _ (by decide), mu_ne _ _ _ (by decide), mu_ne _ _ _ (by decide), mu_at]
    have t94 : (mu (mu (mu (mu (mu (mu M 82 (M 81 1) a) 81 1 (M 81 1 + 1)) 97 0 (wr z9)) 88 0 0) 94 (M 88 8) a) 88 8 (M 88 8 + 1)) 94 = fun b => if b = M 88 8 then a else M 94 b := by
      rw [mu_ne _ _ _ (by decide), mu_at]
      funext b
      rw [mu_ne _ _ _ (by decide), mu_ne _ _ _ (by decide), mu_ne _ _ _ (by decide), mu_ne _ _ _ (by decide)]
    have t97 : (mu (mu (mu (mu (mu (mu M 82 (M 81 1) a) 81 1 (M 81 1 + 1)) 97 0 (wr z9)) 88 0 0) 94 (M 88 8) a) 88 8 (M 88 8 + 1)) 97 0 = wr z9 := by
      rw [mu_ne _ _ _ (by decide), mu_ne _ _ _ (by decide), mu_ne _ _ _ (by decide), mu_eq]
    generalize (mu (mu (mu (mu (mu (mu M 82 (M 81 1) a) 81 1 (M 81 1 + 1)) 97 0 (wr z9)) 88 0 0) 94 (M 88 8) a) 88 8 (M 88 8 + 1)) = T at tM t88 t81 t82 t94 t97 ⊢
    refine ⟨_, rfl, by rw [t88]; rfl, ⟨R1_cg h.1 (fun o ho => tM o (by omega) (by omega) (by omega) (by omega) (by omega)) (tM 89 (by decide) (by decide) (by decide) (by decide) (by decide)), R2_cg h.2.1 (fun o ho => tM o (by omega) (by omega) (by omega) (by omega) (by omega)) (by rw [tM 77 (by decide) (by decide) (by decide) (by decide) (by decide)]) (by rw [tM 77 (by decide) (by decide) (by decide) (by decide) (by decide)]) (by rw [t88]; rfl) (tM 91 (by decide) (by decide) (by decide) (by decide) (by decide)), R3_cg h.2.2.1 (fun o ho => tM o (by omega) (by omega) (by omega) (by omega) (by omega)) (tM 79 (by decide) (by decide) (by decide) (by decide) (by decide)) (tM 93 (by decide) (by decide) (by decide) (by decide) (by decide)) (tM 92 (by decide) (by decide) (by decide) (by decide) (by decide)), ?_⟩, fun _ => by rw [t97, vI_in hv, h48]⟩
    refine ⟨by rw [t81]; omega, ?_, ?_⟩
    · rw [t88, t81, if_pos rfl, h48]
    · rw [t82, t94, h48, h.2.2.2.2.2]
  · refine ⟨1, rfl, by omega, ct_mono (c_X5_append l E _ a a1 a2 (c888 h rfl)) (fun v T hT => ?_)⟩
    obtain ⟨rfl, rfl⟩ := hT.1 (by omega)
    exact okT_f h (by decide)
  · refine ⟨2, rfl, by omega, ct_mono (c_X5_append l E _ a a1 a2 (c888 h rfl)) (fun v T hT => ?_)⟩
    obtain ⟨rfl, rfl⟩ := hT.2.1 (by omega) (by omega)
    exact okT_f h (by decide)
def hp_load (M : ewM) (a : Int) : Option Value → ewM → Prop := fun v M1 => (v = some (vI 0) ∧ ∃ (z9 : Int) (M0 : ewM), cp_load M a (some (vI z9)) M0 ∧ M1 = mu M0 97 0 (wr z9)) ∨ (v = some (vI 1) ∧ (¬ (0 ≤ a ∧ a < 3)) ∧ M1 = M) ∨ (v = some (vI 2) ∧ ((0 ≤ a ∧ a < 3) ∧ ¬ f_tl (M 82) (M 81 1)) ∧ M1 = M)
theorem m_load (l : Launch) (E : ewE) {M : ewM} (a : Int) (a1 : -2147483648 ≤ a) (a2 : a < 2147483648) (h : Rl M) {v1 : Option Value} {M1 : ewM} (hH : hp_load M a v1 M1) : ∃ kk : Int, v1 = some (vI kk) ∧ (0 ≤ kk ∧ kk ≤ 2) ∧ Ct l E yX5_load (.code yX5_load cX5_load 3 (some .int)) 9 [vR E 88, vI a] M1 (okT kk) := by
  have h48 := h.2.2.2.2.1
  have hlb := h.2.2.2.1
  have h94 := h.2.2.2.2.2
  rcases hH with ⟨rfl, z9, M0, ⟨hok, Nc, hsc, hv, hM0⟩, rfl⟩ | ⟨rfl, hn, rfl⟩ | ⟨rfl, hn, e9⟩
  · have hF : ∀ o : Nat, o ≠ 51 → o ≠ 81 → M0 o = Nc o := fun o o1 o2 => by rw [hM0, mu_ne _ _ _ o2, mset_ne _ _ o1]
    have c51 : M0 51 = (fun q => if a * 25 ≤ q ∧ q < a * 25 + 25 then f_rp (M 82) (M 81 1).toNat (q - a * 25) else M 51 q) := by rw [hM0, mu_ne _ _ _ (by decide), mset_at]
    have c81 : M0 81 1 = 0 := by rw [hM0, mu_eq]
    have f88 : (mu M0 97 0 (wr z9)) 88 = M 88 := by rw [mu_ne _ _ _ (by decide), hF 88 (by decide) (by decide), svc_o hsc 88 (by omega)]
    have f89 : (mu M0 97 0 (wr z9)) 89 = M 89 := by rw [mu_ne _ _ _ (by decide), hF 89 (by decide) (by decide), svc_o hsc 89 (by omega)]
    have f94 : (mu M0 97 0 (wr z9)) 94 = M 94 := by rw [mu_ne _ _ _ (by decide), hF 94 (by decide) (by decide), svc_o hsc 94 (by omega)]
    refine ⟨0, rfl, by omega, ct_mono (c_X5_load l E _ (c884 h f88) a a1 a2 (c888 h f88)) (fun v T hT => ?_)⟩
    rw [f88, f89, f94] at hT
    obtain ⟨x, hx, hm⟩ := hT.2 (by omega)
    obtain ⟨x2, y1, y2, y3, y4⟩ := hok.2
    rw [h94, ← h48] at y1 y4
    rw [← h48] at y2 y3
    have ex := f_fw_u hx y1
    rcases hm with ⟨r0, -⟩ | ⟨r1, R, N, ⟨d1, d2, d3⟩, ⟨s1, s2, s3⟩, rfl, g89, g88, gF⟩
    · have r0 : (if 0 < M 88 8 ∧ x = M 88 8 ∧ M 94 (M 88 8 - 1) ≠ 47 then (1 : Int) else 0) = 0 := r0
      rw [if_pos ⟨y2, by omega, y4⟩] at r0
      exact absurd r0 (by decide)
    · obtain ⟨N2, hN2⟩ : ∃ N2 : ewM, N2 = fun o => if o = 88 then (fun k => if k = 4 then (if M 88 4 = 6 then 6 else M 88 4 + 1) else (mu (mu M0 97 0 (wr z9)) 88 0 0) 88 k) else if o = 96 then (mu M0 97 0 (wr z9)) 96 else N o := ⟨_, rfl⟩
      have b4 : (mu (mu M0 97 0 (wr z9)) 88 0 0) 88 4 = M 88 4 := by rw [mu_nk _ _ _ (by decide), f88]
      have r4 : R 88 4 = M 88 4 := by rw [d2 4 (by decide) (by decide) (by decide), f88]
      have hs : svs (mu (mu M0 97 0 (wr z9)) 88 0 0) N2 := by
        refine ⟨fun i => ?_, fun k => ?_, fun o o1 o2 => ?_⟩
        · rw [hN2]
          show N 91 i = _
          rw [s1 i, b4, r4, d3 89 (by decide) (by decide), d3 91 (by decide) (by decide), mu_ne (mu M0 97 0 (wr z9)) (o := 88) (a := 89) 0 0 (by decide), mu_ne (mu M0 97 0 (wr z9)) (o := 88) (a := 91) 0 0 (by decide)]
        · rw [b4, hN2]
          rfl
        · rw [hN2]
          show (if o = 88 then _ else if o = 96 then (mu M0 97 0 (wr z9)) 96 else N o) = _
          rw [if_neg o1]
          by_cases h96 : o = 96
          · rw [if_pos h96, h96, mu_ne (mu M0 97 0 (wr z9)) _ _ (by decide)]
          · rw [if_neg h96, s3 o o1 o2, d3 o o1 h96, mu_ne (mu M0 97 0 (wr z9)) _ _ o1]
      have n2 : ∀ o : Nat, o ≠ 88 → o ≠ 96 → N2 o = N o := fun o o1 o2 => by
        rw [hN2]
        show (if o = 88 then _ else if o = 96 then (mu M0 97 0 (wr z9)) 96 else N o) = _
        rw [if_neg o1, if_neg o2]
      have t88 : ∀ k : Int, T 88 k = if k = 8 then 0 else N 88 k := fun k => by rw [g88, mu_at]
      obtain ⟨t0, t2, t3, -, t97, tc, n89, t82, t94, t81⟩ := saves_T (T := T) h hsc (fun o ho => hF o (by omega) (by omega)) hs (fun o o1 o2 _ _ o5 => by rw [gF o o1 o2, n2 o o1 o5])
        (by rw [t88, if_neg (by decide), s2 0, if_neg (by decide), d1, hN2]; show (0 : Int) = if (0 : Int) = 4 then (if M 88 4 = 6 then 6 else M 88 4 + 1) else (mu (mu M0 97 0 (wr z9)) 88 0 0) 88 0; rw [if_neg (by decide), mu_eq]) (by rw [t88, if_neg (by decide), s2 4, if_pos rfl, r4, hN2]; rfl)
      have e51 := (Rl_now h).2.1
      have hD : pD (f_rp (M 94) (M 88 8).toNat) := f_rp_D _ (fun i hi => y1.2.2.1 i (by omega))
      have h51 : T 51 = vQ (T 89) := by
        rw [tc 51 (by omega), c51]
        funext b
        unfold vQ
        rw [h94, ← h48, e51]
        by_cases hb : 0 ≤ b ∧ b < ((75 : Nat) : Int)
        · rw [cut_in hb.1 hb.2, g89]
          by_cases hi : a * 25 ≤ b ∧ b < a * 25 + 25
          · rw [if_pos hi, if_pos (by omega), show 16 + b - (16 + 25 * a) = b - a * 25 by omega]
          · rw [if_neg hi, if_neg (by omega), vQ_in (M 89) hb.1 (by omega)]
        · rw [cut_out hb, if_neg (by omega)]
          unfold vQ
          rw [cut_out hb]
      refine ⟨_, rfl, t0, ⟨R1_Q h (fun k hk => by rw [g89, if_neg (by omega)]) (fun k k0 k1 => ?_) (fun o ho => ?_) h51, t2, t3, ⟨by rw [t81, c81]; omega, by rw [t81, c81, t88, if_pos rfl], by rw [t82, t94, h94]⟩⟩, fun _ => ?_⟩
      · rw [g89]
        split
        · exact hD _
        · exact svI_in (Rl_svI h) k0 k1
      · rw [tc o (by omega), hF o (by omega) (by omega), svc_o hsc o (by omega)]
      · rw [t97, vI_in hv, ← h51, tc 51 (by omega)]
  · refine ⟨1, rfl, by omega, ct_mono (c_X5_load l E _ (c884 h rfl) a a1 a2 (c888 h rfl)) (fun v T hT => ?_)⟩
    obtain ⟨rfl, rfl⟩ := hT.1 (by omega)
    exact okT_f h (by decide)
  · obtain rfl := e9.symm
    refine ⟨2, rfl, by omega, ct_mono (c_X5_load l E _ (c884 h rfl) a a1 a2 (c888 h rfl)) (fun v T hT => ?_)⟩
    obtain ⟨x, hx, hm⟩ := hT.2 (by omega)
    rcases hm with ⟨-, rfl, ⟨d1, d2, d3⟩⟩ | ⟨r1, -⟩
    · exact ⟨0, rfl, d1, same_Rl h ⟨fun o ho => d3 o (by omega) (by omega), fun k k0 _ k2 k3 => d2 k k0 k2 k3⟩, fun z => absurd z (by decide)⟩
    · refine absurd ⟨x, ?_⟩ hn.2
      rw [h94, ← h48]
      by_cases z : 0 < M 88 8 ∧ x = M 88 8 ∧ M 94 (M 88 8 - 1) ≠ 47
      · exact ⟨hx, z⟩
      · have r1 : (if 0 < M 88 8 ∧ x = M 88 8 ∧ M 94 (M 88 8 - 1) ≠ 47 then (1 : Int) else 0) = 1 := r1
        rw [if_neg z] at r1
        exact absurd r1 (by decide)
def hp_keep (M : ewM) (a : Int) : Option Value → ewM → Prop := fun v M1 => (v = some (vI 0) ∧ ∃ (z9 : Int) (M0 : ewM), cp_keep M a (some (vI z9)) M0 ∧ M1 = mu M0 97 0 (wr z9)) ∨ (v = some (vI 1) ∧ (¬ (0 ≤ a ∧ a < 2)) ∧ M1 = M)
theorem m_keep (l : Launch) (E : ewE) {M : ewM} (a : Int) (a1 : -2147483648 ≤ a) (a2 : a < 2147483648) (h : Rl M) {v1 : Option Value} {M1 : ewM} (hH : hp_keep M a v1 M1) : ∃ kk : Int, v1 = some (vI kk) ∧ (0 ≤ kk ∧ kk ≤ 2) ∧ Ct l E yX5_keep (.code yX5_keep cX5_keep 3 (some .int)) 9 [vR E 88, vI a] M1 (okT kk) := by
  rcases hH with ⟨rfl, z9, M0, ⟨hok, hv, hj⟩, rfl⟩ | ⟨rfl, hn, rfl⟩
  · obtain ⟨j, ej⟩ : ∃ j : Nat, (j : Int) = 1 + a := ⟨(1 + a).toNat, by omega⟩
    obtain ⟨hcp, h79, hF⟩ := hj j ej
    have f88 : (mu M0 97 0 (wr z9)) 88 = M 88 := by rw [mu_ne _ _ _ (by decide), hF 88 (by decide) (by omega) (by omega)]
    refine ⟨0, rfl, by omega, ct_mono (o_X5_keep l E _ (c884 h f88) a a1 a2 (by omega)) (fun v T hT => ?_)⟩
    obtain ⟨rfl, t93, t88, t92, tF⟩ := hT
    have fM : ∀ o : Nat, o ≠ 97 → o ≠ 79 → (o < 5 * j + 1 ∨ 5 * j + 4 < o) → (o < 50 + 3 * j ∨ 50 + 3 * j + 2 < o) → (mu M0 97 0 (wr z9)) o = M o := fun o o1 o2 o3 o4 => by rw [mu_ne _ _ _ o1, hF o o2 o3 o4]
    have tM : ∀ o : Nat, o ≠ 88 → o ≠ 92 → o ≠ 93 → o ≠ 97 → o ≠ 79 → (o < 5 * j + 1 ∨ 5 * j + 4 < o) → (o < 50 + 3 * j ∨ 50 + 3 * j + 2 < o) → T o = M o := fun o o1 o2 o3 o4 o5 o6 o7 => by rw [tF o o1 o2 o3, fM o o4 o5 o6 o7]
    rw [fM 89 (by decide) (by decide) (by omega) (by omega), fM 92 (by decide) (by decide) (by omega) (by omega)] at t92
    rw [fM 93 (by decide) (by decide) (by omega) (by omega)] at t93
    have t79 : T 79 = fun q => if q = a then 1 else M 79 q := by rw [tF 79 (by decide) (by decide) (by decide), mu_ne _ _ _ (by decide), h79]
    have t8 : ∀ k : Int, k ≠ 0 → T 88 k = M 88 k := fun k k0 => by rw [t88, mu_nk _ _ _ k0, f88]
    refine ⟨_, rfl, by rw [t88, mu_eq], ⟨R1_cg h.1 (fun o ho => tM o (by omega) (by omega) (by omega) (by omega) (by omega) (by omega) (by omega)) (tM 89 (by omega) (by omega) (by omega) (by omega) (by omega) (by omega) (by omega)), R2_cg h.2.1 (fun o ho => tM o (by omega) (by omega) (by omega) (by omega) (by omega) (by omega) (by omega)) (by rw [tM 77 (by omega) (by omega) (by omega) (by omega) (by omega) (by omega) (by omega)]) (by rw [tM 77 (by omega) (by omega) (by omega) (by omega) (by omega) (by omega) (by omega)]) (t8 4 (by decide)) (tM 91 (by omega) (by omega) (by omega) (by omega) (by omega) (by omega) (by omega)), ?_,
      R4_cg h.2.2.2 (by rw [tM 81 (by omega) (by omega) (by omega) (by omega) (by omega) (by omega) (by omega)]) (t8 8 (by decide)) (tM 82 (by omega) (by omega) (by omega) (by omega) (by omega) (by omega) (by omega)) (tM 94 (by omega) (by omega) (by omega) (by omega) (by omega) (by omega) (by omega))⟩, fun _ => ?_⟩
    · obtain ⟨a1, a2, a3⟩ := h.2.2.1
      refine ⟨by rw [t79, t93, a1], fun q => ?_, fun b b0 b1 hz jb hjb => ?_⟩
      · rw [t93]
        show (if q = a then (1 : Int) else M 93 q) = 0 ∨ (if q = a then (1 : Int) else M 93 q) = 1
        split
        · exact Or.inr rfl
        · exact a2 q
      · by_cases hb : b = a
        · have e9 : jb = j := by omega
          rw [e9, hb]
          refine SR_mv (M := M) (i := 0) (f := M 89) h.1 ⟨?_, ?_, fun r r0 r1 => ?_, fun k k0 k1 => ?_⟩ (fun i i0 i1 => ?_)
          · rw [tF _ (by omega) (by omega) (by omega), mu_ne _ _ _ (by omega)]; exact hcp.1
          · rw [tF _ (by omega) (by omega) (by omega), mu_ne _ _ _ (by omega)]; exact hcp.2.1
          · rw [tF _ (by omega) (by omega) (by omega), mu_ne _ _ _ (by omega)]; exact hcp.2.2.1 r r0 r1
          · rw [tF _ (by omega) (by omega) (by omega), mu_ne _ _ _ (by omega)]; exact hcp.2.2.2 k k0 k1
          · show T 92 (667 * a + i) = M 89 i
            rw [t92, if_pos (by omega), show 667 * a + i - 667 * a = i by omega]
        · rw [t93] at hz
          have hz : ¬ (if b = a then (1 : Int) else M 93 b) = 0 := hz
          rw [if_neg hb] at hz
          refine SR_mv (a3 b b0 b1 hz jb hjb) (cpS_same fun o ho => tM o (by omega) (by omega) (by omega) (by omega) (by omega) (by omega) (by omega)) (fun i i0 i1 => ?_)
          show T 92 (667 * b + i) = M 92 (667 * b + i)
          rw [t92, if_neg (by omega)]
    · rw [tF 97 (by decide) (by decide) (by decide), mu_eq, fM 89 (by decide) (by decide) (by omega) (by omega), vI_in hv, Rl_50 h (by decide) (by decide)]
      rfl
  · refine ⟨1, rfl, by omega, ct_mono (n_X5_keep l E _ a a1 a2 (by omega)) (fun v T hT => ?_)⟩
    obtain ⟨rfl, rfl⟩ := hT
    exact okT_f h (by decide)
def hp_goBack (M : ewM) (a : Int) : Option Value → ewM → Prop := fun v M1 => (v = some (vI 0) ∧ ∃ (z9 : Int) (M0 : ewM), cp_goBack M a (some (vI z9)) M0 ∧ M1 = mu M0 97 0 (wr z9)) ∨ (v = some (vI 1) ∧ (¬ (0 ≤ a ∧ a < 2)) ∧ M1 = M) ∨ (v = some (vI 2) ∧ ((0 ≤ a ∧ a < 2) ∧ M 79 a = 0) ∧ M1 = M)
theorem m_goBack (l : Launch) (E : ewE) {M : ewM} (a : Int) (a1 : -2147483648 ≤ a) (a2 : a < 2147483648) (h : Rl M) {v1 : Option Value} {M1 : ewM} (hH : hp_goBack M a v1 M1) : ∃ kk : Int, v1 = some (vI kk) ∧ (0 ≤ kk ∧ kk ≤ 2) ∧ Ct l E yX5_goBack (.code yX5_goBack cX5_goBack 3 (some .int)) 2 [vR E 88, vI a] M1 (okT kk) := by
  have h79 := h.2.2.1.1
  rcases hH with ⟨rfl, z9, M0, ⟨hok, Nc, hsc, hv, hj⟩, rfl⟩ | ⟨rfl, hn, rfl⟩ | ⟨rfl, hn, rfl⟩
  · obtain ⟨j, ej⟩ : ∃ j : Nat, (j : Int) = 1 + a := ⟨(1 + a).toNat, by omega⟩
    obtain ⟨hcp, hF⟩ := hj j ej
    have f88 : (mu M0 97 0 (wr z9)) 88 = M 88 := by rw [mu_ne _ _ _ (by decide), hF 88 (by omega) (by omega), svc_o hsc 88 (by omega)]
    have f92 : (mu M0 97 0 (wr z9)) 92 = M 92 := by rw [mu_ne _ _ _ (by decide), hF 92 (by omega) (by omega), svc_o hsc 92 (by omega)]
    have f93 : (mu M0 97 0 (wr z9)) 93 = M 93 := by rw [mu_ne _ _ _ (by decide), hF 93 (by omega) (by omega), svc_o hsc 93 (by omega)]
    have z93 : ¬ M 93 a = 0 := by rw [← h79]; exact hok.2
    refine ⟨0, rfl, by omega, ct_mono (c_X5_goBack l E _ (c884 h f88) a a1 a2) (fun v T hT => ?_)⟩
    rw [f92, f93] at hT
    obtain ⟨N, hs, rfl, g89, gF⟩ := hT.2.2 (by omega) z93
    obtain ⟨t0, t2, t3, t4, t97, tc, n89, -, -, -⟩ := saves_T (T := T) h hsc (fun o ho => hF o (by omega) (by omega)) hs (fun o _ o2 _ _ _ => gF o o2) (by rw [gF 88 (by decide)]) (by rw [gF 88 (by decide)])
    have hsl := h.2.2.1.2.2 a (by omega) (by omega) z93 j ej
    obtain ⟨c1, c2, c3, c4⟩ := hcp
    have c1 : M0 51 = Nc (50 + 3 * j + 1) := c1
    have c2 : M0 52 = Nc (50 + 3 * j + 2) := c2
    have c4 : ∀ k : Int, 3 ≤ k → k ≤ 14 → M0 50 k = Nc (50 + 3 * j) k := c4
    refine ⟨_, rfl, t0, ⟨?_, t2, t3, t4 (by rw [hF 81 (by omega) (by omega)]) (by rw [gF 88 (by decide)])⟩, fun _ => ?_⟩
    · refine SR_mv (M := M) (i := j) hsl ⟨?_, ?_, fun r r0 r1 => ?_, fun k k0 k1 => ?_⟩ (fun i i0 i1 => ?_)
      · show T 51 = _
        rw [tc 51 (by omega), c1, svc_o hsc _ (by omega)]
      · show T 52 = _
        rw [tc 52 (by omega), c2, svc_o hsc _ (by omega)]
      · rw [tc _ (by omega), c3 r r0 r1, svc_o hsc _ (by omega)]
      · show T 50 k = _
        rw [tc 50 (by omega), c4 k k0 k1, svc_o hsc _ (by omega)]
      · show T 89 i = M 92 (667 * a + i)
        rw [g89, if_pos ⟨i0, i1⟩]
    · rw [t97, vI_in hv, c4 4 (by decide) (by decide), svc_o hsc _ (by omega), hsl.2.2.2.2 4 (by decide) (by decide)]
      rfl
  · refine ⟨1, rfl, by omega, ct_mono (c_X5_goBack l E _ (c884 h rfl) a a1 a2) (fun v T hT => ?_)⟩
    obtain ⟨rfl, rfl⟩ := hT.1 (by omega)
    exact okT_f h (by decide)
  · refine ⟨2, rfl, by omega, ct_mono (c_X5_goBack l E _ (c884 h rfl) a a1 a2) (fun v T hT => ?_)⟩
    obtain ⟨rfl, rfl⟩ := hT.2.1 (by omega) (by rw [← h79]; exact hn.2)
    exact okT_f h (by decide)
def hp_undo (M : ewM) : Option Value → ewM → Prop := fun v M1 => (v = some (vI 0) ∧ ∃ (z9 : Int) (M0 : ewM), cp_undo M (some (vI z9)) M0 ∧ M1 = mu M0 97 0 (wr z9)) ∨ (v = some (vI 1) ∧ (M 77 5 = 0) ∧ M1 = M)
theorem m_undo (l : Launch) (E : ewE) {M : ewM}  (h : Rl M) {v1 : Option Value} {M1 : ewM} (hH : hp_undo M v1 M1) : ∃ kk : Int, v1 = some (vI kk) ∧ (0 ≤ kk ∧ kk ≤ 2) ∧ Ct l E yX5_undo (.code yX5_undo cX5_undo 2 (some .int)) 2 [vR E 88] M1 (okT kk) := by
  obtain ⟨q1, q2, q3, q4⟩ := h.2.1
  rcases hH with ⟨rfl, z9, M0, ⟨hok, hv, hj⟩, rfl⟩ | ⟨rfl, hn, rfl⟩
  · obtain ⟨j, ej⟩ : ∃ j : Nat, (j : Int) = 3 + (M 77 4 + (M 77 5 - 1)) % 6 := ⟨(3 + (M 77 4 + (M 77 5 - 1)) % 6).toNat, by omega⟩
    obtain ⟨hcp, h77, hF⟩ := hj j ej
    have f88 : (mu M0 97 0 (wr z9)) 88 = M 88 := by rw [mu_ne _ _ _ (by decide), hF 88 (by omega) (by omega) (by omega)]
    have f91 : (mu M0 97 0 (wr z9)) 91 = M 91 := by rw [mu_ne _ _ _ (by decide), hF 91 (by omega) (by omega) (by omega)]
    refine ⟨0, rfl, by omega, ct_mono (c_X5_undo l E _ (c884 h f88)) (fun v T hT => ?_)⟩
    rw [f88, f91] at hT
    obtain ⟨rfl, t88, t89, tF⟩ := hT.2 (by omega)
    have tM : ∀ o : Nat, o ≠ 88 → o ≠ 89 → o ≠ 97 → o ≠ 77 → (o < 1 ∨ 4 < o) → (o < 50 ∨ 52 < o) → T o = M o := fun o o1 o2 o3 o4 o5 o6 => by rw [tF o o1 o2, mu_ne _ _ _ o3, hF o o4 o5 o6]
    have tC : ∀ o : Nat, ((1 ≤ o ∧ o ≤ 4) ∨ (50 ≤ o ∧ o ≤ 52) ∨ o = 77) → T o = M0 o := fun o ho => by rw [tF o (by omega) (by omega), mu_ne _ _ _ (by omega)]
    have t8 : ∀ k : Int, T 88 k = if k = 4 then M 88 4 - 1 else if k = 0 then 0 else M 88 k := fun k => by
      rw [t88, mu_at]
      show (if k = 4 then M 88 4 - 1 else (mu (mu M0 97 0 (wr z9)) 88 0 0) 88 k) = _
      rw [mu_at]
      show (if k = 4 then M 88 4 - 1 else if k = 0 then 0 else (mu M0 97 0 (wr z9)) 88 k) = _
      rw [f88]
    have e77 : ∀ k : Int, T 77 k = if k = 5 then M 77 5 - 1 else M 77 k := fun k => by rw [tC 77 (by omega), h77, mu_at]
    obtain ⟨c1, c2, c3, c4⟩ := hcp
    have c1 : M0 51 = M (50 + 3 * j + 1) := c1
    have c2 : M0 52 = M (50 + 3 * j + 2) := c2
    have c4 : ∀ k : Int, 3 ≤ k → k ≤ 14 → M0 50 k = M (50 + 3 * j) k := c4
    have hsl := q4 (M 77 5 - 1) (by omega) (by omega) j (by omega)
    refine ⟨_, rfl, by rw [t8]; rfl, ⟨?_, ?_, R3_cg h.2.2.1 (fun o ho => tM o (by omega) (by omega) (by omega) (by omega) (by omega) (by omega)) (tM 79 (by omega) (by omega) (by omega) (by omega) (by omega) (by omega)) (tM 93 (by omega) (by omega) (by omega) (by omega) (by omega) (by omega)) (tM 92 (by omega) (by omega) (by omega) (by omega) (by omega) (by omega)),
      R4_cg h.2.2.2 (by rw [tM 81 (by omega) (by omega) (by omega) (by omega) (by omega) (by omega)]) (by rw [t8, if_neg (by decide), if_neg (by decide)]) (tM 82 (by omega) (by omega) (by omega) (by omega) (by omega) (by omega)) (tM 94 (by omega) (by omega) (by omega) (by omega) (by omega) (by omega))⟩, fun _ => ?_⟩
    · refine SR_mv (M := M) (i := j) hsl ⟨?_, ?_, fun r r0 r1 => ?_, fun k k0 k1 => ?_⟩ (fun i i0 i1 => ?_)
      · show T 51 = _
        rw [tC 51 (by omega), c1]
      · show T 52 = _
        rw [tC 52 (by omega), c2]
      · rw [tC _ (by omega), c3 r r0 r1]
      · show T 50 k = _
        rw [tC 50 (by omega), c4 k k0 k1]
      · show T 89 i = M 91 (667 * (M 77 5 - 1) + i)
        rw [t89, if_pos ⟨i0, i1⟩, q3]
    · unfold R2
      rw [e77 4, e77 5, if_neg (by decide), if_pos rfl, t8, if_pos rfl, q3, tM 91 (by omega) (by omega) (by omega) (by omega) (by omega) (by omega)]
      exact ⟨q1, by omega, rfl, fun q a0 a1 j2 hj2 => SR_mv (q4 q a0 (by omega) j2 hj2) (cpS_same fun o ho => tM o (by omega) (by omega) (by omega) (by omega) (by omega) (by omega)) (fun _ _ _ => rfl)⟩
    · rw [tF 97 (by decide) (by decide), mu_eq, vI_in hv, q3]
  · refine ⟨1, rfl, by omega, ct_mono (c_X5_undo l E _ (c884 h rfl)) (fun v T hT => ?_)⟩
    obtain ⟨rfl, rfl⟩ := hT.1 (by omega)
    exact okT_f h (by decide)
