/-! WHAT A CALL DOES on both sides: foil, set, press, fold -/
def hp_foil (M : ewM) (f x y u w : Int) : Option Value → ewM → Prop := fun v M1 => (v = some (vI 0) ∧ ∃ (z9 : Int) (M0 : ewM), cp_foil M f x y u w (some (vI z9)) M0 ∧ M1 = mu M0 97 0 (wr z9)) ∨ (v = some (vI 1) ∧ (¬ ((0 ≤ x ∧ x < 12 ∧ 0 ≤ y ∧ y < 12) ∧ (0 ≤ u ∧ u < 12 ∧ 0 ≤ w ∧ w < 12))) ∧ M1 = M) ∨ (v = some (vI 2) ∧ (((0 ≤ x ∧ x < 12 ∧ 0 ≤ y ∧ y < 12) ∧ (0 ≤ u ∧ u < 12 ∧ 0 ≤ w ∧ w < 12)) ∧ ¬ ((1 ≤ f ∧ f ≤ 9) ∧ x ≤ u ∧ y ≤ w)) ∧ M1 = M)
theorem m_foil (l : Launch) (E : ewE) {M : ewM} (f : Int) (f1 : -2147483648 ≤ f) (f2 : f < 2147483648) (x : Int) (x1 : -2147483648 ≤ x) (x2 : x < 2147483648) (y : Int) (y1 : -2147483648 ≤ y) (y2 : y < 2147483648) (u : Int) (u1 : -2147483648 ≤ u) (u2 : u < 2147483648) (w : Int) (w1 : -2147483648 ≤ w) (w2 : w < 2147483648) (h : Rl M) {v1 : Option Value} {M1 : ewM} (hH : hp_foil M f x y u w v1 M1) : ∃ kk : Int, v1 = some (vI kk) ∧ (0 ≤ kk ∧ kk ≤ 2) ∧ Ct l E yX5_foil (.code yX5_foil cX5_foil 6 (some .int)) 3 [vR E 88, vI f, vI x, vI y, vI u, vI w] M1 (okT kk) := by
  rcases hH with ⟨rfl, z9, M0, ⟨hok, Nc, hsc, hv, rfl⟩, rfl⟩ | ⟨rfl, hn, rfl⟩ | ⟨rfl, hn, rfl⟩
  · have f88 : (mu (mu (mu (mu (mu (mu Nc 50 10 f) 50 11 x) 50 12 y) 50 13 u) 50 14 w) 97 0 (wr z9)) 88 = M 88 := by
      rw [mu_ne _ _ _ (by decide)]
      rw [mu_ne _ _ _ (by decide), mu_ne _ _ _ (by decide), mu_ne _ _ _ (by decide), mu_ne _ _ _ (by decide), mu_ne _ _ _ (by decide)]
      exact svc_o hsc 88 (by omega)
    refine ⟨0, rfl, by omega, ct_mono (c_X5_foil l E _ (c884 h f88) f f1 f2 x x1 x2 y y1 y2 u u1 u2 w w1 w2) (fun v T hT => ?_)⟩
    obtain ⟨N, hs, rfl, rfl⟩ := hT.2.2 (by omega) (by omega)
    obtain ⟨t0, t2, t3, t4, t97, tc, n89, -, -, -⟩ := saves_T (T := (mu (mu (mu (mu (mu N 89 8 f) 89 9 x) 89 10 y) 89 11 u) 89 12 w)) h hsc (fun o ho => by rw [mu_ne _ _ _ (by omega), mu_ne _ _ _ (by omega), mu_ne _ _ _ (by omega), mu_ne _ _ _ (by omega), mu_ne _ _ _ (by omega)]) hs (fun o _ o2 _ _ _ => by rw [mu_ne _ _ _ (by omega), mu_ne _ _ _ (by omega), mu_ne _ _ _ (by omega), mu_ne _ _ _ (by omega), mu_ne _ _ _ (by omega)]) (by rw [mu_ne _ _ _ (by decide), mu_ne _ _ _ (by decide), mu_ne _ _ _ (by decide), mu_ne _ _ _ (by decide), mu_ne _ _ _ (by decide)]) (by rw [mu_ne _ _ _ (by decide), mu_ne _ _ _ (by decide), mu_ne _ _ _ (by decide), mu_ne _ _ _ (by decide), mu_ne _ _ _ (by decide)])
    generalize hTe : (mu (mu (mu (mu (mu N 89 8 f) 89 9 x) 89 10 y) 89 11 u) 89 12 w) = T at t0 t2 t3 t4 t97 tc ⊢
    have g89 : ∀ i : Int, T 89 i = if i = 12 then w else if i = 11 then u else if i = 10 then y else if i = 9 then x else if i = 8 then f else M 89 i := fun i => by
      rw [← hTe, ← n89]
      simp only [mu_at]
    have g50 : ∀ i : Int, T 50 i = if i = 14 then w else if i = 13 then u else if i = 12 then y else if i = 11 then x else if i = 10 then f else M 50 i := fun i => by
      rw [tc 50 (by omega), ← svc_o hsc 50 (by omega)]
      simp only [mu_at]
    have i9 := Rl_svI h
    obtain ⟨p1, p2, p3, p4, p5, p6, p7, p8, p9, pf⟩ := id i9
    refine ⟨_, rfl, t0, ⟨R1_low h (fun k k0 k1 => by rw [g89, if_neg (by omega), if_neg (by omega), if_neg (by omega), if_neg (by omega), if_neg (by omega)]) ?_ ?_ ?_ ?_ ?_ ?_ (fun o ho => ?_) (fun k k0 k1 => ?_) (fun k k0 k1 => ?_), t2, t3, t4 (by rw [mu_ne _ _ _ (by decide), mu_ne _ _ _ (by decide), mu_ne _ _ _ (by decide), mu_ne _ _ _ (by decide), mu_ne _ _ _ (by decide)]) (by rw [← hTe]; rw [mu_ne _ _ _ (by decide), mu_ne _ _ _ (by decide), mu_ne _ _ _ (by decide), mu_ne _ _ _ (by decide), mu_ne _ _ _ (by decide)])⟩, fun _ => by rw [t97, vI_in hv]⟩
    · simp [g89]; exact p4
    · simp [g89]; exact p5
    · simp [g89]; exact p6
    · simp [g89]; exact p7
    · simp [g89]; exact p8
    · simp [g89]; omega
    · rw [tc o (by omega)]
      rw [mu_ne _ _ _ (by omega), mu_ne _ _ _ (by omega), mu_ne _ _ _ (by omega), mu_ne _ _ _ (by omega), mu_ne _ _ _ (by omega)]
      exact svc_o hsc o (by omega)
    · rw [tc 52 (by omega)]
      rw [mu_ne _ _ _ (by decide), mu_ne _ _ _ (by decide), mu_ne _ _ _ (by decide), mu_ne _ _ _ (by decide), mu_ne _ _ _ (by decide)]
      rw [svc_o hsc 52 (by omega), Rl_52 h k0 k1, g89, if_neg (by omega), if_neg (by omega), if_neg (by omega), if_neg (by omega), if_neg (by omega)]
    · rw [g50]
      rcases k14 k0 k1 with rfl | rfl | rfl | rfl | rfl | rfl | rfl | rfl | rfl | rfl | rfl | rfl <;> simp [vS_k, g89, Rl_50 h]
  · refine ⟨1, rfl, by omega, ct_mono (c_X5_foil l E _ (c884 h rfl) f f1 f2 x x1 x2 y y1 y2 u u1 u2 w w1 w2) (fun v T hT => ?_)⟩
    obtain ⟨rfl, rfl⟩ := hT.1 (by omega)
    exact okT_f h (by decide)
  · refine ⟨2, rfl, by omega, ct_mono (c_X5_foil l E _ (c884 h rfl) f f1 f2 x x1 x2 y y1 y2 u u1 u2 w w1 w2) (fun v T hT => ?_)⟩
    obtain ⟨rfl, rfl⟩ := hT.2.1 (by omega) (by omega)
    exact okT_f h (by decide)
def hp_set (M : ewM) (a x : Int) : Option Value → ewM → Prop := fun v M1 => (v = some (vI 0) ∧ ∃ (z9 : Int) (M0 : ewM), cp_set M a x (some (vI z9)) M0 ∧ M1 = mu M0 97 0 (wr z9)) ∨ (v = some (vI 1) ∧ (¬ (0 ≤ a ∧ a < 4)) ∧ M1 = M) ∨ (v = some (vI 2) ∧ ((0 ≤ a ∧ a < 4) ∧ ¬ (g_least a.toNat ≤ x ∧ x ≤ g_great a.toNat)) ∧ M1 = M)
theorem m_set (l : Launch) (E : ewE) {M : ewM} (a : Int) (a1 : -2147483648 ≤ a) (a2 : a < 2147483648) (x : Int) (x1 : -2147483648 ≤ x) (x2 : x < 2147483648) (h : Rl M) {v1 : Option Value} {M1 : ewM} (hH : hp_set M a x v1 M1) : ∃ kk : Int, v1 = some (vI kk) ∧ (0 ≤ kk ∧ kk ≤ 2) ∧ Ct l E yX5_set (.code yX5_set cX5_set 5 (some .int)) 2 [vR E 88, vI a, vI x] M1 (okT kk) := by
  rcases hH with ⟨rfl, z9, M0, ⟨hok, Nc, hsc, hv, rfl⟩, rfl⟩ | ⟨rfl, hn, rfl⟩ | ⟨rfl, hn, rfl⟩
  · have f88 : (mu (mu Nc 52 a x) 97 0 (wr z9)) 88 = M 88 := by rw [mu_ne _ _ _ (by decide), mu_ne _ _ _ (by decide), svc_o hsc 88 (by omega)]
    have f89 : (mu (mu Nc 52 a x) 97 0 (wr z9)) 89 = M 89 := by rw [mu_ne _ _ _ (by decide), mu_ne _ _ _ (by decide), svc_o hsc 89 (by omega)]
    have hokv : f_okv a x := (okv hok.1.1 (by omega)).mp hok.2
    refine ⟨0, rfl, by omega, ct_mono (c_X5_set l E _ (c884 h f88) a a1 a2 x x1 x2) (fun v T hT => ?_)⟩
    obtain ⟨N, hs, rfl, rfl⟩ := hT.2.2 (by omega) hokv
    obtain ⟨t0, t2, t3, t4, t97, tc, n89, -, -, -⟩ := saves_T (T := mu N 89 a x) h hsc (fun o ho => mu_ne _ _ _ (by omega)) hs (fun o _ o2 _ _ _ => mu_ne _ _ _ o2) (by rw [mu_ne _ _ _ (by decide)]) (by rw [mu_ne _ _ _ (by decide)])
    have g89 : ∀ i : Int, (mu N 89 a x) 89 i = if i = a then x else M 89 i := fun i => by rw [mu_at, n89]
    have hT8 : (mu N 89 a x) 88 8 = N 88 8 := by rw [mu_ne _ _ _ (by decide)]
    generalize mu N 89 a x = T at t0 t2 t3 t4 t97 tc g89 hT8 ⊢
    have i9 := Rl_svI h
    obtain ⟨p1, p2, p3, p4, p5, p6, p7, p8, p9, pf⟩ := id i9
    unfold f_okv at hokv
    refine ⟨_, rfl, t0, ⟨R1_low h (fun k k0 k1 => by rw [g89, if_neg (by omega)]) ?_ ?_ ?_ ?_ ?_ ?_ (fun o ho => ?_) (fun k k0 k1 => ?_) (fun k k0 k1 => ?_), t2, t3, t4 (by rw [mu_ne _ _ _ (by decide)]) hT8⟩, fun _ => by rw [t97, f89, vI_in hv, Rl_52 h (by omega) (by omega)]⟩
    · rw [g89]; split <;> omega
    · rw [g89]; split <;> omega
    · rw [g89]; split <;> omega
    · rw [g89]; split <;> omega
    · rw [g89, if_neg (by omega)]; exact p8
    · rw [g89, if_neg (by omega)]; exact p9
    · rw [tc o (by omega), mu_ne _ _ _ (by omega), svc_o hsc o (by omega)]
    · rw [tc 52 (by omega), mu_at, g89, svc_o hsc 52 (by omega)]
      show (if k = a then x else M 52 k) = _
      by_cases z : k = a
      · rw [if_pos z, if_pos z]
      · rw [if_neg z, if_neg z, Rl_52 h k0 k1]
    · rw [tc 50 (by omega), mu_ne _ _ _ (by decide), svc_o hsc 50 (by omega), Rl_50 h k0 k1]
      have gh : ∀ i : Int, 4 ≤ i → T 89 i = M 89 i := fun i hi => by rw [g89, if_neg (by omega)]
      unfold vS
      rw [gh 4 (by omega), gh 6 (by omega), gh 5 (by omega), gh 7 (by omega), gh 13 (by omega), gh 14 (by omega), gh 15 (by omega), gh 8 (by omega), gh 9 (by omega), gh 10 (by omega), gh 11 (by omega), gh 12 (by omega)]
  · refine ⟨1, rfl, by omega, ct_mono (c_X5_set l E _ (c884 h rfl) a a1 a2 x x1 x2) (fun v T hT => ?_)⟩
    obtain ⟨rfl, rfl⟩ := hT.1 (by omega)
    exact okT_f h (by decide)
  · refine ⟨2, rfl, by omega, ct_mono (c_X5_set l E _ (c884 h rfl) a a1 a2 x x1 x2) (fun v T hT => ?_)⟩
    obtain ⟨rfl, rfl⟩ := hT.2.1 (by omega) (fun z => hn.2 ((okv hn.1.1 (by omega)).mpr z))
    exact okT_f h (by decide)
def hp_press (M : ewM) (a x y t : Int) : Option Value → ewM → Prop := fun v M1 => (v = some (vI 0) ∧ ∃ (z9 : Int) (M0 : ewM), cp_press M a x y t (some (vI z9)) M0 ∧ M1 = mu M0 97 0 (wr z9)) ∨ (v = some (vI 1) ∧ (¬ (0 ≤ a ∧ a < 3)) ∧ M1 = M) ∨ (v = some (vI 2) ∧ ((0 ≤ a ∧ a < 3) ∧ ¬ (0 ≤ t ∧ t < 8)) ∧ M1 = M)
theorem m_press (l : Launch) (E : ewE) {M : ewM} (a : Int) (a1 : -2147483648 ≤ a) (a2 : a < 2147483648) (x : Int) (x1 : -2147483648 ≤ x) (x2 : x < 2147483648) (y : Int) (y1 : -2147483648 ≤ y) (y2 : y < 2147483648) (t : Int) (t1 : -2147483648 ≤ t) (t2 : t < 2147483648) (h : Rl M) {v1 : Option Value} {M1 : ewM} (hH : hp_press M a x y t v1 M1) : ∃ kk : Int, v1 = some (vI kk) ∧ (0 ≤ kk ∧ kk ≤ 2) ∧ Ct l E yX5_press (.code yX5_press cX5_press 6 (some .int)) 9 [vR E 88, vI a, vI x, vI y, vI t] M1 (okT kk) := by
  rcases hH with ⟨rfl, z9, M0, ⟨hok, Nc, hsc, hcl⟩, rfl⟩ | ⟨rfl, hn, rfl⟩ | ⟨rfl, hn, rfl⟩
  · obtain ⟨⟨e1, e2, e3, e4⟩, e51, -, -⟩ := Rl_now h
    have i9 := Rl_svI h
    obtain ⟨p1, p2, p3, p4, p5, p6, p7, p8, p9, pf⟩ := id i9
    have hF : ∀ o : Nat, ((5 ≤ o ∧ o ≤ 44) ∨ (53 ≤ o ∧ o ≤ 80) ∨ o = 81 ∨ o = 82 ∨ (88 ≤ o ∧ o ≤ 96) ∨ o = 51 ∨ o = 52) → M0 o = Nc o := by
      rcases hcl with ⟨-, -, -, g⟩ | ⟨-, -, -, -, -, -, -, g⟩
      · exact fun o ho => g o (by omega) (by omega)
      · exact fun o ho => g o (by omega) (by omega) (by omega) (by omega) (by omega) (by omega) (by omega)
    have f88 : (mu M0 97 0 (wr z9)) 88 = M 88 := by rw [mu_ne _ _ _ (by decide), hF 88 (by omega), svc_o hsc 88 (by omega)]
    have f89 : (mu M0 97 0 (wr z9)) 89 = M 89 := by rw [mu_ne _ _ _ (by decide), hF 89 (by omega), svc_o hsc 89 (by omega)]
    refine ⟨0, rfl, by omega, ct_mono (o_X5_press l E _ (by rw [f89]; exact i9) (c884 h f88) a a1 a2 x x1 x2 y y1 y2 t t1 t2 (by omega) (by omega)) (fun v T hT => ?_)⟩
    obtain ⟨N, hs, hm⟩ := hT
    rw [f89] at hm
    rw [e51, e1, e2, e3, e4, Rl_50 h (k := 3) (by decide) (by decide), Rl_50 h (k := 4) (by decide) (by decide), Rl_50 h (k := 5) (by decide) (by decide), Rl_50 h (k := 6) (by decide) (by decide), Rl_50 h (k := 7) (by decide) (by decide), Rl_52 h (k := 0) (by decide) (by decide), Rl_52 h (k := 1) (by decide) (by decide), Rl_52 h (k := 2) (by decide) (by decide), Rl_52 h (k := 3) (by decide) (by decide), vS_3] at hcl
    rcases hcl with ⟨r0, hv, c50, cF⟩ | ⟨r0, hv, c1, c2, c3, c4, c50, cF⟩
    · rcases hm with ⟨-, rfl, rfl⟩ | ⟨r1, -⟩
      · obtain ⟨t0, t2, t3, t4, t97, tc, n89, -, -, -⟩ := saves_T (T := mu N 89 7 (wr (M 89 7 + 1))) h hsc (fun o ho => hF o (by omega)) hs (fun o _ o2 _ _ _ => mu_ne _ _ _ o2) (by rw [mu_ne _ _ _ (by decide)]) (by rw [mu_ne _ _ _ (by decide)])
        have g89 : ∀ i : Int, (mu N 89 7 (wr (M 89 7 + 1))) 89 i = if i = 7 then wr (M 89 7 + 1) else M 89 i := fun i => by rw [mu_at, n89]
        have hT8 : (mu N 89 7 (wr (M 89 7 + 1))) 88 8 = N 88 8 := by rw [mu_ne _ _ _ (by decide)]
        generalize mu N 89 7 (wr (M 89 7 + 1)) = T at t0 t2 t3 t4 t97 tc g89 hT8 ⊢
        refine ⟨_, rfl, t0, ⟨R1_low h (fun k k0 k1 => by rw [g89, if_neg (by omega)]) ?_ ?_ ?_ ?_ ?_ ?_ (fun o ho => ?_) (fun k k0 k1 => ?_) (fun k k0 k1 => ?_), t2, t3, t4 (by rw [hF 81 (by omega)]) hT8⟩, fun _ => by rw [t97, vI_in hv]⟩
        · rw [g89, if_neg (by omega)]; exact p4
        · rw [g89, if_neg (by omega)]; exact p5
        · rw [g89, if_neg (by omega)]; exact p6
        · rw [g89, if_neg (by omega)]; exact p7
        · rw [g89, if_neg (by omega)]; exact p8
        · rw [g89, if_neg (by omega)]; exact p9
        · rw [tc o (by omega), cF o (by omega) (by omega), svc_o hsc o (by omega)]
        · rw [tc 52 (by omega), hF 52 (by omega), svc_o hsc 52 (by omega), Rl_52 h k0 k1, g89, if_neg (by omega)]
        · rw [tc 50 (by omega), c50]
          rcases k14 k0 k1 with rfl | rfl | rfl | rfl | rfl | rfl | rfl | rfl | rfl | rfl | rfl | rfl <;> simp [vS_k, g89, Rl_50 h]
      · omega
    · rcases hm with ⟨r1, -, -⟩ | ⟨-, rfl, m1, m2, m3, m4, m5, mset_, mS, mF⟩
      · omega
      · obtain ⟨t0, t2, t3, t4, t97, tc, n89, -, -, -⟩ := saves_T (T := T) h hsc (fun o ho => hF o (by omega)) hs (fun o _ o2 _ o4 _ => mF o o2 o4) (by rw [mF 88 (by decide) (by decide)]) (by rw [mF 88 (by decide) (by decide)])
        have hst : f_stk (M 50) (f_rel (vQ (M 89)) a t) (x + M 89 4) y (vF (M 89)) 25 = f_stk (vS (M 89)) (f_rel (vQ (M 89)) a t) (x + M 89 4) y (vF (M 89)) 25 := f_stk_cg (fun k k0 k1 => Rl_50 h (by omega) (by omega)) _ _ _ _ _
        have s4 : T 89 4 = f_sl (M 89 3) (wr (M 89 5 + 1)) (M 89 4) := mS 3
        have s8 : T 89 8 = 0 := mS 10
        have d1 : pD (f_rel (vQ (M 89)) a t) := f_rel_D p3 a t
        refine ⟨_, rfl, t0, ⟨R1_mk ?_ ?_ ?_ ?_ ?_ ?_ (fun k k0 k1 => ?_) (fun k k0 k1 => ?_), t2, t3, t4 (by rw [hF 81 (by omega)]) (by rw [mF 88 (by decide) (by decide)])⟩, fun _ => by rw [t97, vI_in hv]⟩
        · unfold svI
          rw [m1, m2, m3, m5, mset_ 0 (by decide) (by decide), mset_ 1 (by decide) (by decide), mset_ 2 (by decide) (by decide), mset_ 3 (by decide) (by decide), s4, s8]
          exact ⟨f_emb_D d1 p1 _ _ _, f_it_C p2 _, p3, p4, p5, p6, p7, f_sl_b p8.1 p8.2, ⟨by decide, by decide⟩, f_stk_D (show 0 ≤ vS (M 89) 10 ∧ vS (M 89) 10 ≤ 9 from p9) pf _ _ _⟩
        · rw [tc 1 (by omega), c1, m1]
        · rw [tc 2 (by omega), c2, hst, m2]
        · rw [tc 3 (by omega), c3, m3]
        · rw [tc 4 (by omega), c4, m4]
        · rw [tc 51 (by omega), hF 51 (by omega), svc_o hsc 51 (by omega), e51, m5]
        · rw [tc 52 (by omega), hF 52 (by omega), svc_o hsc 52 (by omega), Rl_52 h k0 k1, mset_ k k0 k1]
        · rw [tc 50 (by omega), c50, mS]
          rcases k14 k0 k1 with rfl | rfl | rfl | rfl | rfl | rfl | rfl | rfl | rfl | rfl | rfl | rfl <;> simp [vS_k, Rl_50 h]
  · refine ⟨1, rfl, by omega, ct_mono (n_X5_press l E _ a a1 a2 x x1 x2 y y1 y2 t t1 t2 (by omega)) (fun v T hT => ?_)⟩
    obtain ⟨rfl, rfl⟩ := hT
    rw [show (if 0 ≤ a ∧ a ≤ 2 then (2 : Int) else 1) = 1 from by split <;> omega]
    exact okT_f h (by decide)
  · refine ⟨2, rfl, by omega, ct_mono (n_X5_press l E _ a a1 a2 x x1 x2 y y1 y2 t t1 t2 (by omega)) (fun v T hT => ?_)⟩
    obtain ⟨rfl, rfl⟩ := hT
    rw [show (if 0 ≤ a ∧ a ≤ 2 then (2 : Int) else 1) = 2 from by split <;> omega]
    exact okT_f h (by decide)
def hp_fold (M : ewM) (r : Int) : Option Value → ewM → Prop := fun v M1 => (v = some (vI 0) ∧ ∃ (z9 : Int) (M0 : ewM), cp_fold M r (some (vI z9)) M0 ∧ M1 = mu M0 97 0 (wr z9)) ∨ (v = some (vI 1) ∧ (¬ (1 ≤ r ∧ r < 12)) ∧ M1 = M)
theorem m_fold (l : Launch) (E : ewE) {M : ewM} (r : Int) (r1 : -2147483648 ≤ r) (r2 : r < 2147483648) (h : Rl M) {v1 : Option Value} {M1 : ewM} (hH : hp_fold M r v1 M1) : ∃ kk : Int, v1 = some (vI kk) ∧ (0 ≤ kk ∧ kk ≤ 2) ∧ Ct l E yX5_fold (.code yX5_fold cX5_fold 2 (some .int)) 9 [vR E 88, vI r] M1 (okT kk) := by
  rcases hH with ⟨rfl, z9, M0, ⟨hok, Nc, hsc, hv, c3, c50, cF⟩, rfl⟩ | ⟨rfl, hn, rfl⟩
  · obtain ⟨⟨e1, e2, e3, e4⟩, e51, -, -⟩ := Rl_now h
    have i9 := Rl_svI h
    obtain ⟨p1, p2, p3, p4, p5, p6, p7, p8, p9, pf⟩ := id i9
    have hF : ∀ o : Nat, o ≠ 3 → o ≠ 50 → (o < 84 ∨ 87 < o) → M0 o = Nc o := cF
    have f88 : (mu M0 97 0 (wr z9)) 88 = M 88 := by rw [mu_ne _ _ _ (by decide), hF 88 (by omega) (by omega) (by omega), svc_o hsc 88 (by omega)]
    have f89 : (mu M0 97 0 (wr z9)) 89 = M 89 := by rw [mu_ne _ _ _ (by decide), hF 89 (by omega) (by omega) (by omega), svc_o hsc 89 (by omega)]
    refine ⟨0, rfl, by omega, ct_mono (o_X5_fold l E _ (by rw [f89]; exact i9) (c884 h f88) r r1 r2 (by omega)) (fun v T hT => ?_)⟩
    obtain ⟨N, hs, rfl, m3, m1, m2, m4, m5, mset_, mS, mF⟩ := hT
    rw [f89] at m1 m2 m3 m4 m5 mset_ mS ⊢
    rw [e1, e3, Rl_52 h (k := 0) (by decide) (by decide), Rl_52 h (k := 1) (by decide) (by decide)] at hv c3
    rw [e1, e3, Rl_52 h (k := 0) (by decide) (by decide), Rl_52 h (k := 1) (by decide) (by decide), Rl_50 h (k := 7) (by decide) (by decide), Rl_50 h (k := 9) (by decide) (by decide)] at c50
    obtain ⟨t0, t2, t3, t4, t97, tc, n89, -, -, -⟩ := saves_T (T := T) h hsc (fun o ho => hF o (by omega) (by omega) (by omega)) hs (fun o _ o2 _ o4 _ => mF o o2 o4) (by rw [mF 88 (by decide) (by decide)]) (by rw [mF 88 (by decide) (by decide)])
    have tM : ∀ o : Nat, (o = 1 ∨ o = 2 ∨ o = 4 ∨ o = 51 ∨ o = 52) → T o = M o := fun o ho => by rw [tc o (by omega), hF o (by omega) (by omega) (by omega), svc_o hsc o (by omega)]
    have s4 : T 89 4 = M 89 4 := mS 3
    have s8 : T 89 8 = M 89 8 := mS 10
    refine ⟨_, rfl, t0, ⟨R1_mk ?_ ?_ ?_ ?_ ?_ ?_ (fun k k0 k1 => ?_) (fun k k0 k1 => ?_), t2, t3, t4 (by rw [hF 81 (by omega) (by omega) (by omega)]) (by rw [mF 88 (by decide) (by decide)])⟩, fun _ => by rw [t97, vI_in hv]⟩
    · unfold svI
      rw [m1, m2, m3, m5, mset_ 0 (by decide) (by decide), mset_ 1 (by decide) (by decide), mset_ 2 (by decide) (by decide), mset_ 3 (by decide) (by decide), s4, s8]
      exact ⟨p1, f_it_C (f_brk_C p2) _, p3, p4, p5, p6, p7, p8, p9, pf⟩
    · rw [tM 1 (by omega), e1, m1]
    · rw [tM 2 (by omega), e2, m2]
    · rw [tc 3 (by omega), c3, m3]
    · rw [tM 4 (by omega), e4, m4]
    · rw [tM 51 (by omega), e51, m5]
    · rw [tM 52 (by omega), Rl_52 h k0 k1, mset_ k k0 k1]
    · rw [tc 50 (by omega), c50, mS]
      rcases k14 k0 k1 with rfl | rfl | rfl | rfl | rfl | rfl | rfl | rfl | rfl | rfl | rfl | rfl <;> simp [vS_k, Rl_50 h]
  · refine ⟨1, rfl, by omega, ct_mono (n_X5_fold l E _ r r1 r2 (by omega)) (fun v T hT => ?_)⟩
    obtain ⟨rfl, rfl⟩ := hT
    exact okT_f h (by decide)
