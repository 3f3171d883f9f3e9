/-! WHAT A CALL DOES on both sides: the changes -/
theorem c884 {M M1 : ewM} (h : Rl M) (e : M1 88 = M 88) : 0 ≤ M1 88 4 ∧ M1 88 4 ≤ 6 := by
  rw [e, h.2.1.2.2.1]
  exact h.2.1.2.1
theorem c888 {M M1 : ewM} (h : Rl M) (e : M1 88 = M 88) : 0 ≤ M1 88 8 ∧ M1 88 8 ≤ 40 := by
  rw [e, h.2.2.2.2.1]
  exact h.2.2.2.1
theorem R1_Q {M T : ewM} (h : Rl M) (hg : ∀ k : Int, ¬ (16 ≤ k ∧ k < 91) → T 89 k = M 89 k) (hq : ∀ k : Int, 16 ≤ k → k < 91 → 0 ≤ T 89 k ∧ T 89 k ≤ 9) (hc : ∀ o : Nat, ((1 ≤ o ∧ o ≤ 4) ∨ o = 50 ∨ o = 52) → T o = M o) (h51 : T 51 = vQ (T 89)) : R1 T := by
  obtain ⟨⟨e1, e2, e3, e4⟩, e51, e52, e50⟩ := Rl_now h
  obtain ⟨q1, q2⟩ := svI_q (Rl_svI h) hg hq
  refine R1_mk q1 ?_ ?_ ?_ ?_ h51 (fun k k0 k1 => ?_) (fun k k0 k1 => ?_)
  · rw [hc 1 (by omega), e1, q2]
  · rw [hc 2 (by omega), e2]
    exact (cut_cg fun k k0 k1 => hg _ (by omega)).symm
  · rw [hc 3 (by omega), e3]
    exact (cut_cg fun k k0 k1 => hg _ (by omega)).symm
  · rw [hc 4 (by omega), e4]
    exact (cut_cg fun k k0 k1 => hg _ (by omega)).symm
  · rw [hc 52 (by omega), e52 k k0 k1, hg k (by omega)]
  · rw [hc 50 (by omega), e50 k k0 k1]
    unfold vS
    rw [hg 4 (by omega), hg 6 (by omega), hg 5 (by omega), hg 7 (by omega), hg 13 (by omega), hg 14 (by omega), hg 15 (by omega), hg 8 (by omega), hg 9 (by omega), hg 10 (by omega), hg 11 (by omega), hg 12 (by omega)]
theorem R1_low {M T : ewM} (h : Rl M) (hg : ∀ k : Int, 16 ≤ k → k < 667 → T 89 k = M 89 k) (h0 : 0 ≤ T 89 0 ∧ T 89 0 ≤ 99) (h1 : 0 ≤ T 89 1 ∧ T 89 1 ≤ 20) (h2 : 1 ≤ T 89 2 ∧ T 89 2 ≤ 9) (h3 : 0 ≤ T 89 3 ∧ T 89 3 ≤ 9) (h4 : 0 ≤ T 89 4 ∧ T 89 4 ≤ 3) (h8 : 0 ≤ T 89 8 ∧ T 89 8 ≤ 9)
    (hc : ∀ o : Nat, ((1 ≤ o ∧ o ≤ 4) ∨ o = 51) → T o = M o) (h52 : ∀ k : Int, 0 ≤ k → k < 4 → T 52 k = T 89 k) (h50 : ∀ k : Int, 3 ≤ k → k ≤ 14 → T 50 k = vS (T 89) k) : R1 T := by
  obtain ⟨⟨e1, e2, e3, e4⟩, e51, e52, e50⟩ := Rl_now h
  obtain ⟨v1, v2, v3, v4, v5⟩ := views_low hg
  refine R1_mk (svI_low (Rl_svI h) hg h0 h1 h2 h3 h4 h8) ?_ ?_ ?_ ?_ ?_ h52 h50
  · rw [hc 1 (by omega), e1, v1]
  · rw [hc 2 (by omega), e2, v2]
  · rw [hc 3 (by omega), e3, v3]
  · rw [hc 4 (by omega), e4, v4]
  · rw [hc 51 (by omega), e51, v5]
theorem vS_k (f : Int → Int) : vS f 3 = f 4 ∧ vS f 4 = f 6 ∧ vS f 5 = f 5 ∧ vS f 6 = f 7 ∧ vS f 7 = f 13 ∧ vS f 8 = f 14 ∧ vS f 9 = f 15 ∧ vS f 10 = f 8 ∧ vS f 11 = f 9 ∧ vS f 12 = f 10 ∧ vS f 13 = f 11 ∧ vS f 14 = f 12 := ⟨rfl, rfl, rfl, rfl, rfl, rfl, rfl, rfl, rfl, rfl, rfl, rfl⟩
theorem k14 {k : Int} (h0 : 3 ≤ k) (h1 : k ≤ 14) : k = 3 ∨ k = 4 ∨ k = 5 ∨ k = 6 ∨ k = 7 ∨ k = 8 ∨ k = 9 ∨ k = 10 ∨ k = 11 ∨ k = 12 ∨ k = 13 ∨ k = 14 := by omega
theorem okv {a x : Int} (h0 : 0 ≤ a) (h1 : a ≤ 3) : (g_least a.toNat ≤ x ∧ x ≤ g_great a.toNat) ↔ f_okv a x := by
  unfold g_least g_great f_okv
  rcases (show a = 0 ∨ a = 1 ∨ a = 2 ∨ a = 3 by omega) with rfl | rfl | rfl | rfl <;> simp <;> omega
theorem f_stk_cg {s s2 : Int → Int} (h : ∀ k : Int, 10 ≤ k → k ≤ 14 → s k = s2 k) (r : Int → Int) (l t : Int) (f : Int → Int) : ∀ n : Nat, f_stk s r l t f n = f_stk s2 r l t f n := by
  have ho : ∀ p : Int, f_ov s p ↔ f_ov s2 p := fun p => by
    unfold f_ov
    rw [h 10 (by decide) (by decide), h 11 (by decide) (by decide), h 12 (by decide) (by decide), h 13 (by decide) (by decide), h 14 (by decide) (by decide)]
  intro n
  induction n with
  | zero => rfl
  | succ n ih =>
    rw [f_stk, f_stk, ih]
    by_cases z : 0 < r n ∧ f_pu n l t ≠ -1 ∧ f_ov s (f_pu n l t)
    · rw [if_pos z, if_pos ⟨z.1, z.2.1, (ho _).mp z.2.2⟩, h 10 (by decide) (by decide)]
    · rw [if_neg z, if_neg (fun y => z ⟨y.1, y.2.1, (ho _).mpr y.2.2⟩)]
theorem f_sl_b {e s k : Int} (h0 : 0 ≤ k) (h1 : k ≤ 3) : 0 ≤ f_sl e s k ∧ f_sl e s k ≤ 3 := by
  unfold f_sl
  split <;> omega
theorem cw_cv {d : Int → Int} (h : pD d) {x y k : Int} : f_cw d x y k = f_cv d x y k := by
  unfold f_cw f_cv
  by_cases z : (0 ≤ x + k % 5 ∧ x + k % 5 ≤ 11) ∧ (0 ≤ y + k / 5 ∧ y + k / 5 ≤ 11)
  · have e := f_pl_3 (c := x + k % 5) (r := y + k / 5) (by omega)
    have hb := h ((y + k / 5) * 12 + (x + k % 5))
    rw [if_pos z, e, if_neg (by omega), show 12 * (y + k / 5) + (x + k % 5) = (y + k / 5) * 12 + (x + k % 5) by omega]
    omega
  · have e : f_pl (x + k % 5) (y + k / 5) = -1 := by
      by_cases e : f_pl (x + k % 5) (y + k / 5) = -1
      · exact e
      · exact absurd (f_pl_2 e) (by omega)
    rw [if_neg z, if_pos e]
    rfl
def hp_point (M : ewM) (a x y dd : Int) : Option Value → ewM → Prop := fun v M1 => (v = some (vI 0) ∧ ∃ (z9 : Int) (M0 : ewM), cp_point M a x y dd (some (vI z9)) M0 ∧ M1 = mu M0 97 0 (wr z9)) ∨ (v = some (vI 1) ∧ (¬ ((0 ≤ a ∧ a < 3) ∧ (0 ≤ x ∧ x < 5 ∧ 0 ≤ y ∧ y < 5))) ∧ M1 = M) ∨ (v = some (vI 2) ∧ (((0 ≤ a ∧ a < 3) ∧ (0 ≤ x ∧ x < 5 ∧ 0 ≤ y ∧ y < 5)) ∧ ¬ (0 ≤ dd ∧ dd ≤ 9)) ∧ M1 = M)
theorem m_point (l : Launch) (E : ewE) {M : ewM} (a : Int) (a1 : -2147483648 ≤ a) (a2 : a < 2147483648) (x : Int) (x1 : -2147483648 ≤ x) (x2 : x < 2147483648) (y : Int) (y1 : -2147483648 ≤ y) (y2 : y < 2147483648) (dd : Int) (dd1 : -2147483648 ≤ dd) (dd2 : dd < 2147483648) (h : Rl M) {v1 : Option Value} {M1 : ewM} (hH : hp_point M a x y dd v1 M1) : ∃ kk : Int, v1 = some (vI kk) ∧ (0 ≤ kk ∧ kk ≤ 2) ∧ Ct l E yX5_point (.code yX5_point cX5_point 6 (some .int)) 9 [vR E 88, vI a, vI x, vI y, vI dd] M1 (okT kk) := by
  rcases hH with ⟨rfl, z9, M0, ⟨hok, Nc, hsc, hv, rfl⟩, rfl⟩ | ⟨rfl, hn, rfl⟩ | ⟨rfl, hn, rfl⟩
  · have f89 : (mu (mu Nc 51 (a * 25 + y * 5 + x) dd) 97 0 (wr z9)) 89 = M 89 := by rw [mu_ne _ _ _ (by decide), mu_ne _ _ _ (by decide), svc_o hsc 89 (by omega)]
    have f88 : (mu (mu Nc 51 (a * 25 + y * 5 + x) dd) 97 0 (wr z9)) 88 = M 88 := by rw [mu_ne _ _ _ (by decide), mu_ne _ _ _ (by decide), svc_o hsc 88 (by omega)]
    refine ⟨0, rfl, by omega, ct_mono (o_X5_point l E _ (c884 h f88) a a1 a2 x x1 x2 y y1 y2 dd dd1 dd2 (by omega) (by omega) (by omega)) (fun v T hT => ?_)⟩
    obtain ⟨N, hs, rfl, rfl⟩ := hT
    obtain ⟨t0, t2, t3, t4, t97, tc, n89, -, -, -⟩ := saves_T (T := mu N 89 (16 + 25 * a + (5 * y + x)) dd) h hsc (fun o ho => mu_ne _ _ _ (by omega)) hs (fun o _ o2 _ _ _ => mu_ne _ _ _ o2) (by rw [mu_ne _ _ _ (by decide)]) (by rw [mu_ne _ _ _ (by decide)])
    have e51 := (Rl_now h).2.1
    have g89 : ∀ i : Int, (mu N 89 (16 + 25 * a + (5 * y + x)) dd) 89 i = if i = 16 + 25 * a + (5 * y + x) then dd else M 89 i := fun i => by rw [mu_at, n89]
    refine ⟨_, rfl, t0, ⟨R1_Q h (fun k hk => by rw [g89, if_neg (by omega)]) (fun k k0 k1 => ?_) (fun o ho => ?_) ?_, t2, t3, t4 (by rw [mu_ne _ _ _ (by decide)]) (by rw [mu_ne _ _ _ (by decide)])⟩, fun _ => ?_⟩
    · rw [g89]
      split
      · omega
      · exact svI_in (Rl_svI h) k0 k1
    · rw [tc o (by omega), mu_ne _ _ _ (by omega), svc_o hsc o (by omega)]
    · rw [tc 51 (by omega), mu_at, svc_o hsc 51 (by omega), e51]
      funext b
      unfold vQ
      by_cases hb : 0 ≤ b ∧ b < ((75 : Nat) : Int)
      · rw [cut_in hb.1 hb.2, cut_in hb.1 hb.2, g89]
        by_cases hi : b = a * 25 + y * 5 + x
        · rw [if_pos hi, if_pos (by omega)]
        · rw [if_neg hi, if_neg (by omega)]
      · rw [cut_out hb, cut_out hb, if_neg (by omega)]
    · rw [t97, f89, vI_in hv, e51, show 16 + 25 * a + (5 * y + x) = 16 + (a * 25 + y * 5 + x) by omega, vQ_in (M 89) (k := a * 25 + y * 5 + x) (by omega) (by omega)]
  · refine ⟨1, rfl, by omega, ct_mono (n_X5_point l E _ a a1 a2 x x1 x2 y y1 y2 dd dd1 dd2 (by omega)) (fun v T hT => ?_)⟩
    obtain ⟨rfl, rfl⟩ := hT
    rw [show (if 0 ≤ a ∧ a ≤ 2 then if (0 ≤ x ∧ x ≤ 4) ∧ (0 ≤ y ∧ y ≤ 4) then (2 : Int) else 1 else 1) = 1 from by split <;> (try split) <;> omega]
    exact okT_f h (by decide)
  · refine ⟨2, rfl, by omega, ct_mono (n_X5_point l E _ a a1 a2 x x1 x2 y y1 y2 dd dd1 dd2 (by omega)) (fun v T hT => ?_)⟩
    obtain ⟨rfl, rfl⟩ := hT
    rw [show (if 0 ≤ a ∧ a ≤ 2 then if (0 ≤ x ∧ x ≤ 4) ∧ (0 ≤ y ∧ y ≤ 4) then (2 : Int) else 1 else 1) = 2 from by split <;> (try split) <;> omega]
    exact okT_f h (by decide)
def hp_cast (M : ewM) (a x y : Int) : Option Value → ewM → Prop := fun v M1 => (v = some (vI 0) ∧ ∃ (z9 : Int) (M0 : ewM), cp_cast M a x y (some (vI z9)) M0 ∧ M1 = mu M0 97 0 (wr z9)) ∨ (v = some (vI 1) ∧ (¬ ((0 ≤ a ∧ a < 3) ∧ (0 ≤ x ∧ x < 12 ∧ 0 ≤ y ∧ y < 12))) ∧ M1 = M)
theorem m_cast (l : Launch) (E : ewE) {M : ewM} (a : Int) (a1 : -2147483648 ≤ a) (a2 : a < 2147483648) (x : Int) (x1 : -2147483648 ≤ x) (x2 : x < 2147483648) (y : Int) (y1 : -2147483648 ≤ y) (y2 : y < 2147483648) (h : Rl M) {v1 : Option Value} {M1 : ewM} (hH : hp_cast M a x y v1 M1) : ∃ kk : Int, v1 = some (vI kk) ∧ (0 ≤ kk ∧ kk ≤ 2) ∧ Ct l E yX5_cast (.code yX5_cast cX5_cast 7 (some .int)) 9 [vR E 88, vI a, vI x, vI y] M1 (okT kk) := by
  rcases hH with ⟨rfl, z9, M0, ⟨hok, Nc, hsc, hv, hq, hF⟩, rfl⟩ | ⟨rfl, hn, rfl⟩
  · have f89 : (mu M0 97 0 (wr z9)) 89 = M 89 := by rw [mu_ne _ _ _ (by decide), hF 89 (by decide), svc_o hsc 89 (by omega)]
    have f88 : (mu M0 97 0 (wr z9)) 88 = M 88 := by rw [mu_ne _ _ _ (by decide), hF 88 (by decide), svc_o hsc 88 (by omega)]
    refine ⟨0, rfl, by omega, ct_mono (o_X5_cast l E _ (by rw [f89]; exact Rl_svI h) (c884 h f88) a a1 a2 x x1 x2 y y1 y2 (by omega) (by omega)) (fun v T hT => ?_)⟩
    obtain ⟨N, hs, rfl, g89, gF⟩ := hT
    obtain ⟨t0, t2, t3, t4, t97, tc, n89, -, -, -⟩ := saves_T (T := T) h hsc (fun o ho => hF o (by omega)) hs (fun o _ o2 _ _ _ => gF o o2) (by rw [gF 88 (by decide)]) (by rw [gF 88 (by decide)])
    obtain ⟨⟨e1, e2, e3, e4⟩, e51, -, -⟩ := Rl_now h
    rw [f89] at g89
    have h51 : T 51 = vQ (T 89) := by
      rw [tc 51 (by omega)]
      funext b
      unfold vQ
      rw [hq, e1, cw_cv (Rl_svI h).1, e51]
      by_cases hb : 0 ≤ b ∧ b < ((75 : Nat) : Int)
      · rw [cut_in hb.1 hb.2, g89]
        by_cases hi : a * 25 ≤ b ∧ b < a * 25 + 25
        · rw [if_pos hi, if_pos (by omega), show 16 + b - (16 + 25 * a) = b - a * 25 by omega]
        · rw [if_neg hi, if_neg (by omega), vQ_in (M 89) hb.1 (by omega)]
      · rw [cut_out hb, if_neg (by omega)]
        unfold vQ
        rw [cut_out hb]
    refine ⟨_, rfl, t0, ⟨R1_Q h (fun k hk => by rw [g89, if_neg (by omega)]) (fun k k0 k1 => ?_) (fun o ho => ?_) h51, t2, t3, t4 (by rw [hF 81 (by decide)]) (by rw [gF 88 (by decide)])⟩, fun _ => ?_⟩
    · rw [g89]
      split
      · exact f_cv_b (Rl_svI h).1 _ _ _
      · exact svI_in (Rl_svI h) k0 k1
    · rw [tc o (by omega), hF o (by omega), svc_o hsc o (by omega)]
    · rw [t97, vI_in hv, ← h51, tc 51 (by omega)]
  · refine ⟨1, rfl, by omega, ct_mono (n_X5_cast l E _ a a1 a2 x x1 x2 y y1 y2 (by omega)) (fun v T hT => ?_)⟩
    obtain ⟨rfl, rfl⟩ := hT
    rw [show (if 0 ≤ a ∧ a ≤ 2 then (1 : Int) else 1) = 1 from by split <;> omega]
    exact okT_f h (by decide)
