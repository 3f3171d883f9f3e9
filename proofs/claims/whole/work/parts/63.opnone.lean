/-! WHAT A CALL DOES on both sides: the calls without exceptions -/
theorem mu_self (M : ewM) (o : Nat) (k : Int) : mu M o k (M o k) = M := by
  funext a
  by_cases h : a = o
  · subst h
    rw [mu_at]
    funext b
    by_cases hb : b = k
    · rw [if_pos hb, hb]
    · rw [if_neg hb]
  · rw [mu_ne _ _ _ h]
/-- the reference's answer is z, and the relation holds -/
def okS (z : Int) : Option Value → ewM → Prop := fun v T => ∃ r : Int, v = some (vI r) ∧ wr r = wr z ∧ Rl T
theorem lk_Rl {M M0 T : ewM} (h : Rl M) (k : lk M M0) {th : Int} (q : qk M0 T th) : Rl T :=
  same_Rl h ⟨fun o ho => by rw [q.2.2 o (by omega) (by omega) (by omega), k o (by omega)], fun k2 k0 _ _ _ => by rw [q.2.1 k2 k0, k 88 (by omega)]⟩
theorem n_sheet (l : Launch) (E : ewE) {M : ewM} (h : Rl M) {v0 : Option Value} {M0 : ewM} (hC : ∃ N : ewM, svc M N ∧ v0 = some (vI (f_sum (M 3) 144)) ∧ (∀ r, 1 ≤ r → r ≤ 4 → M0 r = fun _ => 0) ∧ (∀ k : Int, M0 50 k = if k = 3 ∨ k = 5 ∨ k = 10 then 0 else if k = 8 then wr (M 50 8 + 1) else M 50 k) ∧ ∀ o, (o < 1 ∨ 4 < o) → o ≠ 50 → M0 o = N o) :
    ∃ z : Int, v0 = some (vI z) ∧ Ct l E yX5_sheet (.code yX5_sheet cX5_sheet 3 (some .int)) 9 [vR E 88] M0 (okS z) := by
  obtain ⟨Nc, hsc, rfl, c0, c50, hF⟩ := hC
  have f88 : M0 88 = M 88 := by rw [hF 88 (by omega) (by omega), svc_o hsc 88 (by omega)]
  have f89 : M0 89 = M 89 := by rw [hF 89 (by omega) (by omega), svc_o hsc 89 (by omega)]
  have i9 := Rl_svI h
  refine ⟨_, rfl, ct_mono (o_X5_sheet l E _ (by rw [f89]; exact i9) (c884 h f88)) (fun v T hT => ?_)⟩
  obtain ⟨N, hs, rfl, g89, gF⟩ := hT
  rw [f89] at g89 ⊢
  rw [← mu_self M0 97 0] at hs
  obtain ⟨t0, t2, t3, t4, t97, tc, n89, -, -, -⟩ := saves_T (T := T) h hsc (fun o ho => hF o (by omega) (by omega)) hs (fun o _ o2 _ _ _ => gF o o2) (by rw [gF 88 (by decide)]) (by rw [gF 88 (by decide)])
  obtain ⟨⟨e1, e2, e3, e4⟩, e51, -, -⟩ := Rl_now h
  obtain ⟨p1, p2, p3, p4, p5, p6, p7, p8, p9, pf⟩ := id i9
  rw [Rl_50 h (k := 8) (by decide) (by decide)] at c50
  have hz : ∀ a : Int, 91 ≤ a → a + 144 ≤ 667 → cut 144 (fun p => T 89 (a + p)) = fun _ => 0 := fun a a0 a1 => by
    funext b
    by_cases hb : 0 ≤ b ∧ b < ((144 : Nat) : Int)
    · rw [cut_in hb.1 hb.2, g89, if_pos (by omega)]
    · rw [cut_out hb]
  have d1 : vD (T 89) = fun _ => 0 := hz 91 (by decide) (by decide)
  have d2 : vF (T 89) = fun _ => 0 := hz 235 (by decide) (by decide)
  have d3 : vC (T 89) = fun _ => 0 := hz 379 (by decide) (by decide)
  have d4 : vP (T 89) = fun _ => 0 := hz 523 (by decide) (by decide)
  have d5 : vQ (T 89) = vQ (M 89) := cut_cg fun k k0 k1 => by rw [g89, if_neg (by omega), if_neg (by omega), if_neg (by omega)]
  refine ⟨_, rfl, by rw [e3], ⟨R1_mk ?_ ?_ ?_ ?_ ?_ ?_ (fun k k0 k1 => ?_) (fun k k0 k1 => ?_), t2, t3, t4 (by rw [hF 81 (by omega) (by omega)]) (by rw [gF 88 (by decide)])⟩⟩
  · unfold svI
    rw [d1, d2, d3, d5, g89 0, if_neg (by omega), if_neg (by omega), if_neg (by omega), g89 1, if_neg (by omega), if_neg (by omega), if_neg (by omega), g89 2, if_neg (by omega), if_neg (by omega), if_neg (by omega), g89 3, if_neg (by omega), if_neg (by omega), if_neg (by omega), g89 4, if_neg (by omega), if_pos (by omega), g89 8, if_neg (by omega), if_pos (by omega)]
    exact ⟨fun _ => ⟨Int.le_refl 0, show (0 : Int) ≤ 9 by decide⟩, fun _ => ⟨Int.le_refl 0, show (0 : Int) ≤ 1 by decide⟩, p3, p4, p5, p6, p7, ⟨by decide, by decide⟩, ⟨by decide, by decide⟩, fun _ => ⟨Int.le_refl 0, show (0 : Int) ≤ 9 by decide⟩⟩
  · rw [tc 1 (by omega), c0 1 (by decide) (by decide), d1]
  · rw [tc 2 (by omega), c0 2 (by decide) (by decide), d2]
  · rw [tc 3 (by omega), c0 3 (by decide) (by decide), d3]
  · rw [tc 4 (by omega), c0 4 (by decide) (by decide), d4]
  · rw [tc 51 (by omega), hF 51 (by omega) (by omega), svc_o hsc 51 (by omega), e51, d5]
  · rw [tc 52 (by omega), hF 52 (by omega) (by omega), svc_o hsc 52 (by omega), Rl_52 h k0 k1, g89, if_neg (by omega), if_neg (by omega), if_neg (by omega)]
  · rw [tc 50 (by omega), c50]
    rcases k14 k0 k1 with rfl | rfl | rfl | rfl | rfl | rfl | rfl | rfl | rfl | rfl | rfl | rfl <;> simp [vS_k, g89, Rl_50 h]
theorem n_pin (l : Launch) (E : ewE) {M : ewM} (h : Rl M) {v0 : Option Value} {M0 : ewM} (hC : ∃ N : ewM, svc M N ∧ v0 = some (vI (M 50 3)) ∧ M0 = mu (mu N 50 3 0) 50 5 0) :
    ∃ z : Int, v0 = some (vI z) ∧ Ct l E yX5_pin (.code yX5_pin cX5_pin 2 (some .int)) 9 [vR E 88] M0 (okS z) := by
  obtain ⟨Nc, hsc, rfl, rfl⟩ := hC
  have hF : ∀ o : Nat, o ≠ 50 → (mu (mu Nc 50 3 0) 50 5 0) o = Nc o := fun o o1 => by rw [mu_ne _ _ _ o1, mu_ne _ _ _ o1]
  have c50 : ∀ k : Int, (mu (mu Nc 50 3 0) 50 5 0) 50 k = if k = 5 then 0 else if k = 3 then 0 else M 50 k := fun k => by
    rw [← svc_o hsc 50 (by omega)]
    simp only [mu_at]
  generalize mu (mu Nc 50 3 0) 50 5 0 = M0 at hF c50 ⊢
  have f88 : M0 88 = M 88 := by rw [hF 88 (by omega), svc_o hsc 88 (by omega)]
  have f89 : M0 89 = M 89 := by rw [hF 89 (by omega), svc_o hsc 89 (by omega)]
  have i9 := Rl_svI h
  refine ⟨_, rfl, ct_mono (o_X5_pin l E _ (c884 h f88)) (fun v T hT => ?_)⟩
  obtain ⟨N, hs, rfl, hTe⟩ := hT
  rw [f89]
  rw [← mu_self M0 97 0] at hs
  have gF : ∀ o : Nat, o ≠ 89 → T o = N o := fun o o1 => by rw [hTe, mu_ne _ _ _ o1, mu_ne _ _ _ o1]
  obtain ⟨t0, t2, t3, t4, t97, tc, n89, -, -, -⟩ := saves_T (T := T) h hsc (fun o ho => hF o (by omega)) hs (fun o _ o2 _ _ _ => gF o o2) (by rw [gF 88 (by decide)]) (by rw [gF 88 (by decide)])
  have g89 : ∀ k : Int, T 89 k = if k = 5 then 0 else if k = 4 then 0 else M 89 k := fun k => by
    rw [hTe, ← n89]
    simp only [mu_at]
  obtain ⟨p1, p2, p3, p4, p5, p6, p7, p8, p9, pf⟩ := id i9
  refine ⟨_, rfl, by rw [Rl_50 h (by decide) (by decide)]; rfl, ⟨R1_low h (fun k k0 k1 => by rw [g89, if_neg (by omega), if_neg (by omega)]) ?_ ?_ ?_ ?_ ?_ ?_ (fun o ho => ?_) (fun k k0 k1 => ?_) (fun k k0 k1 => ?_), t2, t3, t4 (by rw [hF 81 (by omega)]) (by rw [gF 88 (by decide)])⟩⟩
  · rw [g89, if_neg (by omega), if_neg (by omega)]; exact p4
  · rw [g89, if_neg (by omega), if_neg (by omega)]; exact p5
  · rw [g89, if_neg (by omega), if_neg (by omega)]; exact p6
  · rw [g89, if_neg (by omega), if_neg (by omega)]; exact p7
  · rw [g89, if_neg (by omega), if_pos rfl]; omega
  · rw [g89, if_neg (by omega), if_neg (by omega)]; exact p9
  · rw [tc o (by omega), hF o (by omega), svc_o hsc o (by omega)]
  · rw [tc 52 (by omega), hF 52 (by omega), svc_o hsc 52 (by omega), Rl_52 h k0 k1, g89, if_neg (by omega), if_neg (by omega)]
  · rw [tc 50 (by omega), c50]
    rcases k14 k0 k1 with rfl | rfl | rfl | rfl | rfl | rfl | rfl | rfl | rfl | rfl | rfl | rfl <;> simp [vS_k, g89, Rl_50 h]
theorem n_clear (l : Launch) (E : ewE) {M : ewM} (h : Rl M) {v0 : Option Value} {M0 : ewM} (hC : v0 = some (vI (M 81 1)) ∧ M0 = mu M 81 1 0) :
    ∃ z : Int, v0 = some (vI z) ∧ Ct l E yX5_clearBuffer (.code yX5_clearBuffer cX5_clearBuffer 2 (some .int)) 0 [vR E 88] M0 (okS z) := by
  obtain ⟨rfl, rfl⟩ := hC
  have h48 := h.2.2.2.2.1
  have f88 : (mu M 81 1 0) 88 = M 88 := mu_ne _ _ _ (by decide)
  refine ⟨_, rfl, ct_mono (c_X5_clearBuffer l E _ (c888 h f88)) (fun v T hT => ?_)⟩
  obtain ⟨rfl, rfl⟩ := hT
  have tM : ∀ o : Nat, o ≠ 81 → o ≠ 88 → (mu (mu (mu M 81 1 0) 88 0 0) 88 8 0) o = M o := fun o o1 o2 => by rw [mu_ne _ _ _ o2, mu_ne _ _ _ o2, mu_ne _ _ _ o1]
  have t88 : ∀ k : Int, k ≠ 0 → k ≠ 8 → (mu (mu (mu M 81 1 0) 88 0 0) 88 8 0) 88 k = M 88 k := fun k k0 k8 => by rw [mu_nk _ _ _ k8, mu_nk _ _ _ k0, f88]
  have t8 : (mu (mu (mu M 81 1 0) 88 0 0) 88 8 0) 88 8 = 0 := mu_eq _ _ _ _
  have t81 : (mu (mu (mu M 81 1 0) 88 0 0) 88 8 0) 81 1 = 0 := by rw [mu_ne _ _ _ (by decide), mu_ne _ _ _ (by decide), mu_eq]
  generalize mu (mu (mu M 81 1 0) 88 0 0) 88 8 0 = T at tM t88 t8 t81 ⊢
  refine ⟨_, rfl, by rw [f88, h48], R1_cg h.1 (fun o ho => tM o (by omega) (by omega)) (tM 89 (by decide) (by decide)), R2_cg h.2.1 (fun o ho => tM o (by omega) (by omega)) (by rw [tM 77 (by decide) (by decide)]) (by rw [tM 77 (by decide) (by decide)]) (t88 4 (by decide) (by decide)) (tM 91 (by decide) (by decide)), R3_cg h.2.2.1 (fun o ho => tM o (by omega) (by omega)) (tM 79 (by decide) (by decide)) (tM 93 (by decide) (by decide)) (tM 92 (by decide) (by decide)), ?_⟩
  exact ⟨by rw [t81]; omega, by rw [t81, t8], by rw [tM 82 (by decide) (by decide), tM 94 (by decide) (by decide), h.2.2.2.2.2]⟩
theorem n_first (l : Launch) (E : ewE) {M : ewM} (h : Rl M) {v0 : Option Value} {M0 : ewM} (hC : ∃ x : Int, f_fw (M 82) (M 81 1) x ∧ v0 = some (vI x) ∧ M = M0) :
    ∃ z : Int, v0 = some (vI z) ∧ Ct l E yX5_firstError (.code yX5_firstError cX5_firstError 1 (some .int)) 9 [vR E 88] M0 (okS z) := by
  obtain ⟨x, hx, rfl, e9⟩ := hC
  obtain rfl := e9
  rw [h.2.2.2.2.2, ← h.2.2.2.2.1] at hx
  refine ⟨_, rfl, ct_mono (c_X5_firstError l E _ (c888 h rfl)) (fun v T hT => ?_)⟩
  obtain ⟨x2, hx2, rfl, t0, t88, tF⟩ := hT
  exact ⟨_, rfl, by rw [f_fw_u hx hx2], same_Rl h ⟨fun o ho => tF o (by omega) (by omega), fun k k0 _ k2 k3 => t88 k k0 k2 k3⟩⟩
theorem n_best (l : Launch) (E : ewE) {M : ewM} (h : Rl M) {v0 : Option Value} {M0 : ewM} (hC : v0 = some (vI (f_fr (fun q => f_fc (M 1) (M 3) q (M 52 0) (M 52 1)) 10)) ∧ lk M M0) :
    ∃ z : Int, v0 = some (vI z) ∧ Ct l E yX5_bestFold (.code yX5_bestFold cX5_bestFold 1 (some .int)) 9 [vR E 88] M0 (okS z) := by
  obtain ⟨rfl, k⟩ := hC
  have f89 : M0 89 = M 89 := k 89 (by omega)
  obtain ⟨⟨e1, e2, e3, e4⟩, e51, -, -⟩ := Rl_now h
  refine ⟨_, rfl, ct_mono (c_X5_bestFold l E _ (by rw [f89]; exact Rl_svI h)) (fun v T hT => ?_)⟩
  obtain ⟨rfl, q⟩ := hT
  refine ⟨_, rfl, ?_, lk_Rl h k q⟩
  rw [f89, e1, e3, Rl_52 h (by decide) (by decide), Rl_52 h (by decide) (by decide)]
theorem n_share (l : Launch) (E : ewE) {M : ewM} (h : Rl M) {v0 : Option Value} {M0 : ewM} (hC : v0 = some (Value.double (f_sh (144 - f_sum (M 3) 144))) ∧ M = M0) :
    ∃ n : Int, (0 ≤ n ∧ n ≤ 144) ∧ v0 = some (Value.double (f_sh n)) ∧ Ct l E yX5_wholeShare (.code yX5_wholeShare cX5_wholeShare 1 (some .double)) 3 [vR E 88] M0 (fun v T => v = some (Value.double (f_sh n)) ∧ Rl T) := by
  obtain ⟨rfl, e9⟩ := hC
  obtain rfl := e9
  obtain ⟨⟨e1, e2, e3, e4⟩, e51, -, -⟩ := Rl_now h
  have hb := f_sum_C (Rl_st0 h).2.1
  refine ⟨144 - f_sum (M 3) 144, by omega, rfl, ct_mono (c_X5_wholeShare l E _ (Rl_svI h)) (fun v T hT => ?_)⟩
  obtain ⟨rfl, q⟩ := hT
  exact ⟨by rw [e3], lk_Rl h (fun _ _ => rfl) q⟩
theorem die_eq {M : ewM} (h : Rl M) (q : Int) : (if q % 4 = 0 then a_ans M (f_rel (M 51) (q / 4) 0) 3 4 else if q % 4 = 1 then f_bs (fun k => a_ans M (f_rel (M 51) (q / 4) 0) (k % 12) (k / 12)) 144 else if q % 4 = 2 then f_lt (M 51) (q / 4) 0 8 0 else f_need (f_rel (M 51) (q / 4) 0) (3 + M 50 3) 4 (M 1) (M 3) (M 52 1) (M 52 2)) = g_die (M 89) (q / 4) (q % 4) := by
  obtain ⟨⟨e1, e2, e3, e4⟩, e51, -, -⟩ := Rl_now h
  unfold g_die
  simp only [e51, ans_eq h, e1, e3, Rl_50 h (k := 3) (by decide) (by decide), Rl_52 h (k := 1) (by decide) (by decide), Rl_52 h (k := 2) (by decide) (by decide), vS_3]
theorem dig_eq {M : ewM} (h : Rl M) : a_dig M = g_dig M := by
  obtain ⟨⟨e1, e2, e3, e4⟩, e51, -, -⟩ := Rl_now h
  have s1 : f_h (f_num M) 14 3319 = gH1 (M 89) (M 88 4) := by
    unfold gH1
    rw [show f_num M = g_num (M 89) (M 88 4) from funext fun w => num_eq h w]
  have s2 : aH2 M = gH2 (M 89) (M 88 4) := by
    unfold aH2 gH2
    rw [s1]
    exact f_h_cg 4 (fun k k0 k1 => Rl_52 h k0 (by omega)) _
  have s3 : aH3 M = gH3 (M 89) (M 88 4) := by
    unfold aH3 gH3
    rw [s2, e51]
    exact f_h_cg 75 (fun k k0 k1 => (vQ_in (M 89) k0 (by omega)).symm) _
  have s4 : aH4 M = gH4 (M 89) (M 88 4) := by
    unfold aH4 gH4
    rw [s3]
    refine f_h_cg 1008 (fun k k0 k1 => ?_) _
    rw [prop_eq h, show 12 * (k / 7 / 12) + k / 7 % 12 = k / 7 by omega]
  have s5 : aH5 M = gH5 (M 89) (M 88 4) := by
    unfold aH5 gH5
    rw [s4]
    exact f_h_cg 12 (fun k k0 k1 => die_eq h k) _
  have s7 : aH7 M = gH7 (M 89) (M 88 4) := by
    unfold aH7 gH7 gH6
    rw [s5, e1, e3, Rl_52 h (by decide) (by decide), Rl_52 h (by decide) (by decide)]
  have s8 : aH8 M = gH8 (M 89) (M 88 4) := by
    unfold aH8 gH8
    rw [s7, e3]
  unfold a_dig g_dig gH9
  rw [s8, h.2.2.1.1, h.2.2.2.2.2, h.2.2.2.2.1]
theorem n_dig (l : Launch) (E : ewE) {M : ewM} (h : Rl M) {v0 : Option Value} {M0 : ewM} (hC : v0 = some (vJ (a_dig M)) ∧ lk M M0) :
    ∃ z : Int, v0 = some (vJ z) ∧ Ct l E yX5_digest (.code yX5_digest cX5_digest 2 (some .long)) 10 [vR E 88] M0 (fun v T => v = some (vJ z) ∧ Rl T) := by
  obtain ⟨rfl, k⟩ := hC
  have f89 : M0 89 = M 89 := k 89 (by omega)
  have f88 : M0 88 = M 88 := k 88 (by omega)
  have f93 : M0 93 = M 93 := k 93 (by omega)
  have f94 : M0 94 = M 94 := k 94 (by omega)
  refine ⟨_, rfl, ct_mono (c_X5_digest l E _ (by rw [f89]; exact Rl_svI h) (c888 h f88) (by rw [f93]; exact h.2.2.1.2.1)) (fun v T hT => ?_)⟩
  obtain ⟨rfl, t0, t88, tF⟩ := hT
  refine ⟨?_, same_Rl h ⟨fun o ho => by rw [tF o (by omega) (by omega) (by omega), k o (by omega)], fun k2 k0 k1 _ _ => by rw [t88 k2 k0 k1, f88]⟩⟩
  rw [dig_eq h]
  unfold g_dig gH9
  rw [f89, f88, f93, f94]
