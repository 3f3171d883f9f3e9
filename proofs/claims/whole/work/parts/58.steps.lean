/-! THE STEPS: what each call leaves, on both sides -/
theorem ct_mono {l : Launch} {E : ewE} {y : MethodName} {cd : Cond} {d : Nat} {As : List Value} {M : ewM} {post post' : Option Value → ewM → Prop} (h : Ct l E y cd d As M post) (hp : ∀ v M1, post v M1 → post' v M1) : Ct l E y cd d As M post' := by
  intro sz p e ha hc hk s m args below hf happ hP hK
  obtain ⟨n, o, w1, w2, w3, w4⟩ := h sz p e ha hc hk s m args below hf happ hP hK
  refine ⟨n, o, w1, w2, w3, ?_⟩
  obtain ⟨⟨⟨v, M1, e1, e2, e3⟩, e4⟩, e5⟩ := w4
  exact ⟨⟨⟨v, M1, e1, hp v M1 e2, e3⟩, e4⟩, e5⟩
/-- the reference's call: it fails as kk says; where it doesn't (0), it answers what lies in the law's row -/
def okT (kk : Int) : Option Value → ewM → Prop := fun v T => ∃ r : Int, v = some (vI r) ∧ T 88 0 = kk ∧ Rl T ∧ (kk = 0 → T 97 0 = wr r)
theorem vI_in {a b : Int} (h : some (vI a) = some (vI b)) : wr a = wr b := by
  have h1 := Option.some.inj h
  unfold vI at h1
  injection h1 with h2
  unfold wr
  rw [h2]
theorem okT_f {M : ewM} {c : Int} (h : Rl M) (hc : ¬ c = 0) : okT c (some (vI 0)) (mu (mu M 88 0 0) 88 0 c) :=
  ⟨0, rfl, mu_eq _ _ _ _, same_Rl h ⟨fun o ho => by rw [mu_ne _ _ _ (by omega), mu_ne _ _ _ (by omega)], fun k k0 _ _ _ => by rw [mu_nk _ _ _ k0, mu_nk _ _ _ k0]⟩, fun z => absurd z hc⟩
theorem qk_same {M T : ewM} {th : Int} (q : qk M T th) : same_ M T := ⟨fun o ho => q.2.2 o (by omega) (by omega) (by omega), fun k k0 _ _ _ => q.2.1 k k0⟩
theorem okT_q {M T : ewM} {c r : Int} (h : Rl M) (q : qk M T c) (hc : ¬ c = 0) : okT c (some (vI r)) T :=
  ⟨r, rfl, q.1, same_Rl h (qk_same q), fun z => absurd z hc⟩
/-- a look of the class, then the same look of the reference -/
theorem look_T {M M0 T : ewM} {w r : Int} (h : Rl M) (k : lk M M0) (q : qk (mu M0 97 0 w) T 0) (hr : w = wr r) : okT 0 (some (vI r)) T := by
  refine ⟨r, rfl, q.1, same_Rl h ⟨fun o ho => ?_, fun k2 k0 _ _ _ => ?_⟩, fun _ => ?_⟩
  · rw [q.2.2 o (by omega) (by omega) (by omega), mu_ne _ _ _ (by omega), k o (by omega)]
  · rw [q.2.1 k2 k0, mu_ne _ _ _ (by decide), k 88 (by omega)]
  · rw [q.2.2 97 (by decide) (by decide) (by decide), mu_eq, hr]
theorem look_89 {M M0 : ewM} (k : lk M M0) (w : Int) : (mu M0 97 0 w) 89 = M 89 := by rw [mu_ne _ _ _ (by decide), k 89 (by omega)]
theorem look_88 {M M0 : ewM} (k : lk M M0) (w : Int) : (mu M0 97 0 w) 88 = M 88 := by rw [mu_ne _ _ _ (by decide), k 88 (by omega)]
theorem Rl_50 {M : ewM} (h : Rl M) {k : Int} (h0 : 3 ≤ k) (h1 : k ≤ 14) : M 50 k = vS (M 89) k := (Rl_now h).2.2.2 k h0 h1
theorem Rl_52 {M : ewM} (h : Rl M) {k : Int} (h0 : 0 ≤ k) (h1 : k < 4) : M 52 k = M 89 k := (Rl_now h).2.2.1 k h0 h1
theorem ans_eq {M : ewM} (h : Rl M) (r : Int → Int) (x y : Int) : a_ans M r x y = m_ans (M 89) r x y := by
  obtain ⟨⟨e1, e2, e3, e4⟩, -, -, -⟩ := Rl_now h
  unfold a_ans m_ans
  rw [e1, e3, Rl_50 h (by decide) (by decide), Rl_52 h (by decide) (by decide), Rl_52 h (by decide) (by decide), Rl_52 h (by decide) (by decide)]
  rfl
theorem num_eq {M : ewM} (h : Rl M) (w : Int) : f_num M w = g_num (M 89) (M 88 4) w := by
  obtain ⟨⟨e1, e2, e3, e4⟩, -, -, -⟩ := Rl_now h
  unfold f_num g_num
  rw [Rl_50 h (k := 4) (by decide) (by decide), Rl_50 h (k := 5) (by decide) (by decide), Rl_50 h (k := 3) (by decide) (by decide), Rl_50 h (k := 6) (by decide) (by decide), Rl_50 h (k := 10) (by decide) (by decide), Rl_50 h (k := 7) (by decide) (by decide), Rl_50 h (k := 8) (by decide) (by decide), Rl_50 h (k := 9) (by decide) (by decide), e1, e2, e3, h.2.1.2.2.1]
theorem ov_eq {M : ewM} (h : Rl M) (p : Int) : f_ov (M 50) p ↔ f_ov (vS (M 89)) p := by
  unfold f_ov
  rw [Rl_50 h (k := 10) (by decide) (by decide), Rl_50 h (k := 11) (by decide) (by decide), Rl_50 h (k := 12) (by decide) (by decide), Rl_50 h (k := 13) (by decide) (by decide), Rl_50 h (k := 14) (by decide) (by decide)]
theorem prop_eq {M : ewM} (h : Rl M) (p w : Int) : f_prop M p w = g_prop (M 89) p w := by
  obtain ⟨⟨e1, e2, e3, e4⟩, -, -, -⟩ := Rl_now h
  have e9 : (if f_ov (M 50) p then (1 : Int) else 0) = if f_ov (vS (M 89)) p then 1 else 0 := by
    by_cases z : f_ov (M 50) p
    · rw [if_pos z, if_pos ((ov_eq h p).mp z)]
    · rw [if_neg z, if_neg (fun y => z ((ov_eq h p).mpr y))]
  unfold f_prop g_prop
  rw [e9, e1, e2, e3, e4, Rl_52 h (by decide) (by decide), Rl_52 h (by decide) (by decide)]
theorem views_low {f g : Int → Int} (h : ∀ i : Int, 16 ≤ i → i < 667 → g i = f i) : vD g = vD f ∧ vF g = vF f ∧ vC g = vC f ∧ vP g = vP f ∧ vQ g = vQ f :=
  ⟨cut_cg fun k k0 k1 => h _ (by omega) (by omega), cut_cg fun k k0 k1 => h _ (by omega) (by omega), cut_cg fun k k0 k1 => h _ (by omega) (by omega), cut_cg fun k k0 k1 => h _ (by omega) (by omega), cut_cg fun k k0 k1 => h _ (by omega) (by omega)⟩
/-- both sides have saved, then changed: all but the present state is as it must be -/
theorem saves_T {M Nc M0 N T : ewM} {w : Int} (h : Rl M) (hc : svc M Nc) (h1 : ∀ o : Nat, ((5 ≤ o ∧ o ≤ 44) ∨ (53 ≤ o ∧ o ≤ 80) ∨ o = 82 ∨ (88 ≤ o ∧ o ≤ 96)) → M0 o = Nc o) (hs : svs (mu (mu M0 97 0 w) 88 0 0) N)
    (h2 : ∀ o : Nat, o ≠ 88 → o ≠ 89 → o ≠ 90 → o ≠ 95 → o ≠ 96 → T o = N o) (h3 : T 88 0 = N 88 0) (h4 : T 88 4 = N 88 4) :
    T 88 0 = 0 ∧ R2 T ∧ R3 T ∧ (M0 81 1 = Nc 81 1 → T 88 8 = N 88 8 → R4 T) ∧ T 97 0 = w ∧ (∀ o : Nat, ((1 ≤ o ∧ o ≤ 4) ∨ (50 ≤ o ∧ o ≤ 52)) → T o = M0 o) ∧ N 89 = M 89 ∧ T 82 = M 82 ∧ T 94 = M 94 ∧ T 81 = M0 81 := by
  obtain ⟨s1, s2, s3⟩ := hs
  have hM : ∀ o : Nat, (o ≤ 15 ∨ (45 ≤ o ∧ o ≤ 58) ∨ 78 ≤ o) → Nc o = M o := svc_o hc
  have b88 : ∀ k : Int, k ≠ 0 → (mu (mu M0 97 0 w) 88 0 0) 88 k = M 88 k := fun k k0 => by rw [mu_nk _ _ _ k0, mu_ne _ _ _ (by decide), h1 88 (by omega), hM 88 (by omega)]
  have b89 : (mu (mu M0 97 0 w) 88 0 0) 89 = M 89 := by rw [mu_ne _ _ _ (by decide), mu_ne _ _ _ (by decide), h1 89 (by omega), hM 89 (by omega)]
  have b91 : (mu (mu M0 97 0 w) 88 0 0) 91 = M 91 := by rw [mu_ne _ _ _ (by decide), mu_ne _ _ _ (by decide), h1 91 (by omega), hM 91 (by omega)]
  have tN : ∀ o : Nat, o ≠ 88 → o ≠ 89 → o ≠ 90 → o ≠ 91 → o ≠ 95 → o ≠ 96 → o ≠ 97 → T o = M0 o := fun o o1 o2 o3 o4 o5 o6 o7 => by
    rw [h2 o o1 o2 o3 o5 o6, s3 o o1 o4, mu_ne _ _ _ o1, mu_ne _ _ _ o7]
  have tC : ∀ o : Nat, ((5 ≤ o ∧ o ≤ 44) ∨ (53 ≤ o ∧ o ≤ 80) ∨ o = 82 ∨ (92 ≤ o ∧ o ≤ 94)) → T o = Nc o := fun o ho => by
    rw [tN o (by omega) (by omega) (by omega) (by omega) (by omega) (by omega) (by omega), h1 o (by omega)]
  have tM : ∀ o : Nat, ((5 ≤ o ∧ o ≤ 15) ∨ (53 ≤ o ∧ o ≤ 58) ∨ (78 ≤ o ∧ o ≤ 80) ∨ o = 82 ∨ (92 ≤ o ∧ o ≤ 94)) → T o = M o := fun o ho => by
    rw [tC o (by omega), hM o (by omega)]
  refine ⟨?_, ?_, ?_, fun e81 e8 => ?_, ?_, fun o ho => tN o (by omega) (by omega) (by omega) (by omega) (by omega) (by omega) (by omega), ?_, tM 82 (by omega), tM 94 (by omega), tN 81 (by decide) (by decide) (by decide) (by decide) (by decide) (by decide) (by decide)⟩
  · rw [h3, s2 0, if_neg (by decide), mu_eq]
  · refine R2_save h hc (fun o ho => tC o (by omega)) (by rw [tC 77 (by omega)]) (by rw [tC 77 (by omega)]) ?_ (fun i => ?_)
    · rw [h4, s2 4, if_pos rfl, b88 4 (by decide)]
    · rw [h2 91 (by decide) (by decide) (by decide) (by decide) (by decide), s1 i, b88 4 (by decide), b89, b91]
  · exact R3_cg h.2.2.1 (fun o ho => tM o (by omega)) (tM 79 (by omega)) (tM 93 (by omega)) (tM 92 (by omega))
  · refine R4_cg h.2.2.2 ?_ ?_ (tM 82 (by omega)) (tM 94 (by omega))
    · rw [tN 81 (by decide) (by decide) (by decide) (by decide) (by decide) (by decide) (by decide), e81, hM 81 (by omega)]
    · rw [e8, s2 8, if_neg (by decide), b88 8 (by decide)]
  · rw [h2 97 (by decide) (by decide) (by decide) (by decide) (by decide), s3 97 (by decide) (by decide), mu_ne _ _ _ (by decide), mu_eq]
  · rw [s3 89 (by decide) (by decide), b89]
/-- the present state out of its cells -/
theorem R1_mk {T : ewM} (h0 : svI (T 89)) (h1 : T 1 = vD (T 89)) (h2 : T 2 = vF (T 89)) (h3 : T 3 = vC (T 89)) (h4 : T 4 = vP (T 89)) (h5 : T 51 = vQ (T 89)) (h6 : ∀ k : Int, 0 ≤ k → k < 4 → T 52 k = T 89 k) (h7 : ∀ k : Int, 3 ≤ k → k ≤ 14 → T 50 k = vS (T 89) k) : R1 T :=
  ⟨h0, ⟨h1, h2, h3, h4⟩, h5, h6, h7⟩
theorem svI_low {f g : Int → Int} (hf : svI f) (h : ∀ i : Int, 16 ≤ i → i < 667 → g i = f i) (h0 : 0 ≤ g 0 ∧ g 0 ≤ 99) (h1 : 0 ≤ g 1 ∧ g 1 ≤ 20) (h2 : 1 ≤ g 2 ∧ g 2 ≤ 9) (h3 : 0 ≤ g 3 ∧ g 3 ≤ 9) (h4 : 0 ≤ g 4 ∧ g 4 ≤ 3) (h8 : 0 ≤ g 8 ∧ g 8 ≤ 9) : svI g := by
  obtain ⟨e1, e2, e3, e4, e5⟩ := views_low h
  obtain ⟨p1, p2, p3, p4, p5, p6, p7, p8, p9, pf⟩ := hf
  unfold svI
  rw [e1, e2, e3, e5]
  exact ⟨p1, p2, p3, h0, h1, h2, h3, h4, h8, pf⟩
