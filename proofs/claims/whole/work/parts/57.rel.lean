/-! THE RELATION of class and reference -/
/-- state j of the class is what the row f of the reference says -/
def SR (M : ewM) (j : Nat) (f : Int → Int) : Prop := svI f ∧ (M (5 * j + 1) = vD f ∧ M (5 * j + 2) = vF f ∧ M (5 * j + 3) = vC f ∧ M (5 * j + 4) = vP f) ∧ M (50 + 3 * j + 1) = vQ f ∧ (∀ k : Int, 0 ≤ k → k < 4 → M (50 + 3 * j + 2) k = f k) ∧ ∀ k : Int, 3 ≤ k → k ≤ 14 → M (50 + 3 * j) k = vS f k
def R1 (M : ewM) : Prop := SR M 0 (M 89)
def R2 (M : ewM) : Prop := (0 ≤ M 77 4 ∧ M 77 4 ≤ 5) ∧ (0 ≤ M 77 5 ∧ M 77 5 ≤ 6) ∧ M 88 4 = M 77 5 ∧ ∀ q : Int, 0 ≤ q → q < M 77 5 → ∀ j : Nat, (j : Int) = 3 + (M 77 4 + q) % 6 → SR M j (fun i => M 91 (667 * q + i))
def R3 (M : ewM) : Prop := M 79 = M 93 ∧ (∀ q : Int, M 93 q = 0 ∨ M 93 q = 1) ∧ ∀ a : Int, 0 ≤ a → a ≤ 1 → ¬ M 93 a = 0 → ∀ j : Nat, (j : Int) = 1 + a → SR M j (fun i => M 92 (667 * a + i))
def R4 (M : ewM) : Prop := (0 ≤ M 81 1 ∧ M 81 1 ≤ 40) ∧ M 88 8 = M 81 1 ∧ M 82 = M 94
def Rl (M : ewM) : Prop := R1 M ∧ R2 M ∧ R3 M ∧ R4 M
/-- two rows that agree on their 667 places -/
def row_eq (f g : Int → Int) : Prop := ∀ i : Int, 0 ≤ i → i < 667 → g i = f i
theorem row_views {f g : Int → Int} (h : row_eq f g) : vD g = vD f ∧ vF g = vF f ∧ vC g = vC f ∧ vP g = vP f ∧ vQ g = vQ f ∧ ∀ k : Int, vS g k = vS f k := by
  refine ⟨cut_cg fun k k0 k1 => h _ (by omega) (by omega), cut_cg fun k k0 k1 => h _ (by omega) (by omega), cut_cg fun k k0 k1 => h _ (by omega) (by omega), cut_cg fun k k0 k1 => h _ (by omega) (by omega), cut_cg fun k k0 k1 => h _ (by omega) (by omega), fun k => ?_⟩
  unfold vS
  rw [h 4 (by decide) (by decide), h 6 (by decide) (by decide), h 5 (by decide) (by decide), h 7 (by decide) (by decide), h 13 (by decide) (by decide), h 14 (by decide) (by decide), h 15 (by decide) (by decide), h 8 (by decide) (by decide), h 9 (by decide) (by decide), h 10 (by decide) (by decide), h 11 (by decide) (by decide), h 12 (by decide) (by decide)]
theorem row_svI {f g : Int → Int} (h : row_eq f g) (hf : svI f) : svI g := by
  obtain ⟨e1, e2, e3, e4, e5, e6⟩ := row_views h
  unfold svI
  rw [e1, e2, e3, e5, h 0 (by decide) (by decide), h 1 (by decide) (by decide), h 2 (by decide) (by decide), h 3 (by decide) (by decide), h 4 (by decide) (by decide), h 8 (by decide) (by decide)]
  exact hf
/-- state i of M, copied to state j of N -/
theorem SR_mv {M N : ewM} {i j : Nat} {f g : Int → Int} (h : SR M i f) (hc : cpS M i N j) (hg : row_eq f g) : SR N j g := by
  obtain ⟨e1, e2, e3, e4, e5, e6⟩ := row_views hg
  obtain ⟨a0, ⟨a1, a2, a3, a4⟩, a5, a6, a7⟩ := h
  obtain ⟨c1, c2, c3, c4⟩ := hc
  refine ⟨row_svI hg a0, ⟨?_, ?_, ?_, ?_⟩, ?_, fun k k0 k1 => ?_, fun k k0 k1 => ?_⟩
  · rw [c3 1 (by decide) (by decide), a1, e1]
  · rw [c3 2 (by decide) (by decide), a2, e2]
  · rw [c3 3 (by decide) (by decide), a3, e3]
  · rw [c3 4 (by decide) (by decide), a4, e4]
  · rw [c1, a5, e5]
  · rw [c2, a6 k k0 k1, hg k k0 (by omega)]
  · rw [c4 k k0 k1, a7 k k0 k1, e6]
theorem cpS_same {M N : ewM} {j : Nat} (h : ∀ o : Nat, ((5 * j + 1 ≤ o ∧ o ≤ 5 * j + 4) ∨ (50 + 3 * j ≤ o ∧ o ≤ 50 + 3 * j + 2)) → N o = M o) : cpS M j N j :=
  ⟨h _ (by omega), h _ (by omega), fun r r0 r1 => h _ (by omega), fun k _ _ => by rw [h _ (by omega)]⟩
theorem R1_cg {M N : ewM} (h : R1 M) (h1 : ∀ o : Nat, ((1 ≤ o ∧ o ≤ 4) ∨ (50 ≤ o ∧ o ≤ 52)) → N o = M o) (h2 : N 89 = M 89) : R1 N := by
  unfold R1
  rw [h2]
  exact SR_mv h (cpS_same fun o ho => h1 o (by omega)) (fun _ _ _ => rfl)
theorem R2_cg {M N : ewM} (h : R2 M) (h1 : ∀ o : Nat, ((16 ≤ o ∧ o ≤ 44) ∨ (59 ≤ o ∧ o ≤ 76)) → N o = M o) (h2 : N 77 4 = M 77 4) (h3 : N 77 5 = M 77 5) (h4 : N 88 4 = M 88 4) (h5 : N 91 = M 91) : R2 N := by
  unfold R2
  rw [h2, h3, h4, h5]
  obtain ⟨a1, a2, a3, a4⟩ := h
  refine ⟨a1, a2, a3, fun q q0 q1 j hj => SR_mv (a4 q q0 q1 j hj) (cpS_same fun o ho => h1 o (by omega)) (fun _ _ _ => rfl)⟩
theorem R3_cg {M N : ewM} (h : R3 M) (h1 : ∀ o : Nat, ((6 ≤ o ∧ o ≤ 14) ∨ (53 ≤ o ∧ o ≤ 58)) → N o = M o) (h2 : N 79 = M 79) (h3 : N 93 = M 93) (h4 : N 92 = M 92) : R3 N := by
  unfold R3
  rw [h2, h3, h4]
  obtain ⟨a1, a2, a3⟩ := h
  exact ⟨a1, a2, fun a a0 a9 hz j hj => SR_mv (a3 a a0 a9 hz j hj) (cpS_same fun o ho => h1 o (by omega)) (fun _ _ _ => rfl)⟩
theorem R4_cg {M N : ewM} (h : R4 M) (h1 : N 81 1 = M 81 1) (h2 : N 88 8 = M 88 8) (h3 : N 82 = M 82) (h4 : N 94 = M 94) : R4 N := by
  unfold R4
  rw [h1, h2, h3, h4]
  exact h
/-- what a world after a look says of the one before -/
def same_ (M N : ewM) : Prop := (∀ o : Nat, ((1 ≤ o ∧ o ≤ 44) ∨ (50 ≤ o ∧ o ≤ 82) ∨ (o = 89 ∨ (91 ≤ o ∧ o ≤ 94))) → N o = M o) ∧ ∀ k : Int, k ≠ 0 → k ≠ 13 → k ≠ 10 → k ≠ 11 → N 88 k = M 88 k
theorem same_Rl {M N : ewM} (h : Rl M) (k : same_ M N) : Rl N :=
  ⟨R1_cg h.1 (fun o ho => k.1 o (by omega)) (k.1 89 (by omega)),
   R2_cg h.2.1 (fun o ho => k.1 o (by omega)) (by rw [k.1 77 (by omega)]) (by rw [k.1 77 (by omega)]) (k.2 4 (by decide) (by decide) (by decide) (by decide)) (k.1 91 (by omega)),
   R3_cg h.2.2.1 (fun o ho => k.1 o (by omega)) (k.1 79 (by omega)) (k.1 93 (by omega)) (k.1 92 (by omega)),
   R4_cg h.2.2.2 (by rw [k.1 81 (by omega)]) (k.2 8 (by decide) (by decide) (by decide) (by decide)) (k.1 82 (by omega)) (k.1 94 (by omega))⟩
theorem Rl_st0 {M : ewM} (h : Rl M) : st0 M := by
  obtain ⟨⟨⟨p1, p2, p3, p4, p5, p6, p7, p8, p9, pf⟩, ⟨a1, a2, a3, a4⟩, a5, a6, a7⟩, -⟩ := h
  have a1 : M 1 = vD (M 89) := a1
  have a3 : M 3 = vC (M 89) := a3
  have a5 : M 51 = vQ (M 89) := a5
  have a6 : ∀ k : Int, 0 ≤ k → k < 4 → M 52 k = M 89 k := a6
  have a7 : M 50 3 = vS (M 89) 3 := a7 3 (by decide) (by decide)
  unfold st0
  rw [a1, a3, a5, a6 0 (by decide) (by decide), a6 1 (by decide) (by decide), a6 2 (by decide) (by decide), a6 3 (by decide) (by decide), a7]
  exact ⟨p1, p2, p3, p4, p5, p6, p7, p8⟩
theorem Rl_svI {M : ewM} (h : Rl M) : svI (M 89) := h.1.1
/-- the present state, cell by cell -/
theorem Rl_now {M : ewM} (h : Rl M) : (M 1 = vD (M 89) ∧ M 2 = vF (M 89) ∧ M 3 = vC (M 89) ∧ M 4 = vP (M 89)) ∧ M 51 = vQ (M 89) ∧ (∀ k : Int, 0 ≤ k → k < 4 → M 52 k = M 89 k) ∧ ∀ k : Int, 3 ≤ k → k ≤ 14 → M 50 k = vS (M 89) k := h.1.2
/-- both sides have saved the present state -/
theorem R2_save {M N T : ewM} (h : Rl M) (hc : svc M N) (h1 : ∀ o : Nat, ((16 ≤ o ∧ o ≤ 44) ∨ (59 ≤ o ∧ o ≤ 76)) → T o = N o) (h2 : T 77 4 = N 77 4) (h3 : T 77 5 = N 77 5)
    (h4 : T 88 4 = if M 88 4 = 6 then 6 else M 88 4 + 1)
    (h5 : ∀ i : Int, T 91 i = if 667 * (if M 88 4 = 6 then 5 else M 88 4) ≤ i ∧ i < 667 * (if M 88 4 = 6 then 5 else M 88 4) + 667 then M 89 (i - 667 * (if M 88 4 = 6 then 5 else M 88 4)) else if M 88 4 = 6 ∧ 0 ≤ i ∧ i < 3335 then M 91 (i + 667) else M 91 i) : R2 T := by
  obtain ⟨a1, a2, a3, a4⟩ := h.2.1
  obtain ⟨c1, c2⟩ := hc
  have n4 : N 77 4 = rg_o M := (c1 4).trans (if_pos rfl)
  have n5 : N 77 5 = rg_n M + 1 := (c1 5).trans (by rw [if_neg (by decide), if_pos rfl])
  have hb := rg_b a1 a2
  have e9 : (if M 88 4 = 6 then (5 : Int) else M 88 4) = rg_n M := by unfold rg_n; rw [a3]
  rw [e9] at h5
  unfold R2
  rw [h2, h3, n4, n5, h4]
  refine ⟨hb.1, ⟨by omega, by omega⟩, ?_, fun q q0 q1 j hj => ?_⟩
  · unfold rg_n
    rw [a3]
    split <;> omega
  · by_cases hq : q = rg_n M
    · subst hq
      obtain ⟨d1, d2, d3, d4, d5⟩ := c2 j hj
      refine SR_mv (M := M) (i := 0) (f := M 89) h.1 ⟨?_, ?_, fun r r0 r1 => ?_, fun k k0 k1 => ?_⟩ (fun i i0 i1 => ?_)
      · rw [h1 _ (by omega), d1]
      · rw [h1 _ (by omega), d2]
      · rw [h1 _ (by omega), d3 r r0 r1, show 5 * 0 + r = r by omega]
      · rw [h1 _ (by omega), d4 k k0 k1]
      · show T 91 (667 * rg_n M + i) = M 89 i
        rw [h5, if_pos (by omega), show 667 * rg_n M + i - 667 * rg_n M = i by omega]
    · obtain ⟨js, hjs⟩ : ∃ js : Nat, (js : Int) = 3 + (rg_o M + rg_n M) % 6 := ⟨(3 + (rg_o M + rg_n M) % 6).toNat, by omega⟩
      obtain ⟨d1, d2, d3, d4, d5⟩ := c2 js hjs
      have hne : j ≠ js := by omega
      have hTM : ∀ o : Nat, ((5 * j + 1 ≤ o ∧ o ≤ 5 * j + 4) ∨ (50 + 3 * j ≤ o ∧ o ≤ 50 + 3 * j + 2)) → T o = M o := fun o ho => by
        rw [h1 o (by omega), d5 o (by omega) (by omega) (by omega)]
      by_cases h6 : M 77 5 = 6
      · have o6 : rg_o M = (M 77 4 + 1) % 6 := by unfold rg_o; rw [if_pos h6]
        have n6 : rg_n M = 5 := by unfold rg_n; rw [if_pos h6]
        refine SR_mv (a4 (q + 1) (by omega) (by omega) j (by omega)) (cpS_same hTM) (fun i i0 i1 => ?_)
        show T 91 (667 * q + i) = M 91 (667 * (q + 1) + i)
        rw [h5, if_neg (by omega), if_pos ⟨by omega, by omega, by omega⟩, show 667 * q + i + 667 = 667 * (q + 1) + i by omega]
      · have o6 : rg_o M = M 77 4 := by unfold rg_o; rw [if_neg h6]
        have n6 : rg_n M = M 77 5 := by unfold rg_n; rw [if_neg h6]
        refine SR_mv (a4 q (by omega) (by omega) j (by omega)) (cpS_same hTM) (fun i i0 i1 => ?_)
        show T 91 (667 * q + i) = M 91 (667 * q + i)
        rw [h5, if_neg (by omega), if_neg (by omega)]
