/-! PURE FACTS: the end of the cracks, two ways to tell strains, what presses leave -/
/-- if the rounds up to n all crack something, at least n have cracked -/
theorem f_it_grow {d c : Int → Int} {b t : Int} (hc : pC c) : ∀ n : Nat, (∀ i : Nat, i < n → ¬ f_sum (f_ind (f_ovr d b t (f_it d b t c i))) 144 = 0) → (n : Int) ≤ f_sum (f_it d b t c n) 144 := by
  intro n
  induction n with
  | zero => intro _; exact (f_sum_C hc).1
  | succ n ih =>
    intro h
    have h1 := ih (fun i hi => h i (by omega))
    have h2 := h n (by omega)
    have h3 := f_rnd_sum d b t (f_it d b t c n)
    have h4 := f_sum_le' (f := fun _ => 0) (g := f_ind (f_ovr d b t (f_it d b t c n))) 144 (fun k _ _ => (f_ind_b _ k).1)
    rw [f_sum_0] at h4
    show ((n + 1 : Nat) : Int) ≤ f_sum (f_rnd d b t (f_it d b t c n)) 144
    omega
/-- behind 144 rounds no place is strained too much -/
theorem f_it_end {d c : Int → Int} {b t : Int} (hc : pC c) : f_sum (f_ind (f_ovr d b t (f_it d b t c 144))) 144 = 0 := by
  refine Decidable.by_contra (fun h => ?_)
  have h0 : ∀ i : Nat, i < 145 → ¬ f_sum (f_ind (f_ovr d b t (f_it d b t c i))) 144 = 0 := by
    intro i hi h1
    have h2 := f_it_fix h1 (144 - i)
    rw [show i + (144 - i) = 144 by omega] at h2
    rw [h2] at h
    exact h h1
  have h3 := f_it_grow hc 144 (fun i hi => h0 i (by omega))
  have h4 := f_rnd_sum d b t (f_it d b t c 144)
  have h5 := f_sum_C (f_it_C hc (d := d) (b := b) (t := t) 145)
  have h6 := f_sum_le' (f := fun _ => 0) (g := f_ind (f_ovr d b t (f_it d b t c 144))) 144 (fun k _ _ => (f_ind_b _ k).1)
  rw [f_sum_0] at h6
  have h7 : f_it d b t c 145 = f_rnd d b t (f_it d b t c 144) := rfl
  rw [h7] at h5
  omega
/-- a sheet on which no place is strained more than it bears, but for those that have cracked -/
def f_set (d c : Int → Int) (b t : Int) : Prop := ∀ q : Int, 0 ≤ q → q < 144 → c q = 1 ∨ f_str d q ≤ f_bear c q b t
theorem f_it_set {d c : Int → Int} {b t : Int} (hc : pC c) : f_set d (f_it d b t c 144) b t := by
  intro q h0 h1
  have h2 := f_ind_0 144 (f_it_end (d := d) (b := b) (t := t) hc) q h0 (by omega)
  have h3 := f_it_C hc (d := d) (b := b) (t := t) 144 q
  unfold f_ovr at h2
  by_cases h4 : f_it d b t c 144 q = 0
  · right
    simp only [h4, decide_true, Bool.true_and, decide_eq_false_iff_not] at h2
    omega
  · left
    omega
theorem f_sum_add (f g : Int → Int) : ∀ n : Nat, f_sum (fun q => f q + g q) n = f_sum f n + f_sum g n := by
  intro n
  induction n with
  | zero => rfl
  | succ n ih =>
    show f_sum (fun q => f q + g q) n + (f n + g n) = f_sum f n + f n + (f_sum g n + g n)
    rw [ih]
    omega
theorem f_diff_c (f : Int → Int) (a b : Int) : f_diff f a b = f_diff f b a := by
  unfold f_diff
  split <;> split <;> omega
theorem f_s12 (f : Int → Int) : ∀ n : Nat, f_sum (f_s1 f) (n + 1) = f_sum (f_s2 f) n := by
  intro n
  induction n with
  | zero => rfl
  | succ n ih =>
    show f_sum (f_s1 f) (n + 1) + f_s1 f ((n + 1 : Nat) : Int) = f_sum (f_s2 f) n + f_s2 f n
    rw [ih]
    have : f_s1 f ((n + 1 : Nat) : Int) = f_s2 f n := by
      unfold f_s1 f_s2
      rw [f_diff_c f ((n + 1 : Nat) : Int), show ((n + 1 : Nat) : Int) = (n : Int) + 1 by omega, show (n : Int) + 1 - 1 = n by omega]
      by_cases h : (n : Int) % 12 < 11
      · rw [if_pos h, if_pos (by omega)]
      · rw [if_neg h, if_neg (by omega)]
    omega
theorem f_s34 (f : Int → Int) : ∀ n : Nat, f_sum (f_s3 f) (n + 12) = f_sum (fun q => if q < 132 then f_s4 f q else f_diff f q (q + 12)) n := by
  intro n
  induction n with
  | zero => rfl
  | succ n ih =>
    show f_sum (f_s3 f) (n + 12) + f_s3 f ((n + 12 : Nat) : Int) = f_sum (fun q => if q < 132 then f_s4 f q else f_diff f q (q + 12)) n + (if (n : Int) < 132 then f_s4 f n else f_diff f n (n + 12))
    rw [ih]
    have : f_s3 f ((n + 12 : Nat) : Int) = if (n : Int) < 132 then f_s4 f n else f_diff f n (n + 12) := by
      unfold f_s3 f_s4
      rw [if_pos (by omega), f_diff_c f ((n + 12 : Nat) : Int), show ((n + 12 : Nat) : Int) = (n : Int) + 12 by omega, show (n : Int) + 12 - 12 = n by omega]
      split <;> rfl
    omega
theorem f_sum_tail {g : Int → Int} {m : Nat} : ∀ n : Nat, (∀ k : Int, m ≤ k → g k = 0) → f_sum g (m + n) = f_sum g m := by
  intro n
  induction n with
  | zero => intro _; rfl
  | succ n ih =>
    intro h
    show f_sum g (m + n) + g ((m + n : Nat) : Int) = f_sum g m
    rw [ih h, h _ (by omega)]
    omega
/-- the strain of all places together is also twice the sum over all pairs of neighbours -/
theorem f_two (f : Int → Int) : f_sum (f_str f) 144 = 2 * f_sum (fun q => f_s2 f q + f_s4 f q) 144 := by
  have e1 : f_sum (f_s1 f) 144 = f_sum (f_s2 f) 144 := by
    have h1 : f_sum (f_s1 f) 144 = f_sum (f_s2 f) 143 := f_s12 f 143
    have h2 : f_sum (f_s2 f) 144 = f_sum (f_s2 f) 143 + f_s2 f ((143 : Nat) : Int) := rfl
    have h3 : f_s2 f ((143 : Nat) : Int) = 0 := by unfold f_s2; rw [if_neg (by omega)]
    omega
  have e2 : f_sum (f_s3 f) 144 = f_sum (f_s4 f) 144 := by
    have h1 := f_s34 f 132
    have h2 := f_sum_tail (g := f_s4 f) (m := 132) 12 (fun k hk => by unfold f_s4; rw [if_neg (by omega)])
    have h3 : f_sum (fun q => if q < 132 then f_s4 f q else f_diff f q (q + 12)) 132 = f_sum (f_s4 f) 132 := f_sum_cg 132 (fun k _ k2 => if_pos (show k < 132 by omega))
    have h4 : f_sum (f_s3 f) (132 + 12) = f_sum (f_s3 f) 144 := rfl
    have h5 : f_sum (f_s4 f) (132 + 12) = f_sum (f_s4 f) 144 := rfl
    omega
  have e3 : f_sum (f_str f) 144 = f_sum (f_s1 f) 144 + f_sum (f_s2 f) 144 + f_sum (f_s3 f) 144 + f_sum (f_s4 f) 144 := by
    have h1 := f_sum_add (fun q => f_s1 f q + f_s2 f q + f_s3 f q) (f_s4 f) 144
    have h2 := f_sum_add (fun q => f_s1 f q + f_s2 f q) (f_s3 f) 144
    have h3 := f_sum_add (f_s1 f) (f_s2 f) 144
    have h4 : f_sum (f_str f) 144 = f_sum (fun q => f_s1 f q + f_s2 f q + f_s3 f q + f_s4 f q) 144 := rfl
    omega
  have e4 := f_sum_add (f_s2 f) (f_s4 f) 144
  omega
/-- presses: a place is deeper than 0 just if it was pressed -/
theorem f_emb_prs {r d p : Int → Int} {left top B : Int} (hr : pD r) (hd : pD d) (h : ∀ q : Int, (0 < d q ↔ 0 < p q) ∧ 0 ≤ p q ∧ p q ≤ B) (hB : 0 ≤ B) (hB2 : B ≤ 100000) : ∀ n : Nat, n ≤ 25 → ∀ q : Int, (0 < f_emb r left top d n q ↔ 0 < f_prs r left top p n q) ∧ 0 ≤ f_prs r left top p n q ∧ f_prs r left top p n q ≤ B + n := by
  intro n
  induction n with
  | zero => intro _ q; have := h q; exact ⟨this.1, this.2.1, by show p q ≤ B + ((0 : Nat) : Int); omega⟩
  | succ n ih =>
    intro hn q
    have ih := ih (by omega)
    rw [f_emb, f_prs]
    by_cases h9 : 0 < r n ∧ f_pu n left top ≠ -1
    · rw [if_pos h9, if_pos h9]
      try dsimp only
      have h1 := ih (f_pu n left top)
      have h2 := f_emb_D hr hd left top n (f_pu n left top)
      have h3 := ih q
      have h4 : wr (f_prs r left top p n (f_pu n left top) + 1) = f_prs r left top p n (f_pu n left top) + 1 := wr_of (by omega) (by omega)
      by_cases hq : q = f_pu n left top
      · rw [if_pos hq, if_pos hq, h4]
        omega
      · rw [if_neg hq, if_neg hq]
        omega
    · rw [if_neg h9, if_neg h9]
      have h3 := ih q
      omega
theorem f_stk_b {st r f : Int → Int} {left top : Int} (hs : 0 ≤ st 10 ∧ st 10 ≤ 9) (hf : ∀ q : Int, 0 ≤ f q ∧ f q ≤ 9) : ∀ (n : Nat) (q : Int), 0 ≤ f_stk st r left top f n q ∧ f_stk st r left top f n q ≤ 9 := by
  intro n
  induction n with
  | zero => exact hf
  | succ n ih =>
    intro q
    have h1 := ih q
    rw [f_stk]
    split
    · dsimp only
      split <;> omega
    · exact h1
theorem f_stk_cg {s1 s2 r f : Int → Int} {left top : Int} (h : ∀ k : Int, 10 ≤ k → k ≤ 14 → s1 k = s2 k) : ∀ n : Nat, f_stk s1 r left top f n = f_stk s2 r left top f n := by
  intro n
  induction n with
  | zero => rfl
  | succ n ih =>
    have e10 := h 10 (by decide) (by decide)
    have e9 : f_ov s1 (f_pu n left top) ↔ f_ov s2 (f_pu n left top) := by
      unfold f_ov
      rw [e10, h 11 (by decide) (by decide), h 12 (by decide) (by decide), h 13 (by decide) (by decide), h 14 (by decide) (by decide)]
    rw [f_stk, f_stk, ih]
    by_cases h9 : 0 < r n ∧ f_pu n left top ≠ -1 ∧ f_ov s1 (f_pu n left top)
    · rw [if_pos h9, if_pos ⟨h9.1, h9.2.1, e9.mp h9.2.2⟩, e10]
    · rw [if_neg h9, if_neg (fun z => h9 ⟨z.1, z.2.1, e9.mpr z.2.2⟩)]
