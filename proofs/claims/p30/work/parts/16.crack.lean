/-! CRACKS: the pure side -/
def f_ind (P : Int → Bool) : Int → Int := fun q => if P q = true then 1 else 0
theorem f_sum_cg {f g : Int → Int} : ∀ n : Nat, (∀ k : Int, 0 ≤ k → k < n → f k = g k) → f_sum f n = f_sum g n := by
  intro n
  induction n with
  | zero => intro _; rfl
  | succ n ih =>
    intro h
    show f_sum f n + f n = f_sum g n + g n
    rw [ih (fun k h1 h2 => h k h1 (by omega)), h n (by omega) (by omega)]
theorem f_sum_up {f g : Int → Int} {p : Int} : ∀ n : Nat, 0 ≤ p → (∀ k : Int, 0 ≤ k → k < n → k ≠ p → g k = f k) → (p < n → f_sum g n = f_sum f n + (g p - f p)) ∧ ((n : Int) ≤ p → f_sum g n = f_sum f n) := by
  intro n
  induction n with
  | zero => intro h0 _; exact ⟨fun h => by omega, fun _ => rfl⟩
  | succ n ih =>
    intro h0 h
    obtain ⟨h1, h2⟩ := ih h0 (fun k k1 k2 k3 => h k k1 (by omega) k3)
    refine ⟨fun hp => ?_, fun hp => ?_⟩
    · show f_sum g n + g n = f_sum f n + f n + (g p - f p)
      by_cases he : p = n
      · rw [h2 (by omega), ← he]; omega
      · rw [h1 (by omega), h n (by omega) (by omega) (fun e => he e.symm)]; omega
    · show f_sum g n + g n = f_sum f n + f n
      rw [h2 (by omega), h n (by omega) (by omega) (by omega)]
theorem f_sum_le' {f g : Int → Int} : ∀ n : Nat, (∀ k : Int, 0 ≤ k → k < n → f k ≤ g k) → f_sum f n ≤ f_sum g n := by
  intro n
  induction n with
  | zero => intro _; exact Int.le_refl _
  | succ n ih =>
    intro h
    have h1 := ih (fun k k1 k2 => h k k1 (by omega))
    have h2 := h n (by omega) (by omega)
    show f_sum f n + f n ≤ f_sum g n + g n
    omega
theorem f_ind_b (P : Int → Bool) (q : Int) : 0 ≤ f_ind P q ∧ f_ind P q ≤ 1 := by unfold f_ind; split <;> omega
/-- br lists, without doubles, the m places of the sheet that P tells -/
def f_ls (P : Int → Bool) (br : Int → Int) (m : Int) : Prop :=
  m = f_sum (f_ind P) 144 ∧ (∀ i : Int, 0 ≤ i → i < m → 0 ≤ br i ∧ br i < 144 ∧ P (br i) = true) ∧ (∀ i j : Int, 0 ≤ i → i < m → 0 ≤ j → j < m → br i = br j → i = j) ∧ ∀ q : Int, 0 ≤ q → q < 144 → P q = true → ∃ i : Int, 0 ≤ i ∧ i < m ∧ br i = q
theorem f_ls_m {P : Int → Bool} {br : Int → Int} {m : Int} (h : f_ls P br m) : 0 ≤ m ∧ m ≤ 144 := by
  have := f_sum_le (g := f_ind P) (a := 0) (b := 1) (fun k _ _ => f_ind_b P k) 144 (by decide)
  rw [h.1]
  omega
theorem f_sum_0 : ∀ n : Nat, f_sum (fun _ => 0) n = 0 := by
  intro n
  induction n with
  | zero => rfl
  | succ n ih => show f_sum (fun _ => 0) n + 0 = 0; rw [ih]; rfl
theorem f_ls_0 {P : Int → Bool} {br : Int → Int} (h : ∀ q : Int, 0 ≤ q → q < 144 → P q = false) : f_ls P br 0 := by
  refine ⟨?_, fun i _ _ => by omega, fun i j _ _ => by omega, fun q h1 h2 h3 => by rw [h q h1 h2] at h3; cases h3⟩
  rw [f_sum_cg (g := fun _ => 0) 144 (fun k k1 k2 => by unfold f_ind; rw [h k k1 k2]; rfl), f_sum_0]
theorem f_ls_cg {P P2 : Int → Bool} {br : Int → Int} {m : Int} (h : f_ls P br m) (hp : ∀ q : Int, 0 ≤ q → q < 144 → P2 q = P q) : f_ls P2 br m := by
  obtain ⟨h1, h2, h3, h4⟩ := h
  refine ⟨?_, fun i i1 i2 => ?_, h3, fun q q1 q2 q3 => h4 q q1 q2 (by rw [← hp q q1 q2]; exact q3)⟩
  · rw [h1]
    exact (f_sum_cg 144 (fun k k1 k2 => by unfold f_ind; rw [hp k k1 k2])).symm
  · have := h2 i i1 i2
    exact ⟨this.1, this.2.1, by rw [hp _ this.1 this.2.1]; exact this.2.2⟩
theorem f_ls_s {P P2 : Int → Bool} {br : Int → Int} {m p : Int} (h : f_ls P br m) (h0 : 0 ≤ p) (h1 : p < 144) (hp : P p = false) (h2 : P2 p = true) (hp2 : ∀ q : Int, 0 ≤ q → q < 144 → q ≠ p → P2 q = P q) : f_ls P2 (fun b => if b = m then p else br b) (m + 1) := by
  have hm := f_ls_m h
  obtain ⟨g1, g2, g3, g4⟩ := h
  refine ⟨?_, fun i i1 i2 => ?_, fun i j i1 i2 j1 j2 hij => ?_, fun q q1 q2 q3 => ?_⟩
  · have := (f_sum_up (f := f_ind P) (g := f_ind P2) 144 h0 (fun k k1 k2 k3 => by unfold f_ind; rw [hp2 k k1 (by omega) k3])).1 (by omega)
    rw [this, g1]
    unfold f_ind
    rw [hp, h2]
    simp
  · dsimp only
    by_cases hi : i = m
    · rw [if_pos hi]; exact ⟨h0, h1, h2⟩
    · rw [if_neg hi]
      have := g2 i i1 (by omega)
      refine ⟨this.1, this.2.1, ?_⟩
      by_cases he : br i = p
      · rw [he]; exact h2
      · rw [hp2 _ this.1 this.2.1 he]; exact this.2.2
  · dsimp only at hij
    have key : ∀ i : Int, 0 ≤ i → i < m → br i ≠ p := by
      intro i i1 i2 he
      have := (g2 i i1 i2).2.2
      rw [he, hp] at this
      cases this
    by_cases hi : i = m
    · by_cases hj : j = m
      · omega
      · rw [if_pos hi, if_neg hj] at hij
        exact absurd hij.symm (key j j1 (by omega))
    · by_cases hj : j = m
      · rw [if_neg hi, if_pos hj] at hij
        exact absurd hij (key i i1 (by omega))
      · rw [if_neg hi, if_neg hj] at hij
        exact g3 i j i1 (by omega) j1 (by omega) hij
  · by_cases he : q = p
    · exact ⟨m, by omega, by omega, by dsimp only; rw [if_pos rfl, he]⟩
    · obtain ⟨i, i1, i2, i3⟩ := g4 q q1 q2 (by rw [← hp2 q q1 q2 he]; exact q3)
      exact ⟨i, i1, by omega, by dsimp only; rw [if_neg (by omega), i3]⟩
/-- the cracks behind the first n of a list of places -/
def f_crk (br c : Int → Int) : Nat → Int → Int
  | 0 => c
  | n + 1 => fun b => if b = br n then 1 else f_crk br c n b
def f_w1 (s : Int → Int) (p : Int) : Int → Int := if 0 < p % 12 then fun q => if q = p - 1 then wr (s (p - 1) + 1) else s q else s
def f_w2 (s : Int → Int) (p : Int) : Int → Int := if p % 12 < 11 then fun q => if q = p + 1 then wr (s (p + 1) + 1) else s q else s
def f_w3 (s : Int → Int) (p : Int) : Int → Int := if 12 ≤ p then fun q => if q = p - 12 then wr (s (p - 12) + 1) else s q else s
def f_w4 (s : Int → Int) (p : Int) : Int → Int := if p < 132 then fun q => if q = p + 12 then wr (s (p + 12) + 1) else s q else s
/-- the counts of cracked neighbours, when p cracks -/
def f_weak (s : Int → Int) (p : Int) : Int → Int := f_w4 (f_w3 (f_w2 (f_w1 s p) p) p) p
def f_bes (br s : Int → Int) : Nat → Int → Int
  | 0 => s
  | n + 1 => f_weak (f_bes br s n) (br n)
theorem f_crk_s (br c : Int → Int) {k : Int} (h0 : 0 ≤ k) : f_crk br c (k + 1).toNat = fun b => if b = br k then 1 else f_crk br c k.toNat b := by
  rw [show (k + 1).toNat = k.toNat + 1 by omega, f_crk, show (k.toNat : Int) = k by omega]
theorem f_bes_s (br s : Int → Int) {k : Int} (h0 : 0 ≤ k) : f_bes br s (k + 1).toNat = f_weak (f_bes br s k.toNat) (br k) := by
  rw [show (k + 1).toNat = k.toNat + 1 by omega, f_bes, show (k.toNat : Int) = k by omega]
theorem f_crk_in {br c : Int → Int} {q : Int} : ∀ n : Nat, (∃ i : Int, 0 ≤ i ∧ i < n ∧ br i = q) → f_crk br c n q = 1 := by
  intro n
  induction n with
  | zero => rintro ⟨i, h1, h2, -⟩; omega
  | succ n ih =>
    rintro ⟨i, h1, h2, h3⟩
    show (if q = br n then 1 else f_crk br c n q) = 1
    by_cases hq : q = br n
    · rw [if_pos hq]
    · rw [if_neg hq]
      refine ih ⟨i, h1, ?_, h3⟩
      by_cases hi : i = n
      · subst hi; exact absurd h3.symm hq
      · omega
theorem f_crk_out {br c : Int → Int} {q : Int} : ∀ n : Nat, (∀ i : Int, 0 ≤ i → i < n → br i ≠ q) → f_crk br c n q = c q := by
  intro n
  induction n with
  | zero => intro _; rfl
  | succ n ih =>
    intro h
    show (if q = br n then 1 else f_crk br c n q) = c q
    rw [if_neg (fun e => h n (by omega) (by omega) e.symm)]
    exact ih (fun i i1 i2 => h i i1 (by omega))
theorem f_crk_C {br c : Int → Int} (hc : pC c) : ∀ n : Nat, pC (f_crk br c n) := by
  intro n
  induction n with
  | zero => exact hc
  | succ n ih =>
    intro b
    have := ih b
    show 0 ≤ (if b = br n then 1 else f_crk br c n b) ∧ (if b = br n then 1 else f_crk br c n b) ≤ 1
    split <;> omega
/-- the places that P tells crack -/
def f_brk (P : Int → Bool) (c : Int → Int) : Int → Int := fun q => if 0 ≤ q ∧ q < 144 ∧ P q = true then 1 else c q
theorem f_crk_eq {P : Int → Bool} {br c : Int → Int} {m : Int} (h : f_ls P br m) : f_crk br c m.toNat = f_brk P c := by
  have hm := f_ls_m h
  obtain ⟨h1, h2, h3, h4⟩ := h
  funext q
  unfold f_brk
  by_cases hq : 0 ≤ q ∧ q < 144 ∧ P q = true
  · rw [if_pos hq]
    obtain ⟨i, i1, i2, i3⟩ := h4 q hq.1 hq.2.1 hq.2.2
    exact f_crk_in _ ⟨i, i1, by omega, i3⟩
  · rw [if_neg hq]
    refine f_crk_out _ (fun i i1 i2 he => hq ?_)
    have := h2 i i1 (by omega)
    rw [he] at this
    exact this
theorem f_weak_q {s c : Int → Int} {p q : Int} (hp : 0 ≤ p) (hp2 : p < 144) (hq : 0 ≤ q) (hq2 : q < 144) (hs : ∀ k : Int, 0 ≤ k → k < 144 → s k = f_cb c k) (hc : pC c) (h0 : c p = 0) : f_weak s p q = f_cb (fun b => if b = p then 1 else c b) q := by
  have hb := f_cb_b hc
  have hw : ∀ k : Int, 0 ≤ k → k < 144 → wr (s k + 1) = s k + 1 := fun k k1 k2 => by have := hs k k1 k2; have := hb k; exact wr_of (by omega) (by omega)
  have e1 : ∀ x : Int, f_w1 s p x = if x = p - 1 ∧ 0 < p % 12 then s x + 1 else s x := by
    intro x
    unfold f_w1
    by_cases h : 0 < p % 12
    · rw [if_pos h]
      by_cases hx : x = p - 1
      · subst hx; rw [if_pos rfl, if_pos ⟨rfl, h⟩, hw _ (by omega) (by omega)]
      · rw [if_neg hx, if_neg (fun z => hx z.1)]
    · rw [if_neg h, if_neg (fun z => h z.2)]
  have e2 : ∀ x : Int, f_w2 (f_w1 s p) p x = if x = p + 1 ∧ p % 12 < 11 then s x + 1 else f_w1 s p x := by
    intro x
    unfold f_w2
    by_cases h : p % 12 < 11
    · rw [if_pos h]
      by_cases hx : x = p + 1
      · subst hx; rw [if_pos rfl, if_pos ⟨rfl, h⟩, e1, if_neg (by omega), hw _ (by omega) (by omega)]
      · rw [if_neg hx, if_neg (fun z => hx z.1)]
    · rw [if_neg h, if_neg (fun z => h z.2)]
  have e3 : ∀ x : Int, f_w3 (f_w2 (f_w1 s p) p) p x = if x = p - 12 ∧ 12 ≤ p then s x + 1 else f_w2 (f_w1 s p) p x := by
    intro x
    unfold f_w3
    by_cases h : 12 ≤ p
    · rw [if_pos h]
      by_cases hx : x = p - 12
      · subst hx; rw [if_pos rfl, if_pos ⟨rfl, h⟩, e2, if_neg (by omega), e1, if_neg (by omega), hw _ (by omega) (by omega)]
      · rw [if_neg hx, if_neg (fun z => hx z.1)]
    · rw [if_neg h, if_neg (fun z => h z.2)]
  have e4 : f_weak s p q = if q = p + 12 ∧ p < 132 then s q + 1 else f_w3 (f_w2 (f_w1 s p) p) p q := by
    unfold f_weak f_w4
    by_cases h : p < 132
    · rw [if_pos h]
      by_cases hx : q = p + 12
      · subst hx; rw [if_pos rfl, if_pos ⟨rfl, h⟩, e3, if_neg (by omega), e2, if_neg (by omega), e1, if_neg (by omega), hw _ (by omega) (by omega)]
      · rw [if_neg hx, if_neg (fun z => hx z.1)]
    · rw [if_neg h, if_neg (fun z => h z.2)]
  rw [e4, e3, e2, e1, hs q hq hq2]
  unfold f_cb f_b1 f_b2 f_b3 f_b4
  have c1 : ∀ x : Int, (if x = p then 1 else c x) = c x + (if x = p then 1 else 0) := by
    intro x
    by_cases hx : x = p
    · rw [if_pos hx, if_pos hx, hx, h0]; rfl
    · rw [if_neg hx, if_neg hx]; omega
  simp only [c1]
  by_cases a1 : 0 < q % 12 <;> by_cases a2 : q % 12 < 11 <;> by_cases a3 : 12 ≤ q <;> by_cases a4 : q < 132 <;> simp only [a1, a2, a3, a4, if_true, if_false] <;> repeat' split
  all_goals omega
theorem f_bes_q {br s c : Int → Int} (hs : ∀ k : Int, 0 ≤ k → k < 144 → s k = f_cb c k) (hc : pC c) : ∀ n : Nat, (∀ i : Int, 0 ≤ i → i < n → 0 ≤ br i ∧ br i < 144 ∧ c (br i) = 0) → (∀ i j : Int, 0 ≤ i → i < n → 0 ≤ j → j < n → br i = br j → i = j) → ∀ q : Int, 0 ≤ q → q < 144 → f_bes br s n q = f_cb (f_crk br c n) q := by
  intro n
  induction n with
  | zero => intro _ _; exact hs
  | succ n ih =>
    intro h1 h2 q q1 q2
    have ih := ih (fun i i1 i2 => h1 i i1 (by omega)) (fun i j i1 i2 j1 j2 => h2 i j i1 (by omega) j1 (by omega))
    have hn := h1 n (by omega) (by omega)
    show f_weak (f_bes br s n) (br n) q = f_cb (fun b => if b = br n then 1 else f_crk br c n b) q
    exact f_weak_q hn.1 hn.2.1 q1 q2 ih (f_crk_C hc n) (by
      rw [f_crk_out n (fun i i1 i2 he => by
        have := h2 i n i1 (by omega) (by omega) (by omega) he
        omega)]
      exact hn.2.2)
/-- the places that are strained more than they bear, and haven't cracked -/
def f_ovr (d : Int → Int) (b t : Int) (c : Int → Int) : Int → Bool := fun q => decide (c q = 0) && decide (f_bear c q b t < f_str d q)
def f_rnd (d : Int → Int) (b t : Int) (c : Int → Int) : Int → Int := f_brk (f_ovr d b t c) c
/-- n rounds of cracks -/
def f_it (d : Int → Int) (b t : Int) (c : Int → Int) : Nat → Int → Int
  | 0 => c
  | n + 1 => f_rnd d b t (f_it d b t c n)
theorem f_brk_C {P : Int → Bool} {c : Int → Int} (hc : pC c) : pC (f_brk P c) := by
  intro q
  have := hc q
  unfold f_brk
  split <;> omega
theorem f_it_C {d : Int → Int} {b t : Int} {c : Int → Int} (hc : pC c) : ∀ n : Nat, pC (f_it d b t c n) := by
  intro n
  induction n with
  | zero => exact hc
  | succ n ih => exact f_brk_C ih
theorem f_it_s (d : Int → Int) (b t : Int) (c : Int → Int) {k : Int} (h0 : 0 ≤ k) : f_it d b t c (k + 1).toNat = f_rnd d b t (f_it d b t c k.toNat) := by
  rw [show (k + 1).toNat = k.toNat + 1 by omega]
  rfl
/-- what the sum of the cracks grows by -/
theorem f_brk_sum {P : Int → Bool} {c : Int → Int} (h : ∀ q : Int, 0 ≤ q → q < 144 → P q = true → c q = 0) : f_sum (f_brk P c) 144 = f_sum c 144 + f_sum (f_ind P) 144 := by
  have key : ∀ n : Nat, n ≤ 144 → f_sum (f_brk P c) n = f_sum c n + f_sum (f_ind P) n := by
    intro n
    induction n with
    | zero => intro _; rfl
    | succ n ih =>
      intro hn
      show f_sum (f_brk P c) n + f_brk P c n = f_sum c n + c n + (f_sum (f_ind P) n + f_ind P n)
      rw [ih (by omega)]
      unfold f_brk f_ind
      by_cases hp : P n = true
      · rw [if_pos ⟨by omega, by omega, hp⟩, if_pos hp, h n (by omega) (by omega) hp]; omega
      · rw [if_neg (fun z => hp z.2.2), if_neg hp]; omega
  exact key 144 (by decide)
theorem f_ovr_0 {d : Int → Int} {b t : Int} {c : Int → Int} {q : Int} (h : f_ovr d b t c q = true) : c q = 0 := by
  unfold f_ovr at h
  simp only [Bool.and_eq_true, decide_eq_true_eq] at h
  exact h.1
theorem f_rnd_sum (d : Int → Int) (b t : Int) (c : Int → Int) : f_sum (f_rnd d b t c) 144 = f_sum c 144 + f_sum (f_ind (f_ovr d b t c)) 144 := f_brk_sum (fun _ _ _ h => f_ovr_0 h)
/-- a sum of none: none is told -/
theorem f_ind_0 {P : Int → Bool} : ∀ n : Nat, f_sum (f_ind P) n = 0 → ∀ q : Int, 0 ≤ q → q < n → P q = false := by
  intro n
  induction n with
  | zero => intro _ q h1 h2; omega
  | succ n ih =>
    intro h q h1 h2
    have h3 : f_sum (f_ind P) n + f_ind P n = 0 := h
    have h4 : 0 ≤ f_sum (f_ind P) n := by
      have := f_sum_le' (f := fun _ => 0) (g := f_ind P) n (fun k _ _ => (f_ind_b P k).1)
      rw [f_sum_0] at this
      exact this
    have h5 := f_ind_b P n
    by_cases hq : q = n
    · have h6 : f_ind P n = 0 := by omega
      rw [hq]
      unfold f_ind at h6
      cases hp : P n with
      | false => rfl
      | true => rw [hp] at h6; simp at h6
    · exact ih (by omega) q h1 (by omega)
theorem f_rnd_fix {d : Int → Int} {b t : Int} {c : Int → Int} (h : f_sum (f_ind (f_ovr d b t c)) 144 = 0) : f_rnd d b t c = c := by
  funext q
  unfold f_rnd f_brk
  rw [if_neg]
  rintro ⟨h1, h2, h3⟩
  rw [f_ind_0 144 h q h1 (by omega)] at h3
  cases h3
theorem f_it_fix {d : Int → Int} {b t : Int} {c : Int → Int} {n : Nat} (h : f_sum (f_ind (f_ovr d b t (f_it d b t c n))) 144 = 0) : ∀ k : Nat, f_it d b t c (n + k) = f_it d b t c n := by
  intro k
  induction k with
  | zero => rfl
  | succ k ih =>
    show f_rnd d b t (f_it d b t c (n + k)) = _
    rw [ih]
    exact f_rnd_fix h
/-- the sum of the cracks over the sheet is at most 144 -/
theorem f_sum_C {c : Int → Int} (h : pC c) : 0 ≤ f_sum c 144 ∧ f_sum c 144 ≤ 144 := by
  have := f_sum_le (g := c) (a := 0) (b := 1) (fun k _ _ => h k) 144 (by decide)
  omega
/-- the place's own way of telling that it is strained too much -/
theorem f_ovr_eq {d : Int → Int} {b t : Int} {c : Int → Int} (hd : pD d) {q : Int} : f_ovr d b t c q = (decide (c q = 0) && (decide (0 < f_str d q) && decide (b - t * f_cb c q < f_str d q))) := by
  unfold f_ovr f_bear
  have := f_str_b hd q
  congr 1
  by_cases h1 : 0 < f_str d q <;> by_cases h2 : b - t * f_cb c q < f_str d q <;> simp [h1, h2] <;> omega
