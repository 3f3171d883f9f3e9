/-! VIEWS: the reference's row of 667 numbers, told in the class's words -/
def cut (n : Nat) (f : Int → Int) : Int → Int := fun k => if 0 ≤ k ∧ k < n then f k else 0
def vD (f : Int → Int) : Int → Int := cut 144 (fun p => f (91 + p))
def vF (f : Int → Int) : Int → Int := cut 144 (fun p => f (235 + p))
def vC (f : Int → Int) : Int → Int := cut 144 (fun p => f (379 + p))
def vP (f : Int → Int) : Int → Int := cut 144 (fun p => f (523 + p))
def vQ (f : Int → Int) : Int → Int := cut 75 (fun k => f (16 + k))
def vT (f : Int → Int) : Int → Int := cut 4 f
/-- the numbers of a state, by the places of the class's fields -/
def vS (f : Int → Int) : Int → Int := fun k => if k = 3 then f 4 else if k = 4 then f 6 else if k = 5 then f 5 else if k = 6 then f 7 else if k = 7 then f 13 else if k = 8 then f 14 else if k = 9 then f 15 else if k = 10 then f 8 else if k = 11 then f 9 else if k = 12 then f 10 else if k = 13 then f 11 else if k = 14 then f 12 else 0
theorem cut_in {n : Nat} {f : Int → Int} {k : Int} (h0 : 0 ≤ k) (h1 : k < n) : cut n f k = f k := by unfold cut; rw [if_pos ⟨h0, h1⟩]
theorem cut_out {n : Nat} {f : Int → Int} {k : Int} (h : ¬ (0 ≤ k ∧ k < n)) : cut n f k = 0 := by unfold cut; rw [if_neg h]
theorem cut_cut (n : Nat) (f : Int → Int) : cut n (cut n f) = cut n f := by
  funext k
  by_cases h : 0 ≤ k ∧ k < n
  · rw [cut_in h.1 h.2]
  · rw [cut_out h, cut_out h]
theorem cut_cg {n : Nat} {f g : Int → Int} (h : ∀ k : Int, 0 ≤ k → k < n → f k = g k) : cut n f = cut n g := by
  funext k
  by_cases h9 : 0 ≤ k ∧ k < n
  · rw [cut_in h9.1 h9.2, cut_in h9.1 h9.2, h k h9.1 h9.2]
  · rw [cut_out h9, cut_out h9]
theorem vD_in (f : Int → Int) {p : Int} (h0 : 0 ≤ p) (h1 : p < 144) : f (91 + p) = vD f p := (cut_in (f := fun p => f (91 + p)) h0 h1).symm
theorem vF_in (f : Int → Int) {p : Int} (h0 : 0 ≤ p) (h1 : p < 144) : f (235 + p) = vF f p := (cut_in (f := fun p => f (235 + p)) h0 h1).symm
theorem vC_in (f : Int → Int) {p : Int} (h0 : 0 ≤ p) (h1 : p < 144) : f (379 + p) = vC f p := (cut_in (f := fun p => f (379 + p)) h0 h1).symm
theorem vP_in (f : Int → Int) {p : Int} (h0 : 0 ≤ p) (h1 : p < 144) : f (523 + p) = vP f p := (cut_in (f := fun p => f (523 + p)) h0 h1).symm
theorem vQ_in (f : Int → Int) {k : Int} (h0 : 0 ≤ k) (h1 : k < 75) : f (16 + k) = vQ f k := (cut_in (f := fun p => f (16 + p)) h0 h1).symm
theorem vT_in (f : Int → Int) {k : Int} (h0 : 0 ≤ k) (h1 : k < 4) : f k = vT f k := (cut_in h0 h1).symm
/-- what the reference's row keeps to -/
def svI (f : Int → Int) : Prop := pD (vD f) ∧ pC (vC f) ∧ pD (vQ f) ∧ (0 ≤ f 0 ∧ f 0 ≤ 99) ∧ (0 ≤ f 1 ∧ f 1 ≤ 20) ∧ (1 ≤ f 2 ∧ f 2 ≤ 9) ∧ (0 ≤ f 3 ∧ f 3 ≤ 9) ∧ (0 ≤ f 4 ∧ f 4 ≤ 3) ∧ (0 ≤ f 8 ∧ f 8 ≤ 9) ∧ ∀ p : Int, 0 ≤ vF f p ∧ vF f p ≤ 9
/-- two rows that are the same but for the places from a on, n of them -/
def sv_fr (a n : Int) (f g : Int → Int) : Prop := ∀ k : Int, ¬ (a ≤ k ∧ k < a + n) → g k = f k
theorem wr_plus {x s c : Int} (x1 : -2147483648 ≤ x) (x2 : x < 2147483648) (s0 : 0 ≤ s) (s3 : s ≤ 3) (c0 : 0 ≤ c) (c4 : c ≤ 4) : (0 ≤ wr (x + s + c) ∧ wr (x + s + c) ≤ 11) ↔ (0 ≤ x + s + c ∧ x + s + c ≤ 11) := by
  by_cases h : x + s + c < 2147483648
  · rw [wr_of (by omega) h]
  · have e1 : Int32.ofInt (x + s + c) = Int32.ofInt (x + s + c - 4294967296) := by
      rw [Int32.ofInt_sub]
      have : Int32.ofInt 4294967296 = 0 := by decide
      rw [this, Int32.sub_zero]
    have e2 : wr (x + s + c) = x + s + c - 4294967296 := by
      unfold wr
      rw [e1]
      exact e32 (by omega) (by omega)
    rw [e2]
    omega
/-- the places of the row that are about cracks get new numbers -/
theorem vC_up {f g : Int → Int} {c : Int → Int} (h1 : ∀ p : Int, 0 ≤ p → p < 144 → g (379 + p) = c p) (h2 : ∀ p : Int, ¬ (0 ≤ p ∧ p < 144) → c p = 0) : vC g = c := by
  funext p
  by_cases h : 0 ≤ p ∧ p < 144
  · rw [← vC_in g h.1 h.2, h1 p h.1 h.2]
  · rw [h2 p h]
    exact cut_out h
