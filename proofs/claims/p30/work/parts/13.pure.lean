/-! PURE WORDS: what the methods tell, of numbers alone -/
def pD (f : Int → Int) : Prop := ∀ k : Int, 0 ≤ f k ∧ f k ≤ 9
def pC (f : Int → Int) : Prop := ∀ k : Int, 0 ≤ f k ∧ f k ≤ 1
def f_diff (f : Int → Int) (a b : Int) : Int := if f a - f b < 0 then -(f a - f b) else f a - f b
def f_s1 (f : Int → Int) (p : Int) : Int := if 0 < p % 12 then f_diff f p (p - 1) else 0
def f_s2 (f : Int → Int) (p : Int) : Int := if p % 12 < 11 then f_diff f p (p + 1) else 0
def f_s3 (f : Int → Int) (p : Int) : Int := if 12 ≤ p then f_diff f p (p - 12) else 0
def f_s4 (f : Int → Int) (p : Int) : Int := if p < 132 then f_diff f p (p + 12) else 0
def f_str (f : Int → Int) (p : Int) : Int := f_s1 f p + f_s2 f p + f_s3 f p + f_s4 f p
def f_b1 (f : Int → Int) (p : Int) : Int := if 0 < p % 12 then f (p - 1) else 0
def f_b2 (f : Int → Int) (p : Int) : Int := if p % 12 < 11 then f (p + 1) else 0
def f_b3 (f : Int → Int) (p : Int) : Int := if 12 ≤ p then f (p - 12) else 0
def f_b4 (f : Int → Int) (p : Int) : Int := if p < 132 then f (p + 12) else 0
def f_cb (f : Int → Int) (p : Int) : Int := f_b1 f p + f_b2 f p + f_b3 f p + f_b4 f p
def f_bear (c : Int → Int) (p bears takes : Int) : Int := max 0 (bears - takes * f_cb c p)
/-- the sum over the first n places -/
def f_sum (g : Int → Int) : Nat → Int
  | 0 => 0
  | n + 1 => f_sum g n + g n
/-- the greatest over the first n places, at least 0 -/
def f_max (g : Int → Int) : Nat → Int
  | 0 => 0
  | n + 1 => max (f_max g n) (g n)
theorem f_sum_cast (g : Int → Int) {n : Nat} {k : Int} (h0 : 0 ≤ k) (h : k = n) : f_sum g (k + 1).toNat = f_sum g k.toNat + g k := by
  subst h
  rw [show ((n : Int) + 1).toNat = n + 1 by omega, show ((n : Int)).toNat = n by omega]
  rfl
theorem f_sum_s (g : Int → Int) {k : Int} (h0 : 0 ≤ k) : f_sum g (k + 1).toNat = f_sum g k.toNat + g k := f_sum_cast g (n := k.toNat) h0 (by omega)
theorem f_max_s (g : Int → Int) {k : Int} (h0 : 0 ≤ k) : f_max g (k + 1).toNat = max (f_max g k.toNat) (g k) := by
  rw [show (k + 1).toNat = k.toNat + 1 by omega]
  show max (f_max g k.toNat) (g (k.toNat : Int)) = _
  rw [show (k.toNat : Int) = k by omega]
theorem f_sum_le {g : Int → Int} {a b : Int} (hg : ∀ k : Int, 0 ≤ k → k < 144 → a ≤ g k ∧ g k ≤ b) : ∀ n : Nat, n ≤ 144 → a * n ≤ f_sum g n ∧ f_sum g n ≤ b * n := by
  intro n
  induction n with
  | zero => intro _; exact ⟨by show a * 0 ≤ 0; omega, by show 0 ≤ b * 0; omega⟩
  | succ n ih =>
    intro hn
    have h1 := ih (by omega)
    have h2 := hg n (by omega) (by omega)
    have e1 : a * ((n + 1 : Nat) : Int) = a * n + a := by rw [show ((n + 1 : Nat) : Int) = (n : Int) + 1 by omega, Int.mul_add, Int.mul_one]
    have e2 : b * ((n + 1 : Nat) : Int) = b * n + b := by rw [show ((n + 1 : Nat) : Int) = (n : Int) + 1 by omega, Int.mul_add, Int.mul_one]
    rw [e1, e2]
    show _ ≤ f_sum g n + g n ∧ f_sum g n + g n ≤ _
    omega
theorem f_diff_b {f : Int → Int} (h : pD f) (a b : Int) : 0 ≤ f_diff f a b ∧ f_diff f a b ≤ 9 := by
  have h1 := h a
  have h2 := h b
  unfold f_diff
  split <;> omega
theorem f_s1_b {f : Int → Int} (h : pD f) (p : Int) : 0 ≤ f_s1 f p ∧ f_s1 f p ≤ 9 := by unfold f_s1; have := f_diff_b h p (p - 1); split <;> omega
theorem f_s2_b {f : Int → Int} (h : pD f) (p : Int) : 0 ≤ f_s2 f p ∧ f_s2 f p ≤ 9 := by unfold f_s2; have := f_diff_b h p (p + 1); split <;> omega
theorem f_s3_b {f : Int → Int} (h : pD f) (p : Int) : 0 ≤ f_s3 f p ∧ f_s3 f p ≤ 9 := by unfold f_s3; have := f_diff_b h p (p - 12); split <;> omega
theorem f_s4_b {f : Int → Int} (h : pD f) (p : Int) : 0 ≤ f_s4 f p ∧ f_s4 f p ≤ 9 := by unfold f_s4; have := f_diff_b h p (p + 12); split <;> omega
theorem f_str_b {f : Int → Int} (h : pD f) (p : Int) : 0 ≤ f_str f p ∧ f_str f p ≤ 36 := by
  have h1 := f_s1_b h p
  have h2 := f_s2_b h p
  have h3 := f_s3_b h p
  have h4 := f_s4_b h p
  unfold f_str
  omega
theorem f_b1_b {f : Int → Int} (h : pC f) (p : Int) : 0 ≤ f_b1 f p ∧ f_b1 f p ≤ 1 := by unfold f_b1; have := h (p - 1); split <;> omega
theorem f_b2_b {f : Int → Int} (h : pC f) (p : Int) : 0 ≤ f_b2 f p ∧ f_b2 f p ≤ 1 := by unfold f_b2; have := h (p + 1); split <;> omega
theorem f_b3_b {f : Int → Int} (h : pC f) (p : Int) : 0 ≤ f_b3 f p ∧ f_b3 f p ≤ 1 := by unfold f_b3; have := h (p - 12); split <;> omega
theorem f_b4_b {f : Int → Int} (h : pC f) (p : Int) : 0 ≤ f_b4 f p ∧ f_b4 f p ≤ 1 := by unfold f_b4; have := h (p + 12); split <;> omega
theorem f_cb_b {f : Int → Int} (h : pC f) (p : Int) : 0 ≤ f_cb f p ∧ f_cb f p ≤ 4 := by
  have h1 := f_b1_b h p
  have h2 := f_b2_b h p
  have h3 := f_b3_b h p
  have h4 := f_b4_b h p
  unfold f_cb
  omega
/-- what a crack takes from what a place bears: bounds of the product -/
theorem f_tk_b {t c : Int} (h1 : 0 ≤ t) (h2 : t ≤ 20) (h3 : 0 ≤ c) (h4 : c ≤ 4) : 0 ≤ t * c ∧ t * c ≤ 80 := by
  refine ⟨Int.mul_nonneg h1 h3, ?_⟩
  have h5 : t * c ≤ 20 * 4 := Int.mul_le_mul h2 h4 h3 (by decide)
  omega
/-- the least bearing with which no place would crack, over the first n places -/
def f_least (d c : Int → Int) (t : Int) : Nat → Int
  | 0 => 0
  | n + 1 => if c n = 0 ∧ 0 < f_str d n then max (f_least d c t n) (f_str d n + t * f_cb c n) else f_least d c t n
theorem f_least_s (d c : Int → Int) (t : Int) {k : Int} (h0 : 0 ≤ k) : f_least d c t (k + 1).toNat = if c k = 0 ∧ 0 < f_str d k then max (f_least d c t k.toNat) (f_str d k + t * f_cb c k) else f_least d c t k.toNat := by
  rw [show (k + 1).toNat = k.toNat + 1 by omega]
  show (if c (k.toNat : Int) = 0 ∧ 0 < f_str d (k.toNat : Int) then max (f_least d c t k.toNat) (f_str d (k.toNat : Int) + t * f_cb c (k.toNat : Int)) else f_least d c t k.toNat) = _
  rw [show (k.toNat : Int) = k by omega]
/-- the place of a column and a row, -1 off the sheet -/
def f_pl (c r : Int) : Int := if 0 ≤ c ∧ c < 12 ∧ 0 ≤ r ∧ r < 12 then r * 12 + c else -1
def f_pu (i left top : Int) : Int := f_pl (left + i % 5) (top + i / 5)
theorem f_pl_b (c r : Int) : -1 ≤ f_pl c r ∧ f_pl c r < 144 := by unfold f_pl; split <;> omega
theorem f_pu_b (i left top : Int) : -1 ≤ f_pu i left top ∧ f_pu i left top < 144 := f_pl_b _ _
/-- the depths behind the first n points of the relief r at (left, top) -/
def f_emb (r : Int → Int) (left top : Int) (f : Int → Int) : Nat → Int → Int
  | 0 => f
  | n + 1 => if 0 < r n ∧ f_pu n left top ≠ -1 then fun b => if b = f_pu n left top then max (f_emb r left top f n (f_pu n left top)) (r n) else f_emb r left top f n b else f_emb r left top f n
theorem f_emb_s (r : Int → Int) (left top : Int) (f : Int → Int) {k : Int} (h0 : 0 ≤ k) : f_emb r left top f (k + 1).toNat = if 0 < r k ∧ f_pu k left top ≠ -1 then fun b => if b = f_pu k left top then max (f_emb r left top f k.toNat (f_pu k left top)) (r k) else f_emb r left top f k.toNat b else f_emb r left top f k.toNat := by
  have e1 : (k + 1).toNat = k.toNat + 1 := by omega
  have e2 : (k.toNat : Int) = k := by omega
  rw [e1, f_emb, e2]
theorem f_emb_D {r f : Int → Int} (hr : pD r) (hf : pD f) (left top : Int) : ∀ n : Nat, pD (f_emb r left top f n) := by
  intro n
  induction n with
  | zero => exact hf
  | succ n ih =>
    rw [f_emb]
    split
    · intro b
      dsimp only
      have h1 := ih (f_pu n left top)
      have h2 := hr n
      have h3 := ih b
      split <;> omega
    · exact ih
