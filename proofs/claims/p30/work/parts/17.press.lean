/-! SWITCHES; what a state of the class is good for; what a press tells -/
section JW4
variable {p : Program} {l : Launch} {e : Env} {R : Room} {s : State} {m : MethodId} {args : Array Value} {below : List Frame} {meth : Method} {c : Code} {E : ewE} {A : Nat → Prop} {cc : ByteArray} {nL : Nat} {own : String} {ret : Option FieldType} {cells slots : Nat} {Q : State → Prop} {pc : Nat} {L L' : List (Nat × Value)} {S : List Value} {M : ewM}
theorem jw_tabIn (hC : jC p e R s m args meth c E A cc nL own ret) {dflt lo hi off x : Int} {offs : Array Int} {len tgt : Nat} (hd : decode cc pc = .ok (.tableswitch dflt lo hi offs, len)) (h1 : lo ≤ x) (h2 : x ≤ hi) (h3 : -2147483648 ≤ x) (h4 : x < 2147483648) (ho : offs[(x - lo).toNat]? = some off) (ht : (pc : Int) + off = (tgt : Int)) (k : jJ p l e R s m args below meth c E A nL cells slots Q tgt L S M) : jJ p l e R s m args below meth c E A nL cells slots Q pc L (vI x :: S) M := by
  intro ls H locs hl hI
  have e9 := e32 h3 h4
  exact lv_tableIn hC.1 hC.2.1 hd (by rw [e9]; omega) (by rw [e9]; omega) (by rw [e9]; exact ho) ht (k ls H locs hl hI)
theorem jw_tabOut (hC : jC p e R s m args meth c E A cc nL own ret) {dflt lo hi x : Int} {offs : Array Int} {len tgt : Nat} (hd : decode cc pc = .ok (.tableswitch dflt lo hi offs, len)) (h1 : x < lo ∨ hi < x) (h3 : -2147483648 ≤ x) (h4 : x < 2147483648) (ht : (pc : Int) + dflt = (tgt : Int)) (k : jJ p l e R s m args below meth c E A nL cells slots Q tgt L S M) : jJ p l e R s m args below meth c E A nL cells slots Q pc L (vI x :: S) M := by
  intro ls H locs hl hI
  have e9 := e32 h3 h4
  exact lv_tableOut hC.1 hC.2.1 hd (by rw [e9]; exact h1) ht (k ls H locs hl hI)
end JW4
/-- what the state j of the class keeps to -/
def stW (M : ewM) (j : Nat) : Prop := pD (M (5 * j + 1)) ∧ pC (M (5 * j + 3)) ∧ pD (M (50 + 3 * j + 1)) ∧ (0 ≤ M (50 + 3 * j + 2) 0 ∧ M (50 + 3 * j + 2) 0 ≤ 99) ∧ (0 ≤ M (50 + 3 * j + 2) 1 ∧ M (50 + 3 * j + 2) 1 ≤ 20) ∧ (1 ≤ M (50 + 3 * j + 2) 2 ∧ M (50 + 3 * j + 2) 2 ≤ 9) ∧ (0 ≤ M (50 + 3 * j + 2) 3 ∧ M (50 + 3 * j + 2) 3 ≤ 9) ∧ (0 ≤ M (50 + 3 * j) 3 ∧ M (50 + 3 * j) 3 ≤ 3)
def st0 (M : ewM) : Prop := pD (M 1) ∧ pC (M 3) ∧ pD (M 51) ∧ (0 ≤ M 52 0 ∧ M 52 0 ≤ 99) ∧ (0 ≤ M 52 1 ∧ M 52 1 ≤ 20) ∧ (1 ≤ M 52 2 ∧ M 52 2 ≤ 9) ∧ (0 ≤ M 52 3 ∧ M 52 3 ≤ 9) ∧ (0 ≤ M 50 3 ∧ M 50 3 ≤ 3)
theorem st0_of {M : ewM} (h : stW M 0) : st0 M := h
/-- the looks change no more than the trial sheet, the relief and the finder -/
def lk (M M1 : ewM) : Prop := ∀ o : Nat, (o < 45 ∨ (49 < o ∧ (o < 83 ∨ 87 < o))) → M1 o = M o
theorem lk_rfl {M : ewM} : lk M M := fun _ _ => rfl
theorem lk_tr {M M1 M2 : ewM} (h : lk M M1) (h2 : lk M1 M2) : lk M M2 := fun o ho => (h2 o ho).trans (h o ho)
theorem lk_st0 {M M1 : ewM} (h : lk M M1) (h0 : st0 M) : st0 M1 := by
  obtain ⟨a1, a2, a3, a4, a5, a6, a7, a8⟩ := h0
  refine ⟨?_, ?_, ?_, ?_, ?_, ?_, ?_, ?_⟩
  all_goals first | rw [h 1 (by decide)] | rw [h 3 (by decide)] | rw [h 51 (by decide)] | rw [h 52 (by decide)] | rw [h 50 (by decide)]
  all_goals assumption
/-- does one of the first n points lie off the sheet? -/
def f_off (r : Int → Int) (left top : Int) : Nat → Bool
  | 0 => false
  | n + 1 => f_off r left top n || (decide (0 < r n) && decide (f_pu n left top = -1))
theorem f_off_s (r : Int → Int) (left top : Int) {k : Int} (h : 0 ≤ k) : f_off r left top (k + 1).toNat = (f_off r left top k.toNat || (decide (0 < r k) && decide (f_pu k left top = -1))) := by
  rw [show (k + 1).toNat = k.toNat + 1 by omega, f_off, show (k.toNat : Int) = k by omega]
theorem f_off_le {r : Int → Int} {left top : Int} {n : Nat} (h : f_off r left top n = true) : ∀ k : Nat, f_off r left top (n + k) = true := by
  intro k
  induction k with
  | zero => exact h
  | succ k ih =>
    show (f_off r left top (n + k) || _) = true
    rw [ih]
    rfl
/-- why a press of the relief r is refused, 0 if it isn't -/
def f_rsn (r : Int → Int) (left top deep : Int) : Int := if f_off r left top 25 = true then 1 else if deep < f_max r 25 then 2 else if f_max r 25 = 0 then 3 else 0
theorem f_rsn_b (r : Int → Int) (left top deep : Int) : 0 ≤ f_rsn r left top deep ∧ f_rsn r left top deep ≤ 3 := by
  unfold f_rsn
  repeat' split
  all_goals omega
theorem f_max_D {r : Int → Int} (h : pD r) : ∀ n : Nat, 0 ≤ f_max r n ∧ f_max r n ≤ 9 := by
  intro n
  induction n with
  | zero => exact ⟨Int.le_refl _, by show (0 : Int) ≤ 9; decide⟩
  | succ n ih =>
    have := h n
    show 0 ≤ max (f_max r n) (r n) ∧ max (f_max r n) (r n) ≤ 9
    omega
/-- how many places the relief r would crack -/
def f_cks (r : Int → Int) (left top : Int) (d c : Int → Int) (b t : Int) : Int := f_sum (f_it (f_emb r left top d 25) b t c 144) 144 - f_sum c 144
theorem f_it_le {d : Int → Int} {b t : Int} {c : Int → Int} : ∀ n : Nat, f_sum c 144 ≤ f_sum (f_it d b t c n) 144 := by
  intro n
  induction n with
  | zero => exact Int.le_refl _
  | succ n ih =>
    have h1 := f_rnd_sum d b t (f_it d b t c n)
    have h2 := f_sum_le' (f := fun _ => 0) (g := f_ind (f_ovr d b t (f_it d b t c n))) 144 (fun k _ _ => (f_ind_b _ k).1)
    rw [f_sum_0] at h2
    show f_sum c 144 ≤ f_sum (f_rnd d b t (f_it d b t c n)) 144
    omega
theorem f_cks_b {r : Int → Int} {left top : Int} {d c : Int → Int} {b t : Int} (hc : pC c) : 0 ≤ f_cks r left top d c b t ∧ f_cks r left top d c b t ≤ 144 := by
  have h1 := f_it_le (d := f_emb r left top d 25) (b := b) (t := t) (c := c) 144
  have h2 := f_sum_C (f_it_C hc (d := f_emb r left top d 25) (b := b) (t := t) 144)
  have h3 := f_sum_C hc
  unfold f_cks
  omega
/-- what a press would answer -/
def f_ans (r : Int → Int) (left top : Int) (d c : Int → Int) (b t deep : Int) : Int := if f_rsn r left top deep = 0 then 100 + f_cks r left top d c b t else f_rsn r left top deep
/-- the same of the world M -/
def a_ans (M : ewM) (r : Int → Int) (x y : Int) : Int := f_ans r (x + M 50 3) y (M 1) (M 3) (M 52 0) (M 52 1) (M 52 2)
theorem lk_ans {M M1 : ewM} (h : lk M M1) (r : Int → Int) (x y : Int) : a_ans M1 r x y = a_ans M r x y := by
  unfold a_ans
  rw [h 1 (by decide), h 3 (by decide), h 52 (by decide), h 50 (by decide)]
/-- the least answer of a press that isn't refused, over the first n places; and the place where it is -/
def f_ln (ans : Int → Int) : Nat → Int
  | 0 => 1000000
  | n + 1 => if 100 ≤ ans n ∧ ans n < f_ln ans n then ans n else f_ln ans n
def f_bs (ans : Int → Int) : Nat → Int
  | 0 => -1
  | n + 1 => if 100 ≤ ans n ∧ ans n < f_ln ans n then 100 * ((n : Int) / 12) + (n : Int) % 12 else f_bs ans n
theorem f_ln_s (ans : Int → Int) {k : Int} (h : 0 ≤ k) : f_ln ans (k + 1).toNat = (if 100 ≤ ans k ∧ ans k < f_ln ans k.toNat then ans k else f_ln ans k.toNat) ∧ f_bs ans (k + 1).toNat = if 100 ≤ ans k ∧ ans k < f_ln ans k.toNat then 100 * (k / 12) + k % 12 else f_bs ans k.toNat := by
  rw [show (k + 1).toNat = k.toNat + 1 by omega, f_ln, f_bs, show (k.toNat : Int) = k by omega]
  exact ⟨rfl, rfl⟩
/-- nothing is less than 100 -/
theorem f_bs_100 {ans : Int → Int} {n : Nat} (h : f_ln ans n ≤ 100) : ∀ k : Nat, f_bs ans (n + k) = f_bs ans n ∧ f_ln ans (n + k) = f_ln ans n := by
  intro k
  induction k with
  | zero => exact ⟨rfl, rfl⟩
  | succ k ih =>
    have e9 : ¬ (100 ≤ ans ((n + k : Nat) : Int) ∧ ans ((n + k : Nat) : Int) < f_ln ans (n + k)) := by rw [ih.2]; omega
    rw [show n + (k + 1) = (n + k) + 1 from rfl, f_bs, f_ln, if_neg e9, if_neg e9]
    exact ih
/-- how strong the paper had to be -/
def f_need (r : Int → Int) (left top : Int) (d c : Int → Int) (t deep : Int) : Int := if f_rsn r left top deep = 0 then (if 99 < f_least (f_emb r left top d 25) c t 144 then -1 else f_least (f_emb r left top d 25) c t 144) else -1
theorem f_least_b {d c : Int → Int} {t : Int} (hd : pD d) (hc : pC c) (ht : 0 ≤ t ∧ t ≤ 20) : ∀ n : Nat, 0 ≤ f_least d c t n ∧ f_least d c t n ≤ 116 := by
  intro n
  induction n with
  | zero => exact ⟨Int.le_refl _, by show (0 : Int) ≤ 116; decide⟩
  | succ n ih =>
    have h1 := f_str_b hd n
    have h2 := f_cb_b hc n
    have h3 := f_tk_b ht.1 ht.2 h2.1 h2.2
    rw [f_least]
    split <;> omega
/-- the least turn by which the die a is as the die o -/
def f_eqt (P : Int → Int) (a t o : Int) : Nat → Bool
  | 0 => true
  | n + 1 => f_eqt P a t o n && decide (f_tp P a ((n : Int) % 5) ((n : Int) / 5) t = f_tp P o ((n : Int) % 5) ((n : Int) / 5) 0)
theorem f_eqt_s (P : Int → Int) (a t o : Int) {k : Int} (h : 0 ≤ k) : f_eqt P a t o (k + 1).toNat = (f_eqt P a t o k.toNat && decide (f_tp P a (k % 5) (k / 5) t = f_tp P o (k % 5) (k / 5) 0)) := by
  rw [show (k + 1).toNat = k.toNat + 1 by omega, f_eqt, show (k.toNat : Int) = k by omega]
theorem f_eqt_le {P : Int → Int} {a t o : Int} {n : Nat} (h : f_eqt P a t o n = false) : ∀ k : Nat, f_eqt P a t o (n + k) = false := by
  intro k
  induction k with
  | zero => exact h
  | succ k ih =>
    show (f_eqt P a t o (n + k) && _) = false
    rw [ih]
    rfl
/-- the first turn from t on, at most n of them, that does; -1 if none -/
def f_lt (P : Int → Int) (a o : Int) : Nat → Int → Int
  | 0, _ => -1
  | n + 1, t => if f_eqt P a t o 25 = true then t else f_lt P a o n (t + 1)
