/-! STILL MORE ROWS: numbers that may wrap, lengths, any remainder -/
/-- a whole number as an int holds it -/
def wr (x : Int) : Int := (Int32.ofInt x).toInt
theorem wr_of {x : Int} (h1 : -2147483648 ≤ x) (h2 : x < 2147483648) : wr x = x := e32 h1 h2
theorem wr_b1 (x : Int) : -2147483648 ≤ wr x := by have := Int32.le_toInt (Int32.ofInt x); unfold wr; omega
theorem wr_b2 (x : Int) : wr x < 2147483648 := by have := Int32.toInt_lt (Int32.ofInt x); unfold wr; omega
theorem vI_wr (x : Int) : vI (wr x) = vI x := by unfold vI wr; rw [Int32.ofInt_toInt]
theorem mu_mset (M : ewM) (o : Nat) (f : Int → Int) (k x : Int) : mu (mset M o f) o k x = mset M o (fun b => if b = k then x else f b) := by
  funext a
  unfold mu mset
  split <;> rfl
/-- the pressings behind the first n points -/
def f_prs (r : Int → Int) (left top : Int) (f : Int → Int) : Nat → Int → Int
  | 0 => f
  | n + 1 => if 0 < r n ∧ f_pu n left top ≠ -1 then fun b => if b = f_pu n left top then wr (f_prs r left top f n (f_pu n left top) + 1) else f_prs r left top f n b else f_prs r left top f n
theorem f_prs_s (r : Int → Int) (left top : Int) (f : Int → Int) {k : Int} (h0 : 0 ≤ k) : f_prs r left top f (k + 1).toNat = if 0 < r k ∧ f_pu k left top ≠ -1 then fun b => if b = f_pu k left top then wr (f_prs r left top f k.toNat (f_pu k left top) + 1) else f_prs r left top f k.toNat b else f_prs r left top f k.toNat := by
  have e1 : (k + 1).toNat = k.toNat + 1 := by omega
  have e2 : (k.toNat : Int) = k := by omega
  rw [e1, f_prs, e2]
/-- a point turned back by q quarters: its column, its row -/
def f_ta (q c r : Int) : Int := if q = 0 then c else if q = 1 then r else if q = 2 then 4 - c else 4 - r
def f_tb (q c r : Int) : Int := if q = 0 then r else if q = 1 then 4 - c else if q = 2 then 4 - r else c
theorem f_ta_s {q c r : Int} (h0 : 0 ≤ q) (h3 : q < 3) : f_ta (q + 1) c r = f_tb q c r ∧ f_tb (q + 1) c r = 4 - f_ta q c r := by
  rcases (show q = 0 ∨ q = 1 ∨ q = 2 by omega) with rfl | rfl | rfl <;> simp [f_ta, f_tb] <;> omega
theorem f_t_b {q c r : Int} (hc : 0 ≤ c ∧ c < 5) (hr : 0 ≤ r ∧ r < 5) : (0 ≤ f_ta q c r ∧ f_ta q c r < 5) ∧ 0 ≤ f_tb q c r ∧ f_tb q c r < 5 := by
  unfold f_ta f_tb
  repeat' split
  all_goals omega
def f_tc (t c r : Int) : Int := if 4 ≤ t then 4 - f_ta (t % 4) c r else f_ta (t % 4) c r
def f_tr (t c r : Int) : Int := f_tb (t % 4) c r
/-- a die's point (c, r) as it is turned -/
def f_tp (P : Int → Int) (die c r t : Int) : Int := P (die * 25 + f_tr t c r * 5 + f_tc t c r)
/-- a die's relief as it is turned -/
def f_rel (P : Int → Int) (die t : Int) : Int → Int := fun k => f_tp P die (k % 5) (k / 5) t
theorem f_rel_D {P : Int → Int} (h : pD P) (die t : Int) : pD (f_rel P die t) := fun k => h _
abbrev f_ov (st : Int → Int) (p : Int) : Prop := st 10 ≠ 0 ∧ st 11 ≤ p % 12 ∧ p % 12 ≤ st 13 ∧ st 12 ≤ p / 12 ∧ p / 12 ≤ st 14
/-- the foils behind the first n points -/
def f_stk (st r : Int → Int) (left top : Int) (f : Int → Int) : Nat → Int → Int
  | 0 => f
  | n + 1 => if 0 < r n ∧ f_pu n left top ≠ -1 ∧ f_ov st (f_pu n left top) then fun b => if b = f_pu n left top then st 10 else f_stk st r left top f n b else f_stk st r left top f n
theorem f_stk_s (st r : Int → Int) (left top : Int) (f : Int → Int) {k : Int} (h0 : 0 ≤ k) : f_stk st r left top f (k + 1).toNat = if 0 < r k ∧ f_pu k left top ≠ -1 ∧ f_ov st (f_pu k left top) then fun b => if b = f_pu k left top then st 10 else f_stk st r left top f k.toNat b else f_stk st r left top f k.toNat := by
  have e1 : (k + 1).toNat = k.toNat + 1 := by omega
  have e2 : (k.toNat : Int) = k := by omega
  rw [e1, f_stk, e2]
/-- the slip behind a press -/
def f_sl (every since slip : Int) : Int := if 0 < every ∧ since.tmod every = 0 then min (slip + 1) 3 else slip
theorem mu_as (M : ewM) (o : Nat) (k x : Int) : mu M o k x = mset M o (fun b => if b = k then x else M o b) := by
  funext a
  unfold mu mset
  split
  · next h => subst h; rfl
  · rfl
theorem mset_id {M : ewM} {o : Nat} {f : Int → Int} (h : ∀ k : Int, f k = M o k) : mset M o f = M := by
  funext a
  unfold mset
  split
  · next h9 => subst h9; exact funext h
  · rfl
section JW3
variable {p : Program} {l : Launch} {e : Env} {R : Room} {s : State} {m : MethodId} {args : Array Value} {below : List Frame} {meth : Method} {c : Code} {E : ewE} {A : Nat → Prop} {cc : ByteArray} {nL : Nat} {own : String} {ret : Option FieldType} {cells slots : Nat} {Q : State → Prop} {pc : Nat} {L L' : List (Nat × Value)} {S : List Value} {M : ewM}
theorem jw_iastw (hC : jC p e R s m args meth c E A cc nL own ret) {o n : Nat} {i x : Int} (hA : ewA o 0 n) (hd : decode cc pc = .ok (.iastore, 1)) (h0 : 0 ≤ i) (hn : i < n) (hN : n < 2147483648) (k : jJ p l e R s m args below meth c E A nL cells slots Q (pc + 1) L S (mu M o i (wr x))) : jJ p l e R s m args below meth c E A nL cells slots Q pc L (vI x :: vI i :: vR E o :: S) M := by
  rw [← vI_wr x]
  exact jw_iast hC hA hd h0 hn hN (wr_b1 x) (wr_b2 x) k
theorem jw_putiw (hC : jC p e R s m args meth c E A cc nL own ret) {idx ci kf o : Nat} {x kI : Int} (hL : ewL own idx ci kf .int) (hF : ewF o ci kf) (hkI : (kf : Int) = kI) (hd : decode cc pc = .ok (.putfield idx, 3)) (k : jJ p l e R s m args below meth c E A nL cells slots Q (pc + 3) L S (mu M o kI (wr x))) : jJ p l e R s m args below meth c E A nL cells slots Q pc L (vI x :: vR E o :: S) M := by
  rw [← vI_wr x]
  exact jw_puti hC hL hF hkI hd (wr_b1 x) (wr_b2 x) k
theorem jw_alen (hC : jC p e R s m args meth c E A cc nL own ret) {o t n : Nat} (hA : ewA o t n) (ht : t = 0 ∨ t = 1) (hd : decode cc pc = .ok (.arraylength, 1)) (k : jJ p l e R s m args below meth c E A nL cells slots Q (pc + 1) L (vI n :: S) M) : jJ p l e R s m args below meth c E A nL cells slots Q pc L (vR E o :: S) M := by
  intro ls H locs hl hI
  obtain ⟨ho, h88, hs⟩ := hA
  rcases ht with rfl | rfl
  · exact va_alen (x := (n, .inl (fun k => Int32.ofInt (M o k)))) hC.1 hC.2.1 hC.2.2.2.2.2.1 hI.1 o 0 ((ew_get ho).trans (by rw [hs]; rfl)) (ty := .int) rfl Int32.ofInt_eq_ofNat.symm hd (k ls H locs hl hI)
  · exact va_alen (x := (n, .inl (fun k => Int32.ofInt (M o k)))) hC.1 hC.2.1 hC.2.2.2.2.2.1 hI.1 o 1 ((ew_get ho).trans (by rw [hs]; rfl)) (ty := .boolean) rfl Int32.ofInt_eq_ofNat.symm hd (k ls H locs hl hI)
theorem e32_tmod {a b : Int} (h1 : -2147483648 ≤ a) (h2 : a < 2147483648) (h3 : 0 < b) (h4 : b < 2147483648) : Int32.ofInt a - Int32.ofInt a / Int32.ofInt b * Int32.ofInt b = Int32.ofInt (a.tmod b) := by
  have e1 : Int32.minValue.toInt = -2147483648 := by decide
  have e2 : Int32.maxValue.toInt = 2147483647 := by decide
  rw [← Int32.ofInt_tdiv (by omega) (by omega) (by omega) (by omega), ← Int32.ofInt_mul, ← Int32.ofInt_sub]
  congr 1
  have := Int.mul_tdiv_add_tmod a b
  rw [Int.mul_comm] at this
  omega
theorem jw_iremt (hC : jC p e R s m args meth c E A cc nL own ret) {x y : Int} (hd : decode cc pc = .ok (.irem, 1)) (h1 : -2147483648 ≤ x) (h2 : x < 2147483648) (h3 : 0 < y) (h4 : y < 2147483648) (k : -2147483648 ≤ x.tmod y → x.tmod y < 2147483648 → jJ p l e R s m args below meth c E A nL cells slots Q (pc + 1) L (vI (x.tmod y) :: S) M) : jJ p l e R s m args below meth c E A nL cells slots Q pc L (vI y :: vI x :: S) M := by
  intro ls H locs hl hI
  have b1 := Int.tmod_lt_of_pos x h3
  have b2 := Int.lt_tmod_of_pos x h3
  have k := k (by omega) (by omega) ls H locs hl hI
  have hne : ¬ Int32.ofInt y = 0 := fun h => by
    have h5 := (e32_eq (b := 0) (by omega) h4 (by decide) (by decide)).mp h
    omega
  unfold vI at k ⊢
  rw [← e32_tmod h1 h2 h3 h4] at k
  exact lv_irem hC.1 hC.2.1 hd hne k
theorem jw_aald_slots (hC : jC p e R s m args meth c E A cc nL own ret) {i : Int} (q : Nat) (hq : i = q) (hn : q < 2) (hd : decode cc pc = .ok (.aaload, 1)) (k : jJ p l e R s m args below meth c E A nL cells slots Q (pc + 1) L (vR E (53 + 3 * q) :: S) M) : jJ p l e R s m args below meth c E A nL cells slots Q pc L (vI i :: vR E 78 :: S) M := by
  intro ls H locs hl hI
  have hcl := e32_clamp (a := i) (by omega) (by omega)
  have hcl : (Int32.ofInt i).toNatClampNeg = q := by omega
  have hin := e32_in (a := i) (n := 2) (by omega) (by omega) (by decide)
  refine va_aldq hC.1 hC.2.1 hC.2.2.2.2.2.1 hI.1 78 3 (C := "EmbossPress$State") (ew_get (by decide)) rfl hin hd ?_
  rw [hcl]
  exact k ls H locs hl hI
theorem jw_aald_saved (hC : jC p e R s m args meth c E A cc nL own ret) {i : Int} (q : Nat) (hq : i = q) (hn : q < 6) (hd : decode cc pc = .ok (.aaload, 1)) (k : jJ p l e R s m args below meth c E A nL cells slots Q (pc + 1) L (vR E (59 + 3 * q) :: S) M) : jJ p l e R s m args below meth c E A nL cells slots Q pc L (vI i :: vR E 80 :: S) M := by
  intro ls H locs hl hI
  have hcl := e32_clamp (a := i) (by omega) (by omega)
  have hcl : (Int32.ofInt i).toNatClampNeg = q := by omega
  have hin := e32_in (a := i) (n := 6) (by omega) (by omega) (by decide)
  refine va_aldq hC.1 hC.2.1 hC.2.2.2.2.2.1 hI.1 80 3 (C := "EmbossPress$State") (ew_get (by decide)) rfl hin hd ?_
  rw [hcl]
  exact k ls H locs hl hI
theorem jw_gets_least (hC : jC p e R s m args meth c E A cc nL own ret) {idx : Nat} (hw : Cond.fieldLink own idx "EmbossPress" "LEAST_VALUES" "[I" ∈ WW) (hd : decode cc pc = .ok (.getstatic idx, 3)) (k : jJ p l e R s m args below meth c E A nL cells slots Q (pc + 3) L (vR E 201 :: S) M) : jJ p l e R s m args below meth c E A nL cells slots Q pc L S M := by
  intro ls H locs hl hI
  exact va_gets hC.1 hC.2.1 hC.2.2.2.2.2.2.2.2.2.2.2.2.1.1 hI.2.2.1 hC.2.2.2.1 (hC.2.2.2.2.1 _ hw) (fun _ h => h) hd (k ls H locs hl hI)
theorem jw_ild_least (hC : jC p e R s m args meth c E A cc nL own ret) {i : Int} (h0 : 0 ≤ i) (h1 : i < 4) (hd : decode cc pc = .ok (.iaload, 1)) (k : jJ p l e R s m args below meth c E A nL cells slots Q (pc + 1) L (vI (g_least i.toNat) :: S) M) : jJ p l e R s m args below meth c E A nL cells slots Q pc L (vI i :: vR E 201 :: S) M := by
  intro ls H locs hl hI
  have hcl := e32_clamp (a := i) h0 (by omega)
  have hcl : (Int32.ofInt i).toNatClampNeg = i.toNat := by omega
  exact va_ti hC.1 hC.2.1 hC.2.2.2.2.2.2.2.2.2.2.2.2.1.2 hI.2.2.1 (e32_in (n := 4) h0 (by omega) (by decide)) (by rw [hcl]) hd (k ls H locs hl hI)
theorem jw_gets_great (hC : jC p e R s m args meth c E A cc nL own ret) {idx : Nat} (hw : Cond.fieldLink own idx "EmbossPress" "GREATEST_VALUES" "[I" ∈ WW) (hd : decode cc pc = .ok (.getstatic idx, 3)) (k : jJ p l e R s m args below meth c E A nL cells slots Q (pc + 3) L (vR E 202 :: S) M) : jJ p l e R s m args below meth c E A nL cells slots Q pc L S M := by
  intro ls H locs hl hI
  exact va_gets hC.1 hC.2.1 hC.2.2.2.2.2.2.2.2.2.2.2.2.2.1 hI.2.2.1 hC.2.2.2.1 (hC.2.2.2.2.1 _ hw) (fun _ h => h) hd (k ls H locs hl hI)
theorem jw_ild_great (hC : jC p e R s m args meth c E A cc nL own ret) {i : Int} (h0 : 0 ≤ i) (h1 : i < 4) (hd : decode cc pc = .ok (.iaload, 1)) (k : jJ p l e R s m args below meth c E A nL cells slots Q (pc + 1) L (vI (g_great i.toNat) :: S) M) : jJ p l e R s m args below meth c E A nL cells slots Q pc L (vI i :: vR E 202 :: S) M := by
  intro ls H locs hl hI
  have hcl := e32_clamp (a := i) h0 (by omega)
  have hcl : (Int32.ofInt i).toNatClampNeg = i.toNat := by omega
  exact va_ti hC.1 hC.2.1 hC.2.2.2.2.2.2.2.2.2.2.2.2.2.2 hI.2.2.1 (e32_in (n := 4) h0 (by omega) (by decide)) (by rw [hcl]) hd (k ls H locs hl hI)
end JW3
