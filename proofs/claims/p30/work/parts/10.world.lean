/-! THE WORLD: 88 cells at addresses E.1 i; what they hold is told by M : cell -> place -> whole number.
sheets j < 10: 5j the object, 5j+1 depths, 5j+2 foils, 5j+3 cracks, 5j+4 pressings (0 now, 1 2 slots, 3..8 saved, 9 trial)
states j < 9: 50+3j the object, +1 points, +2 settings; 77 EmbossPress, 78 slots, 79 slotTaken, 80 saved, 81 DieText, 82 codes, 83 relief,
84 finder, 85 strains, 86 beside, 87 breaking. No cells: E.1 200, 201, 202 the static arrays, E.1 203 the script, of E.2.2.2.1 numbers E.2.2.2.2 -/
abbrev ewM : Type := Nat → Int → Int
abbrev ewE : Type := (Nat → Nat) × va_G × (Nat → ClassId) × Nat × (Nat → Int32)
def vI (a : Int) : Value := .int (Int32.ofInt a)
def vJ (a : Int) : Value := .long (Int64.ofInt a)
def vR (E : ewE) (o : Nat) : Value := .ref (E.1 o)
def ew_arr (E : ewE) (t n : Nat) (f : Int → Int) : va_E := .inl (E.2.2.1 t, n, .inl (fun k => Int32.ofInt (f k)))
def ew_cell (E : ewE) (i : Nat) (f : Int → Int) : va_E :=
  if i < 50 then
    if i % 5 = 0 then .inr (5, [vR E (i + 1), vR E (i + 2), vR E (i + 3), vR E (i + 4)]) else ew_arr E 0 144 f
  else if i < 77 then
    if (i - 50) % 3 = 0 then .inr (6, [vR E (i + 1), vR E (i + 2), vR E (5 * ((i - 50) / 3)), vI (f 3), vI (f 4), vI (f 5), vI (f 6), vI (f 7), vI (f 8), vI (f 9), vI (f 10), vI (f 11), vI (f 12), vI (f 13), vI (f 14)])
    else if (i - 50) % 3 = 1 then ew_arr E 0 75 f else ew_arr E 0 4 f
  else if i = 77 then .inr (7, [vR E 50, vR E 78, vR E 79, vR E 80, vI (f 4), vI (f 5), vR E 81, vR E 83, vR E 45, vR E 84])
  else if i = 78 then .inl (E.2.2.1 3, 2, .inr (.inr (.inr (.inr (fun k => some (E.1 (53 + 3 * k)))))))
  else if i = 79 then ew_arr E 1 2 f
  else if i = 80 then .inl (E.2.2.1 3, 6, .inr (.inr (.inr (.inr (fun k => some (E.1 (59 + 3 * k)))))))
  else if i = 81 then .inr (4, [vR E 82, vI (f 1)])
  else if i = 82 then ew_arr E 0 40 f
  else if i = 83 then ew_arr E 0 25 f
  else if i = 84 then .inr (3, [vR E 85, vR E 86, vR E 87, vI (f 3)])
  else ew_arr E 0 144 f
def ew_ws (E : ewE) (M : ewM) : va_W := (List.range 88).map (fun i => (E.1 i, ew_cell E i (M i)))
def mu (M : ewM) (o : Nat) (k x : Int) : ewM := fun a => if a = o then (fun b => if b = k then x else M a b) else M a
theorem mu_at (M : ewM) (o : Nat) (k x : Int) : mu M o k x o = fun b => if b = k then x else M o b := by unfold mu; rw [if_pos rfl]
theorem mu_ne (M : ewM) {o a : Nat} (k x : Int) (h : a ≠ o) : mu M o k x a = M a := by unfold mu; rw [if_neg h]
theorem mu_eq (M : ewM) (o : Nat) (k x : Int) : mu M o k x o k = x := by rw [mu_at]; exact if_pos rfl
theorem mu_nk (M : ewM) (o : Nat) {k b : Int} (x : Int) (h : b ≠ k) : mu M o k x o b = M o b := by rw [mu_at]; exact if_neg h
def ew_S (M : ewM) : Prop := ∀ (i : Nat) (k : Int), i < 88 → ¬ (i = 88 ∧ k = 13) → -2147483648 ≤ M i k ∧ M i k < 2147483648
theorem ew_Smu {M : ewM} (h : ew_S M) {o : Nat} {k x : Int} (h1 : -2147483648 ≤ x) (h2 : x < 2147483648) : ew_S (mu M o k x) := by
  intro i b hi hb
  unfold mu
  split
  · next he =>
    subst he
    show _ ≤ (if b = k then x else M i b) ∧ (if b = k then x else M i b) < _
    split
    · exact ⟨h1, h2⟩
    · exact h i b hi hb
  · exact h i b hi hb
theorem ew_get {E : ewE} {M : ewM} {i : Nat} (h : i < 88) : (ew_ws E M)[i]? = some (E.1 i, ew_cell E i (M i)) := by
  unfold ew_ws
  rw [List.getElem?_map, List.getElem?_range h]
  rfl
theorem ew_set {E : ewE} {M : ewM} {i : Nat} {k x : Int} {e : va_E} (he : ew_cell E i (fun b => if b = k then x else M i b) = e) : (ew_ws E M).set i (E.1 i, e) = ew_ws E (mu M i k x) := by
  apply List.ext_getElem?
  intro j
  unfold ew_ws
  rw [List.getElem?_set, List.getElem?_map, List.getElem?_map]
  by_cases hij : i = j
  · subst hij
    rw [if_pos rfl]
    simp only [List.length_map, List.length_range]
    by_cases hl : i < 88
    · rw [if_pos hl, List.getElem?_range hl]
      show some (E.1 i, e) = some (E.1 i, ew_cell E i (mu M i k x i))
      rw [mu_at, he]
    · rw [if_neg hl, List.getElem?_eq_none (by rw [List.length_range]; omega)]
      rfl
  · rw [if_neg hij]
    by_cases hl : j < 88
    · rw [List.getElem?_range hl]
      show some (E.1 j, ew_cell E j (M j)) = some (E.1 j, ew_cell E j (mu M i k x j))
      rw [mu_ne M k x (fun h => hij h.symm)]
    · rw [List.getElem?_eq_none (by rw [List.length_range]; omega)]
      rfl
/-- an array of ints (t 0) or booleans (t 1) of n places at o -/
def ewA (o t n : Nat) : Prop := o < 88 ∧ o ≠ 88 ∧ ∀ (E : ewE) (f : Int → Int), ew_cell E o f = ew_arr E t n f
/-- an object of class ci at o, its int field k -/
def ewF (o ci k : Nat) : Prop := o < 88 ∧ ∀ (E : ewE) (f : Int → Int), ∃ fs : List Value, ew_cell E o f = .inr (ci, fs) ∧ fs[k]? = some (vI (f k)) ∧ ∀ x : Int, ew_cell E o (fun b => if b = (k : Int) then x else f b) = .inr (ci, fs.set k (vI x))
/-- .. its field k that holds the cell t -/
def ewR (o ci k t : Nat) : Prop := o < 88 ∧ ∀ (E : ewE) (f : Int → Int), ∃ fs : List Value, ew_cell E o f = .inr (ci, fs) ∧ fs[k]? = some (vR E t)
def ewO (o ci : Nat) : Prop := o < 88 ∧ ∀ (E : ewE) (f : Int → Int), ∃ fs : List Value, ew_cell E o f = .inr (ci, fs)
theorem ewF.o {o ci k : Nat} (h : ewF o ci k) : ewO o ci := ⟨h.1, fun E f => by obtain ⟨fs, h1, -⟩ := h.2 E f; exact ⟨fs, h1⟩⟩
theorem ewR.o {o ci k t : Nat} (h : ewR o ci k t) : ewO o ci := ⟨h.1, fun E f => by obtain ⟨fs, h1, -⟩ := h.2 E f; exact ⟨fs, h1⟩⟩
-- sheets
theorem ewA_sheet {j r : Nat} (hj : j < 10) (h1 : 1 ≤ r) (h4 : r ≤ 4) : ewA (5 * j + r) 0 144 := by
  refine ⟨by omega, by omega, fun E f => ?_⟩
  unfold ew_cell
  rw [if_pos (by omega), if_neg (by omega)]
theorem ew_sheet (E : ewE) (f : Int → Int) {j : Nat} (hj : j < 10) : ew_cell E (5 * j) f = .inr (5, [vR E (5 * j + 1), vR E (5 * j + 2), vR E (5 * j + 3), vR E (5 * j + 4)]) := by
  unfold ew_cell
  rw [if_pos (by omega), if_pos (by omega)]
theorem ewO_sheet {j : Nat} (hj : j < 10) : ewO (5 * j) 5 := ⟨by omega, fun E f => ⟨_, ew_sheet E f hj⟩⟩
theorem ewR_s0 {j : Nat} (hj : j < 10) : ewR (5 * j) 5 0 (5 * j + 1) := ⟨by omega, fun E f => ⟨_, ew_sheet E f hj, rfl⟩⟩
theorem ewR_s1 {j : Nat} (hj : j < 10) : ewR (5 * j) 5 1 (5 * j + 2) := ⟨by omega, fun E f => ⟨_, ew_sheet E f hj, rfl⟩⟩
theorem ewR_s2 {j : Nat} (hj : j < 10) : ewR (5 * j) 5 2 (5 * j + 3) := ⟨by omega, fun E f => ⟨_, ew_sheet E f hj, rfl⟩⟩
theorem ewR_s3 {j : Nat} (hj : j < 10) : ewR (5 * j) 5 3 (5 * j + 4) := ⟨by omega, fun E f => ⟨_, ew_sheet E f hj, rfl⟩⟩
-- states
theorem ew_state (E : ewE) (f : Int → Int) {j : Nat} (hj : j < 9) : ew_cell E (50 + 3 * j) f = .inr (6, [vR E (50 + 3 * j + 1), vR E (50 + 3 * j + 2), vR E (5 * j), vI (f 3), vI (f 4), vI (f 5), vI (f 6), vI (f 7), vI (f 8), vI (f 9), vI (f 10), vI (f 11), vI (f 12), vI (f 13), vI (f 14)]) := by
  unfold ew_cell
  rw [if_neg (by omega), if_pos (by omega), if_pos (by omega), show (50 + 3 * j - 50) / 3 = j by omega]
theorem ewO_state {j : Nat} (hj : j < 9) : ewO (50 + 3 * j) 6 := ⟨by omega, fun E f => ⟨_, ew_state E f hj⟩⟩
theorem ewR_t0 {j : Nat} (hj : j < 9) : ewR (50 + 3 * j) 6 0 (50 + 3 * j + 1) := ⟨by omega, fun E f => ⟨_, ew_state E f hj, rfl⟩⟩
theorem ewR_t1 {j : Nat} (hj : j < 9) : ewR (50 + 3 * j) 6 1 (50 + 3 * j + 2) := ⟨by omega, fun E f => ⟨_, ew_state E f hj, rfl⟩⟩
theorem ewR_t2 {j : Nat} (hj : j < 9) : ewR (50 + 3 * j) 6 2 (5 * j) := ⟨by omega, fun E f => ⟨_, ew_state E f hj, rfl⟩⟩
theorem ewF_t {j k : Nat} (hj : j < 9) (h3 : 3 ≤ k) (h14 : k ≤ 14) : ewF (50 + 3 * j) 6 k := by
  refine ⟨by omega, fun E f => ⟨_, ew_state E f hj, ?_, fun x => ?_⟩⟩
  · rcases (show k = 3 ∨ k = 4 ∨ k = 5 ∨ k = 6 ∨ k = 7 ∨ k = 8 ∨ k = 9 ∨ k = 10 ∨ k = 11 ∨ k = 12 ∨ k = 13 ∨ k = 14 by omega) with rfl | rfl | rfl | rfl | rfl | rfl | rfl | rfl | rfl | rfl | rfl | rfl <;> rfl
  · rw [ew_state E _ hj]
    rcases (show k = 3 ∨ k = 4 ∨ k = 5 ∨ k = 6 ∨ k = 7 ∨ k = 8 ∨ k = 9 ∨ k = 10 ∨ k = 11 ∨ k = 12 ∨ k = 13 ∨ k = 14 by omega) with rfl | rfl | rfl | rfl | rfl | rfl | rfl | rfl | rfl | rfl | rfl | rfl <;> rfl
theorem ewA_points {j : Nat} (hj : j < 9) : ewA (50 + 3 * j + 1) 0 75 := by
  refine ⟨by omega, by omega, fun E f => ?_⟩
  unfold ew_cell
  rw [if_neg (by omega), if_pos (by omega), if_neg (by omega), if_pos (by omega)]
theorem ewA_settings {j : Nat} (hj : j < 9) : ewA (50 + 3 * j + 2) 0 4 := by
  refine ⟨by omega, by omega, fun E f => ?_⟩
  unfold ew_cell
  rw [if_neg (by omega), if_pos (by omega), if_neg (by omega), if_neg (by omega)]
-- the single ones
theorem ewR_c {o ci k t : Nat} (ho : o < 88) (h : ∀ (E : ewE) (f : Int → Int), ∃ fs : List Value, ew_cell E o f = .inr (ci, fs) ∧ fs[k]? = some (vR E t)) : ewR o ci k t := ⟨ho, h⟩
theorem ewR_x0 : ewR 77 7 0 50 := ⟨by decide, fun E f => ⟨_, rfl, rfl⟩⟩
theorem ewR_x1 : ewR 77 7 1 78 := ⟨by decide, fun E f => ⟨_, rfl, rfl⟩⟩
theorem ewR_x2 : ewR 77 7 2 79 := ⟨by decide, fun E f => ⟨_, rfl, rfl⟩⟩
theorem ewR_x3 : ewR 77 7 3 80 := ⟨by decide, fun E f => ⟨_, rfl, rfl⟩⟩
theorem ewR_x6 : ewR 77 7 6 81 := ⟨by decide, fun E f => ⟨_, rfl, rfl⟩⟩
theorem ewR_x7 : ewR 77 7 7 83 := ⟨by decide, fun E f => ⟨_, rfl, rfl⟩⟩
theorem ewR_x8 : ewR 77 7 8 45 := ⟨by decide, fun E f => ⟨_, rfl, rfl⟩⟩
theorem ewR_x9 : ewR 77 7 9 84 := ⟨by decide, fun E f => ⟨_, rfl, rfl⟩⟩
theorem ewF_x4 : ewF 77 7 4 := ⟨by decide, fun E f => ⟨_, rfl, rfl, fun x => rfl⟩⟩
theorem ewF_x5 : ewF 77 7 5 := ⟨by decide, fun E f => ⟨_, rfl, rfl, fun x => rfl⟩⟩
theorem ewR_d0 : ewR 81 4 0 82 := ⟨by decide, fun E f => ⟨_, rfl, rfl⟩⟩
theorem ewF_d1 : ewF 81 4 1 := ⟨by decide, fun E f => ⟨_, rfl, rfl, fun x => rfl⟩⟩
theorem ewR_k0 : ewR 84 3 0 85 := ⟨by decide, fun E f => ⟨_, rfl, rfl⟩⟩
theorem ewR_k1 : ewR 84 3 1 86 := ⟨by decide, fun E f => ⟨_, rfl, rfl⟩⟩
theorem ewR_k2 : ewR 84 3 2 87 := ⟨by decide, fun E f => ⟨_, rfl, rfl⟩⟩
theorem ewF_k3 : ewF 84 3 3 := ⟨by decide, fun E f => ⟨_, rfl, rfl, fun x => rfl⟩⟩
theorem ewA_79 : ewA 79 1 2 := ⟨by decide, by decide, fun E f => rfl⟩
theorem ewA_82 : ewA 82 0 40 := ⟨by decide, by decide, fun E f => rfl⟩
theorem ewA_83 : ewA 83 0 25 := ⟨by decide, by decide, fun E f => rfl⟩
theorem ewA_85 : ewA 85 0 144 := ⟨by decide, by decide, fun E f => rfl⟩
theorem ewA_86 : ewA 86 0 144 := ⟨by decide, by decide, fun E f => rfl⟩
theorem ewA_87 : ewA 87 0 144 := ⟨by decide, by decide, fun E f => rfl⟩
-- numbers
theorem e32 {a : Int} (h1 : -2147483648 ≤ a) (h2 : a < 2147483648) : (Int32.ofInt a).toInt = a := Int32.toInt_ofInt_of_le h1 h2
theorem e64 {a : Int} (h1 : -9223372036854775808 ≤ a) (h2 : a < 9223372036854775808) : (Int64.ofInt a).toInt = a := Int64.toInt_ofInt_of_le h1 h2
theorem e32_le {a b : Int} (h1 : -2147483648 ≤ a) (h2 : a < 2147483648) (h3 : -2147483648 ≤ b) (h4 : b < 2147483648) : Int32.ofInt a ≤ Int32.ofInt b ↔ a ≤ b := by rw [Int32.le_iff_toInt_le, e32 h1 h2, e32 h3 h4]
theorem e32_lt {a b : Int} (h1 : -2147483648 ≤ a) (h2 : a < 2147483648) (h3 : -2147483648 ≤ b) (h4 : b < 2147483648) : Int32.ofInt a < Int32.ofInt b ↔ a < b := by rw [Int32.lt_iff_toInt_lt, e32 h1 h2, e32 h3 h4]
theorem e32_eq {a b : Int} (h1 : -2147483648 ≤ a) (h2 : a < 2147483648) (h3 : -2147483648 ≤ b) (h4 : b < 2147483648) : Int32.ofInt a = Int32.ofInt b ↔ a = b := by rw [← Int32.toInt_inj, e32 h1 h2, e32 h3 h4]
theorem e32_clamp {a : Int} (h1 : 0 ≤ a) (h2 : a < 2147483648) : ((Int32.ofInt a).toNatClampNeg : Int) = a := by
  show (((Int32.ofInt a).toInt.toNat : Nat) : Int) = a
  rw [e32 (by omega) h2]
  omega
theorem e32_in {a : Int} {n : Nat} (h1 : 0 ≤ a) (h2 : a < n) (hn : n < 2147483648) : vp_in (Int32.ofInt a) n := by
  have hc := e32_clamp h1 (by omega)
  rintro (h | h)
  · rw [Int32.lt_iff_toInt_lt, e32 (by omega) (by omega)] at h
    have : (0 : Int32).toInt = 0 := rfl
    omega
  · omega
theorem e32_div {a b : Int} (h1 : 0 ≤ a) (h2 : a < 2147483648) (h3 : 0 < b) (h4 : b < 2147483648) : Int32.ofInt a / Int32.ofInt b = Int32.ofInt (a / b) := by
  have e1 : Int32.minValue.toInt = -2147483648 := by decide
  have e2 : Int32.maxValue.toInt = 2147483647 := by decide
  rw [← Int32.ofInt_tdiv (by omega) (by omega) (by omega) (by omega), Int.tdiv_eq_ediv_of_nonneg h1]
theorem e32_rem {a b : Int} (h1 : 0 ≤ a) (h2 : a < 2147483648) (h3 : 0 < b) (h4 : b < 2147483648) : Int32.ofInt a - Int32.ofInt a / Int32.ofInt b * Int32.ofInt b = Int32.ofInt (a % b) := by
  rw [e32_div h1 h2 h3 h4, ← Int32.ofInt_mul, ← Int32.ofInt_sub]
  congr 1
  have := Int.emod_add_mul_ediv a b
  rw [Int.mul_comm] at this
  omega
theorem e32_l {a : Int} (h1 : -2147483648 ≤ a) (h2 : a < 2147483648) : (Int32.ofInt a).toInt64 = Int64.ofInt a := by
  have e1 : Int32.minValue.toInt = -2147483648 := by decide
  have e2 : Int32.maxValue.toInt = 2147483647 := by decide
  exact Int32.toInt64_ofInt (by omega) (by omega)
theorem e64_eq {a b : Int} (h1 : -9223372036854775808 ≤ a) (h2 : a < 9223372036854775808) (h3 : -9223372036854775808 ≤ b) (h4 : b < 9223372036854775808) : Int64.ofInt a = Int64.ofInt b ↔ a = b := by rw [← Int64.toInt_inj, e64 h1 h2, e64 h3 h4]
theorem e64_lt {a b : Int} (h1 : -9223372036854775808 ≤ a) (h2 : a < 9223372036854775808) (h3 : -9223372036854775808 ≤ b) (h4 : b < 9223372036854775808) : Int64.ofInt a < Int64.ofInt b ↔ a < b := by rw [Int64.lt_iff_toInt_lt, e64 h1 h2, e64 h3 h4]
