/-! THE WORLD AT THE START -/
def wS (T : Nat → ClassId) (hP : Nat) (b : Nat → Nat) (a : Nat → Nat → Nat) : va_W := epW T hP b a
def gL : List Nat := [4, 5, 6, 7, 8, 13, 14, 15, 16, 17, 21, 22, 23, 24, 25, 31, 32, 33, 34, 35, 39, 40, 41, 42, 43, 47, 48, 49, 50, 51, 55, 56, 57, 58, 59, 63, 64, 65, 66, 67, 71, 72, 73, 74, 75, 79, 80, 81, 82, 83, 1, 2, 3, 10, 11, 12, 18, 19, 20, 28, 29, 30, 36, 37, 38, 44, 45, 46, 52, 53, 54, 60, 61, 62, 68, 69, 70, 0, 9, 26, 27, 76, 77, 78, 84, 85, 86, 87]
def adL (hP : Nat) (b : Nat → Nat) (a : Nat → Nat → Nat) : List Nat := [a 1 2, a 1 3, a 1 4, a 1 5, a 1 6, a 3 2, a 3 3, a 3 4, a 3 5, a 3 6, a 4 2, a 4 3, a 4 4, a 4 5, a 4 6, a 7 2, a 7 3, a 7 4, a 7 5, a 7 6, a 8 2, a 8 3, a 8 4, a 8 5, a 8 6, a 9 2, a 9 3, a 9 4, a 9 5, a 9 6, a 10 2, a 10 3, a 10 4, a 10 5, a 10 6, a 11 2, a 11 3, a 11 4, a 11 5, a 11 6, a 12 2, a 12 3, a 12 4, a 12 5, a 12 6, b 15, a 15 0, a 15 1, a 15 2, a 15 3, b 1, a 1 0, a 1 1, b 3, a 3 0, a 3 1, b 4, a 4 0, a 4 1, b 7, a 7 0, a 7 1, b 8, a 8 0, a 8 1, b 9, a 9 0, a 9 1, b 10, a 10 0, a 10 1, b 11, a 11 0, a 11 1, b 12, a 12 0, a 12 1, hP, b 2, b 5, b 6, b 13, a 13 0, b 14, b 16, a 16 0, a 16 1, a 16 2]
def adW (ws : List Nat) (f l g s : Nat) : Nat → Nat := fun i => if i < 88 then ws.getD i 0 else if i = 200 then f else if i = 201 then l else if i = 202 then g else s
/-- what the cells hold at the start -/
def M0 : ewM := fun i k => if i < 50 then 0 else if i < 77 then (if (i - 50) % 3 = 0 then (if k = 8 then 1 else 0) else if (i - 50) % 3 = 1 then 0 else g_first k.toNat) else 0
def aE (D : va_G) (T : Nat → ClassId) (ws : List Nat) (f l g s N : Nat) (xs : Nat → Int32) : ewE := (adW ws f l g s, D, T, N, xs)
theorem g_first_b (k : Nat) : 0 ≤ g_first k ∧ g_first k ≤ 12 := by unfold g_first; split <;> (try split) <;> (try split) <;> omega
theorem M0_b (i : Nat) (k : Int) : 0 ≤ M0 i k ∧ M0 i k ≤ 12 := by
  have h1 := g_first_b k.toNat
  unfold M0
  (repeat' split) <;> omega
theorem M0_S : ew_S M0 := fun i k _ _ => by have := M0_b i k; omega
theorem M0_sheet {o : Nat} (h : o < 50) : M0 o = fun _ => 0 := by funext k; unfold M0; rw [if_pos h]
theorem M0_obj {j : Nat} (hj : j < 9) : M0 (50 + 3 * j) = fun k => if k = 8 then 1 else 0 := by funext k; unfold M0; rw [if_neg (by omega), if_pos (by omega), if_pos (by omega)]
theorem M0_pts {j : Nat} (hj : j < 9) : M0 (50 + 3 * j + 1) = fun _ => 0 := by funext k; unfold M0; rw [if_neg (by omega), if_pos (by omega), if_neg (by omega), if_pos (by omega)]
theorem M0_set {j : Nat} (hj : j < 9) : M0 (50 + 3 * j + 2) = fun k => g_first k.toNat := by funext k; unfold M0; rw [if_neg (by omega), if_pos (by omega), if_neg (by omega), if_neg (by omega)]
theorem M0_0 {o : Nat} (h : 77 ≤ o) : M0 o = fun _ => 0 := by funext k; unfold M0; rw [if_neg (by omega), if_neg (by omega)]
theorem gL_inj : ∀ i : Fin 88, ∀ j : Fin 88, gL.getD i.1 0 = gL.getD j.1 0 → i = j := by decide +kernel
section ARR
variable (D : va_G) (T : Nat → ClassId) (hP : Nat) (b : Nat → Nat) (a : Nat → Nat → Nat) (f l g s nN : Nat) (xs : Nat → Int32) (H : Heap)
def arE : ewE := aE D T (adL hP b a) f l g s nN xs
theorem aa_0 : (arE D T hP b a f l g s nN xs).1 0 = a 1 2 := rfl
theorem aa_1 : (arE D T hP b a f l g s nN xs).1 1 = a 1 3 := rfl
theorem aa_2 : (arE D T hP b a f l g s nN xs).1 2 = a 1 4 := rfl
theorem aa_3 : (arE D T hP b a f l g s nN xs).1 3 = a 1 5 := rfl
theorem aa_4 : (arE D T hP b a f l g s nN xs).1 4 = a 1 6 := rfl
theorem aa_5 : (arE D T hP b a f l g s nN xs).1 5 = a 3 2 := rfl
theorem aa_6 : (arE D T hP b a f l g s nN xs).1 6 = a 3 3 := rfl
theorem aa_7 : (arE D T hP b a f l g s nN xs).1 7 = a 3 4 := rfl
theorem aa_8 : (arE D T hP b a f l g s nN xs).1 8 = a 3 5 := rfl
theorem aa_9 : (arE D T hP b a f l g s nN xs).1 9 = a 3 6 := rfl
theorem aa_10 : (arE D T hP b a f l g s nN xs).1 10 = a 4 2 := rfl
theorem aa_11 : (arE D T hP b a f l g s nN xs).1 11 = a 4 3 := rfl
theorem aa_12 : (arE D T hP b a f l g s nN xs).1 12 = a 4 4 := rfl
theorem aa_13 : (arE D T hP b a f l g s nN xs).1 13 = a 4 5 := rfl
theorem aa_14 : (arE D T hP b a f l g s nN xs).1 14 = a 4 6 := rfl
theorem aa_15 : (arE D T hP b a f l g s nN xs).1 15 = a 7 2 := rfl
theorem aa_16 : (arE D T hP b a f l g s nN xs).1 16 = a 7 3 := rfl
theorem aa_17 : (arE D T hP b a f l g s nN xs).1 17 = a 7 4 := rfl
theorem aa_18 : (arE D T hP b a f l g s nN xs).1 18 = a 7 5 := rfl
theorem aa_19 : (arE D T hP b a f l g s nN xs).1 19 = a 7 6 := rfl
theorem aa_20 : (arE D T hP b a f l g s nN xs).1 20 = a 8 2 := rfl
theorem aa_21 : (arE D T hP b a f l g s nN xs).1 21 = a 8 3 := rfl
theorem aa_22 : (arE D T hP b a f l g s nN xs).1 22 = a 8 4 := rfl
theorem aa_23 : (arE D T hP b a f l g s nN xs).1 23 = a 8 5 := rfl
theorem aa_24 : (arE D T hP b a f l g s nN xs).1 24 = a 8 6 := rfl
theorem aa_25 : (arE D T hP b a f l g s nN xs).1 25 = a 9 2 := rfl
theorem aa_26 : (arE D T hP b a f l g s nN xs).1 26 = a 9 3 := rfl
theorem aa_27 : (arE D T hP b a f l g s nN xs).1 27 = a 9 4 := rfl
theorem aa_28 : (arE D T hP b a f l g s nN xs).1 28 = a 9 5 := rfl
theorem aa_29 : (arE D T hP b a f l g s nN xs).1 29 = a 9 6 := rfl
theorem aa_30 : (arE D T hP b a f l g s nN xs).1 30 = a 10 2 := rfl
theorem aa_31 : (arE D T hP b a f l g s nN xs).1 31 = a 10 3 := rfl
theorem aa_32 : (arE D T hP b a f l g s nN xs).1 32 = a 10 4 := rfl
theorem aa_33 : (arE D T hP b a f l g s nN xs).1 33 = a 10 5 := rfl
theorem aa_34 : (arE D T hP b a f l g s nN xs).1 34 = a 10 6 := rfl
theorem aa_35 : (arE D T hP b a f l g s nN xs).1 35 = a 11 2 := rfl
theorem aa_36 : (arE D T hP b a f l g s nN xs).1 36 = a 11 3 := rfl
theorem aa_37 : (arE D T hP b a f l g s nN xs).1 37 = a 11 4 := rfl
theorem aa_38 : (arE D T hP b a f l g s nN xs).1 38 = a 11 5 := rfl
theorem aa_39 : (arE D T hP b a f l g s nN xs).1 39 = a 11 6 := rfl
theorem aa_40 : (arE D T hP b a f l g s nN xs).1 40 = a 12 2 := rfl
theorem aa_41 : (arE D T hP b a f l g s nN xs).1 41 = a 12 3 := rfl
theorem aa_42 : (arE D T hP b a f l g s nN xs).1 42 = a 12 4 := rfl
theorem aa_43 : (arE D T hP b a f l g s nN xs).1 43 = a 12 5 := rfl
theorem aa_44 : (arE D T hP b a f l g s nN xs).1 44 = a 12 6 := rfl
theorem aa_45 : (arE D T hP b a f l g s nN xs).1 45 = b 15 := rfl
theorem aa_46 : (arE D T hP b a f l g s nN xs).1 46 = a 15 0 := rfl
theorem aa_47 : (arE D T hP b a f l g s nN xs).1 47 = a 15 1 := rfl
theorem aa_48 : (arE D T hP b a f l g s nN xs).1 48 = a 15 2 := rfl
theorem aa_49 : (arE D T hP b a f l g s nN xs).1 49 = a 15 3 := rfl
theorem aa_50 : (arE D T hP b a f l g s nN xs).1 50 = b 1 := rfl
theorem aa_51 : (arE D T hP b a f l g s nN xs).1 51 = a 1 0 := rfl
theorem aa_52 : (arE D T hP b a f l g s nN xs).1 52 = a 1 1 := rfl
theorem aa_53 : (arE D T hP b a f l g s nN xs).1 53 = b 3 := rfl
theorem aa_54 : (arE D T hP b a f l g s nN xs).1 54 = a 3 0 := rfl
theorem aa_55 : (arE D T hP b a f l g s nN xs).1 55 = a 3 1 := rfl
theorem aa_56 : (arE D T hP b a f l g s nN xs).1 56 = b 4 := rfl
theorem aa_57 : (arE D T hP b a f l g s nN xs).1 57 = a 4 0 := rfl
theorem aa_58 : (arE D T hP b a f l g s nN xs).1 58 = a 4 1 := rfl
theorem aa_59 : (arE D T hP b a f l g s nN xs).1 59 = b 7 := rfl
theorem aa_60 : (arE D T hP b a f l g s nN xs).1 60 = a 7 0 := rfl
theorem aa_61 : (arE D T hP b a f l g s nN xs).1 61 = a 7 1 := rfl
theorem aa_62 : (arE D T hP b a f l g s nN xs).1 62 = b 8 := rfl
theorem aa_63 : (arE D T hP b a f l g s nN xs).1 63 = a 8 0 := rfl
theorem aa_64 : (arE D T hP b a f l g s nN xs).1 64 = a 8 1 := rfl
theorem aa_65 : (arE D T hP b a f l g s nN xs).1 65 = b 9 := rfl
theorem aa_66 : (arE D T hP b a f l g s nN xs).1 66 = a 9 0 := rfl
theorem aa_67 : (arE D T hP b a f l g s nN xs).1 67 = a 9 1 := rfl
theorem aa_68 : (arE D T hP b a f l g s nN xs).1 68 = b 10 := rfl
theorem aa_69 : (arE D T hP b a f l g s nN xs).1 69 = a 10 0 := rfl
theorem aa_70 : (arE D T hP b a f l g s nN xs).1 70 = a 10 1 := rfl
theorem aa_71 : (arE D T hP b a f l g s nN xs).1 71 = b 11 := rfl
theorem aa_72 : (arE D T hP b a f l g s nN xs).1 72 = a 11 0 := rfl
theorem aa_73 : (arE D T hP b a f l g s nN xs).1 73 = a 11 1 := rfl
theorem aa_74 : (arE D T hP b a f l g s nN xs).1 74 = b 12 := rfl
theorem aa_75 : (arE D T hP b a f l g s nN xs).1 75 = a 12 0 := rfl
theorem aa_76 : (arE D T hP b a f l g s nN xs).1 76 = a 12 1 := rfl
theorem aa_77 : (arE D T hP b a f l g s nN xs).1 77 = hP := rfl
theorem aa_78 : (arE D T hP b a f l g s nN xs).1 78 = b 2 := rfl
theorem aa_79 : (arE D T hP b a f l g s nN xs).1 79 = b 5 := rfl
theorem aa_80 : (arE D T hP b a f l g s nN xs).1 80 = b 6 := rfl
theorem aa_81 : (arE D T hP b a f l g s nN xs).1 81 = b 13 := rfl
theorem aa_82 : (arE D T hP b a f l g s nN xs).1 82 = a 13 0 := rfl
theorem aa_83 : (arE D T hP b a f l g s nN xs).1 83 = b 14 := rfl
theorem aa_84 : (arE D T hP b a f l g s nN xs).1 84 = b 16 := rfl
theorem aa_85 : (arE D T hP b a f l g s nN xs).1 85 = a 16 0 := rfl
theorem aa_86 : (arE D T hP b a f l g s nN xs).1 86 = a 16 1 := rfl
theorem aa_87 : (arE D T hP b a f l g s nN xs).1 87 = a 16 2 := rfl
def wX : va_W := [(hP, .inr (7, [.ref (b 1), .ref (b 2), .ref (b 5), .ref (b 6), vI 0, vI 0, .ref (b 13), .ref (b 14), .ref (b 15), .ref (b 16)])), (b 1, .inr (6, [.ref (a 1 0), .ref (a 1 1), .ref (a 1 2), vI 0, vI 0, vI 0, vI 0, vI 0, vI 1, vI 0, vI 0, vI 0, vI 0, vI 0, vI 0])), (a 1 0, kA T 0 75), (a 1 1, .inl (T 0, 4, .inl (fun k => Int32.ofInt (g_first k)))), (a 1 2, .inr (5, [.ref (a 1 3), .ref (a 1 4), .ref (a 1 5), .ref (a 1 6)])), (a 1 3, kA T 0 144), (a 1 4, kA T 0 144), (a 1 5, kA T 0 144), (a 1 6, kA T 0 144), (b 2, .inl (T 3, 2, .inr (.inr (.inr (.inr (va_up (va_up (fun _ => none) 0 (some (b 3))) 1 (some (b 4)))))))), (b 3, .inr (6, [.ref (a 3 0), .ref (a 3 1), .ref (a 3 2), vI 0, vI 0, vI 0, vI 0, vI 0, vI 1, vI 0, vI 0, vI 0, vI 0, vI 0, vI 0])), (a 3 0, kA T 0 75), (a 3 1, .inl (T 0, 4, .inl (fun k => Int32.ofInt (g_first k)))), (a 3 2, .inr (5, [.ref (a 3 3), .ref (a 3 4), .ref (a 3 5), .ref (a 3 6)])), (a 3 3, kA T 0 144), (a 3 4, kA T 0 144), (a 3 5, kA T 0 144), (a 3 6, kA T 0 144), (b 4, .inr (6, [.ref (a 4 0), .ref (a 4 1), .ref (a 4 2), vI 0, vI 0, vI 0, vI 0, vI 0, vI 1, vI 0, vI 0, vI 0, vI 0, vI 0, vI 0])), (a 4 0, kA T 0 75), (a 4 1, .inl (T 0, 4, .inl (fun k => Int32.ofInt (g_first k)))), (a 4 2, .inr (5, [.ref (a 4 3), .ref (a 4 4), .ref (a 4 5), .ref (a 4 6)])), (a 4 3, kA T 0 144), (a 4 4, kA T 0 144), (a 4 5, kA T 0 144), (a 4 6, kA T 0 144), (b 5, kA T 1 2), (b 6, .inl (T 3, 6, .inr (.inr (.inr (.inr (va_up (va_up (va_up (va_up (va_up (va_up (fun _ => none) 0 (some (b 7))) 1 (some (b 8))) 2 (some (b 9))) 3 (some (b 10))) 4 (some (b 11))) 5 (some (b 12)))))))), (b 7, .inr (6, [.ref (a 7 0), .ref (a 7 1), .ref (a 7 2), vI 0, vI 0, vI 0, vI 0, vI 0, vI 1, vI 0, vI 0, vI 0, vI 0, vI 0, vI 0])), (a 7 0, kA T 0 75), (a 7 1, .inl (T 0, 4, .inl (fun k => Int32.ofInt (g_first k)))), (a 7 2, .inr (5, [.ref (a 7 3), .ref (a 7 4), .ref (a 7 5), .ref (a 7 6)])), (a 7 3, kA T 0 144), (a 7 4, kA T 0 144), (a 7 5, kA T 0 144), (a 7 6, kA T 0 144), (b 8, .inr (6, [.ref (a 8 0), .ref (a 8 1), .ref (a 8 2), vI 0, vI 0, vI 0, vI 0, vI 0, vI 1, vI 0, vI 0, vI 0, vI 0, vI 0, vI 0])), (a 8 0, kA T 0 75), (a 8 1, .inl (T 0, 4, .inl (fun k => Int32.ofInt (g_first k)))), (a 8 2, .inr (5, [.ref (a 8 3), .ref (a 8 4), .ref (a 8 5), .ref (a 8 6)])), (a 8 3, kA T 0 144), (a 8 4, kA T 0 144), (a 8 5, kA T 0 144), (a 8 6, kA T 0 144), (b 9, .inr (6, [.ref (a 9 0), .ref (a 9 1), .ref (a 9 2), vI 0, vI 0, vI 0, vI 0, vI 0, vI 1, vI 0, vI 0, vI 0, vI 0, vI 0, vI 0])), (a 9 0, kA T 0 75), (a 9 1, .inl (T 0, 4, .inl (fun k => Int32.ofInt (g_first k)))), (a 9 2, .inr (5, [.ref (a 9 3), .ref (a 9 4), .ref (a 9 5), .ref (a 9 6)])), (a 9 3, kA T 0 144), (a 9 4, kA T 0 144), (a 9 5, kA T 0 144), (a 9 6, kA T 0 144), (b 10, .inr (6, [.ref (a 10 0), .ref (a 10 1), .ref (a 10 2), vI 0, vI 0, vI 0, vI 0, vI 0, vI 1, vI 0, vI 0, vI 0, vI 0, vI 0, vI 0])), (a 10 0, kA T 0 75), (a 10 1, .inl (T 0, 4, .inl (fun k => Int32.ofInt (g_first k)))), (a 10 2, .inr (5, [.ref (a 10 3), .ref (a 10 4), .ref (a 10 5), .ref (a 10 6)])), (a 10 3, kA T 0 144), (a 10 4, kA T 0 144), (a 10 5, kA T 0 144), (a 10 6, kA T 0 144), (b 11, .inr (6, [.ref (a 11 0), .ref (a 11 1), .ref (a 11 2), vI 0, vI 0, vI 0, vI 0, vI 0, vI 1, vI 0, vI 0, vI 0, vI 0, vI 0, vI 0])), (a 11 0, kA T 0 75), (a 11 1, .inl (T 0, 4, .inl (fun k => Int32.ofInt (g_first k)))), (a 11 2, .inr (5, [.ref (a 11 3), .ref (a 11 4), .ref (a 11 5), .ref (a 11 6)])), (a 11 3, kA T 0 144), (a 11 4, kA T 0 144), (a 11 5, kA T 0 144), (a 11 6, kA T 0 144), (b 12, .inr (6, [.ref (a 12 0), .ref (a 12 1), .ref (a 12 2), vI 0, vI 0, vI 0, vI 0, vI 0, vI 1, vI 0, vI 0, vI 0, vI 0, vI 0, vI 0])), (a 12 0, kA T 0 75), (a 12 1, .inl (T 0, 4, .inl (fun k => Int32.ofInt (g_first k)))), (a 12 2, .inr (5, [.ref (a 12 3), .ref (a 12 4), .ref (a 12 5), .ref (a 12 6)])), (a 12 3, kA T 0 144), (a 12 4, kA T 0 144), (a 12 5, kA T 0 144), (a 12 6, kA T 0 144), (b 13, .inr (4, [.ref (a 13 0), vI 0])), (a 13 0, kA T 0 40), (b 14, kA T 0 25), (b 15, .inr (5, [.ref (a 15 0), .ref (a 15 1), .ref (a 15 2), .ref (a 15 3)])), (a 15 0, kA T 0 144), (a 15 1, kA T 0 144), (a 15 2, kA T 0 144), (a 15 3, kA T 0 144), (b 16, .inr (3, [.ref (a 16 0), .ref (a 16 1), .ref (a 16 2), vI 0])), (a 16 0, kA T 0 144), (a 16 1, kA T 0 144), (a 16 2, kA T 0 144)]
theorem wS_eq : wS T hP b a = wX T hP b a := by
  simp only [wS, epW, snW, shW, dtW, cfW, List.cons_append, List.nil_append]
  rfl
def arP (i : Nat) : Prop := ∃ e : va_E, (wX T hP b a)[gL.getD i 0]? = some ((arE D T hP b a f l g s nN xs).1 i, e) ∧ (va_at D vwCl ((arE D T hP b a f l g s nN xs).1 i, e) H → va_at D vwCl ((arE D T hP b a f l g s nN xs).1 i, ew_cell (arE D T hP b a f l g s nN xs) i (M0 i)) H)
theorem gg_0 : gL.getD 0 0 = 4 := rfl
theorem aw_0 : (wX T hP b a)[4]? = some (a 1 2, .inr (5, [.ref (a 1 3), .ref (a 1 4), .ref (a 1 5), .ref (a 1 6)])) := rfl
theorem ac_0 : ew_cell (arE D T hP b a f l g s nN xs) 0 (M0 0) = .inr (5, [.ref (a 1 3), .ref (a 1 4), .ref (a 1 5), .ref (a 1 6)]) := (ew_sheet _ _ (j := 0) (by decide)).trans rfl
theorem ar_0 : arP D T hP b a f l g s nN xs H 0 := ⟨_, by rw [gg_0, aa_0]; exact aw_0 T hP b a, fun h => by rw [ac_0]; exact h⟩
theorem gg_1 : gL.getD 1 0 = 5 := rfl
theorem aw_1 : (wX T hP b a)[5]? = some (a 1 3, kA T 0 144) := rfl
theorem ac_1 : ew_cell (arE D T hP b a f l g s nN xs) 1 (M0 1) = kA T 0 144 := ((ewA_sheet (j := 0) (r := 1) (by decide) (by decide) (by decide)).2.2 _ _).trans rfl
theorem ar_1 : arP D T hP b a f l g s nN xs H 1 := ⟨_, by rw [gg_1, aa_1]; exact aw_1 T hP b a, fun h => by rw [ac_1]; exact h⟩
theorem gg_2 : gL.getD 2 0 = 6 := rfl
theorem aw_2 : (wX T hP b a)[6]? = some (a 1 4, kA T 0 144) := rfl
theorem ac_2 : ew_cell (arE D T hP b a f l g s nN xs) 2 (M0 2) = kA T 0 144 := ((ewA_sheet (j := 0) (r := 2) (by decide) (by decide) (by decide)).2.2 _ _).trans rfl
theorem ar_2 : arP D T hP b a f l g s nN xs H 2 := ⟨_, by rw [gg_2, aa_2]; exact aw_2 T hP b a, fun h => by rw [ac_2]; exact h⟩
theorem gg_3 : gL.getD 3 0 = 7 := rfl
theorem aw_3 : (wX T hP b a)[7]? = some (a 1 5, kA T 0 144) := rfl
theorem ac_3 : ew_cell (arE D T hP b a f l g s nN xs) 3 (M0 3) = kA T 0 144 := ((ewA_sheet (j := 0) (r := 3) (by decide) (by decide) (by decide)).2.2 _ _).trans rfl
theorem ar_3 : arP D T hP b a f l g s nN xs H 3 := ⟨_, by rw [gg_3, aa_3]; exact aw_3 T hP b a, fun h => by rw [ac_3]; exact h⟩
theorem gg_4 : gL.getD 4 0 = 8 := rfl
theorem aw_4 : (wX T hP b a)[8]? = some (a 1 6, kA T 0 144) := rfl
theorem ac_4 : ew_cell (arE D T hP b a f l g s nN xs) 4 (M0 4) = kA T 0 144 := ((ewA_sheet (j := 0) (r := 4) (by decide) (by decide) (by decide)).2.2 _ _).trans rfl
theorem ar_4 : arP D T hP b a f l g s nN xs H 4 := ⟨_, by rw [gg_4, aa_4]; exact aw_4 T hP b a, fun h => by rw [ac_4]; exact h⟩
theorem gg_5 : gL.getD 5 0 = 13 := rfl
theorem aw_5 : (wX T hP b a)[13]? = some (a 3 2, .inr (5, [.ref (a 3 3), .ref (a 3 4), .ref (a 3 5), .ref (a 3 6)])) := rfl
theorem ac_5 : ew_cell (arE D T hP b a f l g s nN xs) 5 (M0 5) = .inr (5, [.ref (a 3 3), .ref (a 3 4), .ref (a 3 5), .ref (a 3 6)]) := (ew_sheet _ _ (j := 1) (by decide)).trans rfl
theorem ar_5 : arP D T hP b a f l g s nN xs H 5 := ⟨_, by rw [gg_5, aa_5]; exact aw_5 T hP b a, fun h => by rw [ac_5]; exact h⟩
theorem gg_6 : gL.getD 6 0 = 14 := rfl
theorem aw_6 : (wX T hP b a)[14]? = some (a 3 3, kA T 0 144) := rfl
theorem ac_6 : ew_cell (arE D T hP b a f l g s nN xs) 6 (M0 6) = kA T 0 144 := ((ewA_sheet (j := 1) (r := 1) (by decide) (by decide) (by decide)).2.2 _ _).trans rfl
theorem ar_6 : arP D T hP b a f l g s nN xs H 6 := ⟨_, by rw [gg_6, aa_6]; exact aw_6 T hP b a, fun h => by rw [ac_6]; exact h⟩
theorem gg_7 : gL.getD 7 0 = 15 := rfl
theorem aw_7 : (wX T hP b a)[15]? = some (a 3 4, kA T 0 144) := rfl
theorem ac_7 : ew_cell (arE D T hP b a f l g s nN xs) 7 (M0 7) = kA T 0 144 := ((ewA_sheet (j := 1) (r := 2) (by decide) (by decide) (by decide)).2.2 _ _).trans rfl
theorem ar_7 : arP D T hP b a f l g s nN xs H 7 := ⟨_, by rw [gg_7, aa_7]; exact aw_7 T hP b a, fun h => by rw [ac_7]; exact h⟩
theorem gg_8 : gL.getD 8 0 = 16 := rfl
theorem aw_8 : (wX T hP b a)[16]? = some (a 3 5, kA T 0 144) := rfl
theorem ac_8 : ew_cell (arE D T hP b a f l g s nN xs) 8 (M0 8) = kA T 0 144 := ((ewA_sheet (j := 1) (r := 3) (by decide) (by decide) (by decide)).2.2 _ _).trans rfl
theorem ar_8 : arP D T hP b a f l g s nN xs H 8 := ⟨_, by rw [gg_8, aa_8]; exact aw_8 T hP b a, fun h => by rw [ac_8]; exact h⟩
theorem gg_9 : gL.getD 9 0 = 17 := rfl
theorem aw_9 : (wX T hP b a)[17]? = some (a 3 6, kA T 0 144) := rfl
theorem ac_9 : ew_cell (arE D T hP b a f l g s nN xs) 9 (M0 9) = kA T 0 144 := ((ewA_sheet (j := 1) (r := 4) (by decide) (by decide) (by decide)).2.2 _ _).trans rfl
theorem ar_9 : arP D T hP b a f l g s nN xs H 9 := ⟨_, by rw [gg_9, aa_9]; exact aw_9 T hP b a, fun h => by rw [ac_9]; exact h⟩
theorem gg_10 : gL.getD 10 0 = 21 := rfl
theorem aw_10 : (wX T hP b a)[21]? = some (a 4 2, .inr (5, [.ref (a 4 3), .ref (a 4 4), .ref (a 4 5), .ref (a 4 6)])) := rfl
theorem ac_10 : ew_cell (arE D T hP b a f l g s nN xs) 10 (M0 10) = .inr (5, [.ref (a 4 3), .ref (a 4 4), .ref (a 4 5), .ref (a 4 6)]) := (ew_sheet _ _ (j := 2) (by decide)).trans rfl
theorem ar_10 : arP D T hP b a f l g s nN xs H 10 := ⟨_, by rw [gg_10, aa_10]; exact aw_10 T hP b a, fun h => by rw [ac_10]; exact h⟩
theorem gg_11 : gL.getD 11 0 = 22 := rfl
theorem aw_11 : (wX T hP b a)[22]? = some (a 4 3, kA T 0 144) := rfl
theorem ac_11 : ew_cell (arE D T hP b a f l g s nN xs) 11 (M0 11) = kA T 0 144 := ((ewA_sheet (j := 2) (r := 1) (by decide) (by decide) (by decide)).2.2 _ _).trans rfl
theorem ar_11 : arP D T hP b a f l g s nN xs H 11 := ⟨_, by rw [gg_11, aa_11]; exact aw_11 T hP b a, fun h => by rw [ac_11]; exact h⟩
theorem gg_12 : gL.getD 12 0 = 23 := rfl
theorem aw_12 : (wX T hP b a)[23]? = some (a 4 4, kA T 0 144) := rfl
theorem ac_12 : ew_cell (arE D T hP b a f l g s nN xs) 12 (M0 12) = kA T 0 144 := ((ewA_sheet (j := 2) (r := 2) (by decide) (by decide) (by decide)).2.2 _ _).trans rfl
theorem ar_12 : arP D T hP b a f l g s nN xs H 12 := ⟨_, by rw [gg_12, aa_12]; exact aw_12 T hP b a, fun h => by rw [ac_12]; exact h⟩
theorem gg_13 : gL.getD 13 0 = 24 := rfl
theorem aw_13 : (wX T hP b a)[24]? = some (a 4 5, kA T 0 144) := rfl
theorem ac_13 : ew_cell (arE D T hP b a f l g s nN xs) 13 (M0 13) = kA T 0 144 := ((ewA_sheet (j := 2) (r := 3) (by decide) (by decide) (by decide)).2.2 _ _).trans rfl
theorem ar_13 : arP D T hP b a f l g s nN xs H 13 := ⟨_, by rw [gg_13, aa_13]; exact aw_13 T hP b a, fun h => by rw [ac_13]; exact h⟩
theorem gg_14 : gL.getD 14 0 = 25 := rfl
theorem aw_14 : (wX T hP b a)[25]? = some (a 4 6, kA T 0 144) := rfl
theorem ac_14 : ew_cell (arE D T hP b a f l g s nN xs) 14 (M0 14) = kA T 0 144 := ((ewA_sheet (j := 2) (r := 4) (by decide) (by decide) (by decide)).2.2 _ _).trans rfl
theorem ar_14 : arP D T hP b a f l g s nN xs H 14 := ⟨_, by rw [gg_14, aa_14]; exact aw_14 T hP b a, fun h => by rw [ac_14]; exact h⟩
theorem gg_15 : gL.getD 15 0 = 31 := rfl
theorem aw_15 : (wX T hP b a)[31]? = some (a 7 2, .inr (5, [.ref (a 7 3), .ref (a 7 4), .ref (a 7 5), .ref (a 7 6)])) := rfl
theorem ac_15 : ew_cell (arE D T hP b a f l g s nN xs) 15 (M0 15) = .inr (5, [.ref (a 7 3), .ref (a 7 4), .ref (a 7 5), .ref (a 7 6)]) := (ew_sheet _ _ (j := 3) (by decide)).trans rfl
theorem ar_15 : arP D T hP b a f l g s nN xs H 15 := ⟨_, by rw [gg_15, aa_15]; exact aw_15 T hP b a, fun h => by rw [ac_15]; exact h⟩
theorem gg_16 : gL.getD 16 0 = 32 := rfl
theorem aw_16 : (wX T hP b a)[32]? = some (a 7 3, kA T 0 144) := rfl
theorem ac_16 : ew_cell (arE D T hP b a f l g s nN xs) 16 (M0 16) = kA T 0 144 := ((ewA_sheet (j := 3) (r := 1) (by decide) (by decide) (by decide)).2.2 _ _).trans rfl
theorem ar_16 : arP D T hP b a f l g s nN xs H 16 := ⟨_, by rw [gg_16, aa_16]; exact aw_16 T hP b a, fun h => by rw [ac_16]; exact h⟩
theorem gg_17 : gL.getD 17 0 = 33 := rfl
theorem aw_17 : (wX T hP b a)[33]? = some (a 7 4, kA T 0 144) := rfl
theorem ac_17 : ew_cell (arE D T hP b a f l g s nN xs) 17 (M0 17) = kA T 0 144 := ((ewA_sheet (j := 3) (r := 2) (by decide) (by decide) (by decide)).2.2 _ _).trans rfl
theorem ar_17 : arP D T hP b a f l g s nN xs H 17 := ⟨_, by rw [gg_17, aa_17]; exact aw_17 T hP b a, fun h => by rw [ac_17]; exact h⟩
theorem gg_18 : gL.getD 18 0 = 34 := rfl
theorem aw_18 : (wX T hP b a)[34]? = some (a 7 5, kA T 0 144) := rfl
theorem ac_18 : ew_cell (arE D T hP b a f l g s nN xs) 18 (M0 18) = kA T 0 144 := ((ewA_sheet (j := 3) (r := 3) (by decide) (by decide) (by decide)).2.2 _ _).trans rfl
theorem ar_18 : arP D T hP b a f l g s nN xs H 18 := ⟨_, by rw [gg_18, aa_18]; exact aw_18 T hP b a, fun h => by rw [ac_18]; exact h⟩
theorem gg_19 : gL.getD 19 0 = 35 := rfl
theorem aw_19 : (wX T hP b a)[35]? = some (a 7 6, kA T 0 144) := rfl
theorem ac_19 : ew_cell (arE D T hP b a f l g s nN xs) 19 (M0 19) = kA T 0 144 := ((ewA_sheet (j := 3) (r := 4) (by decide) (by decide) (by decide)).2.2 _ _).trans rfl
theorem ar_19 : arP D T hP b a f l g s nN xs H 19 := ⟨_, by rw [gg_19, aa_19]; exact aw_19 T hP b a, fun h => by rw [ac_19]; exact h⟩
theorem gg_20 : gL.getD 20 0 = 39 := rfl
theorem aw_20 : (wX T hP b a)[39]? = some (a 8 2, .inr (5, [.ref (a 8 3), .ref (a 8 4), .ref (a 8 5), .ref (a 8 6)])) := rfl
theorem ac_20 : ew_cell (arE D T hP b a f l g s nN xs) 20 (M0 20) = .inr (5, [.ref (a 8 3), .ref (a 8 4), .ref (a 8 5), .ref (a 8 6)]) := (ew_sheet _ _ (j := 4) (by decide)).trans rfl
theorem ar_20 : arP D T hP b a f l g s nN xs H 20 := ⟨_, by rw [gg_20, aa_20]; exact aw_20 T hP b a, fun h => by rw [ac_20]; exact h⟩
theorem gg_21 : gL.getD 21 0 = 40 := rfl
theorem aw_21 : (wX T hP b a)[40]? = some (a 8 3, kA T 0 144) := rfl
theorem ac_21 : ew_cell (arE D T hP b a f l g s nN xs) 21 (M0 21) = kA T 0 144 := ((ewA_sheet (j := 4) (r := 1) (by decide) (by decide) (by decide)).2.2 _ _).trans rfl
theorem ar_21 : arP D T hP b a f l g s nN xs H 21 := ⟨_, by rw [gg_21, aa_21]; exact aw_21 T hP b a, fun h => by rw [ac_21]; exact h⟩
theorem gg_22 : gL.getD 22 0 = 41 := rfl
theorem aw_22 : (wX T hP b a)[41]? = some (a 8 4, kA T 0 144) := rfl
theorem ac_22 : ew_cell (arE D T hP b a f l g s nN xs) 22 (M0 22) = kA T 0 144 := ((ewA_sheet (j := 4) (r := 2) (by decide) (by decide) (by decide)).2.2 _ _).trans rfl
theorem ar_22 : arP D T hP b a f l g s nN xs H 22 := ⟨_, by rw [gg_22, aa_22]; exact aw_22 T hP b a, fun h => by rw [ac_22]; exact h⟩
theorem gg_23 : gL.getD 23 0 = 42 := rfl
theorem aw_23 : (wX T hP b a)[42]? = some (a 8 5, kA T 0 144) := rfl
theorem ac_23 : ew_cell (arE D T hP b a f l g s nN xs) 23 (M0 23) = kA T 0 144 := ((ewA_sheet (j := 4) (r := 3) (by decide) (by decide) (by decide)).2.2 _ _).trans rfl
theorem ar_23 : arP D T hP b a f l g s nN xs H 23 := ⟨_, by rw [gg_23, aa_23]; exact aw_23 T hP b a, fun h => by rw [ac_23]; exact h⟩
theorem gg_24 : gL.getD 24 0 = 43 := rfl
theorem aw_24 : (wX T hP b a)[43]? = some (a 8 6, kA T 0 144) := rfl
theorem ac_24 : ew_cell (arE D T hP b a f l g s nN xs) 24 (M0 24) = kA T 0 144 := ((ewA_sheet (j := 4) (r := 4) (by decide) (by decide) (by decide)).2.2 _ _).trans rfl
theorem ar_24 : arP D T hP b a f l g s nN xs H 24 := ⟨_, by rw [gg_24, aa_24]; exact aw_24 T hP b a, fun h => by rw [ac_24]; exact h⟩
theorem gg_25 : gL.getD 25 0 = 47 := rfl
theorem aw_25 : (wX T hP b a)[47]? = some (a 9 2, .inr (5, [.ref (a 9 3), .ref (a 9 4), .ref (a 9 5), .ref (a 9 6)])) := rfl
theorem ac_25 : ew_cell (arE D T hP b a f l g s nN xs) 25 (M0 25) = .inr (5, [.ref (a 9 3), .ref (a 9 4), .ref (a 9 5), .ref (a 9 6)]) := (ew_sheet _ _ (j := 5) (by decide)).trans rfl
theorem ar_25 : arP D T hP b a f l g s nN xs H 25 := ⟨_, by rw [gg_25, aa_25]; exact aw_25 T hP b a, fun h => by rw [ac_25]; exact h⟩
theorem gg_26 : gL.getD 26 0 = 48 := rfl
theorem aw_26 : (wX T hP b a)[48]? = some (a 9 3, kA T 0 144) := rfl
theorem ac_26 : ew_cell (arE D T hP b a f l g s nN xs) 26 (M0 26) = kA T 0 144 := ((ewA_sheet (j := 5) (r := 1) (by decide) (by decide) (by decide)).2.2 _ _).trans rfl
theorem ar_26 : arP D T hP b a f l g s nN xs H 26 := ⟨_, by rw [gg_26, aa_26]; exact aw_26 T hP b a, fun h => by rw [ac_26]; exact h⟩
theorem gg_27 : gL.getD 27 0 = 49 := rfl
theorem aw_27 : (wX T hP b a)[49]? = some (a 9 4, kA T 0 144) := rfl
theorem ac_27 : ew_cell (arE D T hP b a f l g s nN xs) 27 (M0 27) = kA T 0 144 := ((ewA_sheet (j := 5) (r := 2) (by decide) (by decide) (by decide)).2.2 _ _).trans rfl
theorem ar_27 : arP D T hP b a f l g s nN xs H 27 := ⟨_, by rw [gg_27, aa_27]; exact aw_27 T hP b a, fun h => by rw [ac_27]; exact h⟩
theorem gg_28 : gL.getD 28 0 = 50 := rfl
theorem aw_28 : (wX T hP b a)[50]? = some (a 9 5, kA T 0 144) := rfl
theorem ac_28 : ew_cell (arE D T hP b a f l g s nN xs) 28 (M0 28) = kA T 0 144 := ((ewA_sheet (j := 5) (r := 3) (by decide) (by decide) (by decide)).2.2 _ _).trans rfl
theorem ar_28 : arP D T hP b a f l g s nN xs H 28 := ⟨_, by rw [gg_28, aa_28]; exact aw_28 T hP b a, fun h => by rw [ac_28]; exact h⟩
theorem gg_29 : gL.getD 29 0 = 51 := rfl
theorem aw_29 : (wX T hP b a)[51]? = some (a 9 6, kA T 0 144) := rfl
theorem ac_29 : ew_cell (arE D T hP b a f l g s nN xs) 29 (M0 29) = kA T 0 144 := ((ewA_sheet (j := 5) (r := 4) (by decide) (by decide) (by decide)).2.2 _ _).trans rfl
theorem ar_29 : arP D T hP b a f l g s nN xs H 29 := ⟨_, by rw [gg_29, aa_29]; exact aw_29 T hP b a, fun h => by rw [ac_29]; exact h⟩
theorem gg_30 : gL.getD 30 0 = 55 := rfl
theorem aw_30 : (wX T hP b a)[55]? = some (a 10 2, .inr (5, [.ref (a 10 3), .ref (a 10 4), .ref (a 10 5), .ref (a 10 6)])) := rfl
theorem ac_30 : ew_cell (arE D T hP b a f l g s nN xs) 30 (M0 30) = .inr (5, [.ref (a 10 3), .ref (a 10 4), .ref (a 10 5), .ref (a 10 6)]) := (ew_sheet _ _ (j := 6) (by decide)).trans rfl
theorem ar_30 : arP D T hP b a f l g s nN xs H 30 := ⟨_, by rw [gg_30, aa_30]; exact aw_30 T hP b a, fun h => by rw [ac_30]; exact h⟩
theorem gg_31 : gL.getD 31 0 = 56 := rfl
theorem aw_31 : (wX T hP b a)[56]? = some (a 10 3, kA T 0 144) := rfl
theorem ac_31 : ew_cell (arE D T hP b a f l g s nN xs) 31 (M0 31) = kA T 0 144 := ((ewA_sheet (j := 6) (r := 1) (by decide) (by decide) (by decide)).2.2 _ _).trans rfl
theorem ar_31 : arP D T hP b a f l g s nN xs H 31 := ⟨_, by rw [gg_31, aa_31]; exact aw_31 T hP b a, fun h => by rw [ac_31]; exact h⟩
theorem gg_32 : gL.getD 32 0 = 57 := rfl
theorem aw_32 : (wX T hP b a)[57]? = some (a 10 4, kA T 0 144) := rfl
theorem ac_32 : ew_cell (arE D T hP b a f l g s nN xs) 32 (M0 32) = kA T 0 144 := ((ewA_sheet (j := 6) (r := 2) (by decide) (by decide) (by decide)).2.2 _ _).trans rfl
theorem ar_32 : arP D T hP b a f l g s nN xs H 32 := ⟨_, by rw [gg_32, aa_32]; exact aw_32 T hP b a, fun h => by rw [ac_32]; exact h⟩
theorem gg_33 : gL.getD 33 0 = 58 := rfl
theorem aw_33 : (wX T hP b a)[58]? = some (a 10 5, kA T 0 144) := rfl
theorem ac_33 : ew_cell (arE D T hP b a f l g s nN xs) 33 (M0 33) = kA T 0 144 := ((ewA_sheet (j := 6) (r := 3) (by decide) (by decide) (by decide)).2.2 _ _).trans rfl
theorem ar_33 : arP D T hP b a f l g s nN xs H 33 := ⟨_, by rw [gg_33, aa_33]; exact aw_33 T hP b a, fun h => by rw [ac_33]; exact h⟩
theorem gg_34 : gL.getD 34 0 = 59 := rfl
theorem aw_34 : (wX T hP b a)[59]? = some (a 10 6, kA T 0 144) := rfl
theorem ac_34 : ew_cell (arE D T hP b a f l g s nN xs) 34 (M0 34) = kA T 0 144 := ((ewA_sheet (j := 6) (r := 4) (by decide) (by decide) (by decide)).2.2 _ _).trans rfl
theorem ar_34 : arP D T hP b a f l g s nN xs H 34 := ⟨_, by rw [gg_34, aa_34]; exact aw_34 T hP b a, fun h => by rw [ac_34]; exact h⟩
theorem gg_35 : gL.getD 35 0 = 63 := rfl
theorem aw_35 : (wX T hP b a)[63]? = some (a 11 2, .inr (5, [.ref (a 11 3), .ref (a 11 4), .ref (a 11 5), .ref (a 11 6)])) := rfl
theorem ac_35 : ew_cell (arE D T hP b a f l g s nN xs) 35 (M0 35) = .inr (5, [.ref (a 11 3), .ref (a 11 4), .ref (a 11 5), .ref (a 11 6)]) := (ew_sheet _ _ (j := 7) (by decide)).trans rfl
theorem ar_35 : arP D T hP b a f l g s nN xs H 35 := ⟨_, by rw [gg_35, aa_35]; exact aw_35 T hP b a, fun h => by rw [ac_35]; exact h⟩
theorem gg_36 : gL.getD 36 0 = 64 := rfl
theorem aw_36 : (wX T hP b a)[64]? = some (a 11 3, kA T 0 144) := rfl
theorem ac_36 : ew_cell (arE D T hP b a f l g s nN xs) 36 (M0 36) = kA T 0 144 := ((ewA_sheet (j := 7) (r := 1) (by decide) (by decide) (by decide)).2.2 _ _).trans rfl
theorem ar_36 : arP D T hP b a f l g s nN xs H 36 := ⟨_, by rw [gg_36, aa_36]; exact aw_36 T hP b a, fun h => by rw [ac_36]; exact h⟩
theorem gg_37 : gL.getD 37 0 = 65 := rfl
theorem aw_37 : (wX T hP b a)[65]? = some (a 11 4, kA T 0 144) := rfl
theorem ac_37 : ew_cell (arE D T hP b a f l g s nN xs) 37 (M0 37) = kA T 0 144 := ((ewA_sheet (j := 7) (r := 2) (by decide) (by decide) (by decide)).2.2 _ _).trans rfl
theorem ar_37 : arP D T hP b a f l g s nN xs H 37 := ⟨_, by rw [gg_37, aa_37]; exact aw_37 T hP b a, fun h => by rw [ac_37]; exact h⟩
theorem gg_38 : gL.getD 38 0 = 66 := rfl
theorem aw_38 : (wX T hP b a)[66]? = some (a 11 5, kA T 0 144) := rfl
theorem ac_38 : ew_cell (arE D T hP b a f l g s nN xs) 38 (M0 38) = kA T 0 144 := ((ewA_sheet (j := 7) (r := 3) (by decide) (by decide) (by decide)).2.2 _ _).trans rfl
theorem ar_38 : arP D T hP b a f l g s nN xs H 38 := ⟨_, by rw [gg_38, aa_38]; exact aw_38 T hP b a, fun h => by rw [ac_38]; exact h⟩
theorem gg_39 : gL.getD 39 0 = 67 := rfl
theorem aw_39 : (wX T hP b a)[67]? = some (a 11 6, kA T 0 144) := rfl
theorem ac_39 : ew_cell (arE D T hP b a f l g s nN xs) 39 (M0 39) = kA T 0 144 := ((ewA_sheet (j := 7) (r := 4) (by decide) (by decide) (by decide)).2.2 _ _).trans rfl
theorem ar_39 : arP D T hP b a f l g s nN xs H 39 := ⟨_, by rw [gg_39, aa_39]; exact aw_39 T hP b a, fun h => by rw [ac_39]; exact h⟩
theorem gg_40 : gL.getD 40 0 = 71 := rfl
theorem aw_40 : (wX T hP b a)[71]? = some (a 12 2, .inr (5, [.ref (a 12 3), .ref (a 12 4), .ref (a 12 5), .ref (a 12 6)])) := rfl
theorem ac_40 : ew_cell (arE D T hP b a f l g s nN xs) 40 (M0 40) = .inr (5, [.ref (a 12 3), .ref (a 12 4), .ref (a 12 5), .ref (a 12 6)]) := (ew_sheet _ _ (j := 8) (by decide)).trans rfl
theorem ar_40 : arP D T hP b a f l g s nN xs H 40 := ⟨_, by rw [gg_40, aa_40]; exact aw_40 T hP b a, fun h => by rw [ac_40]; exact h⟩
theorem gg_41 : gL.getD 41 0 = 72 := rfl
theorem aw_41 : (wX T hP b a)[72]? = some (a 12 3, kA T 0 144) := rfl
theorem ac_41 : ew_cell (arE D T hP b a f l g s nN xs) 41 (M0 41) = kA T 0 144 := ((ewA_sheet (j := 8) (r := 1) (by decide) (by decide) (by decide)).2.2 _ _).trans rfl
theorem ar_41 : arP D T hP b a f l g s nN xs H 41 := ⟨_, by rw [gg_41, aa_41]; exact aw_41 T hP b a, fun h => by rw [ac_41]; exact h⟩
theorem gg_42 : gL.getD 42 0 = 73 := rfl
theorem aw_42 : (wX T hP b a)[73]? = some (a 12 4, kA T 0 144) := rfl
theorem ac_42 : ew_cell (arE D T hP b a f l g s nN xs) 42 (M0 42) = kA T 0 144 := ((ewA_sheet (j := 8) (r := 2) (by decide) (by decide) (by decide)).2.2 _ _).trans rfl
theorem ar_42 : arP D T hP b a f l g s nN xs H 42 := ⟨_, by rw [gg_42, aa_42]; exact aw_42 T hP b a, fun h => by rw [ac_42]; exact h⟩
theorem gg_43 : gL.getD 43 0 = 74 := rfl
theorem aw_43 : (wX T hP b a)[74]? = some (a 12 5, kA T 0 144) := rfl
theorem ac_43 : ew_cell (arE D T hP b a f l g s nN xs) 43 (M0 43) = kA T 0 144 := ((ewA_sheet (j := 8) (r := 3) (by decide) (by decide) (by decide)).2.2 _ _).trans rfl
theorem ar_43 : arP D T hP b a f l g s nN xs H 43 := ⟨_, by rw [gg_43, aa_43]; exact aw_43 T hP b a, fun h => by rw [ac_43]; exact h⟩
theorem gg_44 : gL.getD 44 0 = 75 := rfl
theorem aw_44 : (wX T hP b a)[75]? = some (a 12 6, kA T 0 144) := rfl
theorem ac_44 : ew_cell (arE D T hP b a f l g s nN xs) 44 (M0 44) = kA T 0 144 := ((ewA_sheet (j := 8) (r := 4) (by decide) (by decide) (by decide)).2.2 _ _).trans rfl
theorem ar_44 : arP D T hP b a f l g s nN xs H 44 := ⟨_, by rw [gg_44, aa_44]; exact aw_44 T hP b a, fun h => by rw [ac_44]; exact h⟩
theorem gg_45 : gL.getD 45 0 = 79 := rfl
theorem aw_45 : (wX T hP b a)[79]? = some (b 15, .inr (5, [.ref (a 15 0), .ref (a 15 1), .ref (a 15 2), .ref (a 15 3)])) := rfl
theorem ac_45 : ew_cell (arE D T hP b a f l g s nN xs) 45 (M0 45) = .inr (5, [.ref (a 15 0), .ref (a 15 1), .ref (a 15 2), .ref (a 15 3)]) := (ew_sheet _ _ (j := 9) (by decide)).trans rfl
theorem ar_45 : arP D T hP b a f l g s nN xs H 45 := ⟨_, by rw [gg_45, aa_45]; exact aw_45 T hP b a, fun h => by rw [ac_45]; exact h⟩
theorem gg_46 : gL.getD 46 0 = 80 := rfl
theorem aw_46 : (wX T hP b a)[80]? = some (a 15 0, kA T 0 144) := rfl
theorem ac_46 : ew_cell (arE D T hP b a f l g s nN xs) 46 (M0 46) = kA T 0 144 := ((ewA_sheet (j := 9) (r := 1) (by decide) (by decide) (by decide)).2.2 _ _).trans rfl
theorem ar_46 : arP D T hP b a f l g s nN xs H 46 := ⟨_, by rw [gg_46, aa_46]; exact aw_46 T hP b a, fun h => by rw [ac_46]; exact h⟩
theorem gg_47 : gL.getD 47 0 = 81 := rfl
theorem aw_47 : (wX T hP b a)[81]? = some (a 15 1, kA T 0 144) := rfl
theorem ac_47 : ew_cell (arE D T hP b a f l g s nN xs) 47 (M0 47) = kA T 0 144 := ((ewA_sheet (j := 9) (r := 2) (by decide) (by decide) (by decide)).2.2 _ _).trans rfl
theorem ar_47 : arP D T hP b a f l g s nN xs H 47 := ⟨_, by rw [gg_47, aa_47]; exact aw_47 T hP b a, fun h => by rw [ac_47]; exact h⟩
theorem gg_48 : gL.getD 48 0 = 82 := rfl
theorem aw_48 : (wX T hP b a)[82]? = some (a 15 2, kA T 0 144) := rfl
theorem ac_48 : ew_cell (arE D T hP b a f l g s nN xs) 48 (M0 48) = kA T 0 144 := ((ewA_sheet (j := 9) (r := 3) (by decide) (by decide) (by decide)).2.2 _ _).trans rfl
theorem ar_48 : arP D T hP b a f l g s nN xs H 48 := ⟨_, by rw [gg_48, aa_48]; exact aw_48 T hP b a, fun h => by rw [ac_48]; exact h⟩
theorem gg_49 : gL.getD 49 0 = 83 := rfl
theorem aw_49 : (wX T hP b a)[83]? = some (a 15 3, kA T 0 144) := rfl
theorem ac_49 : ew_cell (arE D T hP b a f l g s nN xs) 49 (M0 49) = kA T 0 144 := ((ewA_sheet (j := 9) (r := 4) (by decide) (by decide) (by decide)).2.2 _ _).trans rfl
theorem ar_49 : arP D T hP b a f l g s nN xs H 49 := ⟨_, by rw [gg_49, aa_49]; exact aw_49 T hP b a, fun h => by rw [ac_49]; exact h⟩
theorem gg_50 : gL.getD 50 0 = 1 := rfl
theorem aw_50 : (wX T hP b a)[1]? = some (b 1, .inr (6, [.ref (a 1 0), .ref (a 1 1), .ref (a 1 2), vI 0, vI 0, vI 0, vI 0, vI 0, vI 1, vI 0, vI 0, vI 0, vI 0, vI 0, vI 0])) := rfl
theorem ac_50 : ew_cell (arE D T hP b a f l g s nN xs) 50 (M0 50) = .inr (6, [.ref (a 1 0), .ref (a 1 1), .ref (a 1 2), vI 0, vI 0, vI 0, vI 0, vI 0, vI 1, vI 0, vI 0, vI 0, vI 0, vI 0, vI 0]) := (ew_state _ _ (j := 0) (by decide)).trans rfl
theorem ar_50 : arP D T hP b a f l g s nN xs H 50 := ⟨_, by rw [gg_50, aa_50]; exact aw_50 T hP b a, fun h => by rw [ac_50]; exact h⟩
theorem gg_51 : gL.getD 51 0 = 2 := rfl
theorem aw_51 : (wX T hP b a)[2]? = some (a 1 0, kA T 0 75) := rfl
theorem ac_51 : ew_cell (arE D T hP b a f l g s nN xs) 51 (M0 51) = kA T 0 75 := ((ewA_points (j := 0) (by decide)).2.2 _ _).trans rfl
theorem ar_51 : arP D T hP b a f l g s nN xs H 51 := ⟨_, by rw [gg_51, aa_51]; exact aw_51 T hP b a, fun h => by rw [ac_51]; exact h⟩
theorem gg_52 : gL.getD 52 0 = 3 := rfl
theorem aw_52 : (wX T hP b a)[3]? = some (a 1 1, .inl (T 0, 4, .inl (fun k => Int32.ofInt (g_first k)))) := rfl
theorem ac_52 : ew_cell (arE D T hP b a f l g s nN xs) 52 (M0 52) = .inl (T 0, 4, .inl (fun k => Int32.ofInt (g_first k))) := ((ewA_settings (j := 0) (by decide)).2.2 _ _).trans rfl
theorem ar_52 : arP D T hP b a f l g s nN xs H 52 := ⟨_, by rw [gg_52, aa_52]; exact aw_52 T hP b a, fun h => by rw [ac_52]; exact h⟩
theorem gg_53 : gL.getD 53 0 = 10 := rfl
theorem aw_53 : (wX T hP b a)[10]? = some (b 3, .inr (6, [.ref (a 3 0), .ref (a 3 1), .ref (a 3 2), vI 0, vI 0, vI 0, vI 0, vI 0, vI 1, vI 0, vI 0, vI 0, vI 0, vI 0, vI 0])) := rfl
theorem ac_53 : ew_cell (arE D T hP b a f l g s nN xs) 53 (M0 53) = .inr (6, [.ref (a 3 0), .ref (a 3 1), .ref (a 3 2), vI 0, vI 0, vI 0, vI 0, vI 0, vI 1, vI 0, vI 0, vI 0, vI 0, vI 0, vI 0]) := (ew_state _ _ (j := 1) (by decide)).trans rfl
theorem ar_53 : arP D T hP b a f l g s nN xs H 53 := ⟨_, by rw [gg_53, aa_53]; exact aw_53 T hP b a, fun h => by rw [ac_53]; exact h⟩
theorem gg_54 : gL.getD 54 0 = 11 := rfl
theorem aw_54 : (wX T hP b a)[11]? = some (a 3 0, kA T 0 75) := rfl
theorem ac_54 : ew_cell (arE D T hP b a f l g s nN xs) 54 (M0 54) = kA T 0 75 := ((ewA_points (j := 1) (by decide)).2.2 _ _).trans rfl
theorem ar_54 : arP D T hP b a f l g s nN xs H 54 := ⟨_, by rw [gg_54, aa_54]; exact aw_54 T hP b a, fun h => by rw [ac_54]; exact h⟩
theorem gg_55 : gL.getD 55 0 = 12 := rfl
theorem aw_55 : (wX T hP b a)[12]? = some (a 3 1, .inl (T 0, 4, .inl (fun k => Int32.ofInt (g_first k)))) := rfl
theorem ac_55 : ew_cell (arE D T hP b a f l g s nN xs) 55 (M0 55) = .inl (T 0, 4, .inl (fun k => Int32.ofInt (g_first k))) := ((ewA_settings (j := 1) (by decide)).2.2 _ _).trans rfl
theorem ar_55 : arP D T hP b a f l g s nN xs H 55 := ⟨_, by rw [gg_55, aa_55]; exact aw_55 T hP b a, fun h => by rw [ac_55]; exact h⟩
theorem gg_56 : gL.getD 56 0 = 18 := rfl
theorem aw_56 : (wX T hP b a)[18]? = some (b 4, .inr (6, [.ref (a 4 0), .ref (a 4 1), .ref (a 4 2), vI 0, vI 0, vI 0, vI 0, vI 0, vI 1, vI 0, vI 0, vI 0, vI 0, vI 0, vI 0])) := rfl
theorem ac_56 : ew_cell (arE D T hP b a f l g s nN xs) 56 (M0 56) = .inr (6, [.ref (a 4 0), .ref (a 4 1), .ref (a 4 2), vI 0, vI 0, vI 0, vI 0, vI 0, vI 1, vI 0, vI 0, vI 0, vI 0, vI 0, vI 0]) := (ew_state _ _ (j := 2) (by decide)).trans rfl
theorem ar_56 : arP D T hP b a f l g s nN xs H 56 := ⟨_, by rw [gg_56, aa_56]; exact aw_56 T hP b a, fun h => by rw [ac_56]; exact h⟩
theorem gg_57 : gL.getD 57 0 = 19 := rfl
theorem aw_57 : (wX T hP b a)[19]? = some (a 4 0, kA T 0 75) := rfl
theorem ac_57 : ew_cell (arE D T hP b a f l g s nN xs) 57 (M0 57) = kA T 0 75 := ((ewA_points (j := 2) (by decide)).2.2 _ _).trans rfl
theorem ar_57 : arP D T hP b a f l g s nN xs H 57 := ⟨_, by rw [gg_57, aa_57]; exact aw_57 T hP b a, fun h => by rw [ac_57]; exact h⟩
theorem gg_58 : gL.getD 58 0 = 20 := rfl
theorem aw_58 : (wX T hP b a)[20]? = some (a 4 1, .inl (T 0, 4, .inl (fun k => Int32.ofInt (g_first k)))) := rfl
theorem ac_58 : ew_cell (arE D T hP b a f l g s nN xs) 58 (M0 58) = .inl (T 0, 4, .inl (fun k => Int32.ofInt (g_first k))) := ((ewA_settings (j := 2) (by decide)).2.2 _ _).trans rfl
theorem ar_58 : arP D T hP b a f l g s nN xs H 58 := ⟨_, by rw [gg_58, aa_58]; exact aw_58 T hP b a, fun h => by rw [ac_58]; exact h⟩
theorem gg_59 : gL.getD 59 0 = 28 := rfl
theorem aw_59 : (wX T hP b a)[28]? = some (b 7, .inr (6, [.ref (a 7 0), .ref (a 7 1), .ref (a 7 2), vI 0, vI 0, vI 0, vI 0, vI 0, vI 1, vI 0, vI 0, vI 0, vI 0, vI 0, vI 0])) := rfl
theorem ac_59 : ew_cell (arE D T hP b a f l g s nN xs) 59 (M0 59) = .inr (6, [.ref (a 7 0), .ref (a 7 1), .ref (a 7 2), vI 0, vI 0, vI 0, vI 0, vI 0, vI 1, vI 0, vI 0, vI 0, vI 0, vI 0, vI 0]) := (ew_state _ _ (j := 3) (by decide)).trans rfl
theorem ar_59 : arP D T hP b a f l g s nN xs H 59 := ⟨_, by rw [gg_59, aa_59]; exact aw_59 T hP b a, fun h => by rw [ac_59]; exact h⟩
theorem gg_60 : gL.getD 60 0 = 29 := rfl
theorem aw_60 : (wX T hP b a)[29]? = some (a 7 0, kA T 0 75) := rfl
theorem ac_60 : ew_cell (arE D T hP b a f l g s nN xs) 60 (M0 60) = kA T 0 75 := ((ewA_points (j := 3) (by decide)).2.2 _ _).trans rfl
theorem ar_60 : arP D T hP b a f l g s nN xs H 60 := ⟨_, by rw [gg_60, aa_60]; exact aw_60 T hP b a, fun h => by rw [ac_60]; exact h⟩
theorem gg_61 : gL.getD 61 0 = 30 := rfl
theorem aw_61 : (wX T hP b a)[30]? = some (a 7 1, .inl (T 0, 4, .inl (fun k => Int32.ofInt (g_first k)))) := rfl
theorem ac_61 : ew_cell (arE D T hP b a f l g s nN xs) 61 (M0 61) = .inl (T 0, 4, .inl (fun k => Int32.ofInt (g_first k))) := ((ewA_settings (j := 3) (by decide)).2.2 _ _).trans rfl
theorem ar_61 : arP D T hP b a f l g s nN xs H 61 := ⟨_, by rw [gg_61, aa_61]; exact aw_61 T hP b a, fun h => by rw [ac_61]; exact h⟩
theorem gg_62 : gL.getD 62 0 = 36 := rfl
theorem aw_62 : (wX T hP b a)[36]? = some (b 8, .inr (6, [.ref (a 8 0), .ref (a 8 1), .ref (a 8 2), vI 0, vI 0, vI 0, vI 0, vI 0, vI 1, vI 0, vI 0, vI 0, vI 0, vI 0, vI 0])) := rfl
theorem ac_62 : ew_cell (arE D T hP b a f l g s nN xs) 62 (M0 62) = .inr (6, [.ref (a 8 0), .ref (a 8 1), .ref (a 8 2), vI 0, vI 0, vI 0, vI 0, vI 0, vI 1, vI 0, vI 0, vI 0, vI 0, vI 0, vI 0]) := (ew_state _ _ (j := 4) (by decide)).trans rfl
theorem ar_62 : arP D T hP b a f l g s nN xs H 62 := ⟨_, by rw [gg_62, aa_62]; exact aw_62 T hP b a, fun h => by rw [ac_62]; exact h⟩
theorem gg_63 : gL.getD 63 0 = 37 := rfl
theorem aw_63 : (wX T hP b a)[37]? = some (a 8 0, kA T 0 75) := rfl
theorem ac_63 : ew_cell (arE D T hP b a f l g s nN xs) 63 (M0 63) = kA T 0 75 := ((ewA_points (j := 4) (by decide)).2.2 _ _).trans rfl
theorem ar_63 : arP D T hP b a f l g s nN xs H 63 := ⟨_, by rw [gg_63, aa_63]; exact aw_63 T hP b a, fun h => by rw [ac_63]; exact h⟩
theorem gg_64 : gL.getD 64 0 = 38 := rfl
theorem aw_64 : (wX T hP b a)[38]? = some (a 8 1, .inl (T 0, 4, .inl (fun k => Int32.ofInt (g_first k)))) := rfl
theorem ac_64 : ew_cell (arE D T hP b a f l g s nN xs) 64 (M0 64) = .inl (T 0, 4, .inl (fun k => Int32.ofInt (g_first k))) := ((ewA_settings (j := 4) (by decide)).2.2 _ _).trans rfl
theorem ar_64 : arP D T hP b a f l g s nN xs H 64 := ⟨_, by rw [gg_64, aa_64]; exact aw_64 T hP b a, fun h => by rw [ac_64]; exact h⟩
theorem gg_65 : gL.getD 65 0 = 44 := rfl
theorem aw_65 : (wX T hP b a)[44]? = some (b 9, .inr (6, [.ref (a 9 0), .ref (a 9 1), .ref (a 9 2), vI 0, vI 0, vI 0, vI 0, vI 0, vI 1, vI 0, vI 0, vI 0, vI 0, vI 0, vI 0])) := rfl
theorem ac_65 : ew_cell (arE D T hP b a f l g s nN xs) 65 (M0 65) = .inr (6, [.ref (a 9 0), .ref (a 9 1), .ref (a 9 2), vI 0, vI 0, vI 0, vI 0, vI 0, vI 1, vI 0, vI 0, vI 0, vI 0, vI 0, vI 0]) := (ew_state _ _ (j := 5) (by decide)).trans rfl
theorem ar_65 : arP D T hP b a f l g s nN xs H 65 := ⟨_, by rw [gg_65, aa_65]; exact aw_65 T hP b a, fun h => by rw [ac_65]; exact h⟩
theorem gg_66 : gL.getD 66 0 = 45 := rfl
theorem aw_66 : (wX T hP b a)[45]? = some (a 9 0, kA T 0 75) := rfl
theorem ac_66 : ew_cell (arE D T hP b a f l g s nN xs) 66 (M0 66) = kA T 0 75 := ((ewA_points (j := 5) (by decide)).2.2 _ _).trans rfl
theorem ar_66 : arP D T hP b a f l g s nN xs H 66 := ⟨_, by rw [gg_66, aa_66]; exact aw_66 T hP b a, fun h => by rw [ac_66]; exact h⟩
theorem gg_67 : gL.getD 67 0 = 46 := rfl
theorem aw_67 : (wX T hP b a)[46]? = some (a 9 1, .inl (T 0, 4, .inl (fun k => Int32.ofInt (g_first k)))) := rfl
theorem ac_67 : ew_cell (arE D T hP b a f l g s nN xs) 67 (M0 67) = .inl (T 0, 4, .inl (fun k => Int32.ofInt (g_first k))) := ((ewA_settings (j := 5) (by decide)).2.2 _ _).trans rfl
theorem ar_67 : arP D T hP b a f l g s nN xs H 67 := ⟨_, by rw [gg_67, aa_67]; exact aw_67 T hP b a, fun h => by rw [ac_67]; exact h⟩
theorem gg_68 : gL.getD 68 0 = 52 := rfl
theorem aw_68 : (wX T hP b a)[52]? = some (b 10, .inr (6, [.ref (a 10 0), .ref (a 10 1), .ref (a 10 2), vI 0, vI 0, vI 0, vI 0, vI 0, vI 1, vI 0, vI 0, vI 0, vI 0, vI 0, vI 0])) := rfl
theorem ac_68 : ew_cell (arE D T hP b a f l g s nN xs) 68 (M0 68) = .inr (6, [.ref (a 10 0), .ref (a 10 1), .ref (a 10 2), vI 0, vI 0, vI 0, vI 0, vI 0, vI 1, vI 0, vI 0, vI 0, vI 0, vI 0, vI 0]) := (ew_state _ _ (j := 6) (by decide)).trans rfl
theorem ar_68 : arP D T hP b a f l g s nN xs H 68 := ⟨_, by rw [gg_68, aa_68]; exact aw_68 T hP b a, fun h => by rw [ac_68]; exact h⟩
theorem gg_69 : gL.getD 69 0 = 53 := rfl
theorem aw_69 : (wX T hP b a)[53]? = some (a 10 0, kA T 0 75) := rfl
theorem ac_69 : ew_cell (arE D T hP b a f l g s nN xs) 69 (M0 69) = kA T 0 75 := ((ewA_points (j := 6) (by decide)).2.2 _ _).trans rfl
theorem ar_69 : arP D T hP b a f l g s nN xs H 69 := ⟨_, by rw [gg_69, aa_69]; exact aw_69 T hP b a, fun h => by rw [ac_69]; exact h⟩
theorem gg_70 : gL.getD 70 0 = 54 := rfl
theorem aw_70 : (wX T hP b a)[54]? = some (a 10 1, .inl (T 0, 4, .inl (fun k => Int32.ofInt (g_first k)))) := rfl
theorem ac_70 : ew_cell (arE D T hP b a f l g s nN xs) 70 (M0 70) = .inl (T 0, 4, .inl (fun k => Int32.ofInt (g_first k))) := ((ewA_settings (j := 6) (by decide)).2.2 _ _).trans rfl
theorem ar_70 : arP D T hP b a f l g s nN xs H 70 := ⟨_, by rw [gg_70, aa_70]; exact aw_70 T hP b a, fun h => by rw [ac_70]; exact h⟩
theorem gg_71 : gL.getD 71 0 = 60 := rfl
theorem aw_71 : (wX T hP b a)[60]? = some (b 11, .inr (6, [.ref (a 11 0), .ref (a 11 1), .ref (a 11 2), vI 0, vI 0, vI 0, vI 0, vI 0, vI 1, vI 0, vI 0, vI 0, vI 0, vI 0, vI 0])) := rfl
theorem ac_71 : ew_cell (arE D T hP b a f l g s nN xs) 71 (M0 71) = .inr (6, [.ref (a 11 0), .ref (a 11 1), .ref (a 11 2), vI 0, vI 0, vI 0, vI 0, vI 0, vI 1, vI 0, vI 0, vI 0, vI 0, vI 0, vI 0]) := (ew_state _ _ (j := 7) (by decide)).trans rfl
theorem ar_71 : arP D T hP b a f l g s nN xs H 71 := ⟨_, by rw [gg_71, aa_71]; exact aw_71 T hP b a, fun h => by rw [ac_71]; exact h⟩
theorem gg_72 : gL.getD 72 0 = 61 := rfl
theorem aw_72 : (wX T hP b a)[61]? = some (a 11 0, kA T 0 75) := rfl
theorem ac_72 : ew_cell (arE D T hP b a f l g s nN xs) 72 (M0 72) = kA T 0 75 := ((ewA_points (j := 7) (by decide)).2.2 _ _).trans rfl
theorem ar_72 : arP D T hP b a f l g s nN xs H 72 := ⟨_, by rw [gg_72, aa_72]; exact aw_72 T hP b a, fun h => by rw [ac_72]; exact h⟩
theorem gg_73 : gL.getD 73 0 = 62 := rfl
theorem aw_73 : (wX T hP b a)[62]? = some (a 11 1, .inl (T 0, 4, .inl (fun k => Int32.ofInt (g_first k)))) := rfl
theorem ac_73 : ew_cell (arE D T hP b a f l g s nN xs) 73 (M0 73) = .inl (T 0, 4, .inl (fun k => Int32.ofInt (g_first k))) := ((ewA_settings (j := 7) (by decide)).2.2 _ _).trans rfl
theorem ar_73 : arP D T hP b a f l g s nN xs H 73 := ⟨_, by rw [gg_73, aa_73]; exact aw_73 T hP b a, fun h => by rw [ac_73]; exact h⟩
theorem gg_74 : gL.getD 74 0 = 68 := rfl
theorem aw_74 : (wX T hP b a)[68]? = some (b 12, .inr (6, [.ref (a 12 0), .ref (a 12 1), .ref (a 12 2), vI 0, vI 0, vI 0, vI 0, vI 0, vI 1, vI 0, vI 0, vI 0, vI 0, vI 0, vI 0])) := rfl
theorem ac_74 : ew_cell (arE D T hP b a f l g s nN xs) 74 (M0 74) = .inr (6, [.ref (a 12 0), .ref (a 12 1), .ref (a 12 2), vI 0, vI 0, vI 0, vI 0, vI 0, vI 1, vI 0, vI 0, vI 0, vI 0, vI 0, vI 0]) := (ew_state _ _ (j := 8) (by decide)).trans rfl
theorem ar_74 : arP D T hP b a f l g s nN xs H 74 := ⟨_, by rw [gg_74, aa_74]; exact aw_74 T hP b a, fun h => by rw [ac_74]; exact h⟩
theorem gg_75 : gL.getD 75 0 = 69 := rfl
theorem aw_75 : (wX T hP b a)[69]? = some (a 12 0, kA T 0 75) := rfl
theorem ac_75 : ew_cell (arE D T hP b a f l g s nN xs) 75 (M0 75) = kA T 0 75 := ((ewA_points (j := 8) (by decide)).2.2 _ _).trans rfl
theorem ar_75 : arP D T hP b a f l g s nN xs H 75 := ⟨_, by rw [gg_75, aa_75]; exact aw_75 T hP b a, fun h => by rw [ac_75]; exact h⟩
theorem gg_76 : gL.getD 76 0 = 70 := rfl
theorem aw_76 : (wX T hP b a)[70]? = some (a 12 1, .inl (T 0, 4, .inl (fun k => Int32.ofInt (g_first k)))) := rfl
theorem ac_76 : ew_cell (arE D T hP b a f l g s nN xs) 76 (M0 76) = .inl (T 0, 4, .inl (fun k => Int32.ofInt (g_first k))) := ((ewA_settings (j := 8) (by decide)).2.2 _ _).trans rfl
theorem ar_76 : arP D T hP b a f l g s nN xs H 76 := ⟨_, by rw [gg_76, aa_76]; exact aw_76 T hP b a, fun h => by rw [ac_76]; exact h⟩
theorem gg_77 : gL.getD 77 0 = 0 := rfl
theorem aw_77 : (wX T hP b a)[0]? = some (hP, .inr (7, [.ref (b 1), .ref (b 2), .ref (b 5), .ref (b 6), vI 0, vI 0, .ref (b 13), .ref (b 14), .ref (b 15), .ref (b 16)])) := rfl
theorem ac_77 : ew_cell (arE D T hP b a f l g s nN xs) 77 (M0 77) = .inr (7, [.ref (b 1), .ref (b 2), .ref (b 5), .ref (b 6), vI 0, vI 0, .ref (b 13), .ref (b 14), .ref (b 15), .ref (b 16)]) := rfl
theorem ar_77 : arP D T hP b a f l g s nN xs H 77 := ⟨_, by rw [gg_77, aa_77]; exact aw_77 T hP b a, fun h => by rw [ac_77]; exact h⟩
theorem gg_78 : gL.getD 78 0 = 9 := rfl
theorem aw_78 : (wX T hP b a)[9]? = some (b 2, .inl (T 3, 2, .inr (.inr (.inr (.inr (va_up (va_up (fun _ => none) 0 (some (b 3))) 1 (some (b 4)))))))) := rfl
theorem ac_78 : ew_cell (arE D T hP b a f l g s nN xs) 78 (M0 78) = .inl (T 3, 2, .inr (.inr (.inr (.inr (fun k : Nat => some ((arE D T hP b a f l g s nN xs).1 (53 + 3 * k))))))) := rfl
theorem ae_78 : arrV (T 3) 2 (fun j => va_rf ((va_up (va_up (fun _ => none) 0 (some (b 3))) 1 (some (b 4))) j)) = arrV (T 3) 2 (fun j => va_rf ((fun k : Nat => some ((arE D T hP b a f l g s nN xs).1 (53 + 3 * k))) j)) := arrV_cg fun j hj => by
  rcases (show j = 0 ∨ j = 1 by omega) with rfl | rfl <;> rfl
theorem ar_78 : arP D T hP b a f l g s nN xs H 78 := ⟨.inl (T 3, 2, .inr (.inr (.inr (.inr (va_up (va_up (fun _ => none) 0 (some (b 3))) 1 (some (b 4))))))), by rw [gg_78, aa_78]; exact aw_78 T hP b a, fun h => by rw [ac_78]; exact Eq.trans h (congrArg some (ae_78 D T hP b a f l g s nN xs))⟩
theorem gg_79 : gL.getD 79 0 = 26 := rfl
theorem aw_79 : (wX T hP b a)[26]? = some (b 5, kA T 1 2) := rfl
theorem ac_79 : ew_cell (arE D T hP b a f l g s nN xs) 79 (M0 79) = kA T 1 2 := rfl
theorem ar_79 : arP D T hP b a f l g s nN xs H 79 := ⟨_, by rw [gg_79, aa_79]; exact aw_79 T hP b a, fun h => by rw [ac_79]; exact h⟩
theorem gg_80 : gL.getD 80 0 = 27 := rfl
theorem aw_80 : (wX T hP b a)[27]? = some (b 6, .inl (T 3, 6, .inr (.inr (.inr (.inr (va_up (va_up (va_up (va_up (va_up (va_up (fun _ => none) 0 (some (b 7))) 1 (some (b 8))) 2 (some (b 9))) 3 (some (b 10))) 4 (some (b 11))) 5 (some (b 12)))))))) := rfl
theorem ac_80 : ew_cell (arE D T hP b a f l g s nN xs) 80 (M0 80) = .inl (T 3, 6, .inr (.inr (.inr (.inr (fun k : Nat => some ((arE D T hP b a f l g s nN xs).1 (59 + 3 * k))))))) := rfl
theorem ae_80 : arrV (T 3) 6 (fun j => va_rf ((va_up (va_up (va_up (va_up (va_up (va_up (fun _ => none) 0 (some (b 7))) 1 (some (b 8))) 2 (some (b 9))) 3 (some (b 10))) 4 (some (b 11))) 5 (some (b 12))) j)) = arrV (T 3) 6 (fun j => va_rf ((fun k : Nat => some ((arE D T hP b a f l g s nN xs).1 (59 + 3 * k))) j)) := arrV_cg fun j hj => by
  rcases (show j = 0 ∨ j = 1 ∨ j = 2 ∨ j = 3 ∨ j = 4 ∨ j = 5 by omega) with rfl | rfl | rfl | rfl | rfl | rfl <;> rfl
theorem ar_80 : arP D T hP b a f l g s nN xs H 80 := ⟨.inl (T 3, 6, .inr (.inr (.inr (.inr (va_up (va_up (va_up (va_up (va_up (va_up (fun _ => none) 0 (some (b 7))) 1 (some (b 8))) 2 (some (b 9))) 3 (some (b 10))) 4 (some (b 11))) 5 (some (b 12))))))), by rw [gg_80, aa_80]; exact aw_80 T hP b a, fun h => by rw [ac_80]; exact Eq.trans h (congrArg some (ae_80 D T hP b a f l g s nN xs))⟩
theorem gg_81 : gL.getD 81 0 = 76 := rfl
theorem aw_81 : (wX T hP b a)[76]? = some (b 13, .inr (4, [.ref (a 13 0), vI 0])) := rfl
theorem ac_81 : ew_cell (arE D T hP b a f l g s nN xs) 81 (M0 81) = .inr (4, [.ref (a 13 0), vI 0]) := rfl
theorem ar_81 : arP D T hP b a f l g s nN xs H 81 := ⟨_, by rw [gg_81, aa_81]; exact aw_81 T hP b a, fun h => by rw [ac_81]; exact h⟩
theorem gg_82 : gL.getD 82 0 = 77 := rfl
theorem aw_82 : (wX T hP b a)[77]? = some (a 13 0, kA T 0 40) := rfl
theorem ac_82 : ew_cell (arE D T hP b a f l g s nN xs) 82 (M0 82) = kA T 0 40 := rfl
theorem ar_82 : arP D T hP b a f l g s nN xs H 82 := ⟨_, by rw [gg_82, aa_82]; exact aw_82 T hP b a, fun h => by rw [ac_82]; exact h⟩
theorem gg_83 : gL.getD 83 0 = 78 := rfl
theorem aw_83 : (wX T hP b a)[78]? = some (b 14, kA T 0 25) := rfl
theorem ac_83 : ew_cell (arE D T hP b a f l g s nN xs) 83 (M0 83) = kA T 0 25 := rfl
theorem ar_83 : arP D T hP b a f l g s nN xs H 83 := ⟨_, by rw [gg_83, aa_83]; exact aw_83 T hP b a, fun h => by rw [ac_83]; exact h⟩
theorem gg_84 : gL.getD 84 0 = 84 := rfl
theorem aw_84 : (wX T hP b a)[84]? = some (b 16, .inr (3, [.ref (a 16 0), .ref (a 16 1), .ref (a 16 2), vI 0])) := rfl
theorem ac_84 : ew_cell (arE D T hP b a f l g s nN xs) 84 (M0 84) = .inr (3, [.ref (a 16 0), .ref (a 16 1), .ref (a 16 2), vI 0]) := rfl
theorem ar_84 : arP D T hP b a f l g s nN xs H 84 := ⟨_, by rw [gg_84, aa_84]; exact aw_84 T hP b a, fun h => by rw [ac_84]; exact h⟩
theorem gg_85 : gL.getD 85 0 = 85 := rfl
theorem aw_85 : (wX T hP b a)[85]? = some (a 16 0, kA T 0 144) := rfl
theorem ac_85 : ew_cell (arE D T hP b a f l g s nN xs) 85 (M0 85) = kA T 0 144 := rfl
theorem ar_85 : arP D T hP b a f l g s nN xs H 85 := ⟨_, by rw [gg_85, aa_85]; exact aw_85 T hP b a, fun h => by rw [ac_85]; exact h⟩
theorem gg_86 : gL.getD 86 0 = 86 := rfl
theorem aw_86 : (wX T hP b a)[86]? = some (a 16 1, kA T 0 144) := rfl
theorem ac_86 : ew_cell (arE D T hP b a f l g s nN xs) 86 (M0 86) = kA T 0 144 := rfl
theorem ar_86 : arP D T hP b a f l g s nN xs H 86 := ⟨_, by rw [gg_86, aa_86]; exact aw_86 T hP b a, fun h => by rw [ac_86]; exact h⟩
theorem gg_87 : gL.getD 87 0 = 87 := rfl
theorem aw_87 : (wX T hP b a)[87]? = some (a 16 2, kA T 0 144) := rfl
theorem ac_87 : ew_cell (arE D T hP b a f l g s nN xs) 87 (M0 87) = kA T 0 144 := rfl
theorem ar_87 : arP D T hP b a f l g s nN xs H 87 := ⟨_, by rw [gg_87, aa_87]; exact aw_87 T hP b a, fun h => by rw [ac_87]; exact h⟩
theorem ar_all : ∀ i ∈ [0, 1, 2, 3, 4, 5, 6, 7, 8, 9, 10, 11, 12, 13, 14, 15, 16, 17, 18, 19, 20, 21, 22, 23, 24, 25, 26, 27, 28, 29, 30, 31, 32, 33, 34, 35, 36, 37, 38, 39, 40, 41, 42, 43, 44, 45, 46, 47, 48, 49, 50, 51, 52, 53, 54, 55, 56, 57, 58, 59, 60, 61, 62, 63, 64, 65, 66, 67, 68, 69, 70, 71, 72, 73, 74, 75, 76, 77, 78, 79, 80, 81, 82, 83, 84, 85, 86, 87], arP D T hP b a f l g s nN xs H i := List.forall_mem_cons.mpr ⟨ar_0 D T hP b a f l g s nN xs H, List.forall_mem_cons.mpr ⟨ar_1 D T hP b a f l g s nN xs H, List.forall_mem_cons.mpr ⟨ar_2 D T hP b a f l g s nN xs H, List.forall_mem_cons.mpr ⟨ar_3 D T hP b a f l g s nN xs H, List.forall_mem_cons.mpr ⟨ar_4 D T hP b a f l g s nN xs H, List.forall_mem_cons.mpr ⟨ar_5 D T hP b a f l g s nN xs H, List.forall_mem_cons.mpr ⟨ar_6 D T hP b a f l g s nN xs H, List.forall_mem_cons.mpr ⟨ar_7 D T hP b a f l g s nN xs H, List.forall_mem_cons.mpr ⟨ar_8 D T hP b a f l g s nN xs H, List.forall_mem_cons.mpr ⟨ar_9 D T hP b a f l g s nN xs H, List.forall_mem_cons.mpr ⟨ar_10 D T hP b a f l g s nN xs H, List.forall_mem_cons.mpr ⟨ar_11 D T hP b a f l g s nN xs H, List.forall_mem_cons.mpr ⟨ar_12 D T hP b a f l g s nN xs H, List.forall_mem_cons.mpr ⟨ar_13 D T hP b a f l g s nN xs H, List.forall_mem_cons.mpr ⟨ar_14 D T hP b a f l g s nN xs H, List.forall_mem_cons.mpr ⟨ar_15 D T hP b a f l g s nN xs H, List.forall_mem_cons.mpr ⟨ar_16 D T hP b a f l g s nN xs H, List.forall_mem_cons.mpr ⟨ar_17 D T hP b a f l g s nN xs H, List.forall_mem_cons.mpr ⟨ar_18 D T hP b a f l g s nN xs H, List.forall_mem_cons.mpr ⟨ar_19 D T hP b a f l g s nN xs H, List.forall_mem_cons.mpr ⟨ar_20 D T hP b a f l g s nN xs H, List.forall_mem_cons.mpr ⟨ar_21 D T hP b a f l g s nN xs H, List.forall_mem_cons.mpr ⟨ar_22 D T hP b a f l g s nN xs H, List.forall_mem_cons.mpr ⟨ar_23 D T hP b a f l g s nN xs H, List.forall_mem_cons.mpr ⟨ar_24 D T hP b a f l g s nN xs H, List.forall_mem_cons.mpr ⟨ar_25 D T hP b a f l g s nN xs H, List.forall_mem_cons.mpr ⟨ar_26 D T hP b a f l g s nN xs H, List.forall_mem_cons.mpr ⟨ar_27 D T hP b a f l g s nN xs H, List.forall_mem_cons.mpr ⟨ar_28 D T hP b a f l g s nN xs H, List.forall_mem_cons.mpr ⟨ar_29 D T hP b a f l g s nN xs H, List.forall_mem_cons.mpr ⟨ar_30 D T hP b a f l g s nN xs H, List.forall_mem_cons.mpr ⟨ar_31 D T hP b a f l g s nN xs H, List.forall_mem_cons.mpr ⟨ar_32 D T hP b a f l g s nN xs H, List.forall_mem_cons.mpr ⟨ar_33 D T hP b a f l g s nN xs H, List.forall_mem_cons.mpr ⟨ar_34 D T hP b a f l g s nN xs H, List.forall_mem_cons.mpr ⟨ar_35 D T hP b a f l g s nN xs H, List.forall_mem_cons.mpr ⟨ar_36 D T hP b a f l g s nN xs H, List.forall_mem_cons.mpr ⟨ar_37 D T hP b a f l g s nN xs H, List.forall_mem_cons.mpr ⟨ar_38 D T hP b a f l g s nN xs H, List.forall_mem_cons.mpr ⟨ar_39 D T hP b a f l g s nN xs H, List.forall_mem_cons.mpr ⟨ar_40 D T hP b a f l g s nN xs H, List.forall_mem_cons.mpr ⟨ar_41 D T hP b a f l g s nN xs H, List.forall_mem_cons.mpr ⟨ar_42 D T hP b a f l g s nN xs H, List.forall_mem_cons.mpr ⟨ar_43 D T hP b a f l g s nN xs H, List.forall_mem_cons.mpr ⟨ar_44 D T hP b a f l g s nN xs H, List.forall_mem_cons.mpr ⟨ar_45 D T hP b a f l g s nN xs H, List.forall_mem_cons.mpr ⟨ar_46 D T hP b a f l g s nN xs H, List.forall_mem_cons.mpr ⟨ar_47 D T hP b a f l g s nN xs H, List.forall_mem_cons.mpr ⟨ar_48 D T hP b a f l g s nN xs H, List.forall_mem_cons.mpr ⟨ar_49 D T hP b a f l g s nN xs H, List.forall_mem_cons.mpr ⟨ar_50 D T hP b a f l g s nN xs H, List.forall_mem_cons.mpr ⟨ar_51 D T hP b a f l g s nN xs H, List.forall_mem_cons.mpr ⟨ar_52 D T hP b a f l g s nN xs H, List.forall_mem_cons.mpr ⟨ar_53 D T hP b a f l g s nN xs H, List.forall_mem_cons.mpr ⟨ar_54 D T hP b a f l g s nN xs H, List.forall_mem_cons.mpr ⟨ar_55 D T hP b a f l g s nN xs H, List.forall_mem_cons.mpr ⟨ar_56 D T hP b a f l g s nN xs H, List.forall_mem_cons.mpr ⟨ar_57 D T hP b a f l g s nN xs H, List.forall_mem_cons.mpr ⟨ar_58 D T hP b a f l g s nN xs H, List.forall_mem_cons.mpr ⟨ar_59 D T hP b a f l g s nN xs H, List.forall_mem_cons.mpr ⟨ar_60 D T hP b a f l g s nN xs H, List.forall_mem_cons.mpr ⟨ar_61 D T hP b a f l g s nN xs H, List.forall_mem_cons.mpr ⟨ar_62 D T hP b a f l g s nN xs H, List.forall_mem_cons.mpr ⟨ar_63 D T hP b a f l g s nN xs H, List.forall_mem_cons.mpr ⟨ar_64 D T hP b a f l g s nN xs H, List.forall_mem_cons.mpr ⟨ar_65 D T hP b a f l g s nN xs H, List.forall_mem_cons.mpr ⟨ar_66 D T hP b a f l g s nN xs H, List.forall_mem_cons.mpr ⟨ar_67 D T hP b a f l g s nN xs H, List.forall_mem_cons.mpr ⟨ar_68 D T hP b a f l g s nN xs H, List.forall_mem_cons.mpr ⟨ar_69 D T hP b a f l g s nN xs H, List.forall_mem_cons.mpr ⟨ar_70 D T hP b a f l g s nN xs H, List.forall_mem_cons.mpr ⟨ar_71 D T hP b a f l g s nN xs H, List.forall_mem_cons.mpr ⟨ar_72 D T hP b a f l g s nN xs H, List.forall_mem_cons.mpr ⟨ar_73 D T hP b a f l g s nN xs H, List.forall_mem_cons.mpr ⟨ar_74 D T hP b a f l g s nN xs H, List.forall_mem_cons.mpr ⟨ar_75 D T hP b a f l g s nN xs H, List.forall_mem_cons.mpr ⟨ar_76 D T hP b a f l g s nN xs H, List.forall_mem_cons.mpr ⟨ar_77 D T hP b a f l g s nN xs H, List.forall_mem_cons.mpr ⟨ar_78 D T hP b a f l g s nN xs H, List.forall_mem_cons.mpr ⟨ar_79 D T hP b a f l g s nN xs H, List.forall_mem_cons.mpr ⟨ar_80 D T hP b a f l g s nN xs H, List.forall_mem_cons.mpr ⟨ar_81 D T hP b a f l g s nN xs H, List.forall_mem_cons.mpr ⟨ar_82 D T hP b a f l g s nN xs H, List.forall_mem_cons.mpr ⟨ar_83 D T hP b a f l g s nN xs H, List.forall_mem_cons.mpr ⟨ar_84 D T hP b a f l g s nN xs H, List.forall_mem_cons.mpr ⟨ar_85 D T hP b a f l g s nN xs H, List.forall_mem_cons.mpr ⟨ar_86 D T hP b a f l g s nN xs H, List.forall_mem_cons.mpr ⟨ar_87 D T hP b a f l g s nN xs H, fun _ h => absurd h List.not_mem_nil⟩⟩⟩⟩⟩⟩⟩⟩⟩⟩⟩⟩⟩⟩⟩⟩⟩⟩⟩⟩⟩⟩⟩⟩⟩⟩⟩⟩⟩⟩⟩⟩⟩⟩⟩⟩⟩⟩⟩⟩⟩⟩⟩⟩⟩⟩⟩⟩⟩⟩⟩⟩⟩⟩⟩⟩⟩⟩⟩⟩⟩⟩⟩⟩⟩⟩⟩⟩⟩⟩⟩⟩⟩⟩⟩⟩⟩⟩⟩⟩⟩⟩⟩⟩⟩⟩⟩⟩
theorem r88 : List.range 88 = [0, 1, 2, 3, 4, 5, 6, 7, 8, 9, 10, 11, 12, 13, 14, 15, 16, 17, 18, 19, 20, 21, 22, 23, 24, 25, 26, 27, 28, 29, 30, 31, 32, 33, 34, 35, 36, 37, 38, 39, 40, 41, 42, 43, 44, 45, 46, 47, 48, 49, 50, 51, 52, 53, 54, 55, 56, 57, 58, 59, 60, 61, 62, 63, 64, 65, 66, 67, 68, 69, 70, 71, 72, 73, 74, 75, 76, 77, 78, 79, 80, 81, 82, 83, 84, 85, 86, 87] := by decide +kernel
theorem ar_lt (i : Nat) (hi : i < 88) : arP D T hP b a f l g s nN xs H i := ar_all D T hP b a f l g s nN xs H i (r88 ▸ List.mem_range.mpr hi)
theorem ar_P (h : va_P D vwCl (wS T hP b a) H) : va_P D vwCl (ew_ws (arE D T hP b a f l g s nN xs) M0) H := by
  rw [wS_eq] at h
  intro k q hk
  obtain ⟨h1, rfl⟩ := ew_len hk
  obtain ⟨e, e1, e2⟩ := ar_lt D T hP b a f l g s nN xs H k h1
  exact e2 (h _ _ e1)
theorem ar_A {A : Nat → Prop} (h : va_D A (wS T hP b a)) (i : Nat) (hi : i < 88) : A ((arE D T hP b a f l g s nN xs).1 i) := by
  rw [wS_eq] at h
  obtain ⟨e, e1, -⟩ := ar_lt D T hP b a f l g s nN xs #[] i hi
  exact h.2 _ _ e1
theorem ar_D {A : Nat → Prop} (h : va_D A (wS T hP b a)) : va_D A (ew_ws (arE D T hP b a f l g s nN xs) M0) := by
  refine ⟨fun i j p q hi hj hpq => ?_, fun k q hk => ?_⟩
  · rw [wS_eq] at h
    obtain ⟨h1, rfl⟩ := ew_len hi
    obtain ⟨h2, rfl⟩ := ew_len hj
    obtain ⟨e, e1, -⟩ := ar_lt D T hP b a f l g s nN xs #[] i h1
    obtain ⟨e', e1', -⟩ := ar_lt D T hP b a f l g s nN xs #[] j h2
    have h3 := gL_inj ⟨i, h1⟩ ⟨j, h2⟩ (h.1 _ _ _ _ e1 e1' hpq)
    exact congrArg Fin.val h3
  · obtain ⟨h1, rfl⟩ := ew_len hk
    exact ar_A D T hP b a f l g s nN xs h k h1
end ARR
