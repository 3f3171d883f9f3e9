/-! THE RELATION AT THE START -/
theorem cut0 (n : Nat) (a : Int) (ha : 16 ≤ a) : cut n (fun p => M0 89 (a + p)) = fun _ => 0 := by
  funext p
  unfold cut
  split
  · next h =>
    show m0_89 (a + p).toNat = 0
    exact m89_0 (by omega)
  · rfl
theorem M0_svI : svI (M0 89) := by
  refine ⟨?_, ?_, ?_, by decide, by decide, by decide, by decide, by decide, by decide, fun p => ?_⟩
  · rw [show vD (M0 89) = fun _ => 0 from cut0 144 91 (by decide)]
    exact fun p => ⟨Int.le_refl 0, by show (0 : Int) ≤ _; decide⟩
  · rw [show vC (M0 89) = fun _ => 0 from cut0 144 379 (by decide)]
    exact fun p => ⟨Int.le_refl 0, by show (0 : Int) ≤ _; decide⟩
  · rw [show vQ (M0 89) = fun _ => 0 from cut0 75 16 (by decide)]
    exact fun p => ⟨Int.le_refl 0, by show (0 : Int) ≤ _; decide⟩
  · rw [show vF (M0 89) = fun _ => 0 from cut0 144 235 (by decide)]
    show (0 : Int) ≤ 0 ∧ (0 : Int) ≤ 9
    omega
theorem M0_Rl : Rl M0 := by
  refine ⟨⟨M0_svI, ⟨?_, ?_, ?_, ?_⟩, ?_, fun k k0 k1 => ?_, fun k k0 k1 => ?_⟩, ⟨by decide, by decide, rfl, fun q q0 q1 => ?_⟩, ⟨?_, fun q => Or.inl rfl, fun a a0 a1 h => absurd rfl h⟩, by decide, rfl, ?_⟩
  · exact (M0_sheet (by decide)).trans (cut0 144 91 (by decide)).symm
  · exact (M0_sheet (by decide)).trans (cut0 144 235 (by decide)).symm
  · exact (M0_sheet (by decide)).trans (cut0 144 379 (by decide)).symm
  · exact (M0_sheet (by decide)).trans (cut0 144 523 (by decide)).symm
  · exact (M0_pts (j := 0) (by decide)).trans (cut0 75 16 (by decide)).symm
  · rw [M0_set (j := 0) (by decide), M0_89]
    rcases (show k = 0 ∨ k = 1 ∨ k = 2 ∨ k = 3 by omega) with rfl | rfl | rfl | rfl <;> rfl
  · rw [M0_obj (j := 0) (by decide), M0_89]
    rcases (show k = 3 ∨ k = 4 ∨ k = 5 ∨ k = 6 ∨ k = 7 ∨ k = 8 ∨ k = 9 ∨ k = 10 ∨ k = 11 ∨ k = 12 ∨ k = 13 ∨ k = 14 by omega) with rfl | rfl | rfl | rfl | rfl | rfl | rfl | rfl | rfl | rfl | rfl | rfl <;> rfl
  · exact absurd q1 (by show ¬ q < 0; omega)
  · exact (M0_0 (by decide) (by decide)).trans (M0_0 (by decide) (by decide)).symm
  · exact (M0_0 (by decide) (by decide)).trans (M0_0 (by decide) (by decide)).symm
