/-! THE SAME for a press, an undo; what the law tells of a state -/
section OPS2
variable {M M1 : ewM} {v : Option Value}
theorem op_press {a x y t : Int} (q4 : 0 ≤ M 77 4 ∧ M 77 4 ≤ 5) (q5 : 0 ≤ M 77 5 ∧ M 77 5 ≤ 6) (g : ∃ N : ewM, svc M N ∧ ((0 < f_rsn (f_rel (M 51) a t) (x + M 50 3) y (M 52 2) ∧ v = some (vI (f_rsn (f_rel (M 51) a t) (x + M 50 3) y (M 52 2))) ∧ (∀ k : Int, M1 50 k = if k = 6 then wr (M 50 6 + 1) else M 50 k) ∧ ∀ o, o ≠ 50 → o ≠ 83 → M1 o = N o) ∨ (f_rsn (f_rel (M 51) a t) (x + M 50 3) y (M 52 2) = 0 ∧ v = some (vI (100 + f_cks (f_rel (M 51) a t) (x + M 50 3) y (M 1) (M 3) (M 52 0) (M 52 1))) ∧ M1 1 = f_emb (f_rel (M 51) a t) (x + M 50 3) y (M 1) 25 ∧ M1 2 = f_stk (M 50) (f_rel (M 51) a t) (x + M 50 3) y (M 2) 25 ∧ M1 3 = f_it (f_emb (f_rel (M 51) a t) (x + M 50 3) y (M 1) 25) (M 52 0) (M 52 1) (M 3) 144 ∧ M1 4 = f_prs (f_rel (M 51) a t) (x + M 50 3) y (M 4) 25 ∧ (∀ k : Int, M1 50 k = if k = 3 then f_sl (M 52 3) (wr (M 50 5 + 1)) (M 50 3) else if k = 4 then wr (M 50 4 + 1) else if k = 5 then wr (M 50 5 + 1) else if k = 7 then wr (M 50 7 + f_cks (f_rel (M 51) a t) (x + M 50 3) y (M 1) (M 3) (M 52 0) (M 52 1)) else if k = 10 then 0 else M 50 k) ∧ ∀ o, o ≠ 1 → o ≠ 2 → o ≠ 3 → o ≠ 4 → o ≠ 50 → o ≠ 83 → (o < 84 ∨ 87 < o) → M1 o = N o))) : opP M (o_press a x y t (sj M 0)) v M1 := by
  obtain ⟨N, hs, g⟩ := g
  have n3 : s_n (sj M 0) 3 = M 50 3 := pn_in (M 50) (k := 3) (by decide) (by decide)
  have n4 : s_n (sj M 0) 4 = M 50 4 := pn_in (M 50) (k := 4) (by decide) (by decide)
  have n5 : s_n (sj M 0) 5 = M 50 5 := pn_in (M 50) (k := 5) (by decide) (by decide)
  have n6 : s_n (sj M 0) 6 = M 50 6 := pn_in (M 50) (k := 6) (by decide) (by decide)
  have n7 : s_n (sj M 0) 7 = M 50 7 := pn_in (M 50) (k := 7) (by decide) (by decide)
  have hw : f_why a x y t (sj M 0) = f_rsn (f_rel (M 51) a t) (x + M 50 3) y (M 52 2) := by unfold f_why; rw [n3]; rfl
  have hk : f_pk a x y t (sj M 0) = f_cks (f_rel (M 51) a t) (x + M 50 3) y (M 1) (M 3) (M 52 0) (M 52 1) := by unfold f_pk; rw [n3]; rfl
  have hd : f_pd a x y t (sj M 0) = f_emb (f_rel (M 51) a t) (x + M 50 3) y (M 1) 25 := by unfold f_pd; rw [n3]; rfl
  unfold o_press
  rcases g with ⟨h0, rfl, g1, g2⟩ | ⟨h0, rfl, g1, g2, g3, g4, g5, g6⟩
  · have e : ∀ o : Nat, o ≠ 50 → o ≤ 52 → (o ≤ 15 ∨ 45 ≤ o) → M1 o = M o := fun o o1 o2 o3 => (g2 o o1 (by omega)).trans (svc_o hs o (by omega))
    rw [if_neg (by rw [hw]; omega)]
    refine ⟨by rw [hw], sj_mk (e 1 (by decide) (by decide) (by decide)) (e 2 (by decide) (by decide) (by decide)) (e 3 (by decide) (by decide) (by decide)) (e 4 (by decide) (by decide) (by decide)) (e 51 (by decide) (by decide) (by decide)) (e 52 (by decide) (by decide) (by decide)) (fun k k0 k1 => ?_), svd_of q4 q5 hs (fun o o1 o2 o3 => g2 o (by omega) (by omega))⟩
    rw [g1 k, n6]
    show _ = if k = 6 then wr (M 50 6 + 1) else pn (M 50) k
    rw [pn_in _ k0 k1]
  · have e : ∀ o : Nat, o = 51 ∨ o = 52 → M1 o = M o := fun o o1 => (g6 o (by omega) (by omega) (by omega) (by omega) (by omega) (by omega) (by omega)).trans (svc_o hs o (by omega))
    rw [if_pos (by rw [hw]; exact h0)]
    refine ⟨by rw [hk], sj_mk (g1.trans hd.symm) (g2.trans ?_) (g3.trans (by rw [hd]; rfl)) (g4.trans (by rw [n3]; rfl)) (e 51 (by decide)) (e 52 (by decide)) (fun k k0 k1 => ?_), svd_of q4 q5 hs (fun o o1 o2 o3 => g6 o (by omega) (by omega) (by omega) (by omega) (by omega) (by omega) (by omega))⟩
    · rw [n3]
      exact f_stk_cg (fun k k0 k1 => (pn_in (M 50) (by omega) k1).symm) 25
    · rw [g5 k, n3, n4, n5, n7, hk]
      show _ = if k = 3 then f_sl (M 52 3) (wr (M 50 5 + 1)) (M 50 3) else if k = 4 then wr (M 50 4 + 1) else if k = 5 then wr (M 50 5 + 1) else if k = 7 then wr (M 50 7 + f_cks (f_rel (M 51) a t) (x + M 50 3) y (M 1) (M 3) (M 52 0) (M 52 1)) else if k = 10 then 0 else pn (M 50) k
      rw [pn_in _ k0 k1]
/-- behind an undo -/
def und (M M1 : ewM) : Prop := M1 77 4 = M 77 4 ∧ M1 77 5 = M 77 5 - 1 ∧ (∀ j : Nat, (j : Int) = 3 + (M 77 4 + (M 77 5 - 1)) % 6 → sj M1 0 = sj M j) ∧ ∀ j : Nat, 1 ≤ j → j < 9 → sj M1 j = sj M j
theorem op_undo (q4 : 0 ≤ M 77 4 ∧ M 77 4 ≤ 5) (q5 : 0 ≤ M 77 5 ∧ M 77 5 ≤ 6) (g : ∀ j : Nat, (j : Int) = 3 + (M 77 4 + (M 77 5 - 1)) % 6 → cpS M j M1 0 ∧ M1 77 = (mu M 77 5 (M 77 5 - 1)) 77 ∧ ∀ o, o ≠ 77 → (o < 1 ∨ 4 < o) → (o < 50 ∨ 52 < o) → M1 o = M o) : und M M1 := by
  obtain ⟨jj, hjj⟩ : ∃ jj : Nat, (jj : Int) = 3 + (M 77 4 + (M 77 5 - 1)) % 6 := ⟨(3 + (M 77 4 + (M 77 5 - 1)) % 6).toNat, by omega⟩
  obtain ⟨⟨c1, c2, c3, c4⟩, g1, g2⟩ := g jj hjj
  refine ⟨?_, ?_, fun j hj => ?_, fun j j1 j9 => ?_⟩
  · rw [g1, mu_nk _ _ _ (by decide)]
  · rw [g1, mu_eq]
  · have e9 : j = jj := by omega
    rw [e9]
    exact sj_cg (fun r r0 r1 => by rw [show 5 * 0 + r = r by omega]; rw [← c3 r r0 r1, show 5 * 0 + r = r by omega]) c1 c2 c4
  · refine sj_cg (fun r r0 r1 => ?_) ?_ ?_ (fun k k0 k1 => ?_)
    · rw [g2 _ (by omega) (by omega) (by omega)]
    · rw [g2 _ (by omega) (by omega) (by omega)]
    · rw [g2 _ (by omega) (by omega) (by omega)]
    · rw [g2 _ (by omega) (by omega) (by omega)]
end OPS2
/-- what the law tells of a place, of the dies -/
def f_tw (q : Int) : Int := if q % 4 = 3 then 6 else q % 4
/-- the law's hash of the present state -/
def f_told (M : ewM) : Int := f_h (fun q => f_prop M (q / 4) (f_tw q)) 576 (f_h (fun k => f_tp (M 51) (k / 25) (k % 5) (k / 5 % 5) 0) 75 (f_h (f_num M) 13 3))
theorem f_told_cg {M N : ewM} (h : sj M 0 = sj N 0) : f_told M = f_told N := by
  have e1 : M 1 = N 1 := congrArg s_d h
  have e2 : M 2 = N 2 := congrArg s_f h
  have e3 : M 3 = N 3 := congrArg s_c h
  have e4 : M 4 = N 4 := congrArg s_p h
  have e5 : M 51 = N 51 := congrArg s_q h
  have e7 : pn (M 50) = pn (N 50) := congrArg s_n h
  have e8 : ∀ k : Int, 3 ≤ k → k ≤ 14 → M 50 k = N 50 k := fun k k0 k1 => by rw [← pn_in (M 50) k0 k1, ← pn_in (N 50) k0 k1, e7]
  unfold f_told
  rw [e5, f_h_cg (f := f_num M) (g := f_num N) 13 (fun w w0 w1 => ?_), f_h_cg (f := fun q => f_prop M (q / 4) (f_tw q)) (g := fun q => f_prop N (q / 4) (f_tw q)) 576 (fun q q0 q1 => ?_)]
  · have hw : f_tw q = 0 ∨ f_tw q = 1 ∨ f_tw q = 2 ∨ f_tw q = 6 := by unfold f_tw; split <;> omega
    generalize f_tw q = w at hw
    rcases hw with rfl | rfl | rfl | rfl
    · show M 1 _ = N 1 _; rw [e1]
    · show M 2 _ = N 2 _; rw [e2]
    · show M 3 _ = N 3 _; rw [e3]
    · show M 4 _ = N 4 _; rw [e4]
  · have w1 : w < 13 := w1
    rcases (show w = 0 ∨ w = 1 ∨ w = 2 ∨ w = 3 ∨ w = 4 ∨ w = 5 ∨ w = 6 ∨ w = 7 ∨ w = 8 ∨ w = 9 ∨ w = 10 ∨ w = 11 ∨ w = 12 by omega) with rfl | rfl | rfl | rfl | rfl | rfl | rfl | rfl | rfl | rfl | rfl | rfl | rfl
    · exact e8 4 (by decide) (by decide)
    · exact e8 5 (by decide) (by decide)
    · exact e8 3 (by decide) (by decide)
    · exact e8 6 (by decide) (by decide)
    · show f_sum (M 3) 144 = f_sum (N 3) 144; rw [e3]
    · show f_max (M 1) 144 = f_max (N 1) 144; rw [e1]
    · show f_sum (f_str (M 1)) 144 = f_sum (f_str (N 1)) 144; rw [e1]
    · show 2 * f_sum (fun q => f_s2 (M 1) q + f_s4 (M 1) q) 144 = 2 * f_sum (fun q => f_s2 (N 1) q + f_s4 (N 1) q) 144; rw [e1]
    · show f_sum (fun q => if M 2 q = 0 then 0 else 1) 144 = f_sum (fun q => if N 2 q = 0 then 0 else 1) 144; rw [e2]
    · exact e8 10 (by decide) (by decide)
    · exact e8 7 (by decide) (by decide)
    · exact e8 8 (by decide) (by decide)
    · exact e8 9 (by decide) (by decide)
