/-! A STATE as one value, and what each undoable call makes of it -/
/-- depths, foils, cracks, pressings, points, settings, and the numbers by the places of the class's fields, 3 to 14 -/
abbrev sT : Type := (Int → Int) × (Int → Int) × (Int → Int) × (Int → Int) × (Int → Int) × (Int → Int) × (Int → Int)
abbrev s_d (S : sT) : Int → Int := S.1
abbrev s_f (S : sT) : Int → Int := S.2.1
abbrev s_c (S : sT) : Int → Int := S.2.2.1
abbrev s_p (S : sT) : Int → Int := S.2.2.2.1
abbrev s_q (S : sT) : Int → Int := S.2.2.2.2.1
abbrev s_t (S : sT) : Int → Int := S.2.2.2.2.2.1
abbrev s_n (S : sT) : Int → Int := S.2.2.2.2.2.2
def pn (f : Int → Int) : Int → Int := fun k => if 3 ≤ k ∧ k ≤ 14 then f k else 0
theorem pn_in (f : Int → Int) {k : Int} (h0 : 3 ≤ k) (h1 : k ≤ 14) : pn f k = f k := if_pos ⟨h0, h1⟩
theorem pn_cg {f g : Int → Int} (h : ∀ k : Int, 3 ≤ k → k ≤ 14 → f k = g k) : pn f = pn g := by
  funext k
  unfold pn
  by_cases h9 : 3 ≤ k ∧ k ≤ 14
  · rw [if_pos h9, if_pos h9, h k h9.1 h9.2]
  · rw [if_neg h9, if_neg h9]
theorem pn_pn (f : Int → Int) : pn (pn f) = pn f := pn_cg fun _ h0 h1 => pn_in f h0 h1
/-- state j of the world -/
def sj (M : ewM) (j : Nat) : sT := (M (5 * j + 1), M (5 * j + 2), M (5 * j + 3), M (5 * j + 4), M (50 + 3 * j + 1), M (50 + 3 * j + 2), pn (M (50 + 3 * j)))
theorem sj_mk {M : ewM} {d f c p q t n : Int → Int} (h1 : M 1 = d) (h2 : M 2 = f) (h3 : M 3 = c) (h4 : M 4 = p) (h5 : M 51 = q) (h6 : M 52 = t) (h7 : ∀ k : Int, 3 ≤ k → k ≤ 14 → M 50 k = n k) : sj M 0 = (d, f, c, p, q, t, pn n) := by
  show (M 1, M 2, M 3, M 4, M 51, M 52, pn (M 50)) = _
  rw [h1, h2, h3, h4, h5, h6, pn_cg h7]
theorem sj_cg {M N : ewM} {i j : Nat} (h1 : ∀ r, 1 ≤ r → r ≤ 4 → M (5 * i + r) = N (5 * j + r)) (h5 : M (50 + 3 * i + 1) = N (50 + 3 * j + 1)) (h6 : M (50 + 3 * i + 2) = N (50 + 3 * j + 2)) (h7 : ∀ k : Int, 3 ≤ k → k ≤ 14 → M (50 + 3 * i) k = N (50 + 3 * j) k) : sj M i = sj N j := by
  unfold sj
  rw [h1 1 (by decide) (by decide), h1 2 (by decide) (by decide), h1 3 (by decide) (by decide), h1 4 (by decide) (by decide), h5, h6, pn_cg h7]
/-- the other states, and how many are saved, behind a call that saved the present one -/
def svd (M M1 : ewM) : Prop := M1 77 4 = rg_o M ∧ M1 77 5 = rg_n M + 1 ∧ ∀ j : Nat, 1 ≤ j → j < 9 → sj M1 j = if (j : Int) = 3 + (rg_o M + rg_n M) % 6 then sj M 0 else sj M j
theorem svd_of {M N M1 : ewM} (q4 : 0 ≤ M 77 4 ∧ M 77 4 ≤ 5) (q5 : 0 ≤ M 77 5 ∧ M 77 5 ≤ 6) (h : svc M N) (hk : ∀ o : Nat, (o < 1 ∨ 4 < o) → (o < 50 ∨ 52 < o) → (o < 83 ∨ 87 < o) → M1 o = N o) : svd M M1 := by
  have hb := rg_b q4 q5
  obtain ⟨jj, hjj⟩ : ∃ jj : Nat, (jj : Int) = 3 + (rg_o M + rg_n M) % 6 := ⟨(3 + (rg_o M + rg_n M) % 6).toNat, by omega⟩
  obtain ⟨c1, c2, c3, c4, c5⟩ := h.2 jj hjj
  refine ⟨?_, ?_, fun j j1 j9 => ?_⟩
  · rw [hk 77 (by omega) (by omega) (by omega), h.1 4, if_pos rfl]
  · rw [hk 77 (by omega) (by omega) (by omega), h.1 5, if_neg (by decide), if_pos rfl]
  · by_cases he : j = jj
    · subst he
      rw [if_pos hjj]
      refine sj_cg (fun r r0 r1 => ?_) ?_ ?_ (fun k k0 k1 => ?_)
      · rw [hk _ (by omega) (by omega) (by omega), c3 r r0 r1, show 5 * 0 + r = r by omega]
      · rw [hk _ (by omega) (by omega) (by omega), c1]
      · rw [hk _ (by omega) (by omega) (by omega), c2]
      · rw [hk _ (by omega) (by omega) (by omega), c4 k k0 k1]
    · rw [if_neg (by omega)]
      refine sj_cg (fun r r0 r1 => ?_) ?_ ?_ (fun k k0 k1 => ?_)
      · rw [hk _ (by omega) (by omega) (by omega), c5 _ (by omega) (by omega) (by omega)]
      · rw [hk _ (by omega) (by omega) (by omega), c5 _ (by omega) (by omega) (by omega)]
      · rw [hk _ (by omega) (by omega) (by omega), c5 _ (by omega) (by omega) (by omega)]
      · rw [hk _ (by omega) (by omega) (by omega), c5 _ (by omega) (by omega) (by omega)]
/-- a call that saved the present state: its answer, the new state -/
def opP (M : ewM) (r : Int × sT) (v : Option Value) (M1 : ewM) : Prop := v = some (vI r.1) ∧ sj M1 0 = r.2 ∧ svd M M1
def o_sheet (S : sT) : Int × sT := (f_sum (s_c S) 144, fun _ => 0, fun _ => 0, fun _ => 0, fun _ => 0, s_q S, s_t S, pn (fun k => if k = 3 ∨ k = 5 ∨ k = 10 then 0 else if k = 8 then wr (s_n S 8 + 1) else s_n S k))
def o_pin (S : sT) : Int × sT := (s_n S 3, s_d S, s_f S, s_c S, s_p S, s_q S, s_t S, pn (fun k => if k = 5 then 0 else if k = 3 then 0 else s_n S k))
def o_foil (f x y u w : Int) (S : sT) : Int × sT := ((u - x + 1) * (w - y + 1), s_d S, s_f S, s_c S, s_p S, s_q S, s_t S, pn (fun k => if k = 14 then w else if k = 13 then u else if k = 12 then y else if k = 11 then x else if k = 10 then f else s_n S k))
def o_fold (r : Int) (S : sT) : Int × sT := (f_fc (s_d S) (s_c S) r (s_t S 0) (s_t S 1), s_d S, s_f S, f_it (s_d S) (s_t S 0) (s_t S 1) (f_brk (f_ovf (s_d S) (s_c S) r (s_t S 0) (s_t S 1)) (s_c S)) 144, s_p S, s_q S, s_t S, pn (fun k => if k = 7 then wr (s_n S 7 + f_fc (s_d S) (s_c S) r (s_t S 0) (s_t S 1)) else if k = 9 then wr (s_n S 9 + 1) else s_n S k))
def o_set (a x : Int) (S : sT) : Int × sT := (s_t S a, s_d S, s_f S, s_c S, s_p S, s_q S, fun b => if b = a then x else s_t S b, pn (s_n S))
def f_cq (d q : Int → Int) (a x y : Int) : Int → Int := fun k => if a * 25 ≤ k ∧ k < a * 25 + 25 then f_cw d x y (k - a * 25) else q k
def o_cast (a x y : Int) (S : sT) : Int × sT := (f_sum (fun k => if 0 < f_cq (s_d S) (s_q S) a x y (a * 25 + k) then 1 else 0) 25, s_d S, s_f S, s_c S, s_p S, f_cq (s_d S) (s_q S) a x y, s_t S, pn (s_n S))
def o_point (a x y dd : Int) (S : sT) : Int × sT := (s_q S (a * 25 + y * 5 + x), s_d S, s_f S, s_c S, s_p S, fun b => if b = a * 25 + y * 5 + x then dd else s_q S b, s_t S, pn (s_n S))
/-- why a press is refused -/
def f_why (a x y t : Int) (S : sT) : Int := f_rsn (f_rel (s_q S) a t) (x + s_n S 3) y (s_t S 2)
/-- the depths behind a press, what it cracks -/
def f_pd (a x y t : Int) (S : sT) : Int → Int := f_emb (f_rel (s_q S) a t) (x + s_n S 3) y (s_d S) 25
def f_pk (a x y t : Int) (S : sT) : Int := f_cks (f_rel (s_q S) a t) (x + s_n S 3) y (s_d S) (s_c S) (s_t S 0) (s_t S 1)
def o_press (a x y t : Int) (S : sT) : Int × sT :=
  if f_why a x y t S = 0 then (100 + f_pk a x y t S, f_pd a x y t S, f_stk (s_n S) (f_rel (s_q S) a t) (x + s_n S 3) y (s_f S) 25, f_it (f_pd a x y t S) (s_t S 0) (s_t S 1) (s_c S) 144, f_prs (f_rel (s_q S) a t) (x + s_n S 3) y (s_p S) 25, s_q S, s_t S,
    pn (fun k => if k = 3 then f_sl (s_t S 3) (wr (s_n S 5 + 1)) (s_n S 3) else if k = 4 then wr (s_n S 4 + 1) else if k = 5 then wr (s_n S 5 + 1) else if k = 7 then wr (s_n S 7 + f_pk a x y t S) else if k = 10 then 0 else s_n S k))
  else (f_why a x y t S, s_d S, s_f S, s_c S, s_p S, s_q S, s_t S, pn (fun k => if k = 6 then wr (s_n S 6 + 1) else s_n S k))
section OPS
variable {M M1 : ewM} {v : Option Value}
theorem op_sheet (q4 : 0 ≤ M 77 4 ∧ M 77 4 ≤ 5) (q5 : 0 ≤ M 77 5 ∧ M 77 5 ≤ 6) (g : ∃ N : ewM, svc M N ∧ v = some (vI (f_sum (M 3) 144)) ∧ (∀ r, 1 ≤ r → r ≤ 4 → M1 r = fun _ => 0) ∧ (∀ k : Int, M1 50 k = if k = 3 ∨ k = 5 ∨ k = 10 then 0 else if k = 8 then wr (M 50 8 + 1) else M 50 k) ∧ ∀ o, (o < 1 ∨ 4 < o) → o ≠ 50 → M1 o = N o) : opP M (o_sheet (sj M 0)) v M1 := by
  obtain ⟨N, hs, rfl, g1, g2, g3⟩ := g
  refine ⟨rfl, sj_mk (g1 1 (by decide) (by decide)) (g1 2 (by decide) (by decide)) (g1 3 (by decide) (by decide)) (g1 4 (by decide) (by decide)) ((g3 51 (by omega) (by decide)).trans (svc_o hs 51 (by omega))) ((g3 52 (by omega) (by decide)).trans (svc_o hs 52 (by omega))) (fun k k0 k1 => ?_), svd_of q4 q5 hs (fun o o1 o2 o3 => g3 o o1 (by omega))⟩
  rw [g2 k]
  show _ = if k = 3 ∨ k = 5 ∨ k = 10 then 0 else if k = 8 then wr (pn (M 50) 8 + 1) else pn (M 50) k
  rw [pn_in _ k0 k1, pn_in (M 50) (k := 8) (by decide) (by decide)]
theorem op_pin (q4 : 0 ≤ M 77 4 ∧ M 77 4 ≤ 5) (q5 : 0 ≤ M 77 5 ∧ M 77 5 ≤ 6) (g : ∃ N : ewM, svc M N ∧ v = some (vI (M 50 3)) ∧ M1 = mu (mu N 50 3 0) 50 5 0) : opP M (o_pin (sj M 0)) v M1 := by
  obtain ⟨N, hs, rfl, rfl⟩ := g
  have e : ∀ o : Nat, o ≠ 50 → mu (mu N 50 3 0) 50 5 0 o = N o := fun o ho => by rw [mu_ne _ _ _ ho, mu_ne _ _ _ ho]
  refine ⟨rfl, sj_mk ((e 1 (by decide)).trans (svc_o hs 1 (by omega))) ((e 2 (by decide)).trans (svc_o hs 2 (by omega))) ((e 3 (by decide)).trans (svc_o hs 3 (by omega))) ((e 4 (by decide)).trans (svc_o hs 4 (by omega))) ((e 51 (by decide)).trans (svc_o hs 51 (by omega))) ((e 52 (by decide)).trans (svc_o hs 52 (by omega))) (fun k k0 k1 => ?_), svd_of q4 q5 hs (fun o o1 o2 o3 => e o (by omega))⟩
  show _ = if k = 5 then 0 else if k = 3 then 0 else pn (M 50) k
  rw [pn_in _ k0 k1]
  have z := congrFun (svc_o hs 50 (by omega)) k
  rw [mu_at, mu_at]
  dsimp only
  rw [z]
theorem op_foil {f x y u w : Int} (q4 : 0 ≤ M 77 4 ∧ M 77 4 ≤ 5) (q5 : 0 ≤ M 77 5 ∧ M 77 5 ≤ 6) (g : ∃ N : ewM, svc M N ∧ v = some (vI ((u - x + 1) * (w - y + 1))) ∧ M1 = mu (mu (mu (mu (mu N 50 10 f) 50 11 x) 50 12 y) 50 13 u) 50 14 w) : opP M (o_foil f x y u w (sj M 0)) v M1 := by
  obtain ⟨N, hs, rfl, rfl⟩ := g
  have e : ∀ o : Nat, o ≠ 50 → mu (mu (mu (mu (mu N 50 10 f) 50 11 x) 50 12 y) 50 13 u) 50 14 w o = N o := fun o ho => by rw [mu_ne _ _ _ ho, mu_ne _ _ _ ho, mu_ne _ _ _ ho, mu_ne _ _ _ ho, mu_ne _ _ _ ho]
  refine ⟨rfl, sj_mk ((e 1 (by decide)).trans (svc_o hs 1 (by omega))) ((e 2 (by decide)).trans (svc_o hs 2 (by omega))) ((e 3 (by decide)).trans (svc_o hs 3 (by omega))) ((e 4 (by decide)).trans (svc_o hs 4 (by omega))) ((e 51 (by decide)).trans (svc_o hs 51 (by omega))) ((e 52 (by decide)).trans (svc_o hs 52 (by omega))) (fun k k0 k1 => ?_), svd_of q4 q5 hs (fun o o1 o2 o3 => e o (by omega))⟩
  show _ = if k = 14 then w else if k = 13 then u else if k = 12 then y else if k = 11 then x else if k = 10 then f else pn (M 50) k
  rw [pn_in _ k0 k1]
  have z := congrFun (svc_o hs 50 (by omega)) k
  rw [mu_at, mu_at, mu_at, mu_at, mu_at]
  dsimp only
  rw [z]
theorem op_fold {r : Int} (q4 : 0 ≤ M 77 4 ∧ M 77 4 ≤ 5) (q5 : 0 ≤ M 77 5 ∧ M 77 5 ≤ 6) (g : ∃ N : ewM, svc M N ∧ v = some (vI (f_fc (M 1) (M 3) r (M 52 0) (M 52 1))) ∧ M1 3 = f_it (M 1) (M 52 0) (M 52 1) (f_brk (f_ovf (M 1) (M 3) r (M 52 0) (M 52 1)) (M 3)) 144 ∧ (∀ k : Int, M1 50 k = if k = 7 then wr (M 50 7 + f_fc (M 1) (M 3) r (M 52 0) (M 52 1)) else if k = 9 then wr (M 50 9 + 1) else M 50 k) ∧ ∀ o, o ≠ 3 → o ≠ 50 → (o < 84 ∨ 87 < o) → M1 o = N o) : opP M (o_fold r (sj M 0)) v M1 := by
  obtain ⟨N, hs, rfl, g1, g2, g3⟩ := g
  have e : ∀ o : Nat, o ≠ 3 → o ≠ 50 → o ≤ 52 → (o ≤ 15 ∨ 45 ≤ o) → M1 o = M o := fun o o1 o2 o3 o4 => (g3 o o1 o2 (by omega)).trans (svc_o hs o (by omega))
  refine ⟨rfl, sj_mk (e 1 (by decide) (by decide) (by decide) (by decide)) (e 2 (by decide) (by decide) (by decide) (by decide)) g1 (e 4 (by decide) (by decide) (by decide) (by decide)) (e 51 (by decide) (by decide) (by decide) (by decide)) (e 52 (by decide) (by decide) (by decide) (by decide)) (fun k k0 k1 => ?_), svd_of q4 q5 hs (fun o o1 o2 o3 => g3 o (by omega) (by omega) (by omega))⟩
  rw [g2 k]
  show _ = if k = 7 then wr (pn (M 50) 7 + f_fc (M 1) (M 3) r (M 52 0) (M 52 1)) else if k = 9 then wr (pn (M 50) 9 + 1) else pn (M 50) k
  rw [pn_in _ k0 k1, pn_in (M 50) (k := 7) (by decide) (by decide), pn_in (M 50) (k := 9) (by decide) (by decide)]
theorem op_set {a x : Int} (q4 : 0 ≤ M 77 4 ∧ M 77 4 ≤ 5) (q5 : 0 ≤ M 77 5 ∧ M 77 5 ≤ 6) (g : ∃ N : ewM, svc M N ∧ v = some (vI (M 52 a)) ∧ M1 = mu N 52 a x) : opP M (o_set a x (sj M 0)) v M1 := by
  obtain ⟨N, hs, rfl, rfl⟩ := g
  have e : ∀ o : Nat, o ≠ 52 → mu N 52 a x o = N o := fun o ho => mu_ne _ _ _ ho
  refine ⟨rfl, sj_mk ((e 1 (by decide)).trans (svc_o hs 1 (by omega))) ((e 2 (by decide)).trans (svc_o hs 2 (by omega))) ((e 3 (by decide)).trans (svc_o hs 3 (by omega))) ((e 4 (by decide)).trans (svc_o hs 4 (by omega))) ((e 51 (by decide)).trans (svc_o hs 51 (by omega))) (by rw [mu_at, svc_o hs 52 (by omega)]; rfl) (fun k k0 k1 => ?_), svd_of q4 q5 hs (fun o o1 o2 o3 => e o (by omega))⟩
  show _ = pn (M 50) k
  rw [pn_in _ k0 k1, e 50 (by decide), svc_o hs 50 (by omega)]
theorem op_point {a x y dd : Int} (q4 : 0 ≤ M 77 4 ∧ M 77 4 ≤ 5) (q5 : 0 ≤ M 77 5 ∧ M 77 5 ≤ 6) (g : ∃ N : ewM, svc M N ∧ v = some (vI (M 51 (a * 25 + y * 5 + x))) ∧ M1 = mu N 51 (a * 25 + y * 5 + x) dd) : opP M (o_point a x y dd (sj M 0)) v M1 := by
  obtain ⟨N, hs, rfl, rfl⟩ := g
  have e : ∀ o : Nat, o ≠ 51 → mu N 51 (a * 25 + y * 5 + x) dd o = N o := fun o ho => mu_ne _ _ _ ho
  refine ⟨rfl, sj_mk ((e 1 (by decide)).trans (svc_o hs 1 (by omega))) ((e 2 (by decide)).trans (svc_o hs 2 (by omega))) ((e 3 (by decide)).trans (svc_o hs 3 (by omega))) ((e 4 (by decide)).trans (svc_o hs 4 (by omega))) (by rw [mu_at, svc_o hs 51 (by omega)]; rfl) ((e 52 (by decide)).trans (svc_o hs 52 (by omega))) (fun k k0 k1 => ?_), svd_of q4 q5 hs (fun o o1 o2 o3 => e o (by omega))⟩
  show _ = pn (M 50) k
  rw [pn_in _ k0 k1, e 50 (by decide), svc_o hs 50 (by omega)]
theorem op_cast {a x y : Int} (q4 : 0 ≤ M 77 4 ∧ M 77 4 ≤ 5) (q5 : 0 ≤ M 77 5 ∧ M 77 5 ≤ 6) (g : ∃ N : ewM, svc M N ∧ v = some (vI (f_sum (fun q => if 0 < M1 51 (a * 25 + q) then 1 else 0) 25)) ∧ (∀ q : Int, M1 51 q = if a * 25 ≤ q ∧ q < a * 25 + 25 then f_cw (M 1) x y (q - a * 25) else M 51 q) ∧ ∀ o, o ≠ 51 → M1 o = N o) : opP M (o_cast a x y (sj M 0)) v M1 := by
  obtain ⟨N, hs, rfl, g1, g2⟩ := g
  have e51 : M1 51 = f_cq (M 1) (M 51) a x y := funext g1
  rw [e51]
  refine ⟨rfl, sj_mk ((g2 1 (by decide)).trans (svc_o hs 1 (by omega))) ((g2 2 (by decide)).trans (svc_o hs 2 (by omega))) ((g2 3 (by decide)).trans (svc_o hs 3 (by omega))) ((g2 4 (by decide)).trans (svc_o hs 4 (by omega))) e51 ((g2 52 (by decide)).trans (svc_o hs 52 (by omega))) (fun k k0 k1 => ?_), svd_of q4 q5 hs (fun o o1 o2 o3 => g2 o (by omega))⟩
  show _ = pn (M 50) k
  rw [pn_in _ k0 k1, g2 50 (by decide), svc_o hs 50 (by omega)]
end OPS
