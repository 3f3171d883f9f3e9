/-! THE INVARIANT of a state, behind at most K calls -/
def SI (K : Int) (S : sT) : Prop := pD (s_d S) ∧ pC (s_c S) ∧ pD (s_q S) ∧ (0 ≤ s_t S 0 ∧ s_t S 0 ≤ 99) ∧ (0 ≤ s_t S 1 ∧ s_t S 1 ≤ 20) ∧ (1 ≤ s_t S 2 ∧ s_t S 2 ≤ 9) ∧ (0 ≤ s_t S 3 ∧ s_t S 3 ≤ 9) ∧ (0 ≤ s_n S 3 ∧ s_n S 3 ≤ 3) ∧
  (∀ q : Int, (0 < s_d S q ↔ 0 < s_p S q) ∧ 0 ≤ s_p S q ∧ s_p S q ≤ 25 * K) ∧ (∀ q : Int, 0 ≤ s_f S q ∧ s_f S q ≤ 9) ∧ (0 ≤ s_n S 10 ∧ s_n S 10 ≤ 9) ∧ f_sum (s_c S) 144 ≤ s_n S 7 ∧ s_n S 7 ≤ 144 * K
theorem SI_mono {K K2 : Int} {S : sT} (h : SI K S) (hk : K ≤ K2) : SI K2 S := by
  obtain ⟨a1, a2, a3, a4, a5, a6, a7, a8, a9, a10, a11, a12, a13⟩ := h
  exact ⟨a1, a2, a3, a4, a5, a6, a7, a8, fun q => ⟨(a9 q).1, (a9 q).2.1, by have := (a9 q).2.2; omega⟩, a10, a11, a12, by omega⟩
theorem SI_st0 {K : Int} {M : ewM} (h : SI K (sj M 0)) : st0 M := by
  obtain ⟨a1, a2, a3, a4, a5, a6, a7, a8, -⟩ := h
  have n3 : s_n (sj M 0) 3 = M 50 3 := pn_in (M 50) (k := 3) (by decide) (by decide)
  rw [n3] at a8
  exact ⟨a1, a2, a3, a4, a5, a6, a7, a8⟩
section SIO
variable {K : Int} {S : sT}
theorem SI_sheet (hK : 0 ≤ K ∧ K ≤ 100) (h : SI K S) : SI (K + 1) (o_sheet S).2 := by
  obtain ⟨a1, a2, a3, a4, a5, a6, a7, a8, a9, a10, a11, a12, a13⟩ := h
  have hs := (f_sum_C a2).1
  refine ⟨fun _ => ⟨Int.le_refl _, by show (0 : Int) ≤ 9; decide⟩, fun _ => ⟨Int.le_refl _, by show (0 : Int) ≤ 1; decide⟩, a3, a4, a5, a6, a7, ⟨Int.le_refl _, by show (0 : Int) ≤ 3; decide⟩, fun q => ⟨Iff.rfl, Int.le_refl _, by show (0 : Int) ≤ 25 * (K + 1); omega⟩, fun _ => ⟨Int.le_refl _, by show (0 : Int) ≤ 9; decide⟩, ⟨Int.le_refl _, by show (0 : Int) ≤ 9; decide⟩, ?_, ?_⟩
  · show f_sum (fun _ => 0) 144 ≤ s_n S 7
    rw [f_sum_0]
    omega
  · show s_n S 7 ≤ 144 * (K + 1)
    omega
theorem SI_pin (h : SI K S) : SI (K + 1) (o_pin S).2 := by
  obtain ⟨a1, a2, a3, a4, a5, a6, a7, a8, a9, a10, a11, a12, a13⟩ := SI_mono h (show K ≤ K + 1 by omega)
  exact ⟨a1, a2, a3, a4, a5, a6, a7, ⟨Int.le_refl _, by show (0 : Int) ≤ 3; decide⟩, a9, a10, a11, a12, a13⟩
theorem SI_foil {f x y u w : Int} (hf : 1 ≤ f ∧ f ≤ 9) (h : SI K S) : SI (K + 1) (o_foil f x y u w S).2 := by
  obtain ⟨a1, a2, a3, a4, a5, a6, a7, a8, a9, a10, a11, a12, a13⟩ := SI_mono h (show K ≤ K + 1 by omega)
  exact ⟨a1, a2, a3, a4, a5, a6, a7, a8, a9, a10, ⟨by show 0 ≤ f; omega, by show f ≤ 9; omega⟩, a12, a13⟩
theorem SI_point {a x y dd : Int} (hd : 0 ≤ dd ∧ dd ≤ 9) (h : SI K S) : SI (K + 1) (o_point a x y dd S).2 := by
  obtain ⟨a1, a2, a3, a4, a5, a6, a7, a8, a9, a10, a11, a12, a13⟩ := SI_mono h (show K ≤ K + 1 by omega)
  refine ⟨a1, a2, fun b => ?_, a4, a5, a6, a7, a8, a9, a10, a11, a12, a13⟩
  have := a3 b
  show 0 ≤ (if b = a * 25 + y * 5 + x then dd else s_q S b) ∧ (if b = a * 25 + y * 5 + x then dd else s_q S b) ≤ 9
  split <;> omega
theorem SI_cast {a x y : Int} (h : SI K S) : SI (K + 1) (o_cast a x y S).2 := by
  obtain ⟨a1, a2, a3, a4, a5, a6, a7, a8, a9, a10, a11, a12, a13⟩ := SI_mono h (show K ≤ K + 1 by omega)
  refine ⟨a1, a2, fun b => ?_, a4, a5, a6, a7, a8, a9, a10, a11, a12, a13⟩
  have h1 := a3 b
  have h2 : ∀ k : Int, 0 ≤ f_cw (s_d S) x y k ∧ f_cw (s_d S) x y k ≤ 9 := fun k => by
    unfold f_cw
    have h3 := a1 (f_pl (x + k % 5) (y + k / 5))
    split <;> omega
  have h4 := h2 (b - a * 25)
  show 0 ≤ f_cq (s_d S) (s_q S) a x y b ∧ f_cq (s_d S) (s_q S) a x y b ≤ 9
  unfold f_cq
  split <;> omega
theorem SI_set {a x : Int} (ha : 0 ≤ a ∧ a < 4) (hx : g_least a.toNat ≤ x ∧ x ≤ g_great a.toNat) (h : SI K S) : SI (K + 1) (o_set a x S).2 := by
  obtain ⟨a1, a2, a3, a4, a5, a6, a7, a8, a9, a10, a11, a12, a13⟩ := SI_mono h (show K ≤ K + 1 by omega)
  have e : ∀ b : Int, s_t (o_set a x S).2 b = if b = a then x else s_t S b := fun b => rfl
  refine ⟨a1, a2, a3, ?_, ?_, ?_, ?_, a8, a9, a10, a11, a12, a13⟩
  all_goals
    rw [e]
    rcases (show a = 0 ∨ a = 1 ∨ a = 2 ∨ a = 3 by omega) with rfl | rfl | rfl | rfl
    all_goals
      first
      | (rw [if_neg (by decide)]; assumption)
      | (rw [if_pos rfl]; exact hx)
theorem SI_fold {r : Int} (hK : 0 ≤ K ∧ K ≤ 100) (h : SI K S) : SI (K + 1) (o_fold r S).2 ∧ s_n (o_fold r S).2 7 = s_n S 7 + (o_fold r S).1 ∧ f_set (s_d (o_fold r S).2) (s_c (o_fold r S).2) (s_t (o_fold r S).2 0) (s_t (o_fold r S).2 1) := by
  obtain ⟨a1, a2, a3, a4, a5, a6, a7, a8, a9, a10, a11, a12, a13⟩ := h
  have hs := (f_sum_C a2).1
  have hb := f_fc_b (d := s_d S) (c := s_c S) r (s_t S 0) (s_t S 1) a2
  have hw : s_n (o_fold r S).2 7 = s_n S 7 + (o_fold r S).1 := by
    show wr (s_n S 7 + f_fc (s_d S) (s_c S) r (s_t S 0) (s_t S 1)) = s_n S 7 + f_fc (s_d S) (s_c S) r (s_t S 0) (s_t S 1)
    exact wr_of (by omega) (by omega)
  have h1 : (o_fold r S).1 = f_fc (s_d S) (s_c S) r (s_t S 0) (s_t S 1) := rfl
  have h2 : f_fc (s_d S) (s_c S) r (s_t S 0) (s_t S 1) = f_sum (s_c (o_fold r S).2) 144 - f_sum (s_c S) 144 := rfl
  refine ⟨⟨a1, f_it_C (f_brk_C a2) 144, a3, a4, a5, a6, a7, a8, fun q => ⟨(a9 q).1, (a9 q).2.1, ?_⟩, a10, a11, ?_, ?_⟩, hw, f_it_set (f_brk_C a2)⟩
  · show s_p S q ≤ 25 * (K + 1)
    have := (a9 q).2.2
    omega
  · rw [hw]
    omega
  · rw [hw]
    omega
theorem f_sl_b {e k n : Int} (h : 0 ≤ n ∧ n ≤ 3) : 0 ≤ f_sl e k n ∧ f_sl e k n ≤ 3 := by
  unfold f_sl
  split <;> omega
theorem SI_press {a x y t : Int} (hK : 0 ≤ K ∧ K ≤ 100) (h : SI K S) : SI (K + 1) (o_press a x y t S).2 ∧ (100 ≤ (o_press a x y t S).1 → s_n (o_press a x y t S).2 7 = s_n S 7 + (o_press a x y t S).1 - 100 ∧ s_n (o_press a x y t S).2 10 = 0 ∧ f_set (s_d (o_press a x y t S).2) (s_c (o_press a x y t S).2) (s_t (o_press a x y t S).2 0) (s_t (o_press a x y t S).2 1)) := by
  have hy := f_rsn_b (f_rel (s_q S) a t) (x + s_n S 3) y (s_t S 2)
  by_cases h9 : f_why a x y t S = 0
  · have e : o_press a x y t S = (100 + f_pk a x y t S, f_pd a x y t S, f_stk (s_n S) (f_rel (s_q S) a t) (x + s_n S 3) y (s_f S) 25, f_it (f_pd a x y t S) (s_t S 0) (s_t S 1) (s_c S) 144, f_prs (f_rel (s_q S) a t) (x + s_n S 3) y (s_p S) 25, s_q S, s_t S,
      pn (fun k => if k = 3 then f_sl (s_t S 3) (wr (s_n S 5 + 1)) (s_n S 3) else if k = 4 then wr (s_n S 4 + 1) else if k = 5 then wr (s_n S 5 + 1) else if k = 7 then wr (s_n S 7 + f_pk a x y t S) else if k = 10 then 0 else s_n S k)) := by
      unfold o_press
      rw [if_pos h9]
    rw [e]
    obtain ⟨a1, a2, a3, a4, a5, a6, a7, a8, a9, a10, a11, a12, a13⟩ := h
    have hs := (f_sum_C a2).1
    have hb := f_cks_b (r := f_rel (s_q S) a t) (left := x + s_n S 3) (top := y) (d := s_d S) (b := s_t S 0) (t := s_t S 1) a2
    have h1 : f_pk a x y t S = f_cks (f_rel (s_q S) a t) (x + s_n S 3) y (s_d S) (s_c S) (s_t S 0) (s_t S 1) := rfl
    have h2 : f_pk a x y t S = f_sum (f_it (f_pd a x y t S) (s_t S 0) (s_t S 1) (s_c S) 144) 144 - f_sum (s_c S) 144 := rfl
    have hw : wr (s_n S 7 + f_pk a x y t S) = s_n S 7 + f_pk a x y t S := wr_of (by omega) (by omega)
    have hsl := f_sl_b (e := s_t S 3) (k := wr (s_n S 5 + 1)) a8
    refine ⟨⟨f_emb_D (f_rel_D a3 a t) a1 _ _ 25, f_it_C a2 144, a3, a4, a5, a6, a7, hsl, fun q => ?_, f_stk_b a11 a10 25, ⟨Int.le_refl _, by show (0 : Int) ≤ 9; decide⟩, ?_, ?_⟩, fun _ => ⟨?_, rfl, f_it_set a2⟩⟩
    · have := f_emb_prs (left := x + s_n S 3) (top := y) (f_rel_D a3 a t) a1 a9 (by omega) (by omega) 25 (by decide) q
      refine ⟨this.1, this.2.1, ?_⟩
      show f_prs (f_rel (s_q S) a t) (x + s_n S 3) y (s_p S) 25 q ≤ 25 * (K + 1)
      have := this.2.2
      omega
    · show f_sum (f_it (f_pd a x y t S) (s_t S 0) (s_t S 1) (s_c S) 144) 144 ≤ wr (s_n S 7 + f_pk a x y t S)
      rw [hw]
      omega
    · show wr (s_n S 7 + f_pk a x y t S) ≤ 144 * (K + 1)
      rw [hw]
      omega
    · show wr (s_n S 7 + f_pk a x y t S) = s_n S 7 + (100 + f_pk a x y t S) - 100
      rw [hw]
      omega
  · have e : o_press a x y t S = (f_why a x y t S, s_d S, s_f S, s_c S, s_p S, s_q S, s_t S, pn (fun k => if k = 6 then wr (s_n S 6 + 1) else s_n S k)) := by
      unfold o_press
      rw [if_neg h9]
    rw [e]
    obtain ⟨a1, a2, a3, a4, a5, a6, a7, a8, a9, a10, a11, a12, a13⟩ := SI_mono h (show K ≤ K + 1 by omega)
    refine ⟨⟨a1, a2, a3, a4, a5, a6, a7, a8, a9, a10, a11, a12, a13⟩, fun hh => ?_⟩
    exfalso
    have h3 : f_why a x y t S = f_rsn (f_rel (s_q S) a t) (x + s_n S 3) y (s_t S 2) := rfl
    have hh : 100 ≤ f_why a x y t S := hh
    omega
end SIO
