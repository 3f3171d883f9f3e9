/-! THE REFERENCE: why a press is refused, presses, folds, what would be -/
theorem f_off_k {r : Int → Int} {l t : Int} (h : f_off r l t 25 = false) {k : Int} (k0 : 0 ≤ k) (k1 : k < 25) (hr : 0 < r k) : f_pu k l t ≠ -1 := by
  intro he
  have e1 : f_off r l t (k + 1).toNat = true := by rw [f_off_s _ _ _ k0]; simp [hr, he]
  have e2 := f_off_le e1 (24 - k.toNat)
  rw [show (k + 1).toNat + (24 - k.toNat) = 25 by omega, h] at e2
  cases e2
theorem f_pu_at {k l t : Int} (h : f_pu k l t ≠ -1) : (0 ≤ l + k % 5 ∧ l + k % 5 < 12) ∧ (0 ≤ t + k / 5 ∧ t + k / 5 < 12) ∧ f_pu k l t = (t + k / 5) * 12 + (l + k % 5) := by
  unfold f_pu f_pl at h ⊢
  by_cases hc : 0 ≤ l + k % 5 ∧ l + k % 5 < 12 ∧ 0 ≤ t + k / 5 ∧ t + k / 5 < 12
  · rw [if_pos hc]
    exact ⟨⟨hc.1, hc.2.1⟩, ⟨hc.2.2.1, hc.2.2.2⟩, rfl⟩
  · rw [if_neg hc] at h
    exact absurd rfl h
theorem sv_pp_skip {f g r : Int → Int} {l t k : Int} (h : sv_pp f g r l t k.toNat) (k0 : 0 ≤ k) (hr : ¬ 0 < r k) : sv_pp f g r l t (k + 1).toNat := by
  obtain ⟨h1, h2, h3, h4⟩ := h
  refine ⟨?_, ?_, ?_, h4⟩
  · rw [f_emb_s _ _ _ _ k0, if_neg (fun z => hr z.1)]; exact h1
  · rw [f_stk_s _ _ _ _ _ k0, if_neg (fun z => hr z.1)]; exact h2
  · rw [f_prs_s _ _ _ _ k0, if_neg (fun z => hr z.1)]; exact h3
theorem sv_pp_step {f g g2 r : Int → Int} {l t k p : Int} (h : sv_pp f g r l t k.toNat) (k0 : 0 ≤ k) (hr : 0 < r k) (hp : f_pu k l t = p) (p0 : 0 ≤ p) (p1 : p < 144)
    (hg : ∀ i : Int, g2 i = if i = 91 + p then max (g (91 + p)) (r k) else if i = 235 + p then (if f_ov (vS g) p then g 8 else g (235 + p)) else if i = 523 + p then wr (g (523 + p) + 1) else g i) : sv_pp f g2 r l t (k + 1).toNat := by
  have hS := (sv_pp_o h).2.2.2
  obtain ⟨h1, h2, h3, h4⟩ := h
  refine ⟨?_, ?_, ?_, fun i a1 a2 => by rw [hg, if_neg (by omega), if_neg (by omega), if_neg (by omega)]; exact h4 i a1 a2⟩
  · rw [f_emb_s _ _ _ _ k0, if_pos ⟨hr, by omega⟩, hp, ← h1]
    funext q
    by_cases hq : 0 ≤ q ∧ q < 144
    · rw [← vD_in g2 hq.1 hq.2, hg]
      by_cases e : q = p
      · subst e; rw [if_pos rfl, if_pos rfl, vD_in g hq.1 hq.2]
      · rw [if_neg (by omega), if_neg (by omega), if_neg (by omega), if_neg e, vD_in g hq.1 hq.2]
    · rw [if_neg (by omega)]
      exact (cut_out hq).trans (cut_out hq).symm
  · rw [f_stk_s _ _ _ _ _ k0, ← h2, ← hS]
    by_cases ho : f_ov (vS g) p
    · rw [if_pos ⟨hr, by omega, by rw [hp]; exact ho⟩, hp]
      funext q
      by_cases hq : 0 ≤ q ∧ q < 144
      · rw [← vF_in g2 hq.1 hq.2, hg]
        by_cases e : q = p
        · subst e; rw [if_neg (by omega), if_pos rfl, if_pos ho, if_pos rfl]; rfl
        · rw [if_neg (by omega), if_neg (by omega), if_neg (by omega), if_neg e, vF_in g hq.1 hq.2]
      · rw [if_neg (by omega)]
        exact (cut_out hq).trans (cut_out hq).symm
    · rw [if_neg (fun z => ho (by rw [← hp]; exact z.2.2))]
      exact cut_cg fun q q0 q1 => by
        rw [hg]
        by_cases e : q = p
        · subst e; rw [if_neg (by omega), if_pos rfl, if_neg ho]
        · rw [if_neg (by omega), if_neg (by omega), if_neg (by omega)]
  · rw [f_prs_s _ _ _ _ k0, if_pos ⟨hr, by omega⟩, hp, ← h3]
    funext q
    by_cases hq : 0 ≤ q ∧ q < 144
    · rw [← vP_in g2 hq.1 hq.2, hg]
      by_cases e : q = p
      · subst e; rw [if_neg (by omega), if_neg (by omega), if_pos rfl, if_pos rfl, vP_in g hq.1 hq.2]
      · rw [if_neg (by omega), if_neg (by omega), if_neg (by omega), if_neg e, vP_in g hq.1 hq.2]
    · rw [if_neg (by omega)]
      exact (cut_out hq).trans (cut_out hq).symm
/-- rows that are the same from 16 on -/
theorem sv_hi {f g : Int → Int} (h : ∀ i : Int, 16 ≤ i → g i = f i) : vD g = vD f ∧ vF g = vF f ∧ vC g = vC f ∧ vP g = vP f ∧ vQ g = vQ f :=
  ⟨cut_cg fun k k0 k1 => h _ (by omega), cut_cg fun k k0 k1 => h _ (by omega), cut_cg fun k k0 k1 => h _ (by omega), cut_cg fun k k0 k1 => h _ (by omega), cut_cg fun k k0 k1 => h _ (by omega)⟩
theorem sv_hiI {f g : Int → Int} (h : ∀ i : Int, 16 ≤ i → g i = f i) (hi : svI f) (g0 : 0 ≤ g 0 ∧ g 0 ≤ 99) (g1 : 0 ≤ g 1 ∧ g 1 ≤ 20) (g2 : 1 ≤ g 2 ∧ g 2 ≤ 9) (g3 : 0 ≤ g 3 ∧ g 3 ≤ 9) (g4 : 0 ≤ g 4 ∧ g 4 ≤ 3) (g8 : 0 ≤ g 8 ∧ g 8 ≤ 9) : svI g := by
  obtain ⟨e1, e2, e3, e4, e5⟩ := sv_hi h
  unfold svI
  rw [e1, e3, e5, e2]
  exact ⟨hi.1, hi.2.1, hi.2.2.1, g0, g1, g2, g3, g4, g8, hi.2.2.2.2.2.2.2.2.2⟩
/-- the number told for 'off the sheet' -/
def f_on (r : Int → Int) (left top : Int) : Nat → Int
  | 0 => 0
  | n + 1 => if f_on r left top n ≠ 0 ∨ (0 < r n ∧ f_pu n left top = -1) then 1 else 0
theorem f_on_s (r : Int → Int) (left top : Int) {k : Int} (h : 0 ≤ k) : f_on r left top (k + 1).toNat = if f_on r left top k.toNat ≠ 0 ∨ (0 < r k ∧ f_pu k left top = -1) then 1 else 0 := by
  rw [show (k + 1).toNat = k.toNat + 1 by omega, f_on, show (k.toNat : Int) = k by omega]
theorem f_on_eq (r : Int → Int) (left top : Int) : ∀ n : Nat, f_on r left top n = if f_off r left top n = true then 1 else 0 := by
  intro n
  induction n with
  | zero => rfl
  | succ n ih =>
    rw [f_on, f_off, ih]
    cases f_off r left top n <;> by_cases h1 : 0 < r n <;> by_cases h2 : f_pu n left top = -1 <;> simp [h1, h2]
theorem wr_plus0 {y c : Int} (y1 : -2147483648 ≤ y) (y2 : y < 2147483648) (c0 : 0 ≤ c) (c4 : c ≤ 4) : (0 ≤ wr (y + c) ∧ wr (y + c) ≤ 11) ↔ (0 ≤ y + c ∧ y + c ≤ 11) := by
  have := wr_plus (s := 0) y1 y2 (by omega) (by omega) c0 c4
  rwa [show y + 0 + c = y + c by omega] at this
set_option maxRecDepth 100000 in
set_option maxHeartbeats 4000000 in
theorem c_X5_reason (l : Launch) (E : ewE) (M : ewM) (h0 : svI (M 89)) (a : Int) (ha : 0 ≤ a ∧ a < 3) (x y : Int) (x1 : -2147483648 ≤ x) (x2 : x < 2147483648) (y1 : -2147483648 ≤ y) (y2 : y < 2147483648) (t : Int) (ht : 0 ≤ t ∧ t < 8) : Ct l E yX5_reason (.code yX5_reason cX5_reason 10 (some .int)) 3 [vR E 88, vI a, vI x, vI y, vI t] M (fun v M1 => v = some (vI (f_rsn (f_rel (vQ (M 89)) a t) (x + M 89 4) y (M 89 2))) ∧ M = M1) := by
  refine ct_of (L0 := [(0, vR E 88), (1, vI a), (2, vI x), (3, vI y), (4, vI t)]) (by decide +kernel) rfl (Nat.le_of_ble_eq_true rfl) ?_
  intro zp ze zs zm za zb zt zc zA hC
  obtain ⟨p1, p2, p3, p4, p5, p6, p7, p8, p9, pf⟩ := id h0
  have K12 : ∀ (n : Nat) (k off deep any mx on : Int), 25 - k < n → 0 ≤ k → k ≤ 25 → mx = f_max (f_rel (vQ (M 89)) a t) k.toNat → on = f_on (f_rel (vQ (M 89)) a t) (x + M 89 4) y k.toNat → ((any = 0 ∧ mx = 0) ∨ (any = 1 ∧ 0 < mx)) → ((deep = 0 ∧ mx ≤ M 89 2) ∨ (deep = 1 ∧ M 89 2 < mx)) → off = on → (on = 0 ∨ on = 1) → 0 ≤ mx → jJ zp l ze (ct_rm 3) zs zm za zb zt zc E zA 10 0 0 (MQ zb (ct_Q E zA (fun v M1 => v = some (vI (f_rsn (f_rel (vQ (M 89)) a t) (x + M 89 4) y (M 89 2))) ∧ M = M1)) za zs 0 0 zA) 12 [(0, vR E 88), (1, vI a), (2, vI x), (3, vI y), (4, vI t), (5, vI off), (6, vI deep), (7, vI any), (8, vI k)] [] M := by
    intro n
    induction n with
    | zero => intros; omega
    | succ n ih =>
      intro k off deep any mx on i1 i2 i3 hmx hon ha9 hd9 ho9 ho8 hm0
      refine jw_iload hC dX5_reason_12 8 rfl ?_
      refine jw_bipush hC dX5_reason_14 (by decide) ?_
      refine jw_icmp_ge (tgt := 124) hC dX5_reason_16 (by decide) (by omega) (by omega) (by omega) (by omega) (fun h16 => ?_) (fun h16 => ?_)
      · skip
        refine jw_iload hC dX5_reason_124 5 rfl ?_
        refine jw_if_eq (tgt := 133) hC dX5_reason_126 (by decide) (by omega) (by omega) (fun h126 => ?_) (fun h126 => ?_)
        · skip
          refine jw_iload hC dX5_reason_133 6 rfl ?_
          refine jw_if_eq (tgt := 142) hC dX5_reason_135 (by decide) (by omega) (by omega) (fun h135 => ?_) (fun h135 => ?_)
          · skip
            refine jw_iload hC dX5_reason_142 7 rfl ?_
            refine jw_if_eq (tgt := 151) hC dX5_reason_144 (by decide) (by omega) (by omega) (fun h144 => ?_) (fun h144 => ?_)
            · skip
              refine jw_iconst hC dX5_reason_151 ?_
              refine jw_iret hC dX5_reason_152 ?_
              refine ⟨?_, rfl⟩
              have e9 : k = 25 := by omega
              subst e9
              have hon9 : on = f_on (f_rel (vQ (M 89)) a t) (x + M 89 4) y 25 := hon
              have hmx9 : mx = f_max (f_rel (vQ (M 89)) a t) 25 := hmx
              rw [f_on_eq] at hon9
              unfold f_rsn
              rw [← hmx9]
              cases hof : f_off (f_rel (vQ (M 89)) a t) (x + M 89 4) y 25 with
              | true =>
                rw [hof, if_pos rfl] at hon9
                rw [if_pos rfl]
                all_goals
                  congr 2
                  omega
              | false =>
                rw [hof, if_neg (by decide)] at hon9
                rw [if_neg (by decide)]
                first
                | (exfalso; omega)
                | rw [if_pos (by omega)]
                | rw [if_neg (by omega), if_pos (by omega)]
                | rw [if_neg (by omega), if_neg (by omega)]
            · skip
              refine jw_iconst hC dX5_reason_147 ?_
              refine jw_goto (tgt := 152) hC dX5_reason_148 (by decide) ?_
              refine jw_iret hC dX5_reason_152 ?_
              refine ⟨?_, rfl⟩
              have e9 : k = 25 := by omega
              subst e9
              have hon9 : on = f_on (f_rel (vQ (M 89)) a t) (x + M 89 4) y 25 := hon
              have hmx9 : mx = f_max (f_rel (vQ (M 89)) a t) 25 := hmx
              rw [f_on_eq] at hon9
              unfold f_rsn
              rw [← hmx9]
              cases hof : f_off (f_rel (vQ (M 89)) a t) (x + M 89 4) y 25 with
              | true =>
                rw [hof, if_pos rfl] at hon9
                rw [if_pos rfl]
                all_goals
                  congr 2
                  omega
              | false =>
                rw [hof, if_neg (by decide)] at hon9
                rw [if_neg (by decide)]
                first
                | (exfalso; omega)
                | rw [if_pos (by omega)]
                | rw [if_neg (by omega), if_pos (by omega)]
                | rw [if_neg (by omega), if_neg (by omega)]
          · skip
            refine jw_iconst hC dX5_reason_138 ?_
            refine jw_goto (tgt := 152) hC dX5_reason_139 (by decide) ?_
            refine jw_iret hC dX5_reason_152 ?_
            refine ⟨?_, rfl⟩
            have e9 : k = 25 := by omega
            subst e9
            have hon9 : on = f_on (f_rel (vQ (M 89)) a t) (x + M 89 4) y 25 := hon
            have hmx9 : mx = f_max (f_rel (vQ (M 89)) a t) 25 := hmx
            rw [f_on_eq] at hon9
            unfold f_rsn
            rw [← hmx9]
            cases hof : f_off (f_rel (vQ (M 89)) a t) (x + M 89 4) y 25 with
            | true =>
              rw [hof, if_pos rfl] at hon9
              rw [if_pos rfl]
              all_goals
                congr 2
                omega
            | false =>
              rw [hof, if_neg (by decide)] at hon9
              rw [if_neg (by decide)]
              first
              | (exfalso; omega)
              | rw [if_pos (by omega)]
              | rw [if_neg (by omega), if_pos (by omega)]
              | rw [if_neg (by omega), if_neg (by omega)]
        · skip
          refine jw_iconst hC dX5_reason_129 ?_
          refine jw_goto (tgt := 152) hC dX5_reason_130 (by decide) ?_
          refine jw_iret hC dX5_reason_152 ?_
          refine ⟨?_, rfl⟩
          have e9 : k = 25 := by omega
          subst e9
          have hon9 : on = f_on (f_rel (vQ (M 89)) a t) (x + M 89 4) y 25 := hon
          have hmx9 : mx = f_max (f_rel (vQ (M 89)) a t) 25 := hmx
          rw [f_on_eq] at hon9
          unfold f_rsn
          rw [← hmx9]
          cases hof : f_off (f_rel (vQ (M 89)) a t) (x + M 89 4) y 25 with
          | true =>
            rw [hof, if_pos rfl] at hon9
            rw [if_pos rfl]
            all_goals
              congr 2
              omega
          | false =>
            rw [hof, if_neg (by decide)] at hon9
            rw [if_neg (by decide)]
            first
            | (exfalso; omega)
            | rw [if_pos (by omega)]
            | rw [if_neg (by omega), if_pos (by omega)]
            | rw [if_neg (by omega), if_neg (by omega)]
      · skip
        refine jw_aload_n hC dX5_reason_19 0 rfl rfl ?_
        refine jw_iload_n hC dX5_reason_20 1 rfl rfl ?_
        refine jw_iload hC dX5_reason_21 8 rfl ?_
        refine jw_iconst hC dX5_reason_23 ?_
        refine jw_irem hC dX5_reason_24 (by omega) (by omega) (by omega) (by omega) ?_
        refine jw_iload hC dX5_reason_25 8 rfl ?_
        refine jw_iconst hC dX5_reason_27 ?_
        refine jw_idiv hC dX5_reason_28 (by omega) (by omega) (by omega) (by omega) ?_
        refine jw_iload hC dX5_reason_29 4 rfl ?_
        refine jw_callV hC (c_X5_turned l E M _ _ _ _ ha ⟨by omega, by omega⟩ ⟨by omega, by omega⟩ ht) sV_X5_80 ewF_m0.o dX5_reason_31 rfl rfl ⟨Nat.le_of_ble_eq_true rfl, Nat.le_of_ble_eq_true rfl⟩ ⟨Nat.zero_le _, Nat.zero_le _⟩ (Nat.le_of_ble_eq_true rfl) (fun v31 M31 g31 => ?_)
        obtain ⟨rfl, rfl⟩ := g31
        have hrk := f_rel_D p3 a t k
        rw [show f_tp (vQ (M 89)) a (k % 5) (k / 5) t = f_rel (vQ (M 89)) a t k from rfl]
        refine jw_istore (L' := [(9, _), (0, _), (1, _), (2, _), (3, _), (4, _), (5, _), (6, _), (7, _), (8, _)]) hC dX5_reason_34 (by decide) rfl ?_
        refine jw_iload hC dX5_reason_36 8 rfl ?_
        refine jw_if_ne (tgt := 46) hC dX5_reason_38 (by decide) (by omega) (by omega) (fun h38 => ?_) (fun h38 => ?_)
        · skip
          refine jw_iconst hC dX5_reason_46 ?_
          refine jw_goto (tgt := 51) hC dX5_reason_47 (by decide) ?_
          refine jw_istore (L' := [(7, _), (9, _), (0, _), (1, _), (2, _), (3, _), (4, _), (5, _), (6, _), (8, _)]) hC dX5_reason_51 (by decide) rfl ?_
          refine jw_iload hC dX5_reason_53 8 rfl ?_
          refine jw_if_ne (tgt := 69) hC dX5_reason_55 (by decide) (by omega) (by omega) (fun h55 => ?_) (fun h55 => ?_)
          · skip
            refine jw_iconst hC dX5_reason_69 ?_
            refine jw_goto (tgt := 74) hC dX5_reason_70 (by decide) ?_
            refine jw_istore (L' := [(6, _), (7, _), (9, _), (0, _), (1, _), (2, _), (3, _), (4, _), (5, _), (8, _)]) hC dX5_reason_74 (by decide) rfl ?_
            refine jw_iload hC dX5_reason_76 8 rfl ?_
            refine jw_if_ne (tgt := 111) hC dX5_reason_78 (by decide) (by omega) (by omega) (fun h78 => ?_) (fun h78 => ?_)
            · skip
              refine jw_iconst hC dX5_reason_111 ?_
              refine jw_goto (tgt := 116) hC dX5_reason_112 (by decide) ?_
              refine jw_istore (L' := [(5, _), (6, _), (7, _), (9, _), (0, _), (1, _), (2, _), (3, _), (4, _), (8, _)]) hC dX5_reason_116 (by decide) rfl ?_
              refine jw_iinc (L' := [(8, _), (5, _), (6, _), (7, _), (9, _), (0, _), (1, _), (2, _), (3, _), (4, _)]) hC dX5_reason_118 9 rfl (by decide) rfl ?_
              refine jw_goto (tgt := 12) hC dX5_reason_121 (by decide) ?_
              refine jw_loc (L' := [(0, _), (1, _), (2, _), (3, _), (4, _), (5, _), (6, _), (7, _), (8, _)]) [5, 6, 7, 8, 9, 1, 2, 3, 0] rfl ?_
              have hos := f_on_s (f_rel (vQ (M 89)) a t) (x + M 89 4) y i2
              rw [← hon] at hos
              have hms := f_max_s (f_rel (vQ (M 89)) a t) i2
              rw [← hmx] at hms
              first
              | (rw [if_pos (by omega)] at hos
                 exact ih (k + 1) _ _ _ (max mx (f_rel (vQ (M 89)) a t k)) 1 (by omega) (by omega) (by omega) hms.symm hos.symm (by omega) (by omega) (by omega) (by omega) (by omega))
              | (rw [if_neg (by omega)] at hos
                 exact ih (k + 1) _ _ _ (max mx (f_rel (vQ (M 89)) a t k)) 0 (by omega) (by omega) (by omega) hms.symm hos.symm (by omega) (by omega) (by omega) (by omega) (by omega))
              | (have hcp : f_pu k (x + M 89 4) y = -1 := Decidable.by_contra (fun z => by rw [if_neg z] at h108; omega)
                 rw [if_pos (by omega)] at hos
                 exact ih (k + 1) _ _ _ (max mx (f_rel (vQ (M 89)) a t k)) 1 (by omega) (by omega) (by omega) hms.symm hos.symm (by omega) (by omega) (by omega) (by omega) (by omega))
              | (have hcp : ¬ f_pu k (x + M 89 4) y = -1 := fun z => by rw [if_pos z] at h108; omega
                 rw [if_neg (by omega)] at hos
                 exact ih (k + 1) _ _ _ (max mx (f_rel (vQ (M 89)) a t k)) 0 (by omega) (by omega) (by omega) hms.symm hos.symm (by omega) (by omega) (by omega) (by omega) (by omega))
            · skip
              refine jw_iload hC dX5_reason_81 2 rfl ?_
              refine jw_if_le (tgt := 115) hC dX5_reason_83 (by decide) (by omega) (by omega) (fun h83 => ?_) (fun h83 => ?_)
              · skip
                refine jw_iconst hC dX5_reason_115 ?_
                refine jw_istore (L' := [(5, _), (6, _), (7, _), (9, _), (0, _), (1, _), (2, _), (3, _), (4, _), (8, _)]) hC dX5_reason_116 (by decide) rfl ?_
                refine jw_iinc (L' := [(8, _), (5, _), (6, _), (7, _), (9, _), (0, _), (1, _), (2, _), (3, _), (4, _)]) hC dX5_reason_118 9 rfl (by decide) rfl ?_
                refine jw_goto (tgt := 12) hC dX5_reason_121 (by decide) ?_
                refine jw_loc (L' := [(0, _), (1, _), (2, _), (3, _), (4, _), (5, _), (6, _), (7, _), (8, _)]) [5, 6, 7, 8, 9, 1, 2, 3, 0] rfl ?_
                have hos := f_on_s (f_rel (vQ (M 89)) a t) (x + M 89 4) y i2
                rw [← hon] at hos
                have hms := f_max_s (f_rel (vQ (M 89)) a t) i2
                rw [← hmx] at hms
                first
                | (rw [if_pos (by omega)] at hos
                   exact ih (k + 1) _ _ _ (max mx (f_rel (vQ (M 89)) a t k)) 1 (by omega) (by omega) (by omega) hms.symm hos.symm (by omega) (by omega) (by omega) (by omega) (by omega))
                | (rw [if_neg (by omega)] at hos
                   exact ih (k + 1) _ _ _ (max mx (f_rel (vQ (M 89)) a t k)) 0 (by omega) (by omega) (by omega) hms.symm hos.symm (by omega) (by omega) (by omega) (by omega) (by omega))
                | (have hcp : f_pu k (x + M 89 4) y = -1 := Decidable.by_contra (fun z => by rw [if_neg z] at h108; omega)
                   rw [if_pos (by omega)] at hos
                   exact ih (k + 1) _ _ _ (max mx (f_rel (vQ (M 89)) a t k)) 1 (by omega) (by omega) (by omega) hms.symm hos.symm (by omega) (by omega) (by omega) (by omega) (by omega))
                | (have hcp : ¬ f_pu k (x + M 89 4) y = -1 := fun z => by rw [if_pos z] at h108; omega
                   rw [if_neg (by omega)] at hos
                   exact ih (k + 1) _ _ _ (max mx (f_rel (vQ (M 89)) a t k)) 0 (by omega) (by omega) (by omega) hms.symm hos.symm (by omega) (by omega) (by omega) (by omega) (by omega))
              · skip
                refine jw_iload_n hC dX5_reason_86 5 rfl rfl ?_
                refine jw_aload_n hC dX5_reason_87 3 rfl rfl ?_
                refine jw_getr hC fL_X5_7 ewR_m1 dX5_reason_88 ?_
                refine jw_iconst hC dX5_reason_91 ?_
                refine jw_iald hC ewA_89 dX5_reason_92 (by omega) (by omega) (by decide) (fun b92 c92 => ?_)
                refine jw_iadd hC dX5_reason_93 ?_
                refine jw_iload hC dX5_reason_94 9 rfl ?_
                refine jw_iconst hC dX5_reason_96 ?_
                refine jw_irem hC dX5_reason_97 (by omega) (by omega) (by omega) (by omega) ?_
                refine jw_iadd hC dX5_reason_98 ?_
                refine jw_iload_n hC dX5_reason_99 6 rfl rfl ?_
                refine jw_iload hC dX5_reason_100 9 rfl ?_
                refine jw_iconst hC dX5_reason_102 ?_
                refine jw_idiv hC dX5_reason_103 (by omega) (by omega) (by omega) (by omega) ?_
                refine jw_iadd hC dX5_reason_104 ?_
                rw [← vI_wr (x + M 89 4 + k % 5), ← vI_wr (y + k / 5)]
                refine jw_callS hC (c_X5_isPlace l E M _ _ (wr_b1 _) (wr_b2 _) (wr_b1 _) (wr_b2 _)) sS_X5_53 dX5_reason_105 rfl rfl ⟨Nat.le_of_ble_eq_true rfl, Nat.le_of_ble_eq_true rfl⟩ ⟨Nat.zero_le _, Nat.zero_le _⟩ (Nat.le_of_ble_eq_true rfl) (fun v105 M105 g105 => ?_)
                obtain ⟨rfl, rfl⟩ := g105
                have w1 := wr_plus x1 x2 p8.1 p8.2 (c := k % 5) (by omega) (by omega)
                have w2 := wr_plus0 y1 y2 (c := k / 5) (by omega) (by omega)
                have hpq : f_pu k (x + M 89 4) y = -1 ↔ ¬ ((0 ≤ wr (x + M 89 4 + k % 5) ∧ wr (x + M 89 4 + k % 5) ≤ 11) ∧ (0 ≤ wr (y + k / 5) ∧ wr (y + k / 5) ≤ 11)) := by
                  rw [w1, w2]
                  unfold f_pu f_pl
                  split <;> omega
                have hz105 : (if ((0 ≤ wr (x + M 89 4 + k % 5) ∧ wr (x + M 89 4 + k % 5) ≤ 11) ∧ (0 ≤ wr (y + k / 5) ∧ wr (y + k / 5) ≤ 11)) then (1 : Int) else 0) = if f_pu k (x + M 89 4) y = -1 then 0 else 1 := by
                  by_cases hc : f_pu k (x + M 89 4) y = -1
                  · rw [if_pos hc, if_neg (hpq.mp hc)]
                  · rw [if_neg hc, if_pos (Decidable.by_contra (fun z => hc (hpq.mpr z)))]
                rw [hz105]
                have hz2 : (if f_pu k (x + M 89 4) y = -1 then (0 : Int) else 1) = 0 ∨ (if f_pu k (x + M 89 4) y = -1 then (0 : Int) else 1) = 1 := by split <;> omega
                refine jw_if_ne (tgt := 115) hC dX5_reason_108 (by decide) (by omega) (by omega) (fun h108 => ?_) (fun h108 => ?_)
                · skip
                  refine jw_iconst hC dX5_reason_115 ?_
                  refine jw_istore (L' := [(5, _), (6, _), (7, _), (9, _), (0, _), (1, _), (2, _), (3, _), (4, _), (8, _)]) hC dX5_reason_116 (by decide) rfl ?_
                  refine jw_iinc (L' := [(8, _), (5, _), (6, _), (7, _), (9, _), (0, _), (1, _), (2, _), (3, _), (4, _)]) hC dX5_reason_118 9 rfl (by decide) rfl ?_
                  refine jw_goto (tgt := 12) hC dX5_reason_121 (by decide) ?_
                  refine jw_loc (L' := [(0, _), (1, _), (2, _), (3, _), (4, _), (5, _), (6, _), (7, _), (8, _)]) [5, 6, 7, 8, 9, 1, 2, 3, 0] rfl ?_
                  have hos := f_on_s (f_rel (vQ (M 89)) a t) (x + M 89 4) y i2
                  rw [← hon] at hos
                  have hms := f_max_s (f_rel (vQ (M 89)) a t) i2
                  rw [← hmx] at hms
                  first
                  | (rw [if_pos (by omega)] at hos
                     exact ih (k + 1) _ _ _ (max mx (f_rel (vQ (M 89)) a t k)) 1 (by omega) (by omega) (by omega) hms.symm hos.symm (by omega) (by omega) (by omega) (by omega) (by omega))
                  | (rw [if_neg (by omega)] at hos
                     exact ih (k + 1) _ _ _ (max mx (f_rel (vQ (M 89)) a t k)) 0 (by omega) (by omega) (by omega) hms.symm hos.symm (by omega) (by omega) (by omega) (by omega) (by omega))
                  | (have hcp : f_pu k (x + M 89 4) y = -1 := Decidable.by_contra (fun z => by rw [if_neg z] at h108; omega)
                     rw [if_pos (by omega)] at hos
                     exact ih (k + 1) _ _ _ (max mx (f_rel (vQ (M 89)) a t k)) 1 (by omega) (by omega) (by omega) hms.symm hos.symm (by omega) (by omega) (by omega) (by omega) (by omega))
                  | (have hcp : ¬ f_pu k (x + M 89 4) y = -1 := fun z => by rw [if_pos z] at h108; omega
                     rw [if_neg (by omega)] at hos
                     exact ih (k + 1) _ _ _ (max mx (f_rel (vQ (M 89)) a t k)) 0 (by omega) (by omega) (by omega) hms.symm hos.symm (by omega) (by omega) (by omega) (by omega) (by omega))
                · skip
                  refine jw_iconst hC dX5_reason_111 ?_
                  refine jw_goto (tgt := 116) hC dX5_reason_112 (by decide) ?_
                  refine jw_istore (L' := [(5, _), (6, _), (7, _), (9, _), (0, _), (1, _), (2, _), (3, _), (4, _), (8, _)]) hC dX5_reason_116 (by decide) rfl ?_
                  refine jw_iinc (L' := [(8, _), (5, _), (6, _), (7, _), (9, _), (0, _), (1, _), (2, _), (3, _), (4, _)]) hC dX5_reason_118 9 rfl (by decide) rfl ?_
                  refine jw_goto (tgt := 12) hC dX5_reason_121 (by decide) ?_
                  refine jw_loc (L' := [(0, _), (1, _), (2, _), (3, _), (4, _), (5, _), (6, _), (7, _), (8, _)]) [5, 6, 7, 8, 9, 1, 2, 3, 0] rfl ?_
                  have hos := f_on_s (f_rel (vQ (M 89)) a t) (x + M 89 4) y i2
                  rw [← hon] at hos
                  have hms := f_max_s (f_rel (vQ (M 89)) a t) i2
                  rw [← hmx] at hms
                  first
                  | (rw [if_pos (by omega)] at hos
                     exact ih (k + 1) _ _ _ (max mx (f_rel (vQ (M 89)) a t k)) 1 (by omega) (by omega) (by omega) hms.symm hos.symm (by omega) (by omega) (by omega) (by omega) (by omega))
                  | (rw [if_neg (by omega)] at hos
                     exact ih (k + 1) _ _ _ (max mx (f_rel (vQ (M 89)) a t k)) 0 (by omega) (by omega) (by omega) hms.symm hos.symm (by omega) (by omega) (by omega) (by omega) (by omega))
                  | (have hcp : f_pu k (x + M 89 4) y = -1 := Decidable.by_contra (fun z => by rw [if_neg z] at h108; omega)
                     rw [if_pos (by omega)] at hos
                     exact ih (k + 1) _ _ _ (max mx (f_rel (vQ (M 89)) a t k)) 1 (by omega) (by omega) (by omega) hms.symm hos.symm (by omega) (by omega) (by omega) (by omega) (by omega))
                  | (have hcp : ¬ f_pu k (x + M 89 4) y = -1 := fun z => by rw [if_pos z] at h108; omega
                     rw [if_neg (by omega)] at hos
                     exact ih (k + 1) _ _ _ (max mx (f_rel (vQ (M 89)) a t k)) 0 (by omega) (by omega) (by omega) hms.symm hos.symm (by omega) (by omega) (by omega) (by omega) (by omega))
          · skip
            refine jw_iload hC dX5_reason_58 1 rfl ?_
            refine jw_aload_n hC dX5_reason_60 2 rfl rfl ?_
            refine jw_getr hC fL_X5_7 ewR_m1 dX5_reason_61 ?_
            refine jw_iconst hC dX5_reason_64 ?_
            refine jw_iald hC ewA_89 dX5_reason_65 (by omega) (by omega) (by decide) (fun b65 c65 => ?_)
            refine jw_icmp_le (tgt := 73) hC dX5_reason_66 (by decide) (by omega) (by omega) (by omega) (by omega) (fun h66 => ?_) (fun h66 => ?_)
            · skip
              refine jw_iconst hC dX5_reason_73 ?_
              refine jw_istore (L' := [(6, _), (7, _), (9, _), (0, _), (1, _), (2, _), (3, _), (4, _), (5, _), (8, _)]) hC dX5_reason_74 (by decide) rfl ?_
              refine jw_iload hC dX5_reason_76 8 rfl ?_
              refine jw_if_ne (tgt := 111) hC dX5_reason_78 (by decide) (by omega) (by omega) (fun h78 => ?_) (fun h78 => ?_)
              · skip
                refine jw_iconst hC dX5_reason_111 ?_
                refine jw_goto (tgt := 116) hC dX5_reason_112 (by decide) ?_
                refine jw_istore (L' := [(5, _), (6, _), (7, _), (9, _), (0, _), (1, _), (2, _), (3, _), (4, _), (8, _)]) hC dX5_reason_116 (by decide) rfl ?_
                refine jw_iinc (L' := [(8, _), (5, _), (6, _), (7, _), (9, _), (0, _), (1, _), (2, _), (3, _), (4, _)]) hC dX5_reason_118 9 rfl (by decide) rfl ?_
                refine jw_goto (tgt := 12) hC dX5_reason_121 (by decide) ?_
                refine jw_loc (L' := [(0, _), (1, _), (2, _), (3, _), (4, _), (5, _), (6, _), (7, _), (8, _)]) [5, 6, 7, 8, 9, 1, 2, 3, 0] rfl ?_
                have hos := f_on_s (f_rel (vQ (M 89)) a t) (x + M 89 4) y i2
                rw [← hon] at hos
                have hms := f_max_s (f_rel (vQ (M 89)) a t) i2
                rw [← hmx] at hms
                first
                | (rw [if_pos (by omega)] at hos
                   exact ih (k + 1) _ _ _ (max mx (f_rel (vQ (M 89)) a t k)) 1 (by omega) (by omega) (by omega) hms.symm hos.symm (by omega) (by omega) (by omega) (by omega) (by omega))
                | (rw [if_neg (by omega)] at hos
                   exact ih (k + 1) _ _ _ (max mx (f_rel (vQ (M 89)) a t k)) 0 (by omega) (by omega) (by omega) hms.symm hos.symm (by omega) (by omega) (by omega) (by omega) (by omega))
                | (have hcp : f_pu k (x + M 89 4) y = -1 := Decidable.by_contra (fun z => by rw [if_neg z] at h108; omega)
                   rw [if_pos (by omega)] at hos
                   exact ih (k + 1) _ _ _ (max mx (f_rel (vQ (M 89)) a t k)) 1 (by omega) (by omega) (by omega) hms.symm hos.symm (by omega) (by omega) (by omega) (by omega) (by omega))
                | (have hcp : ¬ f_pu k (x + M 89 4) y = -1 := fun z => by rw [if_pos z] at h108; omega
                   rw [if_neg (by omega)] at hos
                   exact ih (k + 1) _ _ _ (max mx (f_rel (vQ (M 89)) a t k)) 0 (by omega) (by omega) (by omega) hms.symm hos.symm (by omega) (by omega) (by omega) (by omega) (by omega))
              · skip
                refine jw_iload hC dX5_reason_81 2 rfl ?_
                refine jw_if_le (tgt := 115) hC dX5_reason_83 (by decide) (by omega) (by omega) (fun h83 => ?_) (fun h83 => ?_)
                · skip
                  refine jw_iconst hC dX5_reason_115 ?_
                  refine jw_istore (L' := [(5, _), (6, _), (7, _), (9, _), (0, _), (1, _), (2, _), (3, _), (4, _), (8, _)]) hC dX5_reason_116 (by decide) rfl ?_
                  refine jw_iinc (L' := [(8, _), (5, _), (6, _), (7, _), (9, _), (0, _), (1, _), (2, _), (3, _), (4, _)]) hC dX5_reason_118 9 rfl (by decide) rfl ?_
                  refine jw_goto (tgt := 12) hC dX5_reason_121 (by decide) ?_
                  refine jw_loc (L' := [(0, _), (1, _), (2, _), (3, _), (4, _), (5, _), (6, _), (7, _), (8, _)]) [5, 6, 7, 8, 9, 1, 2, 3, 0] rfl ?_
                  have hos := f_on_s (f_rel (vQ (M 89)) a t) (x + M 89 4) y i2
                  rw [← hon] at hos
                  have hms := f_max_s (f_rel (vQ (M 89)) a t) i2
                  rw [← hmx] at hms
                  first
                  | (rw [if_pos (by omega)] at hos
                     exact ih (k + 1) _ _ _ (max mx (f_rel (vQ (M 89)) a t k)) 1 (by omega) (by omega) (by omega) hms.symm hos.symm (by omega) (by omega) (by omega) (by omega) (by omega))
                  | (rw [if_neg (by omega)] at hos
                     exact ih (k + 1) _ _ _ (max mx (f_rel (vQ (M 89)) a t k)) 0 (by omega) (by omega) (by omega) hms.symm hos.symm (by omega) (by omega) (by omega) (by omega) (by omega))
                  | (have hcp : f_pu k (x + M 89 4) y = -1 := Decidable.by_contra (fun z => by rw [if_neg z] at h108; omega)
                     rw [if_pos (by omega)] at hos
                     exact ih (k + 1) _ _ _ (max mx (f_rel (vQ (M 89)) a t k)) 1 (by omega) (by omega) (by omega) hms.symm hos.symm (by omega) (by omega) (by omega) (by omega) (by omega))
                  | (have hcp : ¬ f_pu k (x + M 89 4) y = -1 := fun z => by rw [if_pos z] at h108; omega
                     rw [if_neg (by omega)] at hos
                     exact ih (k + 1) _ _ _ (max mx (f_rel (vQ (M 89)) a t k)) 0 (by omega) (by omega) (by omega) hms.symm hos.symm (by omega) (by omega) (by omega) (by omega) (by omega))
                · skip
                  refine jw_iload_n hC dX5_reason_86 5 rfl rfl ?_
                  refine jw_aload_n hC dX5_reason_87 3 rfl rfl ?_
                  refine jw_getr hC fL_X5_7 ewR_m1 dX5_reason_88 ?_
                  refine jw_iconst hC dX5_reason_91 ?_
                  refine jw_iald hC ewA_89 dX5_reason_92 (by omega) (by omega) (by decide) (fun b92 c92 => ?_)
                  refine jw_iadd hC dX5_reason_93 ?_
                  refine jw_iload hC dX5_reason_94 9 rfl ?_
                  refine jw_iconst hC dX5_reason_96 ?_
                  refine jw_irem hC dX5_reason_97 (by omega) (by omega) (by omega) (by omega) ?_
                  refine jw_iadd hC dX5_reason_98 ?_
                  refine jw_iload_n hC dX5_reason_99 6 rfl rfl ?_
                  refine jw_iload hC dX5_reason_100 9 rfl ?_
                  refine jw_iconst hC dX5_reason_102 ?_
                  refine jw_idiv hC dX5_reason_103 (by omega) (by omega) (by omega) (by omega) ?_
                  refine jw_iadd hC dX5_reason_104 ?_
                  rw [← vI_wr (x + M 89 4 + k % 5), ← vI_wr (y + k / 5)]
                  refine jw_callS hC (c_X5_isPlace l E M _ _ (wr_b1 _) (wr_b2 _) (wr_b1 _) (wr_b2 _)) sS_X5_53 dX5_reason_105 rfl rfl ⟨Nat.le_of_ble_eq_true rfl, Nat.le_of_ble_eq_true rfl⟩ ⟨Nat.zero_le _, Nat.zero_le _⟩ (Nat.le_of_ble_eq_true rfl) (fun v105 M105 g105 => ?_)
                  obtain ⟨rfl, rfl⟩ := g105
                  have w1 := wr_plus x1 x2 p8.1 p8.2 (c := k % 5) (by omega) (by omega)
                  have w2 := wr_plus0 y1 y2 (c := k / 5) (by omega) (by omega)
                  have hpq : f_pu k (x + M 89 4) y = -1 ↔ ¬ ((0 ≤ wr (x + M 89 4 + k % 5) ∧ wr (x + M 89 4 + k % 5) ≤ 11) ∧ (0 ≤ wr (y + k / 5) ∧ wr (y + k / 5) ≤ 11)) := by
                    rw [w1, w2]
                    unfold f_pu f_pl
                    split <;> omega
                  have hz105 : (if ((0 ≤ wr (x + M 89 4 + k % 5) ∧ wr (x + M 89 4 + k % 5) ≤ 11) ∧ (0 ≤ wr (y + k / 5) ∧ wr (y + k / 5) ≤ 11)) then (1 : Int) else 0) = if f_pu k (x + M 89 4) y = -1 then 0 else 1 := by
                    by_cases hc : f_pu k (x + M 89 4) y = -1
                    · rw [if_pos hc, if_neg (hpq.mp hc)]
                    · rw [if_neg hc, if_pos (Decidable.by_contra (fun z => hc (hpq.mpr z)))]
                  rw [hz105]
                  have hz2 : (if f_pu k (x + M 89 4) y = -1 then (0 : Int) else 1) = 0 ∨ (if f_pu k (x + M 89 4) y = -1 then (0 : Int) else 1) = 1 := by split <;> omega
                  refine jw_if_ne (tgt := 115) hC dX5_reason_108 (by decide) (by omega) (by omega) (fun h108 => ?_) (fun h108 => ?_)
                  · skip
                    refine jw_iconst hC dX5_reason_115 ?_
                    refine jw_istore (L' := [(5, _), (6, _), (7, _), (9, _), (0, _), (1, _), (2, _), (3, _), (4, _), (8, _)]) hC dX5_reason_116 (by decide) rfl ?_
                    refine jw_iinc (L' := [(8, _), (5, _), (6, _), (7, _), (9, _), (0, _), (1, _), (2, _), (3, _), (4, _)]) hC dX5_reason_118 9 rfl (by decide) rfl ?_
                    refine jw_goto (tgt := 12) hC dX5_reason_121 (by decide) ?_
                    refine jw_loc (L' := [(0, _), (1, _), (2, _), (3, _), (4, _), (5, _), (6, _), (7, _), (8, _)]) [5, 6, 7, 8, 9, 1, 2, 3, 0] rfl ?_
                    have hos := f_on_s (f_rel (vQ (M 89)) a t) (x + M 89 4) y i2
                    rw [← hon] at hos
                    have hms := f_max_s (f_rel (vQ (M 89)) a t) i2
                    rw [← hmx] at hms
                    first
                    | (rw [if_pos (by omega)] at hos
                       exact ih (k + 1) _ _ _ (max mx (f_rel (vQ (M 89)) a t k)) 1 (by omega) (by omega) (by omega) hms.symm hos.symm (by omega) (by omega) (by omega) (by omega) (by omega))
                    | (rw [if_neg (by omega)] at hos
                       exact ih (k + 1) _ _ _ (max mx (f_rel (vQ (M 89)) a t k)) 0 (by omega) (by omega) (by omega) hms.symm hos.symm (by omega) (by omega) (by omega) (by omega) (by omega))
                    | (have hcp : f_pu k (x + M 89 4) y = -1 := Decidable.by_contra (fun z => by rw [if_neg z] at h108; omega)
                       rw [if_pos (by omega)] at hos
                       exact ih (k + 1) _ _ _ (max mx (f_rel (vQ (M 89)) a t k)) 1 (by omega) (by omega) (by omega) hms.symm hos.symm (by omega) (by omega) (by omega) (by omega) (by omega))
                    | (have hcp : ¬ f_pu k (x + M 89 4) y = -1 := fun z => by rw [if_pos z] at h108; omega
                       rw [if_neg (by omega)] at hos
                       exact ih (k + 1) _ _ _ (max mx (f_rel (vQ (M 89)) a t k)) 0 (by omega) (by omega) (by omega) hms.symm hos.symm (by omega) (by omega) (by omega) (by omega) (by omega))
                  · skip
                    refine jw_iconst hC dX5_reason_111 ?_
                    refine jw_goto (tgt := 116) hC dX5_reason_112 (by decide) ?_
                    refine jw_istore (L' := [(5, _), (6, _), (7, _), (9, _), (0, _), (1, _), (2, _), (3, _), (4, _), (8, _)]) hC dX5_reason_116 (by decide) rfl ?_
                    refine jw_iinc (L' := [(8, _), (5, _), (6, _), (7, _), (9, _), (0, _), (1, _), (2, _), (3, _), (4, _)]) hC dX5_reason_118 9 rfl (by decide) rfl ?_
                    refine jw_goto (tgt := 12) hC dX5_reason_121 (by decide) ?_
                    refine jw_loc (L' := [(0, _), (1, _), (2, _), (3, _), (4, _), (5, _), (6, _), (7, _), (8, _)]) [5, 6, 7, 8, 9, 1, 2, 3, 0] rfl ?_
                    have hos := f_on_s (f_rel (vQ (M 89)) a t) (x + M 89 4) y i2
                    rw [← hon] at hos
                    have hms := f_max_s (f_rel (vQ (M 89)) a t) i2
                    rw [← hmx] at hms
                    first
                    | (rw [if_pos (by omega)] at hos
                       exact ih (k + 1) _ _ _ (max mx (f_rel (vQ (M 89)) a t k)) 1 (by omega) (by omega) (by omega) hms.symm hos.symm (by omega) (by omega) (by omega) (by omega) (by omega))
                    | (rw [if_neg (by omega)] at hos
                       exact ih (k + 1) _ _ _ (max mx (f_rel (vQ (M 89)) a t k)) 0 (by omega) (by omega) (by omega) hms.symm hos.symm (by omega) (by omega) (by omega) (by omega) (by omega))
                    | (have hcp : f_pu k (x + M 89 4) y = -1 := Decidable.by_contra (fun z => by rw [if_neg z] at h108; omega)
                       rw [if_pos (by omega)] at hos
                       exact ih (k + 1) _ _ _ (max mx (f_rel (vQ (M 89)) a t k)) 1 (by omega) (by omega) (by omega) hms.symm hos.symm (by omega) (by omega) (by omega) (by omega) (by omega))
                    | (have hcp : ¬ f_pu k (x + M 89 4) y = -1 := fun z => by rw [if_pos z] at h108; omega
                       rw [if_neg (by omega)] at hos
                       exact ih (k + 1) _ _ _ (max mx (f_rel (vQ (M 89)) a t k)) 0 (by omega) (by omega) (by omega) hms.symm hos.symm (by omega) (by omega) (by omega) (by omega) (by omega))
            · skip
              refine jw_iconst hC dX5_reason_69 ?_
              refine jw_goto (tgt := 74) hC dX5_reason_70 (by decide) ?_
              refine jw_istore (L' := [(6, _), (7, _), (9, _), (0, _), (1, _), (2, _), (3, _), (4, _), (5, _), (8, _)]) hC dX5_reason_74 (by decide) rfl ?_
              refine jw_iload hC dX5_reason_76 8 rfl ?_
              refine jw_if_ne (tgt := 111) hC dX5_reason_78 (by decide) (by omega) (by omega) (fun h78 => ?_) (fun h78 => ?_)
              · skip
                refine jw_iconst hC dX5_reason_111 ?_
                refine jw_goto (tgt := 116) hC dX5_reason_112 (by decide) ?_
                refine jw_istore (L' := [(5, _), (6, _), (7, _), (9, _), (0, _), (1, _), (2, _), (3, _), (4, _), (8, _)]) hC dX5_reason_116 (by decide) rfl ?_
                refine jw_iinc (L' := [(8, _), (5, _), (6, _), (7, _), (9, _), (0, _), (1, _), (2, _), (3, _), (4, _)]) hC dX5_reason_118 9 rfl (by decide) rfl ?_
                refine jw_goto (tgt := 12) hC dX5_reason_121 (by decide) ?_
                refine jw_loc (L' := [(0, _), (1, _), (2, _), (3, _), (4, _), (5, _), (6, _), (7, _), (8, _)]) [5, 6, 7, 8, 9, 1, 2, 3, 0] rfl ?_
                have hos := f_on_s (f_rel (vQ (M 89)) a t) (x + M 89 4) y i2
                rw [← hon] at hos
                have hms := f_max_s (f_rel (vQ (M 89)) a t) i2
                rw [← hmx] at hms
                first
                | (rw [if_pos (by omega)] at hos
                   exact ih (k + 1) _ _ _ (max mx (f_rel (vQ (M 89)) a t k)) 1 (by omega) (by omega) (by omega) hms.symm hos.symm (by omega) (by omega) (by omega) (by omega) (by omega))
                | (rw [if_neg (by omega)] at hos
                   exact ih (k + 1) _ _ _ (max mx (f_rel (vQ (M 89)) a t k)) 0 (by omega) (by omega) (by omega) hms.symm hos.symm (by omega) (by omega) (by omega) (by omega) (by omega))
                | (have hcp : f_pu k (x + M 89 4) y = -1 := Decidable.by_contra (fun z => by rw [if_neg z] at h108; omega)
                   rw [if_pos (by omega)] at hos
                   exact ih (k + 1) _ _ _ (max mx (f_rel (vQ (M 89)) a t k)) 1 (by omega) (by omega) (by omega) hms.symm hos.symm (by omega) (by omega) (by omega) (by omega) (by omega))
                | (have hcp : ¬ f_pu k (x + M 89 4) y = -1 := fun z => by rw [if_pos z] at h108; omega
                   rw [if_neg (by omega)] at hos
                   exact ih (k + 1) _ _ _ (max mx (f_rel (vQ (M 89)) a t k)) 0 (by omega) (by omega) (by omega) hms.symm hos.symm (by omega) (by omega) (by omega) (by omega) (by omega))
              · skip
                refine jw_iload hC dX5_reason_81 2 rfl ?_
                refine jw_if_le (tgt := 115) hC dX5_reason_83 (by decide) (by omega) (by omega) (fun h83 => ?_) (fun h83 => ?_)
                · skip
                  refine jw_iconst hC dX5_reason_115 ?_
                  refine jw_istore (L' := [(5, _), (6, _), (7, _), (9, _), (0, _), (1, _), (2, _), (3, _), (4, _), (8, _)]) hC dX5_reason_116 (by decide) rfl ?_
                  refine jw_iinc (L' := [(8, _), (5, _), (6, _), (7, _), (9, _), (0, _), (1, _), (2, _), (3, _), (4, _)]) hC dX5_reason_118 9 rfl (by decide) rfl ?_
                  refine jw_goto (tgt := 12) hC dX5_reason_121 (by decide) ?_
                  refine jw_loc (L' := [(0, _), (1, _), (2, _), (3, _), (4, _), (5, _), (6, _), (7, _), (8, _)]) [5, 6, 7, 8, 9, 1, 2, 3, 0] rfl ?_
                  have hos := f_on_s (f_rel (vQ (M 89)) a t) (x + M 89 4) y i2
                  rw [← hon] at hos
                  have hms := f_max_s (f_rel (vQ (M 89)) a t) i2
                  rw [← hmx] at hms
                  first
                  | (rw [if_pos (by omega)] at hos
                     exact ih (k + 1) _ _ _ (max mx (f_rel (vQ (M 89)) a t k)) 1 (by omega) (by omega) (by omega) hms.symm hos.symm (by omega) (by omega) (by omega) (by omega) (by omega))
                  | (rw [if_neg (by omega)] at hos
                     exact ih (k + 1) _ _ _ (max mx (f_rel (vQ (M 89)) a t k)) 0 (by omega) (by omega) (by omega) hms.symm hos.symm (by omega) (by omega) (by omega) (by omega) (by omega))
                  | (have hcp : f_pu k (x + M 89 4) y = -1 := Decidable.by_contra (fun z => by rw [if_neg z] at h108; omega)
                     rw [if_pos (by omega)] at hos
                     exact ih (k + 1) _ _ _ (max mx (f_rel (vQ (M 89)) a t k)) 1 (by omega) (by omega) (by omega) hms.symm hos.symm (by omega) (by omega) (by omega) (by omega) (by omega))
                  | (have hcp : ¬ f_pu k (x + M 89 4) y = -1 := fun z => by rw [if_pos z] at h108; omega
                     rw [if_neg (by omega)] at hos
                     exact ih (k + 1) _ _ _ (max mx (f_rel (vQ (M 89)) a t k)) 0 (by omega) (by omega) (by omega) hms.symm hos.symm (by omega) (by omega) (by omega) (by omega) (by omega))
                · skip
                  refine jw_iload_n hC dX5_reason_86 5 rfl rfl ?_
                  refine jw_aload_n hC dX5_reason_87 3 rfl rfl ?_
                  refine jw_getr hC fL_X5_7 ewR_m1 dX5_reason_88 ?_
                  refine jw_iconst hC dX5_reason_91 ?_
                  refine jw_iald hC ewA_89 dX5_reason_92 (by omega) (by omega) (by decide) (fun b92 c92 => ?_)
                  refine jw_iadd hC dX5_reason_93 ?_
                  refine jw_iload hC dX5_reason_94 9 rfl ?_
                  refine jw_iconst hC dX5_reason_96 ?_
                  refine jw_irem hC dX5_reason_97 (by omega) (by omega) (by omega) (by omega) ?_
                  refine jw_iadd hC dX5_reason_98 ?_
                  refine jw_iload_n hC dX5_reason_99 6 rfl rfl ?_
                  refine jw_iload hC dX5_reason_100 9 rfl ?_
                  refine jw_iconst hC dX5_reason_102 ?_
                  refine jw_idiv hC dX5_reason_103 (by omega) (by omega) (by omega) (by omega) ?_
                  refine jw_iadd hC dX5_reason_104 ?_
                  rw [← vI_wr (x + M 89 4 + k % 5), ← vI_wr (y + k / 5)]
                  refine jw_callS hC (c_X5_isPlace l E M _ _ (wr_b1 _) (wr_b2 _) (wr_b1 _) (wr_b2 _)) sS_X5_53 dX5_reason_105 rfl rfl ⟨Nat.le_of_ble_eq_true rfl, Nat.le_of_ble_eq_true rfl⟩ ⟨Nat.zero_le _, Nat.zero_le _⟩ (Nat.le_of_ble_eq_true rfl) (fun v105 M105 g105 => ?_)
                  obtain ⟨rfl, rfl⟩ := g105
                  have w1 := wr_plus x1 x2 p8.1 p8.2 (c := k % 5) (by omega) (by omega)
                  have w2 := wr_plus0 y1 y2 (c := k / 5) (by omega) (by omega)
                  have hpq : f_pu k (x + M 89 4) y = -1 ↔ ¬ ((0 ≤ wr (x + M 89 4 + k % 5) ∧ wr (x + M 89 4 + k % 5) ≤ 11) ∧ (0 ≤ wr (y + k / 5) ∧ wr (y + k / 5) ≤ 11)) := by
                    rw [w1, w2]
                    unfold f_pu f_pl
                    split <;> omega
                  have hz105 : (if ((0 ≤ wr (x + M 89 4 + k % 5) ∧ wr (x + M 89 4 + k % 5) ≤ 11) ∧ (0 ≤ wr (y + k / 5) ∧ wr (y + k / 5) ≤ 11)) then (1 : Int) else 0) = if f_pu k (x + M 89 4) y = -1 then 0 else 1 := by
                    by_cases hc : f_pu k (x + M 89 4) y = -1
                    · rw [if_pos hc, if_neg (hpq.mp hc)]
                    · rw [if_neg hc, if_pos (Decidable.by_contra (fun z => hc (hpq.mpr z)))]
                  rw [hz105]
                  have hz2 : (if f_pu k (x + M 89 4) y = -1 then (0 : Int) else 1) = 0 ∨ (if f_pu k (x + M 89 4) y = -1 then (0 : Int) else 1) = 1 := by split <;> omega
                  refine jw_if_ne (tgt := 115) hC dX5_reason_108 (by decide) (by omega) (by omega) (fun h108 => ?_) (fun h108 => ?_)
                  · skip
                    refine jw_iconst hC dX5_reason_115 ?_
                    refine jw_istore (L' := [(5, _), (6, _), (7, _), (9, _), (0, _), (1, _), (2, _), (3, _), (4, _), (8, _)]) hC dX5_reason_116 (by decide) rfl ?_
                    refine jw_iinc (L' := [(8, _), (5, _), (6, _), (7, _), (9, _), (0, _), (1, _), (2, _), (3, _), (4, _)]) hC dX5_reason_118 9 rfl (by decide) rfl ?_
                    refine jw_goto (tgt := 12) hC dX5_reason_121 (by decide) ?_
                    refine jw_loc (L' := [(0, _), (1, _), (2, _), (3, _), (4, _), (5, _), (6, _), (7, _), (8, _)]) [5, 6, 7, 8, 9, 1, 2, 3, 0] rfl ?_
                    have hos := f_on_s (f_rel (vQ (M 89)) a t) (x + M 89 4) y i2
                    rw [← hon] at hos
                    have hms := f_max_s (f_rel (vQ (M 89)) a t) i2
                    rw [← hmx] at hms
                    first
                    | (rw [if_pos (by omega)] at hos
                       exact ih (k + 1) _ _ _ (max mx (f_rel (vQ (M 89)) a t k)) 1 (by omega) (by omega) (by omega) hms.symm hos.symm (by omega) (by omega) (by omega) (by omega) (by omega))
                    | (rw [if_neg (by omega)] at hos
                       exact ih (k + 1) _ _ _ (max mx (f_rel (vQ (M 89)) a t k)) 0 (by omega) (by omega) (by omega) hms.symm hos.symm (by omega) (by omega) (by omega) (by omega) (by omega))
                    | (have hcp : f_pu k (x + M 89 4) y = -1 := Decidable.by_contra (fun z => by rw [if_neg z] at h108; omega)
                       rw [if_pos (by omega)] at hos
                       exact ih (k + 1) _ _ _ (max mx (f_rel (vQ (M 89)) a t k)) 1 (by omega) (by omega) (by omega) hms.symm hos.symm (by omega) (by omega) (by omega) (by omega) (by omega))
                    | (have hcp : ¬ f_pu k (x + M 89 4) y = -1 := fun z => by rw [if_pos z] at h108; omega
                       rw [if_neg (by omega)] at hos
                       exact ih (k + 1) _ _ _ (max mx (f_rel (vQ (M 89)) a t k)) 0 (by omega) (by omega) (by omega) hms.symm hos.symm (by omega) (by omega) (by omega) (by omega) (by omega))
                  · skip
                    refine jw_iconst hC dX5_reason_111 ?_
                    refine jw_goto (tgt := 116) hC dX5_reason_112 (by decide) ?_
                    refine jw_istore (L' := [(5, _), (6, _), (7, _), (9, _), (0, _), (1, _), (2, _), (3, _), (4, _), (8, _)]) hC dX5_reason_116 (by decide) rfl ?_
                    refine jw_iinc (L' := [(8, _), (5, _), (6, _), (7, _), (9, _), (0, _), (1, _), (2, _), (3, _), (4, _)]) hC dX5_reason_118 9 rfl (by decide) rfl ?_
                    refine jw_goto (tgt := 12) hC dX5_reason_121 (by decide) ?_
                    refine jw_loc (L' := [(0, _), (1, _), (2, _), (3, _), (4, _), (5, _), (6, _), (7, _), (8, _)]) [5, 6, 7, 8, 9, 1, 2, 3, 0] rfl ?_
                    have hos := f_on_s (f_rel (vQ (M 89)) a t) (x + M 89 4) y i2
                    rw [← hon] at hos
                    have hms := f_max_s (f_rel (vQ (M 89)) a t) i2
                    rw [← hmx] at hms
                    first
                    | (rw [if_pos (by omega)] at hos
                       exact ih (k + 1) _ _ _ (max mx (f_rel (vQ (M 89)) a t k)) 1 (by omega) (by omega) (by omega) hms.symm hos.symm (by omega) (by omega) (by omega) (by omega) (by omega))
                    | (rw [if_neg (by omega)] at hos
                       exact ih (k + 1) _ _ _ (max mx (f_rel (vQ (M 89)) a t k)) 0 (by omega) (by omega) (by omega) hms.symm hos.symm (by omega) (by omega) (by omega) (by omega) (by omega))
                    | (have hcp : f_pu k (x + M 89 4) y = -1 := Decidable.by_contra (fun z => by rw [if_neg z] at h108; omega)
                       rw [if_pos (by omega)] at hos
                       exact ih (k + 1) _ _ _ (max mx (f_rel (vQ (M 89)) a t k)) 1 (by omega) (by omega) (by omega) hms.symm hos.symm (by omega) (by omega) (by omega) (by omega) (by omega))
                    | (have hcp : ¬ f_pu k (x + M 89 4) y = -1 := fun z => by rw [if_pos z] at h108; omega
                       rw [if_neg (by omega)] at hos
                       exact ih (k + 1) _ _ _ (max mx (f_rel (vQ (M 89)) a t k)) 0 (by omega) (by omega) (by omega) hms.symm hos.symm (by omega) (by omega) (by omega) (by omega) (by omega))
        · skip
          refine jw_iload hC dX5_reason_41 0 rfl ?_
          refine jw_if_le (tgt := 50) hC dX5_reason_43 (by decide) (by omega) (by omega) (fun h43 => ?_) (fun h43 => ?_)
          · skip
            refine jw_iconst hC dX5_reason_50 ?_
            refine jw_istore (L' := [(7, _), (9, _), (0, _), (1, _), (2, _), (3, _), (4, _), (5, _), (6, _), (8, _)]) hC dX5_reason_51 (by decide) rfl ?_
            refine jw_iload hC dX5_reason_53 8 rfl ?_
            refine jw_if_ne (tgt := 69) hC dX5_reason_55 (by decide) (by omega) (by omega) (fun h55 => ?_) (fun h55 => ?_)
            · skip
              refine jw_iconst hC dX5_reason_69 ?_
              refine jw_goto (tgt := 74) hC dX5_reason_70 (by decide) ?_
              refine jw_istore (L' := [(6, _), (7, _), (9, _), (0, _), (1, _), (2, _), (3, _), (4, _), (5, _), (8, _)]) hC dX5_reason_74 (by decide) rfl ?_
              refine jw_iload hC dX5_reason_76 8 rfl ?_
              refine jw_if_ne (tgt := 111) hC dX5_reason_78 (by decide) (by omega) (by omega) (fun h78 => ?_) (fun h78 => ?_)
              · skip
                refine jw_iconst hC dX5_reason_111 ?_
                refine jw_goto (tgt := 116) hC dX5_reason_112 (by decide) ?_
                refine jw_istore (L' := [(5, _), (6, _), (7, _), (9, _), (0, _), (1, _), (2, _), (3, _), (4, _), (8, _)]) hC dX5_reason_116 (by decide) rfl ?_
                refine jw_iinc (L' := [(8, _), (5, _), (6, _), (7, _), (9, _), (0, _), (1, _), (2, _), (3, _), (4, _)]) hC dX5_reason_118 9 rfl (by decide) rfl ?_
                refine jw_goto (tgt := 12) hC dX5_reason_121 (by decide) ?_
                refine jw_loc (L' := [(0, _), (1, _), (2, _), (3, _), (4, _), (5, _), (6, _), (7, _), (8, _)]) [5, 6, 7, 8, 9, 1, 2, 3, 0] rfl ?_
                have hos := f_on_s (f_rel (vQ (M 89)) a t) (x + M 89 4) y i2
                rw [← hon] at hos
                have hms := f_max_s (f_rel (vQ (M 89)) a t) i2
                rw [← hmx] at hms
                first
                | (rw [if_pos (by omega)] at hos
                   exact ih (k + 1) _ _ _ (max mx (f_rel (vQ (M 89)) a t k)) 1 (by omega) (by omega) (by omega) hms.symm hos.symm (by omega) (by omega) (by omega) (by omega) (by omega))
                | (rw [if_neg (by omega)] at hos
                   exact ih (k + 1) _ _ _ (max mx (f_rel (vQ (M 89)) a t k)) 0 (by omega) (by omega) (by omega) hms.symm hos.symm (by omega) (by omega) (by omega) (by omega) (by omega))
                | (have hcp : f_pu k (x + M 89 4) y = -1 := Decidable.by_contra (fun z => by rw [if_neg z] at h108; omega)
                   rw [if_pos (by omega)] at hos
                   exact ih (k + 1) _ _ _ (max mx (f_rel (vQ (M 89)) a t k)) 1 (by omega) (by omega) (by omega) hms.symm hos.symm (by omega) (by omega) (by omega) (by omega) (by omega))
                | (have hcp : ¬ f_pu k (x + M 89 4) y = -1 := fun z => by rw [if_pos z] at h108; omega
                   rw [if_neg (by omega)] at hos
                   exact ih (k + 1) _ _ _ (max mx (f_rel (vQ (M 89)) a t k)) 0 (by omega) (by omega) (by omega) hms.symm hos.symm (by omega) (by omega) (by omega) (by omega) (by omega))
              · skip
                refine jw_iload hC dX5_reason_81 2 rfl ?_
                refine jw_if_le (tgt := 115) hC dX5_reason_83 (by decide) (by omega) (by omega) (fun h83 => ?_) (fun h83 => ?_)
                · skip
                  refine jw_iconst hC dX5_reason_115 ?_
                  refine jw_istore (L' := [(5, _), (6, _), (7, _), (9, _), (0, _), (1, _), (2, _), (3, _), (4, _), (8, _)]) hC dX5_reason_116 (by decide) rfl ?_
                  refine jw_iinc (L' := [(8, _), (5, _), (6, _), (7, _), (9, _), (0, _), (1, _), (2, _), (3, _), (4, _)]) hC dX5_reason_118 9 rfl (by decide) rfl ?_
                  refine jw_goto (tgt := 12) hC dX5_reason_121 (by decide) ?_
                  refine jw_loc (L' := [(0, _), (1, _), (2, _), (3, _), (4, _), (5, _), (6, _), (7, _), (8, _)]) [5, 6, 7, 8, 9, 1, 2, 3, 0] rfl ?_
                  have hos := f_on_s (f_rel (vQ (M 89)) a t) (x + M 89 4) y i2
                  rw [← hon] at hos
                  have hms := f_max_s (f_rel (vQ (M 89)) a t) i2
                  rw [← hmx] at hms
                  first
                  | (rw [if_pos (by omega)] at hos
                     exact ih (k + 1) _ _ _ (max mx (f_rel (vQ (M 89)) a t k)) 1 (by omega) (by omega) (by omega) hms.symm hos.symm (by omega) (by omega) (by omega) (by omega) (by omega))
                  | (rw [if_neg (by omega)] at hos
                     exact ih (k + 1) _ _ _ (max mx (f_rel (vQ (M 89)) a t k)) 0 (by omega) (by omega) (by omega) hms.symm hos.symm (by omega) (by omega) (by omega) (by omega) (by omega))
                  | (have hcp : f_pu k (x + M 89 4) y = -1 := Decidable.by_contra (fun z => by rw [if_neg z] at h108; omega)
                     rw [if_pos (by omega)] at hos
                     exact ih (k + 1) _ _ _ (max mx (f_rel (vQ (M 89)) a t k)) 1 (by omega) (by omega) (by omega) hms.symm hos.symm (by omega) (by omega) (by omega) (by omega) (by omega))
                  | (have hcp : ¬ f_pu k (x + M 89 4) y = -1 := fun z => by rw [if_pos z] at h108; omega
                     rw [if_neg (by omega)] at hos
                     exact ih (k + 1) _ _ _ (max mx (f_rel (vQ (M 89)) a t k)) 0 (by omega) (by omega) (by omega) hms.symm hos.symm (by omega) (by omega) (by omega) (by omega) (by omega))
                · skip
                  refine jw_iload_n hC dX5_reason_86 5 rfl rfl ?_
                  refine jw_aload_n hC dX5_reason_87 3 rfl rfl ?_
                  refine jw_getr hC fL_X5_7 ewR_m1 dX5_reason_88 ?_
                  refine jw_iconst hC dX5_reason_91 ?_
                  refine jw_iald hC ewA_89 dX5_reason_92 (by omega) (by omega) (by decide) (fun b92 c92 => ?_)
                  refine jw_iadd hC dX5_reason_93 ?_
                  refine jw_iload hC dX5_reason_94 9 rfl ?_
                  refine jw_iconst hC dX5_reason_96 ?_
                  refine jw_irem hC dX5_reason_97 (by omega) (by omega) (by omega) (by omega) ?_
                  refine jw_iadd hC dX5_reason_98 ?_
                  refine jw_iload_n hC dX5_reason_99 6 rfl rfl ?_
                  refine jw_iload hC dX5_reason_100 9 rfl ?_
                  refine jw_iconst hC dX5_reason_102 ?_
                  refine jw_idiv hC dX5_reason_103 (by omega) (by omega) (by omega) (by omega) ?_
                  refine jw_iadd hC dX5_reason_104 ?_
                  rw [← vI_wr (x + M 89 4 + k % 5), ← vI_wr (y + k / 5)]
                  refine jw_callS hC (c_X5_isPlace l E M _ _ (wr_b1 _) (wr_b2 _) (wr_b1 _) (wr_b2 _)) sS_X5_53 dX5_reason_105 rfl rfl ⟨Nat.le_of_ble_eq_true rfl, Nat.le_of_ble_eq_true rfl⟩ ⟨Nat.zero_le _, Nat.zero_le _⟩ (Nat.le_of_ble_eq_true rfl) (fun v105 M105 g105 => ?_)
                  obtain ⟨rfl, rfl⟩ := g105
                  have w1 := wr_plus x1 x2 p8.1 p8.2 (c := k % 5) (by omega) (by omega)
                  have w2 := wr_plus0 y1 y2 (c := k / 5) (by omega) (by omega)
                  have hpq : f_pu k (x + M 89 4) y = -1 ↔ ¬ ((0 ≤ wr (x + M 89 4 + k % 5) ∧ wr (x + M 89 4 + k % 5) ≤ 11) ∧ (0 ≤ wr (y + k / 5) ∧ wr (y + k / 5) ≤ 11)) := by
                    rw [w1, w2]
                    unfold f_pu f_pl
                    split <;> omega
                  have hz105 : (if ((0 ≤ wr (x + M 89 4 + k % 5) ∧ wr (x + M 89 4 + k % 5) ≤ 11) ∧ (0 ≤ wr (y + k / 5) ∧ wr (y + k / 5) ≤ 11)) then (1 : Int) else 0) = if f_pu k (x + M 89 4) y = -1 then 0 else 1 := by
                    by_cases hc : f_pu k (x + M 89 4) y = -1
                    · rw [if_pos hc, if_neg (hpq.mp hc)]
                    · rw [if_neg hc, if_pos (Decidable.by_contra (fun z => hc (hpq.mpr z)))]
                  rw [hz105]
                  have hz2 : (if f_pu k (x + M 89 4) y = -1 then (0 : Int) else 1) = 0 ∨ (if f_pu k (x + M 89 4) y = -1 then (0 : Int) else 1) = 1 := by split <;> omega
                  refine jw_if_ne (tgt := 115) hC dX5_reason_108 (by decide) (by omega) (by omega) (fun h108 => ?_) (fun h108 => ?_)
                  · skip
                    refine jw_iconst hC dX5_reason_115 ?_
                    refine jw_istore (L' := [(5, _), (6, _), (7, _), (9, _), (0, _), (1, _), (2, _), (3, _), (4, _), (8, _)]) hC dX5_reason_116 (by decide) rfl ?_
                    refine jw_iinc (L' := [(8, _), (5, _), (6, _), (7, _), (9, _), (0, _), (1, _), (2, _), (3, _), (4, _)]) hC dX5_reason_118 9 rfl (by decide) rfl ?_
                    refine jw_goto (tgt := 12) hC dX5_reason_121 (by decide) ?_
                    refine jw_loc (L' := [(0, _), (1, _), (2, _), (3, _), (4, _), (5, _), (6, _), (7, _), (8, _)]) [5, 6, 7, 8, 9, 1, 2, 3, 0] rfl ?_
                    have hos := f_on_s (f_rel (vQ (M 89)) a t) (x + M 89 4) y i2
                    rw [← hon] at hos
                    have hms := f_max_s (f_rel (vQ (M 89)) a t) i2
                    rw [← hmx] at hms
                    first
                    | (rw [if_pos (by omega)] at hos
                       exact ih (k + 1) _ _ _ (max mx (f_rel (vQ (M 89)) a t k)) 1 (by omega) (by omega) (by omega) hms.symm hos.symm (by omega) (by omega) (by omega) (by omega) (by omega))
                    | (rw [if_neg (by omega)] at hos
                       exact ih (k + 1) _ _ _ (max mx (f_rel (vQ (M 89)) a t k)) 0 (by omega) (by omega) (by omega) hms.symm hos.symm (by omega) (by omega) (by omega) (by omega) (by omega))
                    | (have hcp : f_pu k (x + M 89 4) y = -1 := Decidable.by_contra (fun z => by rw [if_neg z] at h108; omega)
                       rw [if_pos (by omega)] at hos
                       exact ih (k + 1) _ _ _ (max mx (f_rel (vQ (M 89)) a t k)) 1 (by omega) (by omega) (by omega) hms.symm hos.symm (by omega) (by omega) (by omega) (by omega) (by omega))
                    | (have hcp : ¬ f_pu k (x + M 89 4) y = -1 := fun z => by rw [if_pos z] at h108; omega
                       rw [if_neg (by omega)] at hos
                       exact ih (k + 1) _ _ _ (max mx (f_rel (vQ (M 89)) a t k)) 0 (by omega) (by omega) (by omega) hms.symm hos.symm (by omega) (by omega) (by omega) (by omega) (by omega))
                  · skip
                    refine jw_iconst hC dX5_reason_111 ?_
                    refine jw_goto (tgt := 116) hC dX5_reason_112 (by decide) ?_
                    refine jw_istore (L' := [(5, _), (6, _), (7, _), (9, _), (0, _), (1, _), (2, _), (3, _), (4, _), (8, _)]) hC dX5_reason_116 (by decide) rfl ?_
                    refine jw_iinc (L' := [(8, _), (5, _), (6, _), (7, _), (9, _), (0, _), (1, _), (2, _), (3, _), (4, _)]) hC dX5_reason_118 9 rfl (by decide) rfl ?_
                    refine jw_goto (tgt := 12) hC dX5_reason_121 (by decide) ?_
                    refine jw_loc (L' := [(0, _), (1, _), (2, _), (3, _), (4, _), (5, _), (6, _), (7, _), (8, _)]) [5, 6, 7, 8, 9, 1, 2, 3, 0] rfl ?_
                    have hos := f_on_s (f_rel (vQ (M 89)) a t) (x + M 89 4) y i2
                    rw [← hon] at hos
                    have hms := f_max_s (f_rel (vQ (M 89)) a t) i2
                    rw [← hmx] at hms
                    first
                    | (rw [if_pos (by omega)] at hos
                       exact ih (k + 1) _ _ _ (max mx (f_rel (vQ (M 89)) a t k)) 1 (by omega) (by omega) (by omega) hms.symm hos.symm (by omega) (by omega) (by omega) (by omega) (by omega))
                    | (rw [if_neg (by omega)] at hos
                       exact ih (k + 1) _ _ _ (max mx (f_rel (vQ (M 89)) a t k)) 0 (by omega) (by omega) (by omega) hms.symm hos.symm (by omega) (by omega) (by omega) (by omega) (by omega))
                    | (have hcp : f_pu k (x + M 89 4) y = -1 := Decidable.by_contra (fun z => by rw [if_neg z] at h108; omega)
                       rw [if_pos (by omega)] at hos
                       exact ih (k + 1) _ _ _ (max mx (f_rel (vQ (M 89)) a t k)) 1 (by omega) (by omega) (by omega) hms.symm hos.symm (by omega) (by omega) (by omega) (by omega) (by omega))
                    | (have hcp : ¬ f_pu k (x + M 89 4) y = -1 := fun z => by rw [if_pos z] at h108; omega
                       rw [if_neg (by omega)] at hos
                       exact ih (k + 1) _ _ _ (max mx (f_rel (vQ (M 89)) a t k)) 0 (by omega) (by omega) (by omega) hms.symm hos.symm (by omega) (by omega) (by omega) (by omega) (by omega))
            · skip
              refine jw_iload hC dX5_reason_58 1 rfl ?_
              refine jw_aload_n hC dX5_reason_60 2 rfl rfl ?_
              refine jw_getr hC fL_X5_7 ewR_m1 dX5_reason_61 ?_
              refine jw_iconst hC dX5_reason_64 ?_
              refine jw_iald hC ewA_89 dX5_reason_65 (by omega) (by omega) (by decide) (fun b65 c65 => ?_)
              refine jw_icmp_le (tgt := 73) hC dX5_reason_66 (by decide) (by omega) (by omega) (by omega) (by omega) (fun h66 => ?_) (fun h66 => ?_)
              · skip
                refine jw_iconst hC dX5_reason_73 ?_
                refine jw_istore (L' := [(6, _), (7, _), (9, _), (0, _), (1, _), (2, _), (3, _), (4, _), (5, _), (8, _)]) hC dX5_reason_74 (by decide) rfl ?_
                refine jw_iload hC dX5_reason_76 8 rfl ?_
                refine jw_if_ne (tgt := 111) hC dX5_reason_78 (by decide) (by omega) (by omega) (fun h78 => ?_) (fun h78 => ?_)
                · skip
                  refine jw_iconst hC dX5_reason_111 ?_
                  refine jw_goto (tgt := 116) hC dX5_reason_112 (by decide) ?_
                  refine jw_istore (L' := [(5, _), (6, _), (7, _), (9, _), (0, _), (1, _), (2, _), (3, _), (4, _), (8, _)]) hC dX5_reason_116 (by decide) rfl ?_
                  refine jw_iinc (L' := [(8, _), (5, _), (6, _), (7, _), (9, _), (0, _), (1, _), (2, _), (3, _), (4, _)]) hC dX5_reason_118 9 rfl (by decide) rfl ?_
                  refine jw_goto (tgt := 12) hC dX5_reason_121 (by decide) ?_
                  refine jw_loc (L' := [(0, _), (1, _), (2, _), (3, _), (4, _), (5, _), (6, _), (7, _), (8, _)]) [5, 6, 7, 8, 9, 1, 2, 3, 0] rfl ?_
                  have hos := f_on_s (f_rel (vQ (M 89)) a t) (x + M 89 4) y i2
                  rw [← hon] at hos
                  have hms := f_max_s (f_rel (vQ (M 89)) a t) i2
                  rw [← hmx] at hms
                  first
                  | (rw [if_pos (by omega)] at hos
                     exact ih (k + 1) _ _ _ (max mx (f_rel (vQ (M 89)) a t k)) 1 (by omega) (by omega) (by omega) hms.symm hos.symm (by omega) (by omega) (by omega) (by omega) (by omega))
                  | (rw [if_neg (by omega)] at hos
                     exact ih (k + 1) _ _ _ (max mx (f_rel (vQ (M 89)) a t k)) 0 (by omega) (by omega) (by omega) hms.symm hos.symm (by omega) (by omega) (by omega) (by omega) (by omega))
                  | (have hcp : f_pu k (x + M 89 4) y = -1 := Decidable.by_contra (fun z => by rw [if_neg z] at h108; omega)
                     rw [if_pos (by omega)] at hos
                     exact ih (k + 1) _ _ _ (max mx (f_rel (vQ (M 89)) a t k)) 1 (by omega) (by omega) (by omega) hms.symm hos.symm (by omega) (by omega) (by omega) (by omega) (by omega))
                  | (have hcp : ¬ f_pu k (x + M 89 4) y = -1 := fun z => by rw [if_pos z] at h108; omega
                     rw [if_neg (by omega)] at hos
                     exact ih (k + 1) _ _ _ (max mx (f_rel (vQ (M 89)) a t k)) 0 (by omega) (by omega) (by omega) hms.symm hos.symm (by omega) (by omega) (by omega) (by omega) (by omega))
                · skip
                  refine jw_iload hC dX5_reason_81 2 rfl ?_
                  refine jw_if_le (tgt := 115) hC dX5_reason_83 (by decide) (by omega) (by omega) (fun h83 => ?_) (fun h83 => ?_)
                  · skip
                    refine jw_iconst hC dX5_reason_115 ?_
                    refine jw_istore (L' := [(5, _), (6, _), (7, _), (9, _), (0, _), (1, _), (2, _), (3, _), (4, _), (8, _)]) hC dX5_reason_116 (by decide) rfl ?_
                    refine jw_iinc (L' := [(8, _), (5, _), (6, _), (7, _), (9, _), (0, _), (1, _), (2, _), (3, _), (4, _)]) hC dX5_reason_118 9 rfl (by decide) rfl ?_
                    refine jw_goto (tgt := 12) hC dX5_reason_121 (by decide) ?_
                    refine jw_loc (L' := [(0, _), (1, _), (2, _), (3, _), (4, _), (5, _), (6, _), (7, _), (8, _)]) [5, 6, 7, 8, 9, 1, 2, 3, 0] rfl ?_
                    have hos := f_on_s (f_rel (vQ (M 89)) a t) (x + M 89 4) y i2
                    rw [← hon] at hos
                    have hms := f_max_s (f_rel (vQ (M 89)) a t) i2
                    rw [← hmx] at hms
                    first
                    | (rw [if_pos (by omega)] at hos
                       exact ih (k + 1) _ _ _ (max mx (f_rel (vQ (M 89)) a t k)) 1 (by omega) (by omega) (by omega) hms.symm hos.symm (by omega) (by omega) (by omega) (by omega) (by omega))
                    | (rw [if_neg (by omega)] at hos
                       exact ih (k + 1) _ _ _ (max mx (f_rel (vQ (M 89)) a t k)) 0 (by omega) (by omega) (by omega) hms.symm hos.symm (by omega) (by omega) (by omega) (by omega) (by omega))
                    | (have hcp : f_pu k (x + M 89 4) y = -1 := Decidable.by_contra (fun z => by rw [if_neg z] at h108; omega)
                       rw [if_pos (by omega)] at hos
                       exact ih (k + 1) _ _ _ (max mx (f_rel (vQ (M 89)) a t k)) 1 (by omega) (by omega) (by omega) hms.symm hos.symm (by omega) (by omega) (by omega) (by omega) (by omega))
                    | (have hcp : ¬ f_pu k (x + M 89 4) y = -1 := fun z => by rw [if_pos z] at h108; omega
                       rw [if_neg (by omega)] at hos
                       exact ih (k + 1) _ _ _ (max mx (f_rel (vQ (M 89)) a t k)) 0 (by omega) (by omega) (by omega) hms.symm hos.symm (by omega) (by omega) (by omega) (by omega) (by omega))
                  · skip
                    refine jw_iload_n hC dX5_reason_86 5 rfl rfl ?_
                    refine jw_aload_n hC dX5_reason_87 3 rfl rfl ?_
                    refine jw_getr hC fL_X5_7 ewR_m1 dX5_reason_88 ?_
                    refine jw_iconst hC dX5_reason_91 ?_
                    refine jw_iald hC ewA_89 dX5_reason_92 (by omega) (by omega) (by decide) (fun b92 c92 => ?_)
                    refine jw_iadd hC dX5_reason_93 ?_
                    refine jw_iload hC dX5_reason_94 9 rfl ?_
                    refine jw_iconst hC dX5_reason_96 ?_
                    refine jw_irem hC dX5_reason_97 (by omega) (by omega) (by omega) (by omega) ?_
                    refine jw_iadd hC dX5_reason_98 ?_
                    refine jw_iload_n hC dX5_reason_99 6 rfl rfl ?_
                    refine jw_iload hC dX5_reason_100 9 rfl ?_
                    refine jw_iconst hC dX5_reason_102 ?_
                    refine jw_idiv hC dX5_reason_103 (by omega) (by omega) (by omega) (by omega) ?_
                    refine jw_iadd hC dX5_reason_104 ?_
                    rw [← vI_wr (x + M 89 4 + k % 5), ← vI_wr (y + k / 5)]
                    refine jw_callS hC (c_X5_isPlace l E M _ _ (wr_b1 _) (wr_b2 _) (wr_b1 _) (wr_b2 _)) sS_X5_53 dX5_reason_105 rfl rfl ⟨Nat.le_of_ble_eq_true rfl, Nat.le_of_ble_eq_true rfl⟩ ⟨Nat.zero_le _, Nat.zero_le _⟩ (Nat.le_of_ble_eq_true rfl) (fun v105 M105 g105 => ?_)
                    obtain ⟨rfl, rfl⟩ := g105
                    have w1 := wr_plus x1 x2 p8.1 p8.2 (c := k % 5) (by omega) (by omega)
                    have w2 := wr_plus0 y1 y2 (c := k / 5) (by omega) (by omega)
                    have hpq : f_pu k (x + M 89 4) y = -1 ↔ ¬ ((0 ≤ wr (x + M 89 4 + k % 5) ∧ wr (x + M 89 4 + k % 5) ≤ 11) ∧ (0 ≤ wr (y + k / 5) ∧ wr (y + k / 5) ≤ 11)) := by
                      rw [w1, w2]
                      unfold f_pu f_pl
                      split <;> omega
                    have hz105 : (if ((0 ≤ wr (x + M 89 4 + k % 5) ∧ wr (x + M 89 4 + k % 5) ≤ 11) ∧ (0 ≤ wr (y + k / 5) ∧ wr (y + k / 5) ≤ 11)) then (1 : Int) else 0) = if f_pu k (x + M 89 4) y = -1 then 0 else 1 := by
                      by_cases hc : f_pu k (x + M 89 4) y = -1
                      · rw [if_pos hc, if_neg (hpq.mp hc)]
                      · rw [if_neg hc, if_pos (Decidable.by_contra (fun z => hc (hpq.mpr z)))]
                    rw [hz105]
                    have hz2 : (if f_pu k (x + M 89 4) y = -1 then (0 : Int) else 1) = 0 ∨ (if f_pu k (x + M 89 4) y = -1 then (0 : Int) else 1) = 1 := by split <;> omega
                    refine jw_if_ne (tgt := 115) hC dX5_reason_108 (by decide) (by omega) (by omega) (fun h108 => ?_) (fun h108 => ?_)
                    · skip
                      refine jw_iconst hC dX5_reason_115 ?_
                      refine jw_istore (L' := [(5, _), (6, _), (7, _), (9, _), (0, _), (1, _), (2, _), (3, _), (4, _), (8, _)]) hC dX5_reason_116 (by decide) rfl ?_
                      refine jw_iinc (L' := [(8, _), (5, _), (6, _), (7, _), (9, _), (0, _), (1, _), (2, _), (3, _), (4, _)]) hC dX5_reason_118 9 rfl (by decide) rfl ?_
                      refine jw_goto (tgt := 12) hC dX5_reason_121 (by decide) ?_
                      refine jw_loc (L' := [(0, _), (1, _), (2, _), (3, _), (4, _), (5, _), (6, _), (7, _), (8, _)]) [5, 6, 7, 8, 9, 1, 2, 3, 0] rfl ?_
                      have hos := f_on_s (f_rel (vQ (M 89)) a t) (x + M 89 4) y i2
                      rw [← hon] at hos
                      have hms := f_max_s (f_rel (vQ (M 89)) a t) i2
                      rw [← hmx] at hms
                      first
                      | (rw [if_pos (by omega)] at hos
                         exact ih (k + 1) _ _ _ (max mx (f_rel (vQ (M 89)) a t k)) 1 (by omega) (by omega) (by omega) hms.symm hos.symm (by omega) (by omega) (by omega) (by omega) (by omega))
                      | (rw [if_neg (by omega)] at hos
                         exact ih (k + 1) _ _ _ (max mx (f_rel (vQ (M 89)) a t k)) 0 (by omega) (by omega) (by omega) hms.symm hos.symm (by omega) (by omega) (by omega) (by omega) (by omega))
                      | (have hcp : f_pu k (x + M 89 4) y = -1 := Decidable.by_contra (fun z => by rw [if_neg z] at h108; omega)
                         rw [if_pos (by omega)] at hos
                         exact ih (k + 1) _ _ _ (max mx (f_rel (vQ (M 89)) a t k)) 1 (by omega) (by omega) (by omega) hms.symm hos.symm (by omega) (by omega) (by omega) (by omega) (by omega))
                      | (have hcp : ¬ f_pu k (x + M 89 4) y = -1 := fun z => by rw [if_pos z] at h108; omega
                         rw [if_neg (by omega)] at hos
                         exact ih (k + 1) _ _ _ (max mx (f_rel (vQ (M 89)) a t k)) 0 (by omega) (by omega) (by omega) hms.symm hos.symm (by omega) (by omega) (by omega) (by omega) (by omega))
                    · skip
                      refine jw_iconst hC dX5_reason_111 ?_
                      refine jw_goto (tgt := 116) hC dX5_reason_112 (by decide) ?_
                      refine jw_istore (L' := [(5, _), (6, _), (7, _), (9, _), (0, _), (1, _), (2, _), (3, _), (4, _), (8, _)]) hC dX5_reason_116 (by decide) rfl ?_
                      refine jw_iinc (L' := [(8, _), (5, _), (6, _), (7, _), (9, _), (0, _), (1, _), (2, _), (3, _), (4, _)]) hC dX5_reason_118 9 rfl (by decide) rfl ?_
                      refine jw_goto (tgt := 12) hC dX5_reason_121 (by decide) ?_
                      refine jw_loc (L' := [(0, _), (1, _), (2, _), (3, _), (4, _), (5, _), (6, _), (7, _), (8, _)]) [5, 6, 7, 8, 9, 1, 2, 3, 0] rfl ?_
                      have hos := f_on_s (f_rel (vQ (M 89)) a t) (x + M 89 4) y i2
                      rw [← hon] at hos
                      have hms := f_max_s (f_rel (vQ (M 89)) a t) i2
                      rw [← hmx] at hms
                      first
                      | (rw [if_pos (by omega)] at hos
                         exact ih (k + 1) _ _ _ (max mx (f_rel (vQ (M 89)) a t k)) 1 (by omega) (by omega) (by omega) hms.symm hos.symm (by omega) (by omega) (by omega) (by omega) (by omega))
                      | (rw [if_neg (by omega)] at hos
                         exact ih (k + 1) _ _ _ (max mx (f_rel (vQ (M 89)) a t k)) 0 (by omega) (by omega) (by omega) hms.symm hos.symm (by omega) (by omega) (by omega) (by omega) (by omega))
                      | (have hcp : f_pu k (x + M 89 4) y = -1 := Decidable.by_contra (fun z => by rw [if_neg z] at h108; omega)
                         rw [if_pos (by omega)] at hos
                         exact ih (k + 1) _ _ _ (max mx (f_rel (vQ (M 89)) a t k)) 1 (by omega) (by omega) (by omega) hms.symm hos.symm (by omega) (by omega) (by omega) (by omega) (by omega))
                      | (have hcp : ¬ f_pu k (x + M 89 4) y = -1 := fun z => by rw [if_pos z] at h108; omega
                         rw [if_neg (by omega)] at hos
                         exact ih (k + 1) _ _ _ (max mx (f_rel (vQ (M 89)) a t k)) 0 (by omega) (by omega) (by omega) hms.symm hos.symm (by omega) (by omega) (by omega) (by omega) (by omega))
              · skip
                refine jw_iconst hC dX5_reason_69 ?_
                refine jw_goto (tgt := 74) hC dX5_reason_70 (by decide) ?_
                refine jw_istore (L' := [(6, _), (7, _), (9, _), (0, _), (1, _), (2, _), (3, _), (4, _), (5, _), (8, _)]) hC dX5_reason_74 (by decide) rfl ?_
                refine jw_iload hC dX5_reason_76 8 rfl ?_
                refine jw_if_ne (tgt := 111) hC dX5_reason_78 (by decide) (by omega) (by omega) (fun h78 => ?_) (fun h78 => ?_)
                · skip
                  refine jw_iconst hC dX5_reason_111 ?_
                  refine jw_goto (tgt := 116) hC dX5_reason_112 (by decide) ?_
                  refine jw_istore (L' := [(5, _), (6, _), (7, _), (9, _), (0, _), (1, _), (2, _), (3, _), (4, _), (8, _)]) hC dX5_reason_116 (by decide) rfl ?_
                  refine jw_iinc (L' := [(8, _), (5, _), (6, _), (7, _), (9, _), (0, _), (1, _), (2, _), (3, _), (4, _)]) hC dX5_reason_118 9 rfl (by decide) rfl ?_
                  refine jw_goto (tgt := 12) hC dX5_reason_121 (by decide) ?_
                  refine jw_loc (L' := [(0, _), (1, _), (2, _), (3, _), (4, _), (5, _), (6, _), (7, _), (8, _)]) [5, 6, 7, 8, 9, 1, 2, 3, 0] rfl ?_
                  have hos := f_on_s (f_rel (vQ (M 89)) a t) (x + M 89 4) y i2
                  rw [← hon] at hos
                  have hms := f_max_s (f_rel (vQ (M 89)) a t) i2
                  rw [← hmx] at hms
                  first
                  | (rw [if_pos (by omega)] at hos
                     exact ih (k + 1) _ _ _ (max mx (f_rel (vQ (M 89)) a t k)) 1 (by omega) (by omega) (by omega) hms.symm hos.symm (by omega) (by omega) (by omega) (by omega) (by omega))
                  | (rw [if_neg (by omega)] at hos
                     exact ih (k + 1) _ _ _ (max mx (f_rel (vQ (M 89)) a t k)) 0 (by omega) (by omega) (by omega) hms.symm hos.symm (by omega) (by omega) (by omega) (by omega) (by omega))
                  | (have hcp : f_pu k (x + M 89 4) y = -1 := Decidable.by_contra (fun z => by rw [if_neg z] at h108; omega)
                     rw [if_pos (by omega)] at hos
                     exact ih (k + 1) _ _ _ (max mx (f_rel (vQ (M 89)) a t k)) 1 (by omega) (by omega) (by omega) hms.symm hos.symm (by omega) (by omega) (by omega) (by omega) (by omega))
                  | (have hcp : ¬ f_pu k (x + M 89 4) y = -1 := fun z => by rw [if_pos z] at h108; omega
                     rw [if_neg (by omega)] at hos
                     exact ih (k + 1) _ _ _ (max mx (f_rel (vQ (M 89)) a t k)) 0 (by omega) (by omega) (by omega) hms.symm hos.symm (by omega) (by omega) (by omega) (by omega) (by omega))
                · skip
                  refine jw_iload hC dX5_reason_81 2 rfl ?_
                  refine jw_if_le (tgt := 115) hC dX5_reason_83 (by decide) (by omega) (by omega) (fun h83 => ?_) (fun h83 => ?_)
                  · skip
                    refine jw_iconst hC dX5_reason_115 ?_
                    refine jw_istore (L' := [(5, _), (6, _), (7, _), (9, _), (0, _), (1, _), (2, _), (3, _), (4, _), (8, _)]) hC dX5_reason_116 (by decide) rfl ?_
                    refine jw_iinc (L' := [(8, _), (5, _), (6, _), (7, _), (9, _), (0, _), (1, _), (2, _), (3, _), (4, _)]) hC dX5_reason_118 9 rfl (by decide) rfl ?_
                    refine jw_goto (tgt := 12) hC dX5_reason_121 (by decide) ?_
                    refine jw_loc (L' := [(0, _), (1, _), (2, _), (3, _), (4, _), (5, _), (6, _), (7, _), (8, _)]) [5, 6, 7, 8, 9, 1, 2, 3, 0] rfl ?_
                    have hos := f_on_s (f_rel (vQ (M 89)) a t) (x + M 89 4) y i2
                    rw [← hon] at hos
                    have hms := f_max_s (f_rel (vQ (M 89)) a t) i2
                    rw [← hmx] at hms
                    first
                    | (rw [if_pos (by omega)] at hos
                       exact ih (k + 1) _ _ _ (max mx (f_rel (vQ (M 89)) a t k)) 1 (by omega) (by omega) (by omega) hms.symm hos.symm (by omega) (by omega) (by omega) (by omega) (by omega))
                    | (rw [if_neg (by omega)] at hos
                       exact ih (k + 1) _ _ _ (max mx (f_rel (vQ (M 89)) a t k)) 0 (by omega) (by omega) (by omega) hms.symm hos.symm (by omega) (by omega) (by omega) (by omega) (by omega))
                    | (have hcp : f_pu k (x + M 89 4) y = -1 := Decidable.by_contra (fun z => by rw [if_neg z] at h108; omega)
                       rw [if_pos (by omega)] at hos
                       exact ih (k + 1) _ _ _ (max mx (f_rel (vQ (M 89)) a t k)) 1 (by omega) (by omega) (by omega) hms.symm hos.symm (by omega) (by omega) (by omega) (by omega) (by omega))
                    | (have hcp : ¬ f_pu k (x + M 89 4) y = -1 := fun z => by rw [if_pos z] at h108; omega
                       rw [if_neg (by omega)] at hos
                       exact ih (k + 1) _ _ _ (max mx (f_rel (vQ (M 89)) a t k)) 0 (by omega) (by omega) (by omega) hms.symm hos.symm (by omega) (by omega) (by omega) (by omega) (by omega))
                  · skip
                    refine jw_iload_n hC dX5_reason_86 5 rfl rfl ?_
                    refine jw_aload_n hC dX5_reason_87 3 rfl rfl ?_
                    refine jw_getr hC fL_X5_7 ewR_m1 dX5_reason_88 ?_
                    refine jw_iconst hC dX5_reason_91 ?_
                    refine jw_iald hC ewA_89 dX5_reason_92 (by omega) (by omega) (by decide) (fun b92 c92 => ?_)
                    refine jw_iadd hC dX5_reason_93 ?_
                    refine jw_iload hC dX5_reason_94 9 rfl ?_
                    refine jw_iconst hC dX5_reason_96 ?_
                    refine jw_irem hC dX5_reason_97 (by omega) (by omega) (by omega) (by omega) ?_
                    refine jw_iadd hC dX5_reason_98 ?_
                    refine jw_iload_n hC dX5_reason_99 6 rfl rfl ?_
                    refine jw_iload hC dX5_reason_100 9 rfl ?_
                    refine jw_iconst hC dX5_reason_102 ?_
                    refine jw_idiv hC dX5_reason_103 (by omega) (by omega) (by omega) (by omega) ?_
                    refine jw_iadd hC dX5_reason_104 ?_
                    rw [← vI_wr (x + M 89 4 + k % 5), ← vI_wr (y + k / 5)]
                    refine jw_callS hC (c_X5_isPlace l E M _ _ (wr_b1 _) (wr_b2 _) (wr_b1 _) (wr_b2 _)) sS_X5_53 dX5_reason_105 rfl rfl ⟨Nat.le_of_ble_eq_true rfl, Nat.le_of_ble_eq_true rfl⟩ ⟨Nat.zero_le _, Nat.zero_le _⟩ (Nat.le_of_ble_eq_true rfl) (fun v105 M105 g105 => ?_)
                    obtain ⟨rfl, rfl⟩ := g105
                    have w1 := wr_plus x1 x2 p8.1 p8.2 (c := k % 5) (by omega) (by omega)
                    have w2 := wr_plus0 y1 y2 (c := k / 5) (by omega) (by omega)
                    have hpq : f_pu k (x + M 89 4) y = -1 ↔ ¬ ((0 ≤ wr (x + M 89 4 + k % 5) ∧ wr (x + M 89 4 + k % 5) ≤ 11) ∧ (0 ≤ wr (y + k / 5) ∧ wr (y + k / 5) ≤ 11)) := by
                      rw [w1, w2]
                      unfold f_pu f_pl
                      split <;> omega
                    have hz105 : (if ((0 ≤ wr (x + M 89 4 + k % 5) ∧ wr (x + M 89 4 + k % 5) ≤ 11) ∧ (0 ≤ wr (y + k / 5) ∧ wr (y + k / 5) ≤ 11)) then (1 : Int) else 0) = if f_pu k (x + M 89 4) y = -1 then 0 else 1 := by
                      by_cases hc : f_pu k (x + M 89 4) y = -1
                      · rw [if_pos hc, if_neg (hpq.mp hc)]
                      · rw [if_neg hc, if_pos (Decidable.by_contra (fun z => hc (hpq.mpr z)))]
                    rw [hz105]
                    have hz2 : (if f_pu k (x + M 89 4) y = -1 then (0 : Int) else 1) = 0 ∨ (if f_pu k (x + M 89 4) y = -1 then (0 : Int) else 1) = 1 := by split <;> omega
                    refine jw_if_ne (tgt := 115) hC dX5_reason_108 (by decide) (by omega) (by omega) (fun h108 => ?_) (fun h108 => ?_)
                    · skip
                      refine jw_iconst hC dX5_reason_115 ?_
                      refine jw_istore (L' := [(5, _), (6, _), (7, _), (9, _), (0, _), (1, _), (2, _), (3, _), (4, _), (8, _)]) hC dX5_reason_116 (by decide) rfl ?_
                      refine jw_iinc (L' := [(8, _), (5, _), (6, _), (7, _), (9, _), (0, _), (1, _), (2, _), (3, _), (4, _)]) hC dX5_reason_118 9 rfl (by decide) rfl ?_
                      refine jw_goto (tgt := 12) hC dX5_reason_121 (by decide) ?_
                      refine jw_loc (L' := [(0, _), (1, _), (2, _), (3, _), (4, _), (5, _), (6, _), (7, _), (8, _)]) [5, 6, 7, 8, 9, 1, 2, 3, 0] rfl ?_
                      have hos := f_on_s (f_rel (vQ (M 89)) a t) (x + M 89 4) y i2
                      rw [← hon] at hos
                      have hms := f_max_s (f_rel (vQ (M 89)) a t) i2
                      rw [← hmx] at hms
                      first
                      | (rw [if_pos (by omega)] at hos
                         exact ih (k + 1) _ _ _ (max mx (f_rel (vQ (M 89)) a t k)) 1 (by omega) (by omega) (by omega) hms.symm hos.symm (by omega) (by omega) (by omega) (by omega) (by omega))
                      | (rw [if_neg (by omega)] at hos
                         exact ih (k + 1) _ _ _ (max mx (f_rel (vQ (M 89)) a t k)) 0 (by omega) (by omega) (by omega) hms.symm hos.symm (by omega) (by omega) (by omega) (by omega) (by omega))
                      | (have hcp : f_pu k (x + M 89 4) y = -1 := Decidable.by_contra (fun z => by rw [if_neg z] at h108; omega)
                         rw [if_pos (by omega)] at hos
                         exact ih (k + 1) _ _ _ (max mx (f_rel (vQ (M 89)) a t k)) 1 (by omega) (by omega) (by omega) hms.symm hos.symm (by omega) (by omega) (by omega) (by omega) (by omega))
                      | (have hcp : ¬ f_pu k (x + M 89 4) y = -1 := fun z => by rw [if_pos z] at h108; omega
                         rw [if_neg (by omega)] at hos
                         exact ih (k + 1) _ _ _ (max mx (f_rel (vQ (M 89)) a t k)) 0 (by omega) (by omega) (by omega) hms.symm hos.symm (by omega) (by omega) (by omega) (by omega) (by omega))
                    · skip
                      refine jw_iconst hC dX5_reason_111 ?_
                      refine jw_goto (tgt := 116) hC dX5_reason_112 (by decide) ?_
                      refine jw_istore (L' := [(5, _), (6, _), (7, _), (9, _), (0, _), (1, _), (2, _), (3, _), (4, _), (8, _)]) hC dX5_reason_116 (by decide) rfl ?_
                      refine jw_iinc (L' := [(8, _), (5, _), (6, _), (7, _), (9, _), (0, _), (1, _), (2, _), (3, _), (4, _)]) hC dX5_reason_118 9 rfl (by decide) rfl ?_
                      refine jw_goto (tgt := 12) hC dX5_reason_121 (by decide) ?_
                      refine jw_loc (L' := [(0, _), (1, _), (2, _), (3, _), (4, _), (5, _), (6, _), (7, _), (8, _)]) [5, 6, 7, 8, 9, 1, 2, 3, 0] rfl ?_
                      have hos := f_on_s (f_rel (vQ (M 89)) a t) (x + M 89 4) y i2
                      rw [← hon] at hos
                      have hms := f_max_s (f_rel (vQ (M 89)) a t) i2
                      rw [← hmx] at hms
                      first
                      | (rw [if_pos (by omega)] at hos
                         exact ih (k + 1) _ _ _ (max mx (f_rel (vQ (M 89)) a t k)) 1 (by omega) (by omega) (by omega) hms.symm hos.symm (by omega) (by omega) (by omega) (by omega) (by omega))
                      | (rw [if_neg (by omega)] at hos
                         exact ih (k + 1) _ _ _ (max mx (f_rel (vQ (M 89)) a t k)) 0 (by omega) (by omega) (by omega) hms.symm hos.symm (by omega) (by omega) (by omega) (by omega) (by omega))
                      | (have hcp : f_pu k (x + M 89 4) y = -1 := Decidable.by_contra (fun z => by rw [if_neg z] at h108; omega)
                         rw [if_pos (by omega)] at hos
                         exact ih (k + 1) _ _ _ (max mx (f_rel (vQ (M 89)) a t k)) 1 (by omega) (by omega) (by omega) hms.symm hos.symm (by omega) (by omega) (by omega) (by omega) (by omega))
                      | (have hcp : ¬ f_pu k (x + M 89 4) y = -1 := fun z => by rw [if_pos z] at h108; omega
                         rw [if_neg (by omega)] at hos
                         exact ih (k + 1) _ _ _ (max mx (f_rel (vQ (M 89)) a t k)) 0 (by omega) (by omega) (by omega) hms.symm hos.symm (by omega) (by omega) (by omega) (by omega) (by omega))
          · skip
            refine jw_iconst hC dX5_reason_46 ?_
            refine jw_goto (tgt := 51) hC dX5_reason_47 (by decide) ?_
            refine jw_istore (L' := [(7, _), (9, _), (0, _), (1, _), (2, _), (3, _), (4, _), (5, _), (6, _), (8, _)]) hC dX5_reason_51 (by decide) rfl ?_
            refine jw_iload hC dX5_reason_53 8 rfl ?_
            refine jw_if_ne (tgt := 69) hC dX5_reason_55 (by decide) (by omega) (by omega) (fun h55 => ?_) (fun h55 => ?_)
            · skip
              refine jw_iconst hC dX5_reason_69 ?_
              refine jw_goto (tgt := 74) hC dX5_reason_70 (by decide) ?_
              refine jw_istore (L' := [(6, _), (7, _), (9, _), (0, _), (1, _), (2, _), (3, _), (4, _), (5, _), (8, _)]) hC dX5_reason_74 (by decide) rfl ?_
              refine jw_iload hC dX5_reason_76 8 rfl ?_
              refine jw_if_ne (tgt := 111) hC dX5_reason_78 (by decide) (by omega) (by omega) (fun h78 => ?_) (fun h78 => ?_)
              · skip
                refine jw_iconst hC dX5_reason_111 ?_
                refine jw_goto (tgt := 116) hC dX5_reason_112 (by decide) ?_
                refine jw_istore (L' := [(5, _), (6, _), (7, _), (9, _), (0, _), (1, _), (2, _), (3, _), (4, _), (8, _)]) hC dX5_reason_116 (by decide) rfl ?_
                refine jw_iinc (L' := [(8, _), (5, _), (6, _), (7, _), (9, _), (0, _), (1, _), (2, _), (3, _), (4, _)]) hC dX5_reason_118 9 rfl (by decide) rfl ?_
                refine jw_goto (tgt := 12) hC dX5_reason_121 (by decide) ?_
                refine jw_loc (L' := [(0, _), (1, _), (2, _), (3, _), (4, _), (5, _), (6, _), (7, _), (8, _)]) [5, 6, 7, 8, 9, 1, 2, 3, 0] rfl ?_
                have hos := f_on_s (f_rel (vQ (M 89)) a t) (x + M 89 4) y i2
                rw [← hon] at hos
                have hms := f_max_s (f_rel (vQ (M 89)) a t) i2
                rw [← hmx] at hms
                first
                | (rw [if_pos (by omega)] at hos
                   exact ih (k + 1) _ _ _ (max mx (f_rel (vQ (M 89)) a t k)) 1 (by omega) (by omega) (by omega) hms.symm hos.symm (by omega) (by omega) (by omega) (by omega) (by omega))
                | (rw [if_neg (by omega)] at hos
                   exact ih (k + 1) _ _ _ (max mx (f_rel (vQ (M 89)) a t k)) 0 (by omega) (by omega) (by omega) hms.symm hos.symm (by omega) (by omega) (by omega) (by omega) (by omega))
                | (have hcp : f_pu k (x + M 89 4) y = -1 := Decidable.by_contra (fun z => by rw [if_neg z] at h108; omega)
                   rw [if_pos (by omega)] at hos
                   exact ih (k + 1) _ _ _ (max mx (f_rel (vQ (M 89)) a t k)) 1 (by omega) (by omega) (by omega) hms.symm hos.symm (by omega) (by omega) (by omega) (by omega) (by omega))
                | (have hcp : ¬ f_pu k (x + M 89 4) y = -1 := fun z => by rw [if_pos z] at h108; omega
                   rw [if_neg (by omega)] at hos
                   exact ih (k + 1) _ _ _ (max mx (f_rel (vQ (M 89)) a t k)) 0 (by omega) (by omega) (by omega) hms.symm hos.symm (by omega) (by omega) (by omega) (by omega) (by omega))
              · skip
                refine jw_iload hC dX5_reason_81 2 rfl ?_
                refine jw_if_le (tgt := 115) hC dX5_reason_83 (by decide) (by omega) (by omega) (fun h83 => ?_) (fun h83 => ?_)
                · skip
                  refine jw_iconst hC dX5_reason_115 ?_
                  refine jw_istore (L' := [(5, _), (6, _), (7, _), (9, _), (0, _), (1, _), (2, _), (3, _), (4, _), (8, _)]) hC dX5_reason_116 (by decide) rfl ?_
                  refine jw_iinc (L' := [(8, _), (5, _), (6, _), (7, _), (9, _), (0, _), (1, _), (2, _), (3, _), (4, _)]) hC dX5_reason_118 9 rfl (by decide) rfl ?_
                  refine jw_goto (tgt := 12) hC dX5_reason_121 (by decide) ?_
                  refine jw_loc (L' := [(0, _), (1, _), (2, _), (3, _), (4, _), (5, _), (6, _), (7, _), (8, _)]) [5, 6, 7, 8, 9, 1, 2, 3, 0] rfl ?_
                  have hos := f_on_s (f_rel (vQ (M 89)) a t) (x + M 89 4) y i2
                  rw [← hon] at hos
                  have hms := f_max_s (f_rel (vQ (M 89)) a t) i2
                  rw [← hmx] at hms
                  first
                  | (rw [if_pos (by omega)] at hos
                     exact ih (k + 1) _ _ _ (max mx (f_rel (vQ (M 89)) a t k)) 1 (by omega) (by omega) (by omega) hms.symm hos.symm (by omega) (by omega) (by omega) (by omega) (by omega))
                  | (rw [if_neg (by omega)] at hos
                     exact ih (k + 1) _ _ _ (max mx (f_rel (vQ (M 89)) a t k)) 0 (by omega) (by omega) (by omega) hms.symm hos.symm (by omega) (by omega) (by omega) (by omega) (by omega))
                  | (have hcp : f_pu k (x + M 89 4) y = -1 := Decidable.by_contra (fun z => by rw [if_neg z] at h108; omega)
                     rw [if_pos (by omega)] at hos
                     exact ih (k + 1) _ _ _ (max mx (f_rel (vQ (M 89)) a t k)) 1 (by omega) (by omega) (by omega) hms.symm hos.symm (by omega) (by omega) (by omega) (by omega) (by omega))
                  | (have hcp : ¬ f_pu k (x + M 89 4) y = -1 := fun z => by rw [if_pos z] at h108; omega
                     rw [if_neg (by omega)] at hos
                     exact ih (k + 1) _ _ _ (max mx (f_rel (vQ (M 89)) a t k)) 0 (by omega) (by omega) (by omega) hms.symm hos.symm (by omega) (by omega) (by omega) (by omega) (by omega))
                · skip
                  refine jw_iload_n hC dX5_reason_86 5 rfl rfl ?_
                  refine jw_aload_n hC dX5_reason_87 3 rfl rfl ?_
                  refine jw_getr hC fL_X5_7 ewR_m1 dX5_reason_88 ?_
                  refine jw_iconst hC dX5_reason_91 ?_
                  refine jw_iald hC ewA_89 dX5_reason_92 (by omega) (by omega) (by decide) (fun b92 c92 => ?_)
                  refine jw_iadd hC dX5_reason_93 ?_
                  refine jw_iload hC dX5_reason_94 9 rfl ?_
                  refine jw_iconst hC dX5_reason_96 ?_
                  refine jw_irem hC dX5_reason_97 (by omega) (by omega) (by omega) (by omega) ?_
                  refine jw_iadd hC dX5_reason_98 ?_
                  refine jw_iload_n hC dX5_reason_99 6 rfl rfl ?_
                  refine jw_iload hC dX5_reason_100 9 rfl ?_
                  refine jw_iconst hC dX5_reason_102 ?_
                  refine jw_idiv hC dX5_reason_103 (by omega) (by omega) (by omega) (by omega) ?_
                  refine jw_iadd hC dX5_reason_104 ?_
                  rw [← vI_wr (x + M 89 4 + k % 5), ← vI_wr (y + k / 5)]
                  refine jw_callS hC (c_X5_isPlace l E M _ _ (wr_b1 _) (wr_b2 _) (wr_b1 _) (wr_b2 _)) sS_X5_53 dX5_reason_105 rfl rfl ⟨Nat.le_of_ble_eq_true rfl, Nat.le_of_ble_eq_true rfl⟩ ⟨Nat.zero_le _, Nat.zero_le _⟩ (Nat.le_of_ble_eq_true rfl) (fun v105 M105 g105 => ?_)
                  obtain ⟨rfl, rfl⟩ := g105
                  have w1 := wr_plus x1 x2 p8.1 p8.2 (c := k % 5) (by omega) (by omega)
                  have w2 := wr_plus0 y1 y2 (c := k / 5) (by omega) (by omega)
                  have hpq : f_pu k (x + M 89 4) y = -1 ↔ ¬ ((0 ≤ wr (x + M 89 4 + k % 5) ∧ wr (x + M 89 4 + k % 5) ≤ 11) ∧ (0 ≤ wr (y + k / 5) ∧ wr (y + k / 5) ≤ 11)) := by
                    rw [w1, w2]
                    unfold f_pu f_pl
                    split <;> omega
                  have hz105 : (if ((0 ≤ wr (x + M 89 4 + k % 5) ∧ wr (x + M 89 4 + k % 5) ≤ 11) ∧ (0 ≤ wr (y + k / 5) ∧ wr (y + k / 5) ≤ 11)) then (1 : Int) else 0) = if f_pu k (x + M 89 4) y = -1 then 0 else 1 := by
                    by_cases hc : f_pu k (x + M 89 4) y = -1
                    · rw [if_pos hc, if_neg (hpq.mp hc)]
                    · rw [if_neg hc, if_pos (Decidable.by_contra (fun z => hc (hpq.mpr z)))]
                  rw [hz105]
                  have hz2 : (if f_pu k (x + M 89 4) y = -1 then (0 : Int) else 1) = 0 ∨ (if f_pu k (x + M 89 4) y = -1 then (0 : Int) else 1) = 1 := by split <;> omega
                  refine jw_if_ne (tgt := 115) hC dX5_reason_108 (by decide) (by omega) (by omega) (fun h108 => ?_) (fun h108 => ?_)
                  · skip
                    refine jw_iconst hC dX5_reason_115 ?_
                    refine jw_istore (L' := [(5, _), (6, _), (7, _), (9, _), (0, _), (1, _), (2, _), (3, _), (4, _), (8, _)]) hC dX5_reason_116 (by decide) rfl ?_
                    refine jw_iinc (L' := [(8, _), (5, _), (6, _), (7, _), (9, _), (0, _), (1, _), (2, _), (3, _), (4, _)]) hC dX5_reason_118 9 rfl (by decide) rfl ?_
                    refine jw_goto (tgt := 12) hC dX5_reason_121 (by decide) ?_
                    refine jw_loc (L' := [(0, _), (1, _), (2, _), (3, _), (4, _), (5, _), (6, _), (7, _), (8, _)]) [5, 6, 7, 8, 9, 1, 2, 3, 0] rfl ?_
                    have hos := f_on_s (f_rel (vQ (M 89)) a t) (x + M 89 4) y i2
                    rw [← hon] at hos
                    have hms := f_max_s (f_rel (vQ (M 89)) a t) i2
                    rw [← hmx] at hms
                    first
                    | (rw [if_pos (by omega)] at hos
                       exact ih (k + 1) _ _ _ (max mx (f_rel (vQ (M 89)) a t k)) 1 (by omega) (by omega) (by omega) hms.symm hos.symm (by omega) (by omega) (by omega) (by omega) (by omega))
                    | (rw [if_neg (by omega)] at hos
                       exact ih (k + 1) _ _ _ (max mx (f_rel (vQ (M 89)) a t k)) 0 (by omega) (by omega) (by omega) hms.symm hos.symm (by omega) (by omega) (by omega) (by omega) (by omega))
                    | (have hcp : f_pu k (x + M 89 4) y = -1 := Decidable.by_contra (fun z => by rw [if_neg z] at h108; omega)
                       rw [if_pos (by omega)] at hos
                       exact ih (k + 1) _ _ _ (max mx (f_rel (vQ (M 89)) a t k)) 1 (by omega) (by omega) (by omega) hms.symm hos.symm (by omega) (by omega) (by omega) (by omega) (by omega))
                    | (have hcp : ¬ f_pu k (x + M 89 4) y = -1 := fun z => by rw [if_pos z] at h108; omega
                       rw [if_neg (by omega)] at hos
                       exact ih (k + 1) _ _ _ (max mx (f_rel (vQ (M 89)) a t k)) 0 (by omega) (by omega) (by omega) hms.symm hos.symm (by omega) (by omega) (by omega) (by omega) (by omega))
                  · skip
                    refine jw_iconst hC dX5_reason_111 ?_
                    refine jw_goto (tgt := 116) hC dX5_reason_112 (by decide) ?_
                    refine jw_istore (L' := [(5, _), (6, _), (7, _), (9, _), (0, _), (1, _), (2, _), (3, _), (4, _), (8, _)]) hC dX5_reason_116 (by decide) rfl ?_
                    refine jw_iinc (L' := [(8, _), (5, _), (6, _), (7, _), (9, _), (0, _), (1, _), (2, _), (3, _), (4, _)]) hC dX5_reason_118 9 rfl (by decide) rfl ?_
                    refine jw_goto (tgt := 12) hC dX5_reason_121 (by decide) ?_
                    refine jw_loc (L' := [(0, _), (1, _), (2, _), (3, _), (4, _), (5, _), (6, _), (7, _), (8, _)]) [5, 6, 7, 8, 9, 1, 2, 3, 0] rfl ?_
                    have hos := f_on_s (f_rel (vQ (M 89)) a t) (x + M 89 4) y i2
                    rw [← hon] at hos
                    have hms := f_max_s (f_rel (vQ (M 89)) a t) i2
                    rw [← hmx] at hms
                    first
                    | (rw [if_pos (by omega)] at hos
                       exact ih (k + 1) _ _ _ (max mx (f_rel (vQ (M 89)) a t k)) 1 (by omega) (by omega) (by omega) hms.symm hos.symm (by omega) (by omega) (by omega) (by omega) (by omega))
                    | (rw [if_neg (by omega)] at hos
                       exact ih (k + 1) _ _ _ (max mx (f_rel (vQ (M 89)) a t k)) 0 (by omega) (by omega) (by omega) hms.symm hos.symm (by omega) (by omega) (by omega) (by omega) (by omega))
                    | (have hcp : f_pu k (x + M 89 4) y = -1 := Decidable.by_contra (fun z => by rw [if_neg z] at h108; omega)
                       rw [if_pos (by omega)] at hos
                       exact ih (k + 1) _ _ _ (max mx (f_rel (vQ (M 89)) a t k)) 1 (by omega) (by omega) (by omega) hms.symm hos.symm (by omega) (by omega) (by omega) (by omega) (by omega))
                    | (have hcp : ¬ f_pu k (x + M 89 4) y = -1 := fun z => by rw [if_pos z] at h108; omega
                       rw [if_neg (by omega)] at hos
                       exact ih (k + 1) _ _ _ (max mx (f_rel (vQ (M 89)) a t k)) 0 (by omega) (by omega) (by omega) hms.symm hos.symm (by omega) (by omega) (by omega) (by omega) (by omega))
            · skip
              refine jw_iload hC dX5_reason_58 1 rfl ?_
              refine jw_aload_n hC dX5_reason_60 2 rfl rfl ?_
              refine jw_getr hC fL_X5_7 ewR_m1 dX5_reason_61 ?_
              refine jw_iconst hC dX5_reason_64 ?_
              refine jw_iald hC ewA_89 dX5_reason_65 (by omega) (by omega) (by decide) (fun b65 c65 => ?_)
              refine jw_icmp_le (tgt := 73) hC dX5_reason_66 (by decide) (by omega) (by omega) (by omega) (by omega) (fun h66 => ?_) (fun h66 => ?_)
              · skip
                refine jw_iconst hC dX5_reason_73 ?_
                refine jw_istore (L' := [(6, _), (7, _), (9, _), (0, _), (1, _), (2, _), (3, _), (4, _), (5, _), (8, _)]) hC dX5_reason_74 (by decide) rfl ?_
                refine jw_iload hC dX5_reason_76 8 rfl ?_
                refine jw_if_ne (tgt := 111) hC dX5_reason_78 (by decide) (by omega) (by omega) (fun h78 => ?_) (fun h78 => ?_)
                · skip
                  refine jw_iconst hC dX5_reason_111 ?_
                  refine jw_goto (tgt := 116) hC dX5_reason_112 (by decide) ?_
                  refine jw_istore (L' := [(5, _), (6, _), (7, _), (9, _), (0, _), (1, _), (2, _), (3, _), (4, _), (8, _)]) hC dX5_reason_116 (by decide) rfl ?_
                  refine jw_iinc (L' := [(8, _), (5, _), (6, _), (7, _), (9, _), (0, _), (1, _), (2, _), (3, _), (4, _)]) hC dX5_reason_118 9 rfl (by decide) rfl ?_
                  refine jw_goto (tgt := 12) hC dX5_reason_121 (by decide) ?_
                  refine jw_loc (L' := [(0, _), (1, _), (2, _), (3, _), (4, _), (5, _), (6, _), (7, _), (8, _)]) [5, 6, 7, 8, 9, 1, 2, 3, 0] rfl ?_
                  have hos := f_on_s (f_rel (vQ (M 89)) a t) (x + M 89 4) y i2
                  rw [← hon] at hos
                  have hms := f_max_s (f_rel (vQ (M 89)) a t) i2
                  rw [← hmx] at hms
                  first
                  | (rw [if_pos (by omega)] at hos
                     exact ih (k + 1) _ _ _ (max mx (f_rel (vQ (M 89)) a t k)) 1 (by omega) (by omega) (by omega) hms.symm hos.symm (by omega) (by omega) (by omega) (by omega) (by omega))
                  | (rw [if_neg (by omega)] at hos
                     exact ih (k + 1) _ _ _ (max mx (f_rel (vQ (M 89)) a t k)) 0 (by omega) (by omega) (by omega) hms.symm hos.symm (by omega) (by omega) (by omega) (by omega) (by omega))
                  | (have hcp : f_pu k (x + M 89 4) y = -1 := Decidable.by_contra (fun z => by rw [if_neg z] at h108; omega)
                     rw [if_pos (by omega)] at hos
                     exact ih (k + 1) _ _ _ (max mx (f_rel (vQ (M 89)) a t k)) 1 (by omega) (by omega) (by omega) hms.symm hos.symm (by omega) (by omega) (by omega) (by omega) (by omega))
                  | (have hcp : ¬ f_pu k (x + M 89 4) y = -1 := fun z => by rw [if_pos z] at h108; omega
                     rw [if_neg (by omega)] at hos
                     exact ih (k + 1) _ _ _ (max mx (f_rel (vQ (M 89)) a t k)) 0 (by omega) (by omega) (by omega) hms.symm hos.symm (by omega) (by omega) (by omega) (by omega) (by omega))
                · skip
                  refine jw_iload hC dX5_reason_81 2 rfl ?_
                  refine jw_if_le (tgt := 115) hC dX5_reason_83 (by decide) (by omega) (by omega) (fun h83 => ?_) (fun h83 => ?_)
                  · skip
                    refine jw_iconst hC dX5_reason_115 ?_
                    refine jw_istore (L' := [(5, _), (6, _), (7, _), (9, _), (0, _), (1, _), (2, _), (3, _), (4, _), (8, _)]) hC dX5_reason_116 (by decide) rfl ?_
                    refine jw_iinc (L' := [(8, _), (5, _), (6, _), (7, _), (9, _), (0, _), (1, _), (2, _), (3, _), (4, _)]) hC dX5_reason_118 9 rfl (by decide) rfl ?_
                    refine jw_goto (tgt := 12) hC dX5_reason_121 (by decide) ?_
                    refine jw_loc (L' := [(0, _), (1, _), (2, _), (3, _), (4, _), (5, _), (6, _), (7, _), (8, _)]) [5, 6, 7, 8, 9, 1, 2, 3, 0] rfl ?_
                    have hos := f_on_s (f_rel (vQ (M 89)) a t) (x + M 89 4) y i2
                    rw [← hon] at hos
                    have hms := f_max_s (f_rel (vQ (M 89)) a t) i2
                    rw [← hmx] at hms
                    first
                    | (rw [if_pos (by omega)] at hos
                       exact ih (k + 1) _ _ _ (max mx (f_rel (vQ (M 89)) a t k)) 1 (by omega) (by omega) (by omega) hms.symm hos.symm (by omega) (by omega) (by omega) (by omega) (by omega))
                    | (rw [if_neg (by omega)] at hos
                       exact ih (k + 1) _ _ _ (max mx (f_rel (vQ (M 89)) a t k)) 0 (by omega) (by omega) (by omega) hms.symm hos.symm (by omega) (by omega) (by omega) (by omega) (by omega))
                    | (have hcp : f_pu k (x + M 89 4) y = -1 := Decidable.by_contra (fun z => by rw [if_neg z] at h108; omega)
                       rw [if_pos (by omega)] at hos
                       exact ih (k + 1) _ _ _ (max mx (f_rel (vQ (M 89)) a t k)) 1 (by omega) (by omega) (by omega) hms.symm hos.symm (by omega) (by omega) (by omega) (by omega) (by omega))
                    | (have hcp : ¬ f_pu k (x + M 89 4) y = -1 := fun z => by rw [if_pos z] at h108; omega
                       rw [if_neg (by omega)] at hos
                       exact ih (k + 1) _ _ _ (max mx (f_rel (vQ (M 89)) a t k)) 0 (by omega) (by omega) (by omega) hms.symm hos.symm (by omega) (by omega) (by omega) (by omega) (by omega))
                  · skip
                    refine jw_iload_n hC dX5_reason_86 5 rfl rfl ?_
                    refine jw_aload_n hC dX5_reason_87 3 rfl rfl ?_
                    refine jw_getr hC fL_X5_7 ewR_m1 dX5_reason_88 ?_
                    refine jw_iconst hC dX5_reason_91 ?_
                    refine jw_iald hC ewA_89 dX5_reason_92 (by omega) (by omega) (by decide) (fun b92 c92 => ?_)
                    refine jw_iadd hC dX5_reason_93 ?_
                    refine jw_iload hC dX5_reason_94 9 rfl ?_
                    refine jw_iconst hC dX5_reason_96 ?_
                    refine jw_irem hC dX5_reason_97 (by omega) (by omega) (by omega) (by omega) ?_
                    refine jw_iadd hC dX5_reason_98 ?_
                    refine jw_iload_n hC dX5_reason_99 6 rfl rfl ?_
                    refine jw_iload hC dX5_reason_100 9 rfl ?_
                    refine jw_iconst hC dX5_reason_102 ?_
                    refine jw_idiv hC dX5_reason_103 (by omega) (by omega) (by omega) (by omega) ?_
                    refine jw_iadd hC dX5_reason_104 ?_
                    rw [← vI_wr (x + M 89 4 + k % 5), ← vI_wr (y + k / 5)]
                    refine jw_callS hC (c_X5_isPlace l E M _ _ (wr_b1 _) (wr_b2 _) (wr_b1 _) (wr_b2 _)) sS_X5_53 dX5_reason_105 rfl rfl ⟨Nat.le_of_ble_eq_true rfl, Nat.le_of_ble_eq_true rfl⟩ ⟨Nat.zero_le _, Nat.zero_le _⟩ (Nat.le_of_ble_eq_true rfl) (fun v105 M105 g105 => ?_)
                    obtain ⟨rfl, rfl⟩ := g105
                    have w1 := wr_plus x1 x2 p8.1 p8.2 (c := k % 5) (by omega) (by omega)
                    have w2 := wr_plus0 y1 y2 (c := k / 5) (by omega) (by omega)
                    have hpq : f_pu k (x + M 89 4) y = -1 ↔ ¬ ((0 ≤ wr (x + M 89 4 + k % 5) ∧ wr (x + M 89 4 + k % 5) ≤ 11) ∧ (0 ≤ wr (y + k / 5) ∧ wr (y + k / 5) ≤ 11)) := by
                      rw [w1, w2]
                      unfold f_pu f_pl
                      split <;> omega
                    have hz105 : (if ((0 ≤ wr (x + M 89 4 + k % 5) ∧ wr (x + M 89 4 + k % 5) ≤ 11) ∧ (0 ≤ wr (y + k / 5) ∧ wr (y + k / 5) ≤ 11)) then (1 : Int) else 0) = if f_pu k (x + M 89 4) y = -1 then 0 else 1 := by
                      by_cases hc : f_pu k (x + M 89 4) y = -1
                      · rw [if_pos hc, if_neg (hpq.mp hc)]
                      · rw [if_neg hc, if_pos (Decidable.by_contra (fun z => hc (hpq.mpr z)))]
                    rw [hz105]
                    have hz2 : (if f_pu k (x + M 89 4) y = -1 then (0 : Int) else 1) = 0 ∨ (if f_pu k (x + M 89 4) y = -1 then (0 : Int) else 1) = 1 := by split <;> omega
                    refine jw_if_ne (tgt := 115) hC dX5_reason_108 (by decide) (by omega) (by omega) (fun h108 => ?_) (fun h108 => ?_)
                    · skip
                      refine jw_iconst hC dX5_reason_115 ?_
                      refine jw_istore (L' := [(5, _), (6, _), (7, _), (9, _), (0, _), (1, _), (2, _), (3, _), (4, _), (8, _)]) hC dX5_reason_116 (by decide) rfl ?_
                      refine jw_iinc (L' := [(8, _), (5, _), (6, _), (7, _), (9, _), (0, _), (1, _), (2, _), (3, _), (4, _)]) hC dX5_reason_118 9 rfl (by decide) rfl ?_
                      refine jw_goto (tgt := 12) hC dX5_reason_121 (by decide) ?_
                      refine jw_loc (L' := [(0, _), (1, _), (2, _), (3, _), (4, _), (5, _), (6, _), (7, _), (8, _)]) [5, 6, 7, 8, 9, 1, 2, 3, 0] rfl ?_
                      have hos := f_on_s (f_rel (vQ (M 89)) a t) (x + M 89 4) y i2
                      rw [← hon] at hos
                      have hms := f_max_s (f_rel (vQ (M 89)) a t) i2
                      rw [← hmx] at hms
                      first
                      | (rw [if_pos (by omega)] at hos
                         exact ih (k + 1) _ _ _ (max mx (f_rel (vQ (M 89)) a t k)) 1 (by omega) (by omega) (by omega) hms.symm hos.symm (by omega) (by omega) (by omega) (by omega) (by omega))
                      | (rw [if_neg (by omega)] at hos
                         exact ih (k + 1) _ _ _ (max mx (f_rel (vQ (M 89)) a t k)) 0 (by omega) (by omega) (by omega) hms.symm hos.symm (by omega) (by omega) (by omega) (by omega) (by omega))
                      | (have hcp : f_pu k (x + M 89 4) y = -1 := Decidable.by_contra (fun z => by rw [if_neg z] at h108; omega)
                         rw [if_pos (by omega)] at hos
                         exact ih (k + 1) _ _ _ (max mx (f_rel (vQ (M 89)) a t k)) 1 (by omega) (by omega) (by omega) hms.symm hos.symm (by omega) (by omega) (by omega) (by omega) (by omega))
                      | (have hcp : ¬ f_pu k (x + M 89 4) y = -1 := fun z => by rw [if_pos z] at h108; omega
                         rw [if_neg (by omega)] at hos
                         exact ih (k + 1) _ _ _ (max mx (f_rel (vQ (M 89)) a t k)) 0 (by omega) (by omega) (by omega) hms.symm hos.symm (by omega) (by omega) (by omega) (by omega) (by omega))
                    · skip
                      refine jw_iconst hC dX5_reason_111 ?_
                      refine jw_goto (tgt := 116) hC dX5_reason_112 (by decide) ?_
                      refine jw_istore (L' := [(5, _), (6, _), (7, _), (9, _), (0, _), (1, _), (2, _), (3, _), (4, _), (8, _)]) hC dX5_reason_116 (by decide) rfl ?_
                      refine jw_iinc (L' := [(8, _), (5, _), (6, _), (7, _), (9, _), (0, _), (1, _), (2, _), (3, _), (4, _)]) hC dX5_reason_118 9 rfl (by decide) rfl ?_
                      refine jw_goto (tgt := 12) hC dX5_reason_121 (by decide) ?_
                      refine jw_loc (L' := [(0, _), (1, _), (2, _), (3, _), (4, _), (5, _), (6, _), (7, _), (8, _)]) [5, 6, 7, 8, 9, 1, 2, 3, 0] rfl ?_
                      have hos := f_on_s (f_rel (vQ (M 89)) a t) (x + M 89 4) y i2
                      rw [← hon] at hos
                      have hms := f_max_s (f_rel (vQ (M 89)) a t) i2
                      rw [← hmx] at hms
                      first
                      | (rw [if_pos (by omega)] at hos
                         exact ih (k + 1) _ _ _ (max mx (f_rel (vQ (M 89)) a t k)) 1 (by omega) (by omega) (by omega) hms.symm hos.symm (by omega) (by omega) (by omega) (by omega) (by omega))
                      | (rw [if_neg (by omega)] at hos
                         exact ih (k + 1) _ _ _ (max mx (f_rel (vQ (M 89)) a t k)) 0 (by omega) (by omega) (by omega) hms.symm hos.symm (by omega) (by omega) (by omega) (by omega) (by omega))
                      | (have hcp : f_pu k (x + M 89 4) y = -1 := Decidable.by_contra (fun z => by rw [if_neg z] at h108; omega)
                         rw [if_pos (by omega)] at hos
                         exact ih (k + 1) _ _ _ (max mx (f_rel (vQ (M 89)) a t k)) 1 (by omega) (by omega) (by omega) hms.symm hos.symm (by omega) (by omega) (by omega) (by omega) (by omega))
                      | (have hcp : ¬ f_pu k (x + M 89 4) y = -1 := fun z => by rw [if_pos z] at h108; omega
                         rw [if_neg (by omega)] at hos
                         exact ih (k + 1) _ _ _ (max mx (f_rel (vQ (M 89)) a t k)) 0 (by omega) (by omega) (by omega) hms.symm hos.symm (by omega) (by omega) (by omega) (by omega) (by omega))
              · skip
                refine jw_iconst hC dX5_reason_69 ?_
                refine jw_goto (tgt := 74) hC dX5_reason_70 (by decide) ?_
                refine jw_istore (L' := [(6, _), (7, _), (9, _), (0, _), (1, _), (2, _), (3, _), (4, _), (5, _), (8, _)]) hC dX5_reason_74 (by decide) rfl ?_
                refine jw_iload hC dX5_reason_76 8 rfl ?_
                refine jw_if_ne (tgt := 111) hC dX5_reason_78 (by decide) (by omega) (by omega) (fun h78 => ?_) (fun h78 => ?_)
                · skip
                  refine jw_iconst hC dX5_reason_111 ?_
                  refine jw_goto (tgt := 116) hC dX5_reason_112 (by decide) ?_
                  refine jw_istore (L' := [(5, _), (6, _), (7, _), (9, _), (0, _), (1, _), (2, _), (3, _), (4, _), (8, _)]) hC dX5_reason_116 (by decide) rfl ?_
                  refine jw_iinc (L' := [(8, _), (5, _), (6, _), (7, _), (9, _), (0, _), (1, _), (2, _), (3, _), (4, _)]) hC dX5_reason_118 9 rfl (by decide) rfl ?_
                  refine jw_goto (tgt := 12) hC dX5_reason_121 (by decide) ?_
                  refine jw_loc (L' := [(0, _), (1, _), (2, _), (3, _), (4, _), (5, _), (6, _), (7, _), (8, _)]) [5, 6, 7, 8, 9, 1, 2, 3, 0] rfl ?_
                  have hos := f_on_s (f_rel (vQ (M 89)) a t) (x + M 89 4) y i2
                  rw [← hon] at hos
                  have hms := f_max_s (f_rel (vQ (M 89)) a t) i2
                  rw [← hmx] at hms
                  first
                  | (rw [if_pos (by omega)] at hos
                     exact ih (k + 1) _ _ _ (max mx (f_rel (vQ (M 89)) a t k)) 1 (by omega) (by omega) (by omega) hms.symm hos.symm (by omega) (by omega) (by omega) (by omega) (by omega))
                  | (rw [if_neg (by omega)] at hos
                     exact ih (k + 1) _ _ _ (max mx (f_rel (vQ (M 89)) a t k)) 0 (by omega) (by omega) (by omega) hms.symm hos.symm (by omega) (by omega) (by omega) (by omega) (by omega))
                  | (have hcp : f_pu k (x + M 89 4) y = -1 := Decidable.by_contra (fun z => by rw [if_neg z] at h108; omega)
                     rw [if_pos (by omega)] at hos
                     exact ih (k + 1) _ _ _ (max mx (f_rel (vQ (M 89)) a t k)) 1 (by omega) (by omega) (by omega) hms.symm hos.symm (by omega) (by omega) (by omega) (by omega) (by omega))
                  | (have hcp : ¬ f_pu k (x + M 89 4) y = -1 := fun z => by rw [if_pos z] at h108; omega
                     rw [if_neg (by omega)] at hos
                     exact ih (k + 1) _ _ _ (max mx (f_rel (vQ (M 89)) a t k)) 0 (by omega) (by omega) (by omega) hms.symm hos.symm (by omega) (by omega) (by omega) (by omega) (by omega))
                · skip
                  refine jw_iload hC dX5_reason_81 2 rfl ?_
                  refine jw_if_le (tgt := 115) hC dX5_reason_83 (by decide) (by omega) (by omega) (fun h83 => ?_) (fun h83 => ?_)
                  · skip
                    refine jw_iconst hC dX5_reason_115 ?_
                    refine jw_istore (L' := [(5, _), (6, _), (7, _), (9, _), (0, _), (1, _), (2, _), (3, _), (4, _), (8, _)]) hC dX5_reason_116 (by decide) rfl ?_
                    refine jw_iinc (L' := [(8, _), (5, _), (6, _), (7, _), (9, _), (0, _), (1, _), (2, _), (3, _), (4, _)]) hC dX5_reason_118 9 rfl (by decide) rfl ?_
                    refine jw_goto (tgt := 12) hC dX5_reason_121 (by decide) ?_
                    refine jw_loc (L' := [(0, _), (1, _), (2, _), (3, _), (4, _), (5, _), (6, _), (7, _), (8, _)]) [5, 6, 7, 8, 9, 1, 2, 3, 0] rfl ?_
                    have hos := f_on_s (f_rel (vQ (M 89)) a t) (x + M 89 4) y i2
                    rw [← hon] at hos
                    have hms := f_max_s (f_rel (vQ (M 89)) a t) i2
                    rw [← hmx] at hms
                    first
                    | (rw [if_pos (by omega)] at hos
                       exact ih (k + 1) _ _ _ (max mx (f_rel (vQ (M 89)) a t k)) 1 (by omega) (by omega) (by omega) hms.symm hos.symm (by omega) (by omega) (by omega) (by omega) (by omega))
                    | (rw [if_neg (by omega)] at hos
                       exact ih (k + 1) _ _ _ (max mx (f_rel (vQ (M 89)) a t k)) 0 (by omega) (by omega) (by omega) hms.symm hos.symm (by omega) (by omega) (by omega) (by omega) (by omega))
                    | (have hcp : f_pu k (x + M 89 4) y = -1 := Decidable.by_contra (fun z => by rw [if_neg z] at h108; omega)
                       rw [if_pos (by omega)] at hos
                       exact ih (k + 1) _ _ _ (max mx (f_rel (vQ (M 89)) a t k)) 1 (by omega) (by omega) (by omega) hms.symm hos.symm (by omega) (by omega) (by omega) (by omega) (by omega))
                    | (have hcp : ¬ f_pu k (x + M 89 4) y = -1 := fun z => by rw [if_pos z] at h108; omega
                       rw [if_neg (by omega)] at hos
                       exact ih (k + 1) _ _ _ (max mx (f_rel (vQ (M 89)) a t k)) 0 (by omega) (by omega) (by omega) hms.symm hos.symm (by omega) (by omega) (by omega) (by omega) (by omega))
                  · skip
                    refine jw_iload_n hC dX5_reason_86 5 rfl rfl ?_
                    refine jw_aload_n hC dX5_reason_87 3 rfl rfl ?_
                    refine jw_getr hC fL_X5_7 ewR_m1 dX5_reason_88 ?_
                    refine jw_iconst hC dX5_reason_91 ?_
                    refine jw_iald hC ewA_89 dX5_reason_92 (by omega) (by omega) (by decide) (fun b92 c92 => ?_)
                    refine jw_iadd hC dX5_reason_93 ?_
                    refine jw_iload hC dX5_reason_94 9 rfl ?_
                    refine jw_iconst hC dX5_reason_96 ?_
                    refine jw_irem hC dX5_reason_97 (by omega) (by omega) (by omega) (by omega) ?_
                    refine jw_iadd hC dX5_reason_98 ?_
                    refine jw_iload_n hC dX5_reason_99 6 rfl rfl ?_
                    refine jw_iload hC dX5_reason_100 9 rfl ?_
                    refine jw_iconst hC dX5_reason_102 ?_
                    refine jw_idiv hC dX5_reason_103 (by omega) (by omega) (by omega) (by omega) ?_
                    refine jw_iadd hC dX5_reason_104 ?_
                    rw [← vI_wr (x + M 89 4 + k % 5), ← vI_wr (y + k / 5)]
                    refine jw_callS hC (c_X5_isPlace l E M _ _ (wr_b1 _) (wr_b2 _) (wr_b1 _) (wr_b2 _)) sS_X5_53 dX5_reason_105 rfl rfl ⟨Nat.le_of_ble_eq_true rfl, Nat.le_of_ble_eq_true rfl⟩ ⟨Nat.zero_le _, Nat.zero_le _⟩ (Nat.le_of_ble_eq_true rfl) (fun v105 M105 g105 => ?_)
                    obtain ⟨rfl, rfl⟩ := g105
                    have w1 := wr_plus x1 x2 p8.1 p8.2 (c := k % 5) (by omega) (by omega)
                    have w2 := wr_plus0 y1 y2 (c := k / 5) (by omega) (by omega)
                    have hpq : f_pu k (x + M 89 4) y = -1 ↔ ¬ ((0 ≤ wr (x + M 89 4 + k % 5) ∧ wr (x + M 89 4 + k % 5) ≤ 11) ∧ (0 ≤ wr (y + k / 5) ∧ wr (y + k / 5) ≤ 11)) := by
                      rw [w1, w2]
                      unfold f_pu f_pl
                      split <;> omega
                    have hz105 : (if ((0 ≤ wr (x + M 89 4 + k % 5) ∧ wr (x + M 89 4 + k % 5) ≤ 11) ∧ (0 ≤ wr (y + k / 5) ∧ wr (y + k / 5) ≤ 11)) then (1 : Int) else 0) = if f_pu k (x + M 89 4) y = -1 then 0 else 1 := by
                      by_cases hc : f_pu k (x + M 89 4) y = -1
                      · rw [if_pos hc, if_neg (hpq.mp hc)]
                      · rw [if_neg hc, if_pos (Decidable.by_contra (fun z => hc (hpq.mpr z)))]
                    rw [hz105]
                    have hz2 : (if f_pu k (x + M 89 4) y = -1 then (0 : Int) else 1) = 0 ∨ (if f_pu k (x + M 89 4) y = -1 then (0 : Int) else 1) = 1 := by split <;> omega
                    refine jw_if_ne (tgt := 115) hC dX5_reason_108 (by decide) (by omega) (by omega) (fun h108 => ?_) (fun h108 => ?_)
                    · skip
                      refine jw_iconst hC dX5_reason_115 ?_
                      refine jw_istore (L' := [(5, _), (6, _), (7, _), (9, _), (0, _), (1, _), (2, _), (3, _), (4, _), (8, _)]) hC dX5_reason_116 (by decide) rfl ?_
                      refine jw_iinc (L' := [(8, _), (5, _), (6, _), (7, _), (9, _), (0, _), (1, _), (2, _), (3, _), (4, _)]) hC dX5_reason_118 9 rfl (by decide) rfl ?_
                      refine jw_goto (tgt := 12) hC dX5_reason_121 (by decide) ?_
                      refine jw_loc (L' := [(0, _), (1, _), (2, _), (3, _), (4, _), (5, _), (6, _), (7, _), (8, _)]) [5, 6, 7, 8, 9, 1, 2, 3, 0] rfl ?_
                      have hos := f_on_s (f_rel (vQ (M 89)) a t) (x + M 89 4) y i2
                      rw [← hon] at hos
                      have hms := f_max_s (f_rel (vQ (M 89)) a t) i2
                      rw [← hmx] at hms
                      first
                      | (rw [if_pos (by omega)] at hos
                         exact ih (k + 1) _ _ _ (max mx (f_rel (vQ (M 89)) a t k)) 1 (by omega) (by omega) (by omega) hms.symm hos.symm (by omega) (by omega) (by omega) (by omega) (by omega))
                      | (rw [if_neg (by omega)] at hos
                         exact ih (k + 1) _ _ _ (max mx (f_rel (vQ (M 89)) a t k)) 0 (by omega) (by omega) (by omega) hms.symm hos.symm (by omega) (by omega) (by omega) (by omega) (by omega))
                      | (have hcp : f_pu k (x + M 89 4) y = -1 := Decidable.by_contra (fun z => by rw [if_neg z] at h108; omega)
                         rw [if_pos (by omega)] at hos
                         exact ih (k + 1) _ _ _ (max mx (f_rel (vQ (M 89)) a t k)) 1 (by omega) (by omega) (by omega) hms.symm hos.symm (by omega) (by omega) (by omega) (by omega) (by omega))
                      | (have hcp : ¬ f_pu k (x + M 89 4) y = -1 := fun z => by rw [if_pos z] at h108; omega
                         rw [if_neg (by omega)] at hos
                         exact ih (k + 1) _ _ _ (max mx (f_rel (vQ (M 89)) a t k)) 0 (by omega) (by omega) (by omega) hms.symm hos.symm (by omega) (by omega) (by omega) (by omega) (by omega))
                    · skip
                      refine jw_iconst hC dX5_reason_111 ?_
                      refine jw_goto (tgt := 116) hC dX5_reason_112 (by decide) ?_
                      refine jw_istore (L' := [(5, _), (6, _), (7, _), (9, _), (0, _), (1, _), (2, _), (3, _), (4, _), (8, _)]) hC dX5_reason_116 (by decide) rfl ?_
                      refine jw_iinc (L' := [(8, _), (5, _), (6, _), (7, _), (9, _), (0, _), (1, _), (2, _), (3, _), (4, _)]) hC dX5_reason_118 9 rfl (by decide) rfl ?_
                      refine jw_goto (tgt := 12) hC dX5_reason_121 (by decide) ?_
                      refine jw_loc (L' := [(0, _), (1, _), (2, _), (3, _), (4, _), (5, _), (6, _), (7, _), (8, _)]) [5, 6, 7, 8, 9, 1, 2, 3, 0] rfl ?_
                      have hos := f_on_s (f_rel (vQ (M 89)) a t) (x + M 89 4) y i2
                      rw [← hon] at hos
                      have hms := f_max_s (f_rel (vQ (M 89)) a t) i2
                      rw [← hmx] at hms
                      first
                      | (rw [if_pos (by omega)] at hos
                         exact ih (k + 1) _ _ _ (max mx (f_rel (vQ (M 89)) a t k)) 1 (by omega) (by omega) (by omega) hms.symm hos.symm (by omega) (by omega) (by omega) (by omega) (by omega))
                      | (rw [if_neg (by omega)] at hos
                         exact ih (k + 1) _ _ _ (max mx (f_rel (vQ (M 89)) a t k)) 0 (by omega) (by omega) (by omega) hms.symm hos.symm (by omega) (by omega) (by omega) (by omega) (by omega))
                      | (have hcp : f_pu k (x + M 89 4) y = -1 := Decidable.by_contra (fun z => by rw [if_neg z] at h108; omega)
                         rw [if_pos (by omega)] at hos
                         exact ih (k + 1) _ _ _ (max mx (f_rel (vQ (M 89)) a t k)) 1 (by omega) (by omega) (by omega) hms.symm hos.symm (by omega) (by omega) (by omega) (by omega) (by omega))
                      | (have hcp : ¬ f_pu k (x + M 89 4) y = -1 := fun z => by rw [if_pos z] at h108; omega
                         rw [if_neg (by omega)] at hos
                         exact ih (k + 1) _ _ _ (max mx (f_rel (vQ (M 89)) a t k)) 0 (by omega) (by omega) (by omega) hms.symm hos.symm (by omega) (by omega) (by omega) (by omega) (by omega))
  refine jw_iconst hC dX5_reason_0 ?_
  refine jw_istore (L' := [(5, _), (0, _), (1, _), (2, _), (3, _), (4, _)]) hC dX5_reason_1 (by decide) rfl ?_
  refine jw_iconst hC dX5_reason_3 ?_
  refine jw_istore (L' := [(6, _), (5, _), (0, _), (1, _), (2, _), (3, _), (4, _)]) hC dX5_reason_4 (by decide) rfl ?_
  refine jw_iconst hC dX5_reason_6 ?_
  refine jw_istore (L' := [(7, _), (6, _), (5, _), (0, _), (1, _), (2, _), (3, _), (4, _)]) hC dX5_reason_7 (by decide) rfl ?_
  refine jw_iconst hC dX5_reason_9 ?_
  refine jw_istore (L' := [(8, _), (7, _), (6, _), (5, _), (0, _), (1, _), (2, _), (3, _), (4, _)]) hC dX5_reason_10 (by decide) rfl ?_
  refine jw_loc (L' := [(0, _), (1, _), (2, _), (3, _), (4, _), (5, _), (6, _), (7, _), (8, _)]) [4, 5, 6, 7, 8, 3, 2, 1, 0] rfl ?_
  exact K12 26 0 0 0 0 0 0 (by omega) (by omega) (by omega) rfl rfl (by omega) (by omega) rfl (by omega) (by omega)
