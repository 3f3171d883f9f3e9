/-! NUMBERS, PROPERTIES, THE DIGEST: the private methods of EmbossPress -/
def f_num (M : ewM) (w : Int) : Int := if w = 0 then M 50 4 else if w = 1 then M 50 5 else if w = 2 then M 50 3 else if w = 3 then M 50 6 else if w = 4 then f_sum (M 3) 144 else if w = 5 then f_max (M 1) 144 else if w = 6 then f_sum (f_str (M 1)) 144 else if w = 7 then 2 * f_sum (fun q => f_s2 (M 1) q + f_s4 (M 1) q) 144 else if w = 8 then f_sum (fun q => if M 2 q = 0 then 0 else 1) 144 else if w = 9 then M 50 10 else if w = 10 then M 50 7 else if w = 11 then M 50 8 else if w = 12 then M 50 9 else M 77 5
def f_prop (M : ewM) (p w : Int) : Int := if w = 0 then M 1 p else if w = 1 then M 2 p else if w = 2 then M 3 p else if w = 3 then f_str (M 1) p else if w = 4 then f_bear (M 3) p (M 52 0) (M 52 1) else if w = 5 then (if f_ov (M 50) p then 1 else 0) else M 4 p
/-- a hash over the first n of the values -/
def f_h (vals : Int → Int) : Nat → Int → Int
  | 0, h => h
  | n + 1, h => 31 * f_h vals n h + vals n
theorem f_h_s (vals : Int → Int) {k : Int} (h0 : 0 ≤ k) (h : Int) : f_h vals (k + 1).toNat h = 31 * f_h vals k.toNat h + vals k := by
  rw [show (k + 1).toNat = k.toNat + 1 by omega, f_h, show (k.toNat : Int) = k by omega]
theorem f_h_cg {f g : Int → Int} : ∀ n : Nat, (∀ k : Int, 0 ≤ k → k < n → f k = g k) → ∀ h : Int, f_h f n h = f_h g n h := by
  intro n
  induction n with
  | zero => intro _ h; rfl
  | succ n ih =>
    intro hk h
    rw [f_h, f_h, ih (fun k k1 k2 => hk k k1 (by omega)), hk n (by omega) (by omega)]
/-- the best row of a fold: the fewest cracks over the rows 1 to n + 1, and the first row with them -/
def f_fl (fc : Int → Int) : Nat → Int
  | 0 => fc 1
  | n + 1 => if fc (n + 2) < f_fl fc n then fc (n + 2) else f_fl fc n
def f_fr (fc : Int → Int) : Nat → Int
  | 0 => 1
  | n + 1 => if fc (n + 2) < f_fl fc n then n + 2 else f_fr fc n
theorem f_fl_s (fc : Int → Int) {k : Int} (h : 2 ≤ k) : f_fl fc (k - 1).toNat = (if fc k < f_fl fc (k - 2).toNat then fc k else f_fl fc (k - 2).toNat) ∧ f_fr fc (k - 1).toNat = if fc k < f_fl fc (k - 2).toNat then k else f_fr fc (k - 2).toNat := by
  rw [show (k - 1).toNat = (k - 2).toNat + 1 by omega, f_fl, f_fr, show (((k - 2).toNat : Nat) : Int) + 2 = k by omega]
  exact ⟨rfl, rfl⟩
theorem f_fr_b (fc : Int → Int) : ∀ n : Nat, 1 ≤ f_fr fc n ∧ f_fr fc n ≤ n + 1 := by
  intro n
  induction n with
  | zero => exact ⟨Int.le_refl _, Int.le_refl _⟩
  | succ n ih =>
    rw [f_fr]
    split <;> omega
theorem f_fc_b {d c : Int → Int} (row b t : Int) (hc : pC c) : 0 ≤ f_fc d c row b t ∧ f_fc d c row b t ≤ 144 := by
  have h1 := f_it_le (d := d) (b := b) (t := t) (c := f_brk (f_ovf d c row b t) c) 144
  have h2 := f_sum_C (f_it_C (f_brk_C hc (P := f_ovf d c row b t)) (d := d) (b := b) (t := t) 144)
  have h3 := f_sum_C hc
  have h4 := f_sum_C (f_brk_C hc (P := f_ovf d c row b t))
  have h5 : f_sum c 144 ≤ f_sum (f_brk (f_ovf d c row b t) c) 144 := f_sum_le' 144 (fun k _ _ => by
    have := hc k
    unfold f_brk
    split <;> omega)
  unfold f_fc
  omega
theorem f_bs_b (ans : Int → Int) : ∀ n : Nat, n ≤ 144 → -1 ≤ f_bs ans n ∧ f_bs ans n ≤ 1111 := by
  intro n
  induction n with
  | zero => intro _; exact ⟨Int.le_refl _, by show (-1 : Int) ≤ 1111; decide⟩
  | succ n ih =>
    intro hn
    have := ih (by omega)
    rw [f_bs]
    split <;> omega
theorem f_lt_b (P : Int → Int) (a o : Int) : ∀ (n : Nat) (t : Int), 0 ≤ t → -1 ≤ f_lt P a o n t ∧ f_lt P a o n t < t + n + 1 := by
  intro n
  induction n with
  | zero => intro t ht; exact ⟨Int.le_refl _, by show (-1 : Int) < t + ((0 : Nat) : Int) + 1; omega⟩
  | succ n ih =>
    intro t ht
    have := ih (t + 1) (by omega)
    rw [f_lt]
    split <;> omega
theorem a_ans_b {M : ewM} (h0 : st0 M) (r : Int → Int) (x y : Int) : 0 ≤ a_ans M r x y ∧ a_ans M r x y ≤ 244 := by
  have h1 := f_rsn_b r (x + M 50 3) y (M 52 2)
  have h2 := f_cks_b (r := r) (left := x + M 50 3) (top := y) (d := M 1) (c := M 3) (b := M 52 0) (t := M 52 1) h0.2.1
  unfold a_ans f_ans
  split <;> omega
theorem f_need_b {r d c : Int → Int} {left top t deep : Int} (hr : pD r) (hd : pD d) (hc : pC c) (ht : 0 ≤ t ∧ t ≤ 20) : -1 ≤ f_need r left top d c t deep ∧ f_need r left top d c t deep ≤ 99 := by
  have h1 := f_least_b (f_emb_D hr hd left top 25) hc ht 144
  unfold f_need
  repeat' split
  all_goals omega
set_option maxRecDepth 100000 in
set_option maxHeartbeats 4000000 in
theorem c_X4_propertyOf (l : Launch) (E : ewE) (M : ewM) (h0 : st0 M) (p : Int) (hp : 0 ≤ p ∧ p < 144) (w : Int) (hw : 0 ≤ w ∧ w < 7) : Ct l E yX4_propertyOf (.code yX4_propertyOf cX4_propertyOf 4 (some .int)) 4 [vR E 77, vI p, vI w] M (fun v M1 => v = some (vI (f_prop M p w)) ∧ (-2147483648 ≤ f_prop M p w ∧ f_prop M p w < 2147483648) ∧ M = M1) := by
  refine ct_of (L0 := [(0, vR E 77), (1, vI p), (2, vI w)]) (by decide +kernel) rfl (Nat.le_of_ble_eq_true rfl) ?_
  intro zp ze zs zm za zb zt zc zA hC
  obtain ⟨p1, p2, p3, p4, p5, p6, p7, p8⟩ := id h0
  refine jw_aload_n hC dX4_propertyOf_0 0 rfl rfl ?_
  refine jw_getr hC fL_X4_12 ewR_x0 dX4_propertyOf_1 ?_
  refine jw_getr hC fL_X4_88 (show ewR 50 6 2 0 from ewR_t2 (j := 0) (by decide)) dX4_propertyOf_4 ?_
  refine jw_astore_n (L' := [(3, _), (0, _), (1, _), (2, _)]) hC dX4_propertyOf_7 rfl (by decide) rfl ?_
  refine jw_iload_n hC dX4_propertyOf_8 3 rfl rfl ?_
  rcases (show w = 0 ∨ w = 1 ∨ w = 2 ∨ w = 3 ∨ w = 4 ∨ w = 5 ∨ w = 6 by omega) with rfl | rfl | rfl | rfl | rfl | rfl | rfl
  · skip
    refine jw_tabIn (tgt := 48) hC dX4_propertyOf_9 (by decide) (by decide) (by decide) (by decide) rfl (by decide) ?_
    refine jw_aload_n hC dX4_propertyOf_48 0 rfl rfl ?_
    refine jw_getr hC fL_X4_343 (show ewR 0 5 0 1 from ewR_s0 (j := 0) (by decide)) dX4_propertyOf_49 ?_
    refine jw_iload_n hC dX4_propertyOf_52 2 rfl rfl ?_
    refine jw_iald hC (show ewA 1 0 144 from ewA_sheet (j := 0) (r := 1) (by decide) (by decide) (by decide)) dX4_propertyOf_53 (by omega) (by omega) (by decide) (fun b53 c53 => ?_)
    refine jw_iret hC dX4_propertyOf_54 ?_
    first
    | exact ⟨rfl, ⟨by show _ ≤ M 1 p; omega, by show M 1 p < _; omega⟩, rfl⟩
    | exact ⟨rfl, ⟨by show _ ≤ M 2 p; omega, by show M 2 p < _; omega⟩, rfl⟩
    | exact ⟨rfl, ⟨by show _ ≤ M 3 p; omega, by show M 3 p < _; omega⟩, rfl⟩
    | exact ⟨rfl, ⟨by show _ ≤ M 4 p; omega, by show M 4 p < _; omega⟩, rfl⟩
    | exact ⟨rfl, ⟨by show _ ≤ f_str (M 1) p; have := f_str_b p1 p; omega, by show f_str (M 1) p < _; have := f_str_b p1 p; omega⟩, rfl⟩
    | exact ⟨rfl, ⟨by show _ ≤ f_bear (M 3) p (M 52 0) (M 52 1); have := f_bear_b p p2 p4 p5; omega, by show f_bear (M 3) p (M 52 0) (M 52 1) < _; have := f_bear_b p p2 p4 p5; omega⟩, rfl⟩
    | (have e9 : f_prop M p 5 = if f_ov (M 50) p then 1 else 0 := rfl
       rw [e9]
       first
       | (have hz : f_ov (M 50) p := Decidable.by_contra (fun z => by rw [if_neg z] at h107; omega)
          rw [if_pos hz]
          exact ⟨rfl, ⟨by decide, by decide⟩, rfl⟩)
       | (have hz : ¬ f_ov (M 50) p := fun z => by rw [if_pos z] at h107; omega
          rw [if_neg hz]
          exact ⟨rfl, ⟨by decide, by decide⟩, rfl⟩))
  · skip
    refine jw_tabIn (tgt := 55) hC dX4_propertyOf_9 (by decide) (by decide) (by decide) (by decide) rfl (by decide) ?_
    refine jw_aload_n hC dX4_propertyOf_55 0 rfl rfl ?_
    refine jw_getr hC fL_X4_346 (show ewR 0 5 1 2 from ewR_s1 (j := 0) (by decide)) dX4_propertyOf_56 ?_
    refine jw_iload_n hC dX4_propertyOf_59 2 rfl rfl ?_
    refine jw_iald hC (show ewA 2 0 144 from ewA_sheet (j := 0) (r := 2) (by decide) (by decide) (by decide)) dX4_propertyOf_60 (by omega) (by omega) (by decide) (fun b60 c60 => ?_)
    refine jw_iret hC dX4_propertyOf_61 ?_
    first
    | exact ⟨rfl, ⟨by show _ ≤ M 1 p; omega, by show M 1 p < _; omega⟩, rfl⟩
    | exact ⟨rfl, ⟨by show _ ≤ M 2 p; omega, by show M 2 p < _; omega⟩, rfl⟩
    | exact ⟨rfl, ⟨by show _ ≤ M 3 p; omega, by show M 3 p < _; omega⟩, rfl⟩
    | exact ⟨rfl, ⟨by show _ ≤ M 4 p; omega, by show M 4 p < _; omega⟩, rfl⟩
    | exact ⟨rfl, ⟨by show _ ≤ f_str (M 1) p; have := f_str_b p1 p; omega, by show f_str (M 1) p < _; have := f_str_b p1 p; omega⟩, rfl⟩
    | exact ⟨rfl, ⟨by show _ ≤ f_bear (M 3) p (M 52 0) (M 52 1); have := f_bear_b p p2 p4 p5; omega, by show f_bear (M 3) p (M 52 0) (M 52 1) < _; have := f_bear_b p p2 p4 p5; omega⟩, rfl⟩
    | (have e9 : f_prop M p 5 = if f_ov (M 50) p then 1 else 0 := rfl
       rw [e9]
       first
       | (have hz : f_ov (M 50) p := Decidable.by_contra (fun z => by rw [if_neg z] at h107; omega)
          rw [if_pos hz]
          exact ⟨rfl, ⟨by decide, by decide⟩, rfl⟩)
       | (have hz : ¬ f_ov (M 50) p := fun z => by rw [if_pos z] at h107; omega
          rw [if_neg hz]
          exact ⟨rfl, ⟨by decide, by decide⟩, rfl⟩))
  · skip
    refine jw_tabIn (tgt := 62) hC dX4_propertyOf_9 (by decide) (by decide) (by decide) (by decide) rfl (by decide) ?_
    refine jw_aload_n hC dX4_propertyOf_62 0 rfl rfl ?_
    refine jw_getr hC fL_X4_349 (show ewR 0 5 2 3 from ewR_s2 (j := 0) (by decide)) dX4_propertyOf_63 ?_
    refine jw_iload_n hC dX4_propertyOf_66 2 rfl rfl ?_
    refine jw_iald hC (show ewA 3 0 144 from ewA_sheet (j := 0) (r := 3) (by decide) (by decide) (by decide)) dX4_propertyOf_67 (by omega) (by omega) (by decide) (fun b67 c67 => ?_)
    refine jw_iret hC dX4_propertyOf_68 ?_
    first
    | exact ⟨rfl, ⟨by show _ ≤ M 1 p; omega, by show M 1 p < _; omega⟩, rfl⟩
    | exact ⟨rfl, ⟨by show _ ≤ M 2 p; omega, by show M 2 p < _; omega⟩, rfl⟩
    | exact ⟨rfl, ⟨by show _ ≤ M 3 p; omega, by show M 3 p < _; omega⟩, rfl⟩
    | exact ⟨rfl, ⟨by show _ ≤ M 4 p; omega, by show M 4 p < _; omega⟩, rfl⟩
    | exact ⟨rfl, ⟨by show _ ≤ f_str (M 1) p; have := f_str_b p1 p; omega, by show f_str (M 1) p < _; have := f_str_b p1 p; omega⟩, rfl⟩
    | exact ⟨rfl, ⟨by show _ ≤ f_bear (M 3) p (M 52 0) (M 52 1); have := f_bear_b p p2 p4 p5; omega, by show f_bear (M 3) p (M 52 0) (M 52 1) < _; have := f_bear_b p p2 p4 p5; omega⟩, rfl⟩
    | (have e9 : f_prop M p 5 = if f_ov (M 50) p then 1 else 0 := rfl
       rw [e9]
       first
       | (have hz : f_ov (M 50) p := Decidable.by_contra (fun z => by rw [if_neg z] at h107; omega)
          rw [if_pos hz]
          exact ⟨rfl, ⟨by decide, by decide⟩, rfl⟩)
       | (have hz : ¬ f_ov (M 50) p := fun z => by rw [if_pos z] at h107; omega
          rw [if_neg hz]
          exact ⟨rfl, ⟨by decide, by decide⟩, rfl⟩))
  · skip
    refine jw_tabIn (tgt := 69) hC dX4_propertyOf_9 (by decide) (by decide) (by decide) (by decide) rfl (by decide) ?_
    refine jw_aload_n hC dX4_propertyOf_69 0 rfl rfl ?_
    refine jw_iload_n hC dX4_propertyOf_70 2 rfl rfl ?_
    refine jw_callV hC (c_X2_strainOf l E M 0 (by decide) _ hp p1) sV_X4_352 (show ewO 0 5 from ewO_sheet (j := 0) (by decide)) dX4_propertyOf_71 rfl rfl ⟨Nat.le_of_ble_eq_true rfl, Nat.le_of_ble_eq_true rfl⟩ ⟨Nat.zero_le _, Nat.zero_le _⟩ (Nat.le_of_ble_eq_true rfl) (fun v71 M71 g71 => ?_)
    obtain ⟨rfl, rfl⟩ := g71
    refine jw_iret hC dX4_propertyOf_74 ?_
    first
    | exact ⟨rfl, ⟨by show _ ≤ M 1 p; omega, by show M 1 p < _; omega⟩, rfl⟩
    | exact ⟨rfl, ⟨by show _ ≤ M 2 p; omega, by show M 2 p < _; omega⟩, rfl⟩
    | exact ⟨rfl, ⟨by show _ ≤ M 3 p; omega, by show M 3 p < _; omega⟩, rfl⟩
    | exact ⟨rfl, ⟨by show _ ≤ M 4 p; omega, by show M 4 p < _; omega⟩, rfl⟩
    | exact ⟨rfl, ⟨by show _ ≤ f_str (M 1) p; have := f_str_b p1 p; omega, by show f_str (M 1) p < _; have := f_str_b p1 p; omega⟩, rfl⟩
    | exact ⟨rfl, ⟨by show _ ≤ f_bear (M 3) p (M 52 0) (M 52 1); have := f_bear_b p p2 p4 p5; omega, by show f_bear (M 3) p (M 52 0) (M 52 1) < _; have := f_bear_b p p2 p4 p5; omega⟩, rfl⟩
    | (have e9 : f_prop M p 5 = if f_ov (M 50) p then 1 else 0 := rfl
       rw [e9]
       first
       | (have hz : f_ov (M 50) p := Decidable.by_contra (fun z => by rw [if_neg z] at h107; omega)
          rw [if_pos hz]
          exact ⟨rfl, ⟨by decide, by decide⟩, rfl⟩)
       | (have hz : ¬ f_ov (M 50) p := fun z => by rw [if_pos z] at h107; omega
          rw [if_neg hz]
          exact ⟨rfl, ⟨by decide, by decide⟩, rfl⟩))
  · skip
    refine jw_tabIn (tgt := 75) hC dX4_propertyOf_9 (by decide) (by decide) (by decide) (by decide) rfl (by decide) ?_
    refine jw_aload_n hC dX4_propertyOf_75 0 rfl rfl ?_
    refine jw_iload_n hC dX4_propertyOf_76 2 rfl rfl ?_
    refine jw_aload_n hC dX4_propertyOf_77 1 rfl rfl ?_
    refine jw_getr hC fL_X4_12 ewR_x0 dX4_propertyOf_78 ?_
    refine jw_getr hC fL_X4_165 (show ewR 50 6 1 52 from ewR_t1 (j := 0) (by decide)) dX4_propertyOf_81 ?_
    refine jw_iconst hC dX4_propertyOf_84 ?_
    refine jw_iald hC (show ewA 52 0 4 from ewA_settings (j := 0) (by decide)) dX4_propertyOf_85 (by omega) (by omega) (by decide) (fun b85 c85 => ?_)
    refine jw_aload_n hC dX4_propertyOf_86 1 rfl rfl ?_
    refine jw_getr hC fL_X4_12 ewR_x0 dX4_propertyOf_87 ?_
    refine jw_getr hC fL_X4_165 (show ewR 50 6 1 52 from ewR_t1 (j := 0) (by decide)) dX4_propertyOf_90 ?_
    refine jw_iconst hC dX4_propertyOf_93 ?_
    refine jw_iald hC (show ewA 52 0 4 from ewA_settings (j := 0) (by decide)) dX4_propertyOf_94 (by omega) (by omega) (by decide) (fun b94 c94 => ?_)
    refine jw_callV hC (c_X2_bearingOf l E M 0 (by decide) _ _ _ hp p4 p5 p2) sV_X4_355 (show ewO 0 5 from ewO_sheet (j := 0) (by decide)) dX4_propertyOf_95 rfl rfl ⟨Nat.le_of_ble_eq_true rfl, Nat.le_of_ble_eq_true rfl⟩ ⟨Nat.zero_le _, Nat.zero_le _⟩ (Nat.le_of_ble_eq_true rfl) (fun v95 M95 g95 => ?_)
    obtain ⟨rfl, rfl⟩ := g95
    refine jw_iret hC dX4_propertyOf_98 ?_
    first
    | exact ⟨rfl, ⟨by show _ ≤ M 1 p; omega, by show M 1 p < _; omega⟩, rfl⟩
    | exact ⟨rfl, ⟨by show _ ≤ M 2 p; omega, by show M 2 p < _; omega⟩, rfl⟩
    | exact ⟨rfl, ⟨by show _ ≤ M 3 p; omega, by show M 3 p < _; omega⟩, rfl⟩
    | exact ⟨rfl, ⟨by show _ ≤ M 4 p; omega, by show M 4 p < _; omega⟩, rfl⟩
    | exact ⟨rfl, ⟨by show _ ≤ f_str (M 1) p; have := f_str_b p1 p; omega, by show f_str (M 1) p < _; have := f_str_b p1 p; omega⟩, rfl⟩
    | exact ⟨rfl, ⟨by show _ ≤ f_bear (M 3) p (M 52 0) (M 52 1); have := f_bear_b p p2 p4 p5; omega, by show f_bear (M 3) p (M 52 0) (M 52 1) < _; have := f_bear_b p p2 p4 p5; omega⟩, rfl⟩
    | (have e9 : f_prop M p 5 = if f_ov (M 50) p then 1 else 0 := rfl
       rw [e9]
       first
       | (have hz : f_ov (M 50) p := Decidable.by_contra (fun z => by rw [if_neg z] at h107; omega)
          rw [if_pos hz]
          exact ⟨rfl, ⟨by decide, by decide⟩, rfl⟩)
       | (have hz : ¬ f_ov (M 50) p := fun z => by rw [if_pos z] at h107; omega
          rw [if_neg hz]
          exact ⟨rfl, ⟨by decide, by decide⟩, rfl⟩))
  · skip
    refine jw_tabIn (tgt := 99) hC dX4_propertyOf_9 (by decide) (by decide) (by decide) (by decide) rfl (by decide) ?_
    refine jw_aload_n hC dX4_propertyOf_99 1 rfl rfl ?_
    refine jw_getr hC fL_X4_12 ewR_x0 dX4_propertyOf_100 ?_
    refine jw_iload_n hC dX4_propertyOf_103 2 rfl rfl ?_
    refine jw_callV hC (c_X3_isFoilReadyOver l E M 0 (by decide) _ hp) sV_X4_358 (show ewO 50 6 from ewO_state (j := 0) (by decide)) dX4_propertyOf_104 rfl rfl ⟨Nat.le_of_ble_eq_true rfl, Nat.le_of_ble_eq_true rfl⟩ ⟨Nat.zero_le _, Nat.zero_le _⟩ (Nat.le_of_ble_eq_true rfl) (fun v104 M104 g104 => ?_)
    obtain ⟨rfl, rfl⟩ := g104
    have hq104 : (if f_ov (M (50 + 3 * 0)) p then (1 : Int) else 0) = if f_ov (M 50) p then 1 else 0 := rfl
    rw [hq104]
    have hov : (if f_ov (M 50) p then (1 : Int) else 0) = 0 ∨ (if f_ov (M 50) p then (1 : Int) else 0) = 1 := by split <;> omega
    refine jw_if_eq (tgt := 114) hC dX4_propertyOf_107 (by decide) (by omega) (by omega) (fun h107 => ?_) (fun h107 => ?_)
    · skip
      refine jw_iconst hC dX4_propertyOf_114 ?_
      refine jw_iret hC dX4_propertyOf_115 ?_
      first
      | exact ⟨rfl, ⟨by show _ ≤ M 1 p; omega, by show M 1 p < _; omega⟩, rfl⟩
      | exact ⟨rfl, ⟨by show _ ≤ M 2 p; omega, by show M 2 p < _; omega⟩, rfl⟩
      | exact ⟨rfl, ⟨by show _ ≤ M 3 p; omega, by show M 3 p < _; omega⟩, rfl⟩
      | exact ⟨rfl, ⟨by show _ ≤ M 4 p; omega, by show M 4 p < _; omega⟩, rfl⟩
      | exact ⟨rfl, ⟨by show _ ≤ f_str (M 1) p; have := f_str_b p1 p; omega, by show f_str (M 1) p < _; have := f_str_b p1 p; omega⟩, rfl⟩
      | exact ⟨rfl, ⟨by show _ ≤ f_bear (M 3) p (M 52 0) (M 52 1); have := f_bear_b p p2 p4 p5; omega, by show f_bear (M 3) p (M 52 0) (M 52 1) < _; have := f_bear_b p p2 p4 p5; omega⟩, rfl⟩
      | (have e9 : f_prop M p 5 = if f_ov (M 50) p then 1 else 0 := rfl
         rw [e9]
         first
         | (have hz : f_ov (M 50) p := Decidable.by_contra (fun z => by rw [if_neg z] at h107; omega)
            rw [if_pos hz]
            exact ⟨rfl, ⟨by decide, by decide⟩, rfl⟩)
         | (have hz : ¬ f_ov (M 50) p := fun z => by rw [if_pos z] at h107; omega
            rw [if_neg hz]
            exact ⟨rfl, ⟨by decide, by decide⟩, rfl⟩))
    · skip
      refine jw_iconst hC dX4_propertyOf_110 ?_
      refine jw_goto (tgt := 115) hC dX4_propertyOf_111 (by decide) ?_
      refine jw_iret hC dX4_propertyOf_115 ?_
      first
      | exact ⟨rfl, ⟨by show _ ≤ M 1 p; omega, by show M 1 p < _; omega⟩, rfl⟩
      | exact ⟨rfl, ⟨by show _ ≤ M 2 p; omega, by show M 2 p < _; omega⟩, rfl⟩
      | exact ⟨rfl, ⟨by show _ ≤ M 3 p; omega, by show M 3 p < _; omega⟩, rfl⟩
      | exact ⟨rfl, ⟨by show _ ≤ M 4 p; omega, by show M 4 p < _; omega⟩, rfl⟩
      | exact ⟨rfl, ⟨by show _ ≤ f_str (M 1) p; have := f_str_b p1 p; omega, by show f_str (M 1) p < _; have := f_str_b p1 p; omega⟩, rfl⟩
      | exact ⟨rfl, ⟨by show _ ≤ f_bear (M 3) p (M 52 0) (M 52 1); have := f_bear_b p p2 p4 p5; omega, by show f_bear (M 3) p (M 52 0) (M 52 1) < _; have := f_bear_b p p2 p4 p5; omega⟩, rfl⟩
      | (have e9 : f_prop M p 5 = if f_ov (M 50) p then 1 else 0 := rfl
         rw [e9]
         first
         | (have hz : f_ov (M 50) p := Decidable.by_contra (fun z => by rw [if_neg z] at h107; omega)
            rw [if_pos hz]
            exact ⟨rfl, ⟨by decide, by decide⟩, rfl⟩)
         | (have hz : ¬ f_ov (M 50) p := fun z => by rw [if_pos z] at h107; omega
            rw [if_neg hz]
            exact ⟨rfl, ⟨by decide, by decide⟩, rfl⟩))
  · skip
    refine jw_tabOut (tgt := 116) hC dX4_propertyOf_9 (by decide) (by decide) (by decide) (by decide) ?_
    refine jw_aload_n hC dX4_propertyOf_116 0 rfl rfl ?_
    refine jw_getr hC fL_X4_361 (show ewR 0 5 3 4 from ewR_s3 (j := 0) (by decide)) dX4_propertyOf_117 ?_
    refine jw_iload_n hC dX4_propertyOf_120 2 rfl rfl ?_
    refine jw_iald hC (show ewA 4 0 144 from ewA_sheet (j := 0) (r := 4) (by decide) (by decide) (by decide)) dX4_propertyOf_121 (by omega) (by omega) (by decide) (fun b121 c121 => ?_)
    refine jw_iret hC dX4_propertyOf_122 ?_
    first
    | exact ⟨rfl, ⟨by show _ ≤ M 1 p; omega, by show M 1 p < _; omega⟩, rfl⟩
    | exact ⟨rfl, ⟨by show _ ≤ M 2 p; omega, by show M 2 p < _; omega⟩, rfl⟩
    | exact ⟨rfl, ⟨by show _ ≤ M 3 p; omega, by show M 3 p < _; omega⟩, rfl⟩
    | exact ⟨rfl, ⟨by show _ ≤ M 4 p; omega, by show M 4 p < _; omega⟩, rfl⟩
    | exact ⟨rfl, ⟨by show _ ≤ f_str (M 1) p; have := f_str_b p1 p; omega, by show f_str (M 1) p < _; have := f_str_b p1 p; omega⟩, rfl⟩
    | exact ⟨rfl, ⟨by show _ ≤ f_bear (M 3) p (M 52 0) (M 52 1); have := f_bear_b p p2 p4 p5; omega, by show f_bear (M 3) p (M 52 0) (M 52 1) < _; have := f_bear_b p p2 p4 p5; omega⟩, rfl⟩
    | (have e9 : f_prop M p 5 = if f_ov (M 50) p then 1 else 0 := rfl
       rw [e9]
       first
       | (have hz : f_ov (M 50) p := Decidable.by_contra (fun z => by rw [if_neg z] at h107; omega)
          rw [if_pos hz]
          exact ⟨rfl, ⟨by decide, by decide⟩, rfl⟩)
       | (have hz : ¬ f_ov (M 50) p := fun z => by rw [if_pos z] at h107; omega
          rw [if_neg hz]
          exact ⟨rfl, ⟨by decide, by decide⟩, rfl⟩))
set_option maxRecDepth 100000 in
set_option maxHeartbeats 4000000 in
theorem c_X4_numberOf (l : Launch) (E : ewE) (M : ewM) (h0 : st0 M) (w : Int) (hw : 0 ≤ w ∧ w < 14) : Ct l E yX4_numberOf (.code yX4_numberOf cX4_numberOf 2 (some .int)) 4 [vR E 77, vI w] M (fun v M1 => v = some (vI (f_num M w)) ∧ (-2147483648 ≤ f_num M w ∧ f_num M w < 2147483648) ∧ M = M1) := by
  refine ct_of (L0 := [(0, vR E 77), (1, vI w)]) (by decide +kernel) rfl (Nat.le_of_ble_eq_true rfl) ?_
  intro zp ze zs zm za zb zt zc zA hC
  obtain ⟨p1, p2, p3, p4, p5, p6, p7, p8⟩ := id h0
  refine jw_iload_n hC dX4_numberOf_0 1 rfl rfl ?_
  rcases (show w = 0 ∨ w = 1 ∨ w = 2 ∨ w = 3 ∨ w = 4 ∨ w = 5 ∨ w = 6 ∨ w = 7 ∨ w = 8 ∨ w = 9 ∨ w = 10 ∨ w = 11 ∨ w = 12 ∨ w = 13 by omega) with rfl | rfl | rfl | rfl | rfl | rfl | rfl | rfl | rfl | rfl | rfl | rfl | rfl | rfl
  · skip
    refine jw_tabIn (tgt := 68) hC dX4_numberOf_1 (by decide) (by decide) (by decide) (by decide) rfl (by decide) ?_
    refine jw_aload_n hC dX4_numberOf_68 0 rfl rfl ?_
    refine jw_getr hC fL_X4_12 ewR_x0 dX4_numberOf_69 ?_
    refine jw_geti hC fL_X4_234.r (show ewF 50 6 4 from ewF_t (j := 0) (k := 4) (by decide) (by decide) (by decide)) (kI := 4) rfl dX4_numberOf_72 (by omega) (fun b72 c72 => ?_)
    refine jw_iret hC dX4_numberOf_75 ?_
    exact ⟨rfl, ⟨by show _ ≤ M 50 4; omega, by show M 50 4 < _; omega⟩, rfl⟩
  · skip
    refine jw_tabIn (tgt := 76) hC dX4_numberOf_1 (by decide) (by decide) (by decide) (by decide) rfl (by decide) ?_
    refine jw_aload_n hC dX4_numberOf_76 0 rfl rfl ?_
    refine jw_getr hC fL_X4_12 ewR_x0 dX4_numberOf_77 ?_
    refine jw_geti hC fL_X4_324.r (show ewF 50 6 5 from ewF_t (j := 0) (k := 5) (by decide) (by decide) (by decide)) (kI := 5) rfl dX4_numberOf_80 (by omega) (fun b80 c80 => ?_)
    refine jw_iret hC dX4_numberOf_83 ?_
    exact ⟨rfl, ⟨by show _ ≤ M 50 5; omega, by show M 50 5 < _; omega⟩, rfl⟩
  · skip
    refine jw_tabIn (tgt := 84) hC dX4_numberOf_1 (by decide) (by decide) (by decide) (by decide) rfl (by decide) ?_
    refine jw_aload_n hC dX4_numberOf_84 0 rfl rfl ?_
    refine jw_getr hC fL_X4_12 ewR_x0 dX4_numberOf_85 ?_
    refine jw_geti hC fL_X4_121.r (show ewF 50 6 3 from ewF_t (j := 0) (k := 3) (by decide) (by decide) (by decide)) (kI := 3) rfl dX4_numberOf_88 (by omega) (fun b88 c88 => ?_)
    refine jw_iret hC dX4_numberOf_91 ?_
    exact ⟨rfl, ⟨by show _ ≤ M 50 3; omega, by show M 50 3 < _; omega⟩, rfl⟩
  · skip
    refine jw_tabIn (tgt := 92) hC dX4_numberOf_1 (by decide) (by decide) (by decide) (by decide) rfl (by decide) ?_
    refine jw_aload_n hC dX4_numberOf_92 0 rfl rfl ?_
    refine jw_getr hC fL_X4_12 ewR_x0 dX4_numberOf_93 ?_
    refine jw_geti hC fL_X4_154.r (show ewF 50 6 6 from ewF_t (j := 0) (k := 6) (by decide) (by decide) (by decide)) (kI := 6) rfl dX4_numberOf_96 (by omega) (fun b96 c96 => ?_)
    refine jw_iret hC dX4_numberOf_99 ?_
    exact ⟨rfl, ⟨by show _ ≤ M 50 6; omega, by show M 50 6 < _; omega⟩, rfl⟩
  · skip
    refine jw_tabIn (tgt := 100) hC dX4_numberOf_1 (by decide) (by decide) (by decide) (by decide) rfl (by decide) ?_
    refine jw_aload_n hC dX4_numberOf_100 0 rfl rfl ?_
    refine jw_getr hC fL_X4_12 ewR_x0 dX4_numberOf_101 ?_
    refine jw_getr hC fL_X4_88 (show ewR 50 6 2 0 from ewR_t2 (j := 0) (by decide)) dX4_numberOf_104 ?_
    refine jw_callV hC (c_X2_cracked l E M 0 (by decide)) sV_X4_104 (show ewO 0 5 from ewO_sheet (j := 0) (by decide)) dX4_numberOf_107 rfl rfl ⟨Nat.le_of_ble_eq_true rfl, Nat.le_of_ble_eq_true rfl⟩ ⟨Nat.zero_le _, Nat.zero_le _⟩ (Nat.le_of_ble_eq_true rfl) (fun v107 M107 g107 => ?_)
    obtain ⟨rfl, rfl⟩ := g107
    refine jw_iret hC dX4_numberOf_110 ?_
    have hb := f_sum_C p2
    exact ⟨rfl, ⟨by show _ ≤ f_sum (M 3) 144; omega, by show f_sum (M 3) 144 < _; omega⟩, rfl⟩
  · skip
    refine jw_tabIn (tgt := 111) hC dX4_numberOf_1 (by decide) (by decide) (by decide) (by decide) rfl (by decide) ?_
    refine jw_aload_n hC dX4_numberOf_111 0 rfl rfl ?_
    refine jw_getr hC fL_X4_12 ewR_x0 dX4_numberOf_112 ?_
    refine jw_getr hC fL_X4_88 (show ewR 50 6 2 0 from ewR_t2 (j := 0) (by decide)) dX4_numberOf_115 ?_
    refine jw_callV hC (c_X2_greatestDepth l E M 0 (by decide) p1) sV_X4_364 (show ewO 0 5 from ewO_sheet (j := 0) (by decide)) dX4_numberOf_118 rfl rfl ⟨Nat.le_of_ble_eq_true rfl, Nat.le_of_ble_eq_true rfl⟩ ⟨Nat.zero_le _, Nat.zero_le _⟩ (Nat.le_of_ble_eq_true rfl) (fun v118 M118 g118 => ?_)
    obtain ⟨rfl, rfl⟩ := g118
    refine jw_iret hC dX4_numberOf_121 ?_
    have hb := f_max_D p1 144
    exact ⟨rfl, ⟨by show _ ≤ f_max (M 1) 144; omega, by show f_max (M 1) 144 < _; omega⟩, rfl⟩
  · skip
    refine jw_tabIn (tgt := 122) hC dX4_numberOf_1 (by decide) (by decide) (by decide) (by decide) rfl (by decide) ?_
    refine jw_aload_n hC dX4_numberOf_122 0 rfl rfl ?_
    refine jw_getr hC fL_X4_12 ewR_x0 dX4_numberOf_123 ?_
    refine jw_getr hC fL_X4_88 (show ewR 50 6 2 0 from ewR_t2 (j := 0) (by decide)) dX4_numberOf_126 ?_
    refine jw_callV hC (c_X2_strainByPlaces l E M 0 (by decide) p1) sV_X4_367 (show ewO 0 5 from ewO_sheet (j := 0) (by decide)) dX4_numberOf_129 rfl rfl ⟨Nat.le_of_ble_eq_true rfl, Nat.le_of_ble_eq_true rfl⟩ ⟨Nat.zero_le _, Nat.zero_le _⟩ (Nat.le_of_ble_eq_true rfl) (fun v129 M129 g129 => ?_)
    obtain ⟨rfl, rfl⟩ := g129
    refine jw_iret hC dX4_numberOf_132 ?_
    have hb := f_sum_le (g := f_str (M 1)) (a := 0) (b := 36) (fun k _ _ => f_str_b p1 k) 144 (by decide)
    exact ⟨rfl, ⟨by show _ ≤ f_sum (f_str (M 1)) 144; omega, by show f_sum (f_str (M 1)) 144 < _; omega⟩, rfl⟩
  · skip
    refine jw_tabIn (tgt := 133) hC dX4_numberOf_1 (by decide) (by decide) (by decide) (by decide) rfl (by decide) ?_
    refine jw_aload_n hC dX4_numberOf_133 0 rfl rfl ?_
    refine jw_getr hC fL_X4_12 ewR_x0 dX4_numberOf_134 ?_
    refine jw_getr hC fL_X4_88 (show ewR 50 6 2 0 from ewR_t2 (j := 0) (by decide)) dX4_numberOf_137 ?_
    refine jw_callV hC (c_X2_strainByPairs l E M 0 (by decide) p1) sV_X4_370 (show ewO 0 5 from ewO_sheet (j := 0) (by decide)) dX4_numberOf_140 rfl rfl ⟨Nat.le_of_ble_eq_true rfl, Nat.le_of_ble_eq_true rfl⟩ ⟨Nat.zero_le _, Nat.zero_le _⟩ (Nat.le_of_ble_eq_true rfl) (fun v140 M140 g140 => ?_)
    obtain ⟨rfl, rfl⟩ := g140
    refine jw_iret hC dX4_numberOf_143 ?_
    have hb := f_sum_le (g := fun q => f_s2 (M 1) q + f_s4 (M 1) q) (a := 0) (b := 18) (fun k _ _ => by have z1 := f_s2_b p1 k; have z2 := f_s4_b p1 k; omega) 144 (by decide)
    exact ⟨rfl, ⟨by show _ ≤ 2 * f_sum (fun q => f_s2 (M 1) q + f_s4 (M 1) q) 144; omega, by show 2 * f_sum (fun q => f_s2 (M 1) q + f_s4 (M 1) q) 144 < _; omega⟩, rfl⟩
  · skip
    refine jw_tabIn (tgt := 144) hC dX4_numberOf_1 (by decide) (by decide) (by decide) (by decide) rfl (by decide) ?_
    refine jw_aload_n hC dX4_numberOf_144 0 rfl rfl ?_
    refine jw_getr hC fL_X4_12 ewR_x0 dX4_numberOf_145 ?_
    refine jw_getr hC fL_X4_88 (show ewR 50 6 2 0 from ewR_t2 (j := 0) (by decide)) dX4_numberOf_148 ?_
    refine jw_callV hC (c_X2_foiled l E M 0 (by decide)) sV_X4_373 (show ewO 0 5 from ewO_sheet (j := 0) (by decide)) dX4_numberOf_151 rfl rfl ⟨Nat.le_of_ble_eq_true rfl, Nat.le_of_ble_eq_true rfl⟩ ⟨Nat.zero_le _, Nat.zero_le _⟩ (Nat.le_of_ble_eq_true rfl) (fun v151 M151 g151 => ?_)
    obtain ⟨rfl, rfl⟩ := g151
    refine jw_iret hC dX4_numberOf_154 ?_
    have hb := f_sum_le (g := fun q => if M 2 q = 0 then 0 else 1) (a := 0) (b := 1) (fun k _ _ => by split <;> omega) 144 (by decide)
    exact ⟨rfl, ⟨by show _ ≤ f_sum (fun q => if M 2 q = 0 then 0 else 1) 144; omega, by show f_sum (fun q => if M 2 q = 0 then 0 else 1) 144 < _; omega⟩, rfl⟩
  · skip
    refine jw_tabIn (tgt := 155) hC dX4_numberOf_1 (by decide) (by decide) (by decide) (by decide) rfl (by decide) ?_
    refine jw_aload_n hC dX4_numberOf_155 0 rfl rfl ?_
    refine jw_getr hC fL_X4_12 ewR_x0 dX4_numberOf_156 ?_
    refine jw_geti hC fL_X4_114.r (show ewF 50 6 10 from ewF_t (j := 0) (k := 10) (by decide) (by decide) (by decide)) (kI := 10) rfl dX4_numberOf_159 (by omega) (fun b159 c159 => ?_)
    refine jw_iret hC dX4_numberOf_162 ?_
    exact ⟨rfl, ⟨by show _ ≤ M 50 10; omega, by show M 50 10 < _; omega⟩, rfl⟩
  · skip
    refine jw_tabIn (tgt := 163) hC dX4_numberOf_1 (by decide) (by decide) (by decide) (by decide) rfl (by decide) ?_
    refine jw_aload_n hC dX4_numberOf_163 0 rfl rfl ?_
    refine jw_getr hC fL_X4_12 ewR_x0 dX4_numberOf_164 ?_
    refine jw_geti hC fL_X4_176.r (show ewF 50 6 7 from ewF_t (j := 0) (k := 7) (by decide) (by decide) (by decide)) (kI := 7) rfl dX4_numberOf_167 (by omega) (fun b167 c167 => ?_)
    refine jw_iret hC dX4_numberOf_170 ?_
    exact ⟨rfl, ⟨by show _ ≤ M 50 7; omega, by show M 50 7 < _; omega⟩, rfl⟩
  · skip
    refine jw_tabIn (tgt := 171) hC dX4_numberOf_1 (by decide) (by decide) (by decide) (by decide) rfl (by decide) ?_
    refine jw_aload_n hC dX4_numberOf_171 0 rfl rfl ?_
    refine jw_getr hC fL_X4_12 ewR_x0 dX4_numberOf_172 ?_
    refine jw_geti hC fL_X4_118.r (show ewF 50 6 8 from ewF_t (j := 0) (k := 8) (by decide) (by decide) (by decide)) (kI := 8) rfl dX4_numberOf_175 (by omega) (fun b175 c175 => ?_)
    refine jw_iret hC dX4_numberOf_178 ?_
    exact ⟨rfl, ⟨by show _ ≤ M 50 8; omega, by show M 50 8 < _; omega⟩, rfl⟩
  · skip
    refine jw_tabIn (tgt := 179) hC dX4_numberOf_1 (by decide) (by decide) (by decide) (by decide) rfl (by decide) ?_
    refine jw_aload_n hC dX4_numberOf_179 0 rfl rfl ?_
    refine jw_getr hC fL_X4_12 ewR_x0 dX4_numberOf_180 ?_
    refine jw_geti hC fL_X4_179.r (show ewF 50 6 9 from ewF_t (j := 0) (k := 9) (by decide) (by decide) (by decide)) (kI := 9) rfl dX4_numberOf_183 (by omega) (fun b183 c183 => ?_)
    refine jw_iret hC dX4_numberOf_186 ?_
    exact ⟨rfl, ⟨by show _ ≤ M 50 9; omega, by show M 50 9 < _; omega⟩, rfl⟩
  · skip
    refine jw_tabOut (tgt := 187) hC dX4_numberOf_1 (by decide) (by decide) (by decide) (by decide) ?_
    refine jw_aload_n hC dX4_numberOf_187 0 rfl rfl ?_
    refine jw_geti hC fL_X4_239.r ewF_x5 (kI := 5) rfl dX4_numberOf_188 (by omega) (fun b188 c188 => ?_)
    refine jw_iret hC dX4_numberOf_191 ?_
    exact ⟨rfl, ⟨by show _ ≤ M 77 5; omega, by show M 77 5 < _; omega⟩, rfl⟩






