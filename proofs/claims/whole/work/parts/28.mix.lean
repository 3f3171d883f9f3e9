/-! NUMBERS, PROPERTIES, THE DIGEST: the private methods of EmbossPress -/
def f_num (M : ewM) (w : Int) : Int := if w = 0 then M 50 4 else if w = 1 then M 50 5 else if w = 2 then M 50 3 else if w = 3 then M 50 6 else if w = 4 then f_sum (M 3) 144 else if w = 5 then f_max (M 1) 144 else if w = 6 then f_sum (f_str (M 1)) 144 else if w = 7 then 2 * f_sum (fun q => f_s2 (M 1) q + f_s4 (M 1) q) 144 else if w = 8 then f_sum (fun q => if M 2 q = 0 then 0 else 1) 144 else if w = 9 then M 50 10 else if w = 10 then M 50 7 else if w = 11 then M 50 8 else if w = 12 then M 50 9 else M 77 5
def f_prop (M : ewM) (p w : Int) : Int := if w = 0 then M 1 p else if w = 1 then M 2 p else if w = 2 then M 3 p else if w = 3 then f_str (M 1) p else if w = 4 then f_bear (M 3) p (M 52 0) (M 52 1) else if w = 5 then (if f_ov (M 50) p then 1 else 0) else M 4 p
/-- a hash over the first n of the values -/
def f_h (vals : Int → Int) : Nat → Int → Int
  | 0, h => h
  | n + 1, h => 31 * f_h vals n h + vals n
theorem f_h_s (vals : Int → Int) {k : Int} (h0 : 0 ≤ k) (h : Int) : f_h vals (k + 1).toNat h = 31 * f_h vals k.toNat h + vals k := by
  rw [show (k + 1).toNat = k.toNat + 1 by omega, f_h, show (k.toNat : Int) = k by omega]
theorem f_h_cg {f g : Int → Int} : ∀ n : Nat, (∀ k : Int, 0 ≤ k → k < n → f k = g k) → ∀ h : Int, f_h f n h = f_h g n h := by
  intro n
  induction n with
  | zero => intro _ h; rfl
  | succ n ih =>
    intro hk h
    rw [f_h, f_h, ih (fun k k1 k2 => hk k k1 (by omega)), hk n (by omega) (by omega)]
/-- the best row of a fold: the fewest cracks over the rows 1 to n + 1, and the first row with them -/
def f_fl (fc : Int → Int) : Nat → Int
  | 0 => fc 1
  | n + 1 => if fc (n + 2) < f_fl fc n then fc (n + 2) else f_fl fc n
def f_fr (fc : Int → Int) : Nat → Int
  | 0 => 1
  | n + 1 => if fc (n + 2) < f_fl fc n then n + 2 else f_fr fc n
theorem f_fl_s (fc : Int → Int) {k : Int} (h : 2 ≤ k) : f_fl fc (k - 1).toNat = (if fc k < f_fl fc (k - 2).toNat then fc k else f_fl fc (k - 2).toNat) ∧ f_fr fc (k - 1).toNat = if fc k < f_fl fc (k - 2).toNat then k else f_fr fc (k - 2).toNat := by
  rw [show (k - 1).toNat = (k - 2).toNat + 1 by omega, f_fl, f_fr, show (((k - 2).toNat : Nat) : Int) + 2 = k by omega]
  exact ⟨rfl, rfl⟩
theorem f_fr_b (fc : Int → Int) : ∀ n : Nat, 1 ≤ f_fr fc n ∧ f_fr fc n ≤ n + 1 := by
  intro n
  induction n with
  | zero => exact ⟨Int.le_refl _, Int.le_refl _⟩
  | succ n ih =>
    rw [f_fr]
    split <;> omega
theorem f_fc_b {d c : Int → Int} (row b t : Int) (hc : pC c) : 0 ≤ f_fc d c row b t ∧ f_fc d c row b t ≤ 144 := by
  have h1 := f_it_le (d := d) (b := b) (t := t) (c := f_brk (f_ovf d c row b t) c) 144
  have h2 := f_sum_C (f_it_C (f_brk_C hc (P := f_ovf d c row b t)) (d := d) (b := b) (t := t) 144)
  have h3 := f_sum_C hc
  have h4 := f_sum_C (f_brk_C hc (P := f_ovf d c row b t))
  have h5 : f_sum c 144 ≤ f_sum (f_brk (f_ovf d c row b t) c) 144 := f_sum_le' 144 (fun k _ _ => by
    have := hc k
    unfold f_brk
    split <;> omega)
  unfold f_fc
  omega
theorem f_bs_b (ans : Int → Int) : ∀ n : Nat, n ≤ 144 → -1 ≤ f_bs ans n ∧ f_bs ans n ≤ 1111 := by
  intro n
  induction n with
  | zero => intro _; exact ⟨Int.le_refl _, by show (-1 : Int) ≤ 1111; decide⟩
  | succ n ih =>
    intro hn
    have := ih (by omega)
    rw [f_bs]
    split <;> omega
theorem f_lt_b (P : Int → Int) (a o : Int) : ∀ (n : Nat) (t : Int), 0 ≤ t → -1 ≤ f_lt P a o n t ∧ f_lt P a o n t < t + n + 1 := by
  intro n
  induction n with
  | zero => intro t ht; exact ⟨Int.le_refl _, by show (-1 : Int) < t + ((0 : Nat) : Int) + 1; omega⟩
  | succ n ih =>
    intro t ht
    have := ih (t + 1) (by omega)
    rw [f_lt]
    split <;> omega
theorem a_ans_b {M : ewM} (h0 : st0 M) (r : Int → Int) (x y : Int) : 0 ≤ a_ans M r x y ∧ a_ans M r x y ≤ 244 := by
  have h1 := f_rsn_b r (x + M 50 3) y (M 52 2)
  have h2 := f_cks_b (r := r) (left := x + M 50 3) (top := y) (d := M 1) (c := M 3) (b := M 52 0) (t := M 52 1) h0.2.1
  unfold a_ans f_ans
  split <;> omega
theorem f_need_b {r d c : Int → Int} {left top t deep : Int} (hr : pD r) (hd : pD d) (hc : pC c) (ht : 0 ≤ t ∧ t ≤ 20) : -1 ≤ f_need r left top d c t deep ∧ f_need r left top d c t deep ≤ 99 := by
  have h1 := f_least_b (f_emb_D hr hd left top 25) hc ht 144
  unfold f_need
  repeat' split
  all_goals omega
set_option maxRecDepth 100000 in
set_option maxHeartbeats 4000000 in
theorem c_X4_propertyOf (l : Launch) (E : ewE) (M : ewM) (h0 : st0 M) (p : Int) (hp : 0 ≤ p ∧ p < 144) (w : Int) (hw : 0 ≤ w ∧ w < 7) : Ct l E yX4_propertyOf (.code yX4_propertyOf cX4_propertyOf 4 (some .int)) 4 [vR E 77, vI p, vI w] M (fun v M1 => v = some (vI (f_prop M p w)) ∧ (-2147483648 ≤ f_prop M p w ∧ f_prop M p w < 2147483648) ∧ M = M1) := by
  refine ct_of (L0 := [(0, vR E 77), (1, vI p), (2, vI w)]) (by decide +kernel) rfl (Nat.le_of_ble_eq_true rfl) ?_
  intro zp ze zs zm za zb zt zc zA hC
  obtain ⟨p1, p2, p3, p4, p5, p6, p7, p8⟩ := id h0
  refine jw_aload_n hC dX4_propertyOf_0 0 rfl rfl ?_
  refine jw_getr hC fL_X4_12 ewR_x0 dX4_propertyOf_1 ?_
  refine jw_getr hC fL_X4_88 (show ewR 50 6 2 0 from ewR_t2 (j := 0) (by decide)) dX4_propertyOf_4 ?_
  refine jw_astore_n (L' := [(3, _), (0, _), (1, _), (2, _)]) hC dX4_propertyOf_7 rfl (by decide) rfl ?_
  refine jw_iload_n hC dX4_propertyOf_8 3 rfl rfl ?_
  rcases (show w = 0 ∨ w = 1 ∨ w = 2 ∨ w = 3 ∨ w = 4 ∨ w = 5 ∨ w = 6 by omega) with rfl | rfl | rfl | rfl | rfl | rfl | rfl
  · skip
    refine jw_tabIn (tgt := 48) hC dX4_propertyOf_9 (by decide) (by decide) (by decide) (by decide) rfl (by decide) ?_
    refine jw_aload_n hC dX4_propertyOf_48 0 rfl rfl ?_
    refine jw_getr hC fL_X4_343 (show ewR 0 5 0 1 from ewR_s0 (j := 0) (by decide)) dX4_propertyOf_49 ?_
    refine jw_iload_n hC dX4_propertyOf_52 2 rfl rfl ?_
    refine jw_iald hC (show ewA 1 0 144 from ewA_sheet (j := 0) (r := 1) (by decide) (by decide) (by decide)) dX4_propertyOf_53 (by omega) (by omega) (by decide) (fun b53 c53 => ?_)
    refine jw_iret hC dX4_propertyOf_54 ?_
    first
    | exact ⟨rfl, ⟨by show _ ≤ M 1 p; omega, by show M 1 p < _; omega⟩, rfl⟩
    | exact ⟨rfl, ⟨by show _ ≤ M 2 p; omega, by show M 2 p < _; omega⟩, rfl⟩
    | exact ⟨rfl, ⟨by show _ ≤ M 3 p; omega, by show M 3 p < _; omega⟩, rfl⟩
    | exact ⟨rfl, ⟨by show _ ≤ M 4 p; omega, by show M 4 p < _; omega⟩, rfl⟩
    | exact ⟨rfl, ⟨by show _ ≤ f_str (M 1) p; have := f_str_b p1 p; omega, by show f_str (M 1) p < _; have := f_str_b p1 p; omega⟩, rfl⟩
    | exact ⟨rfl, ⟨by show _ ≤ f_bear (M 3) p (M 52 0) (M 52 1); have := f_bear_b p p2 p4 p5; omega, by show f_bear (M 3) p (M 52 0) (M 52 1) < _; have := f_bear_b p p2 p4 p5; omega⟩, rfl⟩
    | (have e9 : f_prop M p 5 = if f_ov (M 50) p then 1 else 0 := rfl
       rw [e9]
       first
       | (have hz : f_ov (M 50) p := Decidable.by_contra (fun z => by rw [if_neg z] at h107; omega)
          rw [if_pos hz]
          exact ⟨rfl, ⟨by decide, by decide⟩, rfl⟩)
       | (have hz : ¬ f_ov (M 50) p := fun z => by rw [if_pos z] at h107; omega
          rw [if_neg hz]
          exact ⟨rfl, ⟨by decide, by decide⟩, rfl⟩))
  · skip
    refine jw_tabIn (tgt := 55) hC dX4_propertyOf_9 (by decide) (by decide) (by decide) (by decide) rfl (by decide) ?_
    refine jw_aload_n hC dX4_propertyOf_55 0 rfl rfl ?_
    refine jw_getr hC fL_X4_346 (show ewR 0 5 1 2 from ewR_s1 (j := 0) (by decide)) dX4_propertyOf_56 ?_
    refine jw_iload_n hC dX4_propertyOf_59 2 rfl rfl ?_
    refine jw_iald hC (show ewA 2 0 144 from ewA_sheet (j := 0) (r := 2) (by decide) (by decide) (by decide)) dX4_propertyOf_60 (by omega) (by omega) (by decide) (fun b60 c60 => ?_)
    refine jw_iret hC dX4_propertyOf_61 ?_
    first
    | exact ⟨rfl, ⟨by show _ ≤ M 1 p; omega, by show M 1 p < _; omega⟩, rfl⟩
    | exact ⟨rfl, ⟨by show _ ≤ M 2 p; omega, by show M 2 p < _; omega⟩, rfl⟩
    | exact ⟨rfl, ⟨by show _ ≤ M 3 p; omega, by show M 3 p < _; omega⟩, rfl⟩
    | exact ⟨rfl, ⟨by show _ ≤ M 4 p; omega, by show M 4 p < _; omega⟩, rfl⟩
    | exact ⟨rfl, ⟨by show _ ≤ f_str (M 1) p; have := f_str_b p1 p; omega, by show f_str (M 1) p < _; have := f_str_b p1 p; omega⟩, rfl⟩
    | exact ⟨rfl, ⟨by show _ ≤ f_bear (M 3) p (M 52 0) (M 52 1); have := f_bear_b p p2 p4 p5; omega, by show f_bear (M 3) p (M 52 0) (M 52 1) < _; have := f_bear_b p p2 p4 p5; omega⟩, rfl⟩
    | (have e9 : f_prop M p 5 = if f_ov (M 50) p then 1 else 0 := rfl
       rw [e9]
       first
       | (have hz : f_ov (M 50) p := Decidable.by_contra (fun z => by rw [if_neg z] at h107; omega)
          rw [if_pos hz]
          exact ⟨rfl, ⟨by decide, by decide⟩, rfl⟩)
       | (have hz : ¬ f_ov (M 50) p := fun z => by rw [if_pos z] at h107; omega
          rw [if_neg hz]
          exact ⟨rfl, ⟨by decide, by decide⟩, rfl⟩))
  · skip
    refine jw_tabIn (tgt := 62) hC dX4_propertyOf_9 (by decide) (by decide) (by decide) (by decide) rfl (by decide) ?_
    refine jw_aload_n hC dX4_propertyOf_62 0 rfl rfl ?_
    refine jw_getr hC fL_X4_349 (show ewR 0 5 2 3 from ewR_s2 (j := 0) (by decide)) dX4_propertyOf_63 ?_
    refine jw_iload_n hC dX4_propertyOf_66 2 rfl rfl ?_
    refine jw_iald hC (show ewA 3 0 144 from ewA_sheet (j := 0) (r := 3) (by decide) (by decide) (by decide)) dX4_propertyOf_67 (by omega) (by omega) (by decide) (fun b67 c67 => ?_)
    refine jw_iret hC dX4_propertyOf_68 ?_
    first
    | exact ⟨rfl, ⟨by show _ ≤ M 1 p; omega, by show M 1 p < _; omega⟩, rfl⟩
    | exact ⟨rfl, ⟨by show _ ≤ M 2 p; omega, by show M 2 p < _; omega⟩, rfl⟩
    | exact ⟨rfl, ⟨by show _ ≤ M 3 p; omega, by show M 3 p < _; omega⟩, rfl⟩
    | exact ⟨rfl, ⟨by show _ ≤ M 4 p; omega, by show M 4 p < _; omega⟩, rfl⟩
    | exact ⟨rfl, ⟨by show _ ≤ f_str (M 1) p; have := f_str_b p1 p; omega, by show f_str (M 1) p < _; have := f_str_b p1 p; omega⟩, rfl⟩
    | exact ⟨rfl, ⟨by show _ ≤ f_bear (M 3) p (M 52 0) (M 52 1); have := f_bear_b p p2 p4 p5; omega, by show f_bear (M 3) p (M 52 0) (M 52 1) < _; have := f_bear_b p p2 p4 p5; omega⟩, rfl⟩
    | (have e9 : f_prop M p 5 = if f_ov (M 50) p then 1 else 0 := rfl
       rw [e9]
       first
       | (have hz : f_ov (M 50) p := Decidable.by_contra (fun z => by rw [if_neg z] at h107; omega)
          rw [if_pos hz]
          exact ⟨rfl, ⟨by decide, by decide⟩, rfl⟩)
       | (have hz : ¬ f_ov (M 50) p := fun z => by rw [if_pos z] at h107; omega
          rw [if_neg hz]
          exact ⟨rfl, ⟨by decide, by decide⟩, rfl⟩))
  · skip
    refine jw_tabIn (tgt := 69) hC dX4_propertyOf_9 (by decide) (by decide) (by decide) (by decide) rfl (by decide) ?_
    refine jw_aload_n hC dX4_propertyOf_69 0 rfl rfl ?_
    refine jw_iload_n hC dX4_propertyOf_70 2 rfl rfl ?_
    refine jw_callV hC (c_X2_strainOf l E M 0 (by decide) _ hp p1) sV_X4_352 (show ewO 0 5 from ewO_sheet (j := 0) (by decide)) dX4_propertyOf_71 rfl rfl ⟨Nat.le_of_ble_eq_true rfl, Nat.le_of_ble_eq_true rfl⟩ ⟨Nat.zero_le _, Nat.zero_le _⟩ (Nat.le_of_ble_eq_true rfl) (fun v71 M71 g71 => ?_)
    obtain ⟨rfl, rfl⟩ := g71
    refine jw_iret hC dX4_propertyOf_74 ?_
    first
    | exact ⟨rfl, ⟨by show _ ≤ M 1 p; omega, by show M 1 p < _; omega⟩, rfl⟩
    | exact ⟨rfl, ⟨by show _ ≤ M 2 p; omega, by show M 2 p < _; omega⟩, rfl⟩
    | exact ⟨rfl, ⟨by show _ ≤ M 3 p; omega, by show M 3 p < _; omega⟩, rfl⟩
    | exact ⟨rfl, ⟨by show _ ≤ M 4 p; omega, by show M 4 p < _; omega⟩, rfl⟩
    | exact ⟨rfl, ⟨by show _ ≤ f_str (M 1) p; have := f_str_b p1 p; omega, by show f_str (M 1) p < _; have := f_str_b p1 p; omega⟩, rfl⟩
    | exact ⟨rfl, ⟨by show _ ≤ f_bear (M 3) p (M 52 0) (M 52 1); have := f_bear_b p p2 p4 p5; omega, by show f_bear (M 3) p (M 52 0) (M 52 1) < _; have := f_bear_b p p2 p4 p5; omega⟩, rfl⟩
    | (have e9 : f_prop M p 5 = if f_ov (M 50) p then 1 else 0 := rfl
       rw [e9]
       first
       | (have hz : f_ov (M 50) p := Decidable.by_contra (fun z => by rw [if_neg z] at h107; omega)
          rw [if_pos hz]
          exact ⟨rfl, ⟨by decide, by decide⟩, rfl⟩)
       | (have hz : ¬ f_ov (M 50) p := fun z => by rw [if_pos z] at h107; omega
          rw [if_neg hz]
          exact ⟨rfl, ⟨by decide, by decide⟩, rfl⟩))
  · skip
    refine jw_tabIn (tgt := 75) hC dX4_propertyOf_9 (by decide) (by decide) (by decide) (by decide) rfl (by decide) ?_
    refine jw_aload_n hC dX4_propertyOf_75 0 rfl rfl ?_
    refine jw_iload_n hC dX4_propertyOf_76 2 rfl rfl ?_
    refine jw_aload_n hC dX4_propertyOf_77 1 rfl rfl ?_
    refine jw_getr hC fL_X4_12 ewR_x0 dX4_propertyOf_78 ?_
    refine jw_getr hC fL_X4_165 (show ewR 50 6 1 52 from ewR_t1 (j := 0) (by decide)) dX4_propertyOf_81 ?_
    refine jw_iconst hC dX4_propertyOf_84 ?_
    refine jw_iald hC (show ewA 52 0 4 from ewA_settings (j := 0) (by decide)) dX4_propertyOf_85 (by omega) (by omega) (by decide) (fun b85 c85 => ?_)
    refine jw_aload_n hC dX4_propertyOf_86 1 rfl rfl ?_
    refine jw_getr hC fL_X4_12 ewR_x0 dX4_propertyOf_87 ?_
    refine jw_getr hC fL_X4_165 (show ewR 50 6 1 52 from ewR_t1 (j := 0) (by decide)) dX4_propertyOf_90 ?_
    refine jw_iconst hC dX4_propertyOf_93 ?_
    refine jw_iald hC (show ewA 52 0 4 from ewA_settings (j := 0) (by decide)) dX4_propertyOf_94 (by omega) (by omega) (by decide) (fun b94 c94 => ?_)
    refine jw_callV hC (c_X2_bearingOf l E M 0 (by decide) _ _ _ hp p4 p5 p2) sV_X4_355 (show ewO 0 5 from ewO_sheet (j := 0) (by decide)) dX4_propertyOf_95 rfl rfl ⟨Nat.le_of_ble_eq_true rfl, Nat.le_of_ble_eq_true rfl⟩ ⟨Nat.zero_le _, Nat.zero_le _⟩ (Nat.le_of_ble_eq_true rfl) (fun v95 M95 g95 => ?_)
    obtain ⟨rfl, rfl⟩ := g95
    refine jw_iret hC dX4_propertyOf_98 ?_
    first
    | exact ⟨rfl, ⟨by show _ ≤ M 1 p; omega, by show M 1 p < _; omega⟩, rfl⟩
    | exact ⟨rfl, ⟨by show _ ≤ M 2 p; omega, by show M 2 p < _; omega⟩, rfl⟩
    | exact ⟨rfl, ⟨by show _ ≤ M 3 p; omega, by show M 3 p < _; omega⟩, rfl⟩
    | exact ⟨rfl, ⟨by show _ ≤ M 4 p; omega, by show M 4 p < _; omega⟩, rfl⟩
    | exact ⟨rfl, ⟨by show _ ≤ f_str (M 1) p; have := f_str_b p1 p; omega, by show f_str (M 1) p < _; have := f_str_b p1 p; omega⟩, rfl⟩
    | exact ⟨rfl, ⟨by show _ ≤ f_bear (M 3) p (M 52 0) (M 52 1); have := f_bear_b p p2 p4 p5; omega, by show f_bear (M 3) p (M 52 0) (M 52 1) < _; have := f_bear_b p p2 p4 p5; omega⟩, rfl⟩
    | (have e9 : f_prop M p 5 = if f_ov (M 50) p then 1 else 0 := rfl
       rw [e9]
       first
       | (have hz : f_ov (M 50) p := Decidable.by_contra (fun z => by rw [if_neg z] at h107; omega)
          rw [if_pos hz]
          exact ⟨rfl, ⟨by decide, by decide⟩, rfl⟩)
       | (have hz : ¬ f_ov (M 50) p := fun z => by rw [if_pos z] at h107; omega
          rw [if_neg hz]
          exact ⟨rfl, ⟨by decide, by decide⟩, rfl⟩))
  · skip
    refine jw_tabIn (tgt := 99) hC dX4_propertyOf_9 (by decide) (by decide) (by decide) (by decide) rfl (by decide) ?_
    refine jw_aload_n hC dX4_propertyOf_99 1 rfl rfl ?_
    refine jw_getr hC fL_X4_12 ewR_x0 dX4_propertyOf_100 ?_
    refine jw_iload_n hC dX4_propertyOf_103 2 rfl rfl ?_
    refine jw_callV hC (c_X3_isFoilReadyOver l E M 0 (by decide) _ hp) sV_X4_358 (show ewO 50 6 from ewO_state (j := 0) (by decide)) dX4_propertyOf_104 rfl rfl ⟨Nat.le_of_ble_eq_true rfl, Nat.le_of_ble_eq_true rfl⟩ ⟨Nat.zero_le _, Nat.zero_le _⟩ (Nat.le_of_ble_eq_true rfl) (fun v104 M104 g104 => ?_)
    obtain ⟨rfl, rfl⟩ := g104
    have hq104 : (if f_ov (M (50 + 3 * 0)) p then (1 : Int) else 0) = if f_ov (M 50) p then 1 else 0 := rfl
    rw [hq104]
    have hov : (if f_ov (M 50) p then (1 : Int) else 0) = 0 ∨ (if f_ov (M 50) p then (1 : Int) else 0) = 1 := by split <;> omega
    refine jw_if_eq (tgt := 114) hC dX4_propertyOf_107 (by decide) (by omega) (by omega) (fun h107 => ?_) (fun h107 => ?_)
    · skip
      refine jw_iconst hC dX4_propertyOf_114 ?_
      refine jw_iret hC dX4_propertyOf_115 ?_
      first
      | exact ⟨rfl, ⟨by show _ ≤ M 1 p; omega, by show M 1 p < _; omega⟩, rfl⟩
      | exact ⟨rfl, ⟨by show _ ≤ M 2 p; omega, by show M 2 p < _; omega⟩, rfl⟩
      | exact ⟨rfl, ⟨by show _ ≤ M 3 p; omega, by show M 3 p < _; omega⟩, rfl⟩
      | exact ⟨rfl, ⟨by show _ ≤ M 4 p; omega, by show M 4 p < _; omega⟩, rfl⟩
      | exact ⟨rfl, ⟨by show _ ≤ f_str (M 1) p; have := f_str_b p1 p; omega, by show f_str (M 1) p < _; have := f_str_b p1 p; omega⟩, rfl⟩
      | exact ⟨rfl, ⟨by show _ ≤ f_bear (M 3) p (M 52 0) (M 52 1); have := f_bear_b p p2 p4 p5; omega, by show f_bear (M 3) p (M 52 0) (M 52 1) < _; have := f_bear_b p p2 p4 p5; omega⟩, rfl⟩
      | (have e9 : f_prop M p 5 = if f_ov (M 50) p then 1 else 0 := rfl
         rw [e9]
         first
         | (have hz : f_ov (M 50) p := Decidable.by_contra (fun z => by rw [if_neg z] at h107; omega)
            rw [if_pos hz]
            exact ⟨rfl, ⟨by decide, by decide⟩, rfl⟩)
         | (have hz : ¬ f_ov (M 50) p := fun z => by rw [if_pos z] at h107; omega
            rw [if_neg hz]
            exact ⟨rfl, ⟨by decide, by decide⟩, rfl⟩))
    · skip
      refine jw_iconst hC dX4_propertyOf_110 ?_
      refine jw_goto (tgt := 115) hC dX4_propertyOf_111 (by decide) ?_
      refine jw_iret hC dX4_propertyOf_115 ?_
      first
      | exact ⟨rfl, ⟨by show _ ≤ M 1 p; omega, by show M 1 p < _; omega⟩, rfl⟩
      | exact ⟨rfl, ⟨by show _ ≤ M 2 p; omega, by show M 2 p < _; omega⟩, rfl⟩
      | exact ⟨rfl, ⟨by show _ ≤ M 3 p; omega, by show M 3 p < _; omega⟩, rfl⟩
      | exact ⟨rfl, ⟨by show _ ≤ M 4 p; omega, by show M 4 p < _; omega⟩, rfl⟩
      | exact ⟨rfl, ⟨by show _ ≤ f_str (M 1) p; have := f_str_b p1 p; omega, by show f_str (M 1) p < _; have := f_str_b p1 p; omega⟩, rfl⟩
      | exact ⟨rfl, ⟨by show _ ≤ f_bear (M 3) p (M 52 0) (M 52 1); have := f_bear_b p p2 p4 p5; omega, by show f_bear (M 3) p (M 52 0) (M 52 1) < _; have := f_bear_b p p2 p4 p5; omega⟩, rfl⟩
      | (have e9 : f_prop M p 5 = if f_ov (M 50) p then 1 else 0 := rfl
         rw [e9]
         first
         | (have hz : f_ov (M 50) p := Decidable.by_contra (fun z => by rw [if_neg z] at h107; omega)
            rw [if_pos hz]
            exact ⟨rfl, ⟨by decide, by decide⟩, rfl⟩)
         | (have hz : ¬ f_ov (M 50) p := fun z => by rw [if_pos z] at h107; omega
            rw [if_neg hz]
            exact ⟨rfl, ⟨by decide, by decide⟩, rfl⟩))
  · skip
    refine jw_tabOut (tgt := 116) hC dX4_propertyOf_9 (by decide) (by decide) (by decide) (by decide) ?_
    refine jw_aload_n hC dX4_propertyOf_116 0 rfl rfl ?_
    refine jw_getr hC fL_X4_361 (show ewR 0 5 3 4 from ewR_s3 (j := 0) (by decide)) dX4_propertyOf_117 ?_
    refine jw_iload_n hC dX4_propertyOf_120 2 rfl rfl ?_
    refine jw_iald hC (show ewA 4 0 144 from ewA_sheet (j := 0) (r := 4) (by decide) (by decide) (by decide)) dX4_propertyOf_121 (by omega) (by omega) (by decide) (fun b121 c121 => ?_)
    refine jw_iret hC dX4_propertyOf_122 ?_
    first
    | exact ⟨rfl, ⟨by show _ ≤ M 1 p; omega, by show M 1 p < _; omega⟩, rfl⟩
    | exact ⟨rfl, ⟨by show _ ≤ M 2 p; omega, by show M 2 p < _; omega⟩, rfl⟩
    | exact ⟨rfl, ⟨by show _ ≤ M 3 p; omega, by show M 3 p < _; omega⟩, rfl⟩
    | exact ⟨rfl, ⟨by show _ ≤ M 4 p; omega, by show M 4 p < _; omega⟩, rfl⟩
    | exact ⟨rfl, ⟨by show _ ≤ f_str (M 1) p; have := f_str_b p1 p; omega, by show f_str (M 1) p < _; have := f_str_b p1 p; omega⟩, rfl⟩
    | exact ⟨rfl, ⟨by show _ ≤ f_bear (M 3) p (M 52 0) (M 52 1); have := f_bear_b p p2 p4 p5; omega, by show f_bear (M 3) p (M 52 0) (M 52 1) < _; have := f_bear_b p p2 p4 p5; omega⟩, rfl⟩
    | (have e9 : f_prop M p 5 = if f_ov (M 50) p then 1 else 0 := rfl
       rw [e9]
       first
       | (have hz : f_ov (M 50) p := Decidable.by_contra (fun z => by rw [if_neg z] at h107; omega)
          rw [if_pos hz]
          exact ⟨rfl, ⟨by decide, by decide⟩, rfl⟩)
       | (have hz : ¬ f_ov (M 50) p := fun z => by rw [if_pos z] at h107; omega
          rw [if_neg hz]
          exact ⟨rfl, ⟨by decide, by decide⟩, rfl⟩))
set_option maxRecDepth 100000 in
set_option maxHeartbeats 4000000 in
theorem c_X4_numberOf (l : Launch) (E : ewE) (M : ewM) (h0 : st0 M) (w : Int) (hw : 0 ≤ w ∧ w < 14) : Ct l E yX4_numberOf (.code yX4_numberOf cX4_numberOf 2 (some .int)) 4 [vR E 77, vI w] M (fun v M1 => v = some (vI (f_num M w)) ∧ (-2147483648 ≤ f_num M w ∧ f_num M w < 2147483648) ∧ M = M1) := by
  refine ct_of (L0 := [(0, vR E 77), (1, vI w)]) (by decide +kernel) rfl (Nat.le_of_ble_eq_true rfl) ?_
  intro zp ze zs zm za zb zt zc zA hC
  obtain ⟨p1, p2, p3, p4, p5, p6, p7, p8⟩ := id h0
  refine jw_iload_n hC dX4_numberOf_0 1 rfl rfl ?_
  rcases (show w = 0 ∨ w = 1 ∨ w = 2 ∨ w = 3 ∨ w = 4 ∨ w = 5 ∨ w = 6 ∨ w = 7 ∨ w = 8 ∨ w = 9 ∨ w = 10 ∨ w = 11 ∨ w = 12 ∨ w = 13 by omega) with rfl | rfl | rfl | rfl | rfl | rfl | rfl | rfl | rfl | rfl | rfl | rfl | rfl | rfl
  · skip
    refine jw_tabIn (tgt := 68) hC dX4_numberOf_1 (by decide) (by decide) (by decide) (by decide) rfl (by decide) ?_
    refine jw_aload_n hC dX4_numberOf_68 0 rfl rfl ?_
    refine jw_getr hC fL_X4_12 ewR_x0 dX4_numberOf_69 ?_
    refine jw_geti hC fL_X4_234.r (show ewF 50 6 4 from ewF_t (j := 0) (k := 4) (by decide) (by decide) (by decide)) (kI := 4) rfl dX4_numberOf_72 (by omega) (fun b72 c72 => ?_)
    refine jw_iret hC dX4_numberOf_75 ?_
    exact ⟨rfl, ⟨by show _ ≤ M 50 4; omega, by show M 50 4 < _; omega⟩, rfl⟩
  · skip
    refine jw_tabIn (tgt := 76) hC dX4_numberOf_1 (by decide) (by decide) (by decide) (by decide) rfl (by decide) ?_
    refine jw_aload_n hC dX4_numberOf_76 0 rfl rfl ?_
    refine jw_getr hC fL_X4_12 ewR_x0 dX4_numberOf_77 ?_
    refine jw_geti hC fL_X4_324.r (show ewF 50 6 5 from ewF_t (j := 0) (k := 5) (by decide) (by decide) (by decide)) (kI := 5) rfl dX4_numberOf_80 (by omega) (fun b80 c80 => ?_)
    refine jw_iret hC dX4_numberOf_83 ?_
    exact ⟨rfl, ⟨by show _ ≤ M 50 5; omega, by show M 50 5 < _; omega⟩, rfl⟩
  · skip
    refine jw_tabIn (tgt := 84) hC dX4_numberOf_1 (by decide) (by decide) (by decide) (by decide) rfl (by decide) ?_
    refine jw_aload_n hC dX4_numberOf_84 0 rfl rfl ?_
    refine jw_getr hC fL_X4_12 ewR_x0 dX4_numberOf_85 ?_
    refine jw_geti hC fL_X4_121.r (show ewF 50 6 3 from ewF_t (j := 0) (k := 3) (by decide) (by decide) (by decide)) (kI := 3) rfl dX4_numberOf_88 (by omega) (fun b88 c88 => ?_)
    refine jw_iret hC dX4_numberOf_91 ?_
    exact ⟨rfl, ⟨by show _ ≤ M 50 3; omega, by show M 50 3 < _; omega⟩, rfl⟩
  · skip
    refine jw_tabIn (tgt := 92) hC dX4_numberOf_1 (by decide) (by decide) (by decide) (by decide) rfl (by decide) ?_
    refine jw_aload_n hC dX4_numberOf_92 0 rfl rfl ?_
    refine jw_getr hC fL_X4_12 ewR_x0 dX4_numberOf_93 ?_
    refine jw_geti hC fL_X4_154.r (show ewF 50 6 6 from ewF_t (j := 0) (k := 6) (by decide) (by decide) (by decide)) (kI := 6) rfl dX4_numberOf_96 (by omega) (fun b96 c96 => ?_)
    refine jw_iret hC dX4_numberOf_99 ?_
    exact ⟨rfl, ⟨by show _ ≤ M 50 6; omega, by show M 50 6 < _; omega⟩, rfl⟩
  · skip
    refine jw_tabIn (tgt := 100) hC dX4_numberOf_1 (by decide) (by decide) (by decide) (by decide) rfl (by decide) ?_
    refine jw_aload_n hC dX4_numberOf_100 0 rfl rfl ?_
    refine jw_getr hC fL_X4_12 ewR_x0 dX4_numberOf_101 ?_
    refine jw_getr hC fL_X4_88 (show ewR 50 6 2 0 from ewR_t2 (j := 0) (by decide)) dX4_numberOf_104 ?_
    refine jw_callV hC (c_X2_cracked l E M 0 (by decide)) sV_X4_104 (show ewO 0 5 from ewO_sheet (j := 0) (by decide)) dX4_numberOf_107 rfl rfl ⟨Nat.le_of_ble_eq_true rfl, Nat.le_of_ble_eq_true rfl⟩ ⟨Nat.zero_le _, Nat.zero_le _⟩ (Nat.le_of_ble_eq_true rfl) (fun v107 M107 g107 => ?_)
    obtain ⟨rfl, rfl⟩ := g107
    refine jw_iret hC dX4_numberOf_110 ?_
    have hb := f_sum_C p2
    exact ⟨rfl, ⟨by show _ ≤ f_sum (M 3) 144; omega, by show f_sum (M 3) 144 < _; omega⟩, rfl⟩
  · skip
    refine jw_tabIn (tgt := 111) hC dX4_numberOf_1 (by decide) (by decide) (by decide) (by decide) rfl (by decide) ?_
    refine jw_aload_n hC dX4_numberOf_111 0 rfl rfl ?_
    refine jw_getr hC fL_X4_12 ewR_x0 dX4_numberOf_112 ?_
    refine jw_getr hC fL_X4_88 (show ewR 50 6 2 0 from ewR_t2 (j := 0) (by decide)) dX4_numberOf_115 ?_
    refine jw_callV hC (c_X2_greatestDepth l E M 0 (by decide) p1) sV_X4_364 (show ewO 0 5 from ewO_sheet (j := 0) (by decide)) dX4_numberOf_118 rfl rfl ⟨Nat.le_of_ble_eq_true rfl, Nat.le_of_ble_eq_true rfl⟩ ⟨Nat.zero_le _, Nat.zero_le _⟩ (Nat.le_of_ble_eq_true rfl) (fun v118 M118 g118 => ?_)
    obtain ⟨rfl, rfl⟩ := g118
    refine jw_iret hC dX4_numberOf_121 ?_
    have hb := f_max_D p1 144
    exact ⟨rfl, ⟨by show _ ≤ f_max (M 1) 144; omega, by show f_max (M 1) 144 < _; omega⟩, rfl⟩
  · skip
    refine jw_tabIn (tgt := 122) hC dX4_numberOf_1 (by decide) (by decide) (by decide) (by decide) rfl (by decide) ?_
    refine jw_aload_n hC dX4_numberOf_122 0 rfl rfl ?_
    refine jw_getr hC fL_X4_12 ewR_x0 dX4_numberOf_123 ?_
    refine jw_getr hC fL_X4_88 (show ewR 50 6 2 0 from ewR_t2 (j := 0) (by decide)) dX4_numberOf_126 ?_
    refine jw_callV hC (c_X2_strainByPlaces l E M 0 (by decide) p1) sV_X4_367 (show ewO 0 5 from ewO_sheet (j := 0) (by decide)) dX4_numberOf_129 rfl rfl ⟨Nat.le_of_ble_eq_true rfl, Nat.le_of_ble_eq_true rfl⟩ ⟨Nat.zero_le _, Nat.zero_le _⟩ (Nat.le_of_ble_eq_true rfl) (fun v129 M129 g129 => ?_)
    obtain ⟨rfl, rfl⟩ := g129
    refine jw_iret hC dX4_numberOf_132 ?_
    have hb := f_sum_le (g := f_str (M 1)) (a := 0) (b := 36) (fun k _ _ => f_str_b p1 k) 144 (by decide)
    exact ⟨rfl, ⟨by show _ ≤ f_sum (f_str (M 1)) 144; omega, by show f_sum (f_str (M 1)) 144 < _; omega⟩, rfl⟩
  · skip
    refine jw_tabIn (tgt := 133) hC dX4_numberOf_1 (by decide) (by decide) (by decide) (by decide) rfl (by decide) ?_
    refine jw_aload_n hC dX4_numberOf_133 0 rfl rfl ?_
    refine jw_getr hC fL_X4_12 ewR_x0 dX4_numberOf_134 ?_
    refine jw_getr hC fL_X4_88 (show ewR 50 6 2 0 from ewR_t2 (j := 0) (by decide)) dX4_numberOf_137 ?_
    refine jw_callV hC (c_X2_strainByPairs l E M 0 (by decide) p1) sV_X4_370 (show ewO 0 5 from ewO_sheet (j := 0) (by decide)) dX4_numberOf_140 rfl rfl ⟨Nat.le_of_ble_eq_true rfl, Nat.le_of_ble_eq_true rfl⟩ ⟨Nat.zero_le _, Nat.zero_le _⟩ (Nat.le_of_ble_eq_true rfl) (fun v140 M140 g140 => ?_)
    obtain ⟨rfl, rfl⟩ := g140
    refine jw_iret hC dX4_numberOf_143 ?_
    have hb := f_sum_le (g := fun q => f_s2 (M 1) q + f_s4 (M 1) q) (a := 0) (b := 18) (fun k _ _ => by have z1 := f_s2_b p1 k; have z2 := f_s4_b p1 k; omega) 144 (by decide)
    exact ⟨rfl, ⟨by show _ ≤ 2 * f_sum (fun q => f_s2 (M 1) q + f_s4 (M 1) q) 144; omega, by show 2 * f_sum (fun q => f_s2 (M 1) q + f_s4 (M 1) q) 144 < _; omega⟩, rfl⟩
  · skip
    refine jw_tabIn (tgt := 144) hC dX4_numberOf_1 (by decide) (by decide) (by decide) (by decide) rfl (by decide) ?_
    refine jw_aload_n hC dX4_numberOf_144 0 rfl rfl ?_
    refine jw_getr hC fL_X4_12 ewR_x0 dX4_numberOf_145 ?_
    refine jw_getr hC fL_X4_88 (show ewR 50 6 2 0 from ewR_t2 (j := 0) (by decide)) dX4_numberOf_148 ?_
    refine jw_callV hC (c_X2_foiled l E M 0 (by decide)) sV_X4_373 (show ewO 0 5 from ewO_sheet (j := 0) (by decide)) dX4_numberOf_151 rfl rfl ⟨Nat.le_of_ble_eq_true rfl, Nat.le_of_ble_eq_true rfl⟩ ⟨Nat.zero_le _, Nat.zero_le _⟩ (Nat.le_of_ble_eq_true rfl) (fun v151 M151 g151 => ?_)
    obtain ⟨rfl, rfl⟩ := g151
    refine jw_iret hC dX4_numberOf_154 ?_
    have hb := f_sum_le (g := fun q => if M 2 q = 0 then 0 else 1) (a := 0) (b := 1) (fun k _ _ => by split <;> omega) 144 (by decide)
    exact ⟨rfl, ⟨by show _ ≤ f_sum (fun q => if M 2 q = 0 then 0 else 1) 144; omega, by show f_sum (fun q => if M 2 q = 0 then 0 else 1) 144 < _; omega⟩, rfl⟩
  · skip
    refine jw_tabIn (tgt := 155) hC dX4_numberOf_1 (by decide) (by decide) (by decide) (by decide) rfl (by decide) ?_
    refine jw_aload_n hC dX4_numberOf_155 0 rfl rfl ?_
    refine jw_getr hC fL_X4_12 ewR_x0 dX4_numberOf_156 ?_
    refine jw_geti hC fL_X4_114.r (show ewF 50 6 10 from ewF_t (j := 0) (k := 10) (by decide) (by decide) (by decide)) (kI := 10) rfl dX4_numberOf_159 (by omega) (fun b159 c159 => ?_)
    refine jw_iret hC dX4_numberOf_162 ?_
    exact ⟨rfl, ⟨by show _ ≤ M 50 10; omega, by show M 50 10 < _; omega⟩, rfl⟩
  · skip
    refine jw_tabIn (tgt := 163) hC dX4_numberOf_1 (by decide) (by decide) (by decide) (by decide) rfl (by decide) ?_
    refine jw_aload_n hC dX4_numberOf_163 0 rfl rfl ?_
    refine jw_getr hC fL_X4_12 ewR_x0 dX4_numberOf_164 ?_
    refine jw_geti hC fL_X4_176.r (show ewF 50 6 7 from ewF_t (j := 0) (k := 7) (by decide) (by decide) (by decide)) (kI := 7) rfl dX4_numberOf_167 (by omega) (fun b167 c167 => ?_)
    refine jw_iret hC dX4_numberOf_170 ?_
    exact ⟨rfl, ⟨by show _ ≤ M 50 7; omega, by show M 50 7 < _; omega⟩, rfl⟩
  · skip
    refine jw_tabIn (tgt := 171) hC dX4_numberOf_1 (by decide) (by decide) (by decide) (by decide) rfl (by decide) ?_
    refine jw_aload_n hC dX4_numberOf_171 0 rfl rfl ?_
    refine jw_getr hC fL_X4_12 ewR_x0 dX4_numberOf_172 ?_
    refine jw_geti hC fL_X4_118.r (show ewF 50 6 8 from ewF_t (j := 0) (k := 8) (by decide) (by decide) (by decide)) (kI := 8) rfl dX4_numberOf_175 (by omega) (fun b175 c175 => ?_)
    refine jw_iret hC dX4_numberOf_178 ?_
    exact ⟨rfl, ⟨by show _ ≤ M 50 8; omega, by show M 50 8 < _; omega⟩, rfl⟩
  · skip
    refine jw_tabIn (tgt := 179) hC dX4_numberOf_1 (by decide) (by decide) (by decide) (by decide) rfl (by decide) ?_
    refine jw_aload_n hC dX4_numberOf_179 0 rfl rfl ?_
    refine jw_getr hC fL_X4_12 ewR_x0 dX4_numberOf_180 ?_
    refine jw_geti hC fL_X4_179.r (show ewF 50 6 9 from ewF_t (j := 0) (k := 9) (by decide) (by decide) (by decide)) (kI := 9) rfl dX4_numberOf_183 (by omega) (fun b183 c183 => ?_)
    refine jw_iret hC dX4_numberOf_186 ?_
    exact ⟨rfl, ⟨by show _ ≤ M 50 9; omega, by show M 50 9 < _; omega⟩, rfl⟩
  · skip
    refine jw_tabOut (tgt := 187) hC dX4_numberOf_1 (by decide) (by decide) (by decide) (by decide) ?_
    refine jw_aload_n hC dX4_numberOf_187 0 rfl rfl ?_
    refine jw_geti hC fL_X4_239.r ewF_x5 (kI := 5) rfl dX4_numberOf_188 (by omega) (fun b188 c188 => ?_)
    refine jw_iret hC dX4_numberOf_191 ?_
    exact ⟨rfl, ⟨by show _ ≤ M 77 5; omega, by show M 77 5 < _; omega⟩, rfl⟩
set_option maxRecDepth 100000 in
set_option maxHeartbeats 4000000 in
theorem c_X4_bestFold (l : Launch) (E : ewE) (M : ewM) (h0 : st0 M) : Ct l E yX4_bestFold (.code yX4_bestFold cX4_bestFold 5 (some .int)) 5 [vR E 77] M (fun v M1 => v = some (vI (f_fr (fun q => f_fc (M 1) (M 3) q (M 52 0) (M 52 1)) 10)) ∧ lk M M1) := by
  refine ct_of (L0 := [(0, vR E 77)]) (by decide +kernel) rfl (Nat.le_of_ble_eq_true rfl) ?_
  intro zp ze zs zm za zb zt zc zA hC
  obtain ⟨p1, p2, p3, p4, p5, p6, p7, p8⟩ := id h0
  have K10 : ∀ (n : Nat) (k best few : Int) (M1 : ewM), 12 - k < n → 2 ≤ k → k ≤ 12 → best = f_fr (fun q => f_fc (M 1) (M 3) q (M 52 0) (M 52 1)) (k - 2).toNat → few = f_fl (fun q => f_fc (M 1) (M 3) q (M 52 0) (M 52 1)) (k - 2).toNat → 0 ≤ few → few ≤ 144 → lk M M1 → jJ zp l ze (ct_rm 5) zs zm za zb zt zc E zA 5 0 0 (MQ zb (ct_Q E zA (fun v M1 => v = some (vI (f_fr (fun q => f_fc (M 1) (M 3) q (M 52 0) (M 52 1)) 10)) ∧ lk M M1)) za zs 0 0 zA) 10 [(0, vR E 77), (1, vI best), (2, vI few), (3, vI k)] [] M1 := by
    intro n
    induction n with
    | zero => intros; omega
    | succ n ih =>
      intro k best few M1 i1 i2 i3 hbs hfw f0 f1 lk0
      have hs := f_fl_s (fun q => f_fc (M 1) (M 3) q (M 52 0) (M 52 1)) i2
      refine jw_iload_n hC dX4_bestFold_10 3 rfl rfl ?_
      refine jw_bipush hC dX4_bestFold_11 (by decide) ?_
      refine jw_icmp_ge (tgt := 40) hC dX4_bestFold_13 (by decide) (by omega) (by omega) (by omega) (by omega) (fun h13 => ?_) (fun h13 => ?_)
      · skip
        refine jw_iload_n hC dX4_bestFold_40 1 rfl rfl ?_
        refine jw_iret hC dX4_bestFold_41 ?_
        refine ⟨?_, lk0⟩
        rw [hbs, show (k - 2).toNat = 10 by omega]
      · skip
        refine jw_aload_n hC dX4_bestFold_16 0 rfl rfl ?_
        refine jw_iload_n hC dX4_bestFold_17 3 rfl rfl ?_
        refine jw_callV hC (c_X4_cracksOfFold l E M1 (lk_st0 lk0 h0) _ ⟨by omega, by omega⟩) sV_X4_267 ewF_x4.o dX4_bestFold_18 rfl rfl ⟨Nat.le_of_ble_eq_true rfl, Nat.le_of_ble_eq_true rfl⟩ ⟨Nat.zero_le _, Nat.zero_le _⟩ (Nat.le_of_ble_eq_true rfl) (fun v18 M18 g18 => ?_)
        obtain ⟨rfl, g2⟩ := g18
        rw [lk0 1 (by decide), lk0 3 (by decide), lk0 52 (by decide)]
        have hfb := f_fc_b (d := M 1) (c := M 3) k (M 52 0) (M 52 1) p2
        refine jw_istore (L' := [(4, _), (0, _), (1, _), (2, _), (3, _)]) hC dX4_bestFold_21 (by decide) rfl ?_
        refine jw_iload hC dX4_bestFold_23 0 rfl ?_
        refine jw_iload_n hC dX4_bestFold_25 3 rfl rfl ?_
        refine jw_icmp_ge (tgt := 34) hC dX4_bestFold_26 (by decide) (by omega) (by omega) (by omega) (by omega) (fun h26 => ?_) (fun h26 => ?_)
        · skip
          refine jw_iinc (L' := [(3, _), (4, _), (0, _), (1, _), (2, _)]) hC dX4_bestFold_34 4 rfl (by decide) rfl ?_
          refine jw_goto (tgt := 10) hC dX4_bestFold_37 (by decide) ?_
          refine jw_loc (L' := [(0, _), (1, _), (2, _), (3, _)]) [2, 3, 4, 0] rfl ?_
          first
          | (have hc9 : f_fc (M 1) (M 3) k (M 52 0) (M 52 1) < f_fl (fun q => f_fc (M 1) (M 3) q (M 52 0) (M 52 1)) (k - 2).toNat := by omega
             rw [if_pos hc9, if_pos hc9] at hs
             exact ih (k + 1) _ _ _ (by omega) (by omega) (by omega) (by rw [show k + 1 - 2 = k - 1 by omega, hs.2]) (by rw [show k + 1 - 2 = k - 1 by omega, hs.1]) (by omega) (by omega) (lk_tr lk0 g2))
          | (have hc9 : ¬ f_fc (M 1) (M 3) k (M 52 0) (M 52 1) < f_fl (fun q => f_fc (M 1) (M 3) q (M 52 0) (M 52 1)) (k - 2).toNat := by omega
             rw [if_neg hc9, if_neg hc9] at hs
             exact ih (k + 1) _ _ _ (by omega) (by omega) (by omega) (by rw [show k + 1 - 2 = k - 1 by omega, hs.2]; exact hbs) (by rw [show k + 1 - 2 = k - 1 by omega, hs.1]; exact hfw) (by omega) (by omega) (lk_tr lk0 g2))
        · skip
          refine jw_iload hC dX4_bestFold_29 0 rfl ?_
          refine jw_istore_n (L' := [(2, _), (4, _), (0, _), (1, _), (3, _)]) hC dX4_bestFold_31 rfl (by decide) rfl ?_
          refine jw_iload_n hC dX4_bestFold_32 4 rfl rfl ?_
          refine jw_istore_n (L' := [(1, _), (2, _), (4, _), (0, _), (3, _)]) hC dX4_bestFold_33 rfl (by decide) rfl ?_
          refine jw_iinc (L' := [(3, _), (1, _), (2, _), (4, _), (0, _)]) hC dX4_bestFold_34 4 rfl (by decide) rfl ?_
          refine jw_goto (tgt := 10) hC dX4_bestFold_37 (by decide) ?_
          refine jw_loc (L' := [(0, _), (1, _), (2, _), (3, _)]) [4, 1, 2, 0] rfl ?_
          first
          | (have hc9 : f_fc (M 1) (M 3) k (M 52 0) (M 52 1) < f_fl (fun q => f_fc (M 1) (M 3) q (M 52 0) (M 52 1)) (k - 2).toNat := by omega
             rw [if_pos hc9, if_pos hc9] at hs
             exact ih (k + 1) _ _ _ (by omega) (by omega) (by omega) (by rw [show k + 1 - 2 = k - 1 by omega, hs.2]) (by rw [show k + 1 - 2 = k - 1 by omega, hs.1]) (by omega) (by omega) (lk_tr lk0 g2))
          | (have hc9 : ¬ f_fc (M 1) (M 3) k (M 52 0) (M 52 1) < f_fl (fun q => f_fc (M 1) (M 3) q (M 52 0) (M 52 1)) (k - 2).toNat := by omega
             rw [if_neg hc9, if_neg hc9] at hs
             exact ih (k + 1) _ _ _ (by omega) (by omega) (by omega) (by rw [show k + 1 - 2 = k - 1 by omega, hs.2]; exact hbs) (by rw [show k + 1 - 2 = k - 1 by omega, hs.1]; exact hfw) (by omega) (by omega) (lk_tr lk0 g2))
  refine jw_iconst hC dX4_bestFold_0 ?_
  refine jw_istore_n (L' := [(1, _), (0, _)]) hC dX4_bestFold_1 rfl (by decide) rfl ?_
  refine jw_aload_n hC dX4_bestFold_2 1 rfl rfl ?_
  refine jw_iconst hC dX4_bestFold_3 ?_
  refine jw_callV hC (c_X4_cracksOfFold l E M h0 _ ⟨by omega, by omega⟩) sV_X4_267 ewF_x4.o dX4_bestFold_4 rfl rfl ⟨Nat.le_of_ble_eq_true rfl, Nat.le_of_ble_eq_true rfl⟩ ⟨Nat.zero_le _, Nat.zero_le _⟩ (Nat.le_of_ble_eq_true rfl) (fun v4 M4 g4 => ?_)
  obtain ⟨rfl, g2⟩ := g4
  refine jw_istore_n (L' := [(2, _), (1, _), (0, _)]) hC dX4_bestFold_7 rfl (by decide) rfl ?_
  refine jw_iconst hC dX4_bestFold_8 ?_
  refine jw_istore_n (L' := [(3, _), (2, _), (1, _), (0, _)]) hC dX4_bestFold_9 rfl (by decide) rfl ?_
  refine jw_loc (L' := [(0, _), (1, _), (2, _), (3, _)]) [3, 2, 1, 0] rfl ?_
  have hfb := f_fc_b (d := M 1) (c := M 3) 1 (M 52 0) (M 52 1) p2
  exact K10 11 2 1 _ _ (by omega) (by omega) (by omega) rfl rfl hfb.1 hfb.2 g2
set_option maxRecDepth 100000 in
set_option maxHeartbeats 4000000 in
theorem c_X4_mixNumbers (l : Launch) (E : ewE) (M : ewM) (h0 : st0 M) (s : Int) : Ct l E yX4_mixNumbers (.code yX4_mixNumbers cX4_mixNumbers 6 (some .long)) 5 [vR E 77, vJ s] M (fun v M1 => v = some (vJ (f_h (M 52) 4 (f_h (f_num M) 14 s))) ∧ M = M1) := by
  refine ct_of (L0 := [(0, vR E 77), (1, vJ s)]) (by decide +kernel) rfl (Nat.le_of_ble_eq_true rfl) ?_
  intro zp ze zs zm za zb zt zc zA hC
  obtain ⟨p1, p2, p3, p4, p5, p6, p7, p8⟩ := id h0
  have K33 : ∀ (n : Nat) (k h : Int), 4 - k < n → 0 ≤ k → k ≤ 4 → h = f_h (M 52) k.toNat (f_h (f_num M) 14 s) → jJ zp l ze (ct_rm 5) zs zm za zb zt zc E zA 6 0 0 (MQ zb (ct_Q E zA (fun v M1 => v = some (vJ (f_h (M 52) 4 (f_h (f_num M) 14 s))) ∧ M = M1)) za zs 0 0 zA) 33 [(0, vR E 77), (1, vJ s), (3, vJ h), (5, vI k)] [] M := by
    intro n
    induction n with
    | zero => intros; omega
    | succ n ih =>
      intro k h i1 i2 i3 hh
      refine jw_iload hC dX4_mixNumbers_33 3 rfl ?_
      refine jw_iconst hC dX4_mixNumbers_35 ?_
      refine jw_icmp_ge (tgt := 61) hC dX4_mixNumbers_36 (by decide) (by omega) (by omega) (by omega) (by omega) (fun h36 => ?_) (fun h36 => ?_)
      · skip
        refine jw_lload_n hC dX4_mixNumbers_61 2 rfl rfl ?_
        refine jw_lret hC dX4_mixNumbers_62 ?_
        exact ⟨by rw [hh, show k = 4 by omega]; rfl, rfl⟩
      · skip
        refine jw_lload_n hC dX4_mixNumbers_39 2 rfl rfl ?_
        refine jw_aload_n hC dX4_mixNumbers_40 0 rfl rfl ?_
        refine jw_getr hC fL_X4_12 ewR_x0 dX4_mixNumbers_41 ?_
        refine jw_getr hC fL_X4_165 (show ewR 50 6 1 52 from ewR_t1 (j := 0) (by decide)) dX4_mixNumbers_44 ?_
        refine jw_iload hC dX4_mixNumbers_47 3 rfl ?_
        refine jw_iald hC (show ewA 52 0 4 from ewA_settings (j := 0) (by decide)) dX4_mixNumbers_49 (by omega) (by omega) (by decide) (fun b49 c49 => ?_)
        refine jw_i2l hC dX4_mixNumbers_50 (by omega) (by omega) ?_
        refine jw_callS hC (c_X4_mix l E _ _ _) sS_X4_301 dX4_mixNumbers_51 rfl rfl ⟨Nat.le_of_ble_eq_true rfl, Nat.le_of_ble_eq_true rfl⟩ ⟨Nat.zero_le _, Nat.zero_le _⟩ (Nat.le_of_ble_eq_true rfl) (fun v51 M51 g51 => ?_)
        obtain ⟨rfl, rfl⟩ := g51
        refine jw_lstore_n (L' := [(3, _), (0, _), (1, _), (5, _)]) hC dX4_mixNumbers_54 rfl (by decide) rfl ?_
        refine jw_iinc (L' := [(5, _), (3, _), (0, _), (1, _)]) hC dX4_mixNumbers_55 3 rfl (by decide) rfl ?_
        refine jw_goto (tgt := 33) hC dX4_mixNumbers_58 (by decide) ?_
        refine jw_loc (L' := [(0, _), (1, _), (3, _), (5, _)]) [2, 3, 1, 0] rfl ?_
        exact ih _ _ (by omega) (by omega) (by omega) (by rw [f_h_s _ i2, hh])
  have K5 : ∀ (n : Nat) (k h : Int), 14 - k < n → 0 ≤ k → k ≤ 14 → h = f_h (f_num M) k.toNat (s) → jJ zp l ze (ct_rm 5) zs zm za zb zt zc E zA 6 0 0 (MQ zb (ct_Q E zA (fun v M1 => v = some (vJ (f_h (M 52) 4 (f_h (f_num M) 14 s))) ∧ M = M1)) za zs 0 0 zA) 5 [(0, vR E 77), (1, vJ s), (3, vJ h), (5, vI k)] [] M := by
    intro n
    induction n with
    | zero => intros; omega
    | succ n ih =>
      intro k h i1 i2 i3 hh
      refine jw_iload hC dX4_mixNumbers_5 3 rfl ?_
      refine jw_bipush hC dX4_mixNumbers_7 (by decide) ?_
      refine jw_icmp_ge (tgt := 30) hC dX4_mixNumbers_9 (by decide) (by omega) (by omega) (by omega) (by omega) (fun h9 => ?_) (fun h9 => ?_)
      · skip
        refine jw_iconst hC dX4_mixNumbers_30 ?_
        refine jw_istore (L' := [(5, _), (0, _), (1, _), (3, _)]) hC dX4_mixNumbers_31 (by decide) rfl ?_
        refine jw_loc (L' := [(0, _), (1, _), (3, _), (5, _)]) [1, 2, 3, 0] rfl ?_
        exact K33 5 0 _ (by omega) (by omega) (by omega) (by rw [hh, show k = 14 by omega]; rfl)
      · skip
        refine jw_lload_n hC dX4_mixNumbers_12 2 rfl rfl ?_
        refine jw_aload_n hC dX4_mixNumbers_13 0 rfl rfl ?_
        refine jw_iload hC dX4_mixNumbers_14 3 rfl ?_
        refine jw_callV hC (c_X4_numberOf l E M h0 _ ⟨by omega, by omega⟩) sV_X4_258 ewF_x4.o dX4_mixNumbers_16 rfl rfl ⟨Nat.le_of_ble_eq_true rfl, Nat.le_of_ble_eq_true rfl⟩ ⟨Nat.zero_le _, Nat.zero_le _⟩ (Nat.le_of_ble_eq_true rfl) (fun v16 M16 g16 => ?_)
        obtain ⟨rfl, hnb, rfl⟩ := g16
        refine jw_i2l hC dX4_mixNumbers_19 (by omega) (by omega) ?_
        refine jw_callS hC (c_X4_mix l E _ _ _) sS_X4_301 dX4_mixNumbers_20 rfl rfl ⟨Nat.le_of_ble_eq_true rfl, Nat.le_of_ble_eq_true rfl⟩ ⟨Nat.zero_le _, Nat.zero_le _⟩ (Nat.le_of_ble_eq_true rfl) (fun v20 M20 g20 => ?_)
        obtain ⟨rfl, rfl⟩ := g20
        refine jw_lstore_n (L' := [(3, _), (0, _), (1, _), (5, _)]) hC dX4_mixNumbers_23 rfl (by decide) rfl ?_
        refine jw_iinc (L' := [(5, _), (3, _), (0, _), (1, _)]) hC dX4_mixNumbers_24 3 rfl (by decide) rfl ?_
        refine jw_goto (tgt := 5) hC dX4_mixNumbers_27 (by decide) ?_
        refine jw_loc (L' := [(0, _), (1, _), (3, _), (5, _)]) [2, 3, 1, 0] rfl ?_
        exact ih _ _ (by omega) (by omega) (by omega) (by rw [f_h_s _ i2, hh])
  refine jw_lload_n hC dX4_mixNumbers_0 1 rfl rfl ?_
  refine jw_lstore_n (L' := [(3, _), (0, _), (1, _)]) hC dX4_mixNumbers_1 rfl (by decide) rfl ?_
  refine jw_iconst hC dX4_mixNumbers_2 ?_
  refine jw_istore (L' := [(5, _), (3, _), (0, _), (1, _)]) hC dX4_mixNumbers_3 (by decide) rfl ?_
  refine jw_loc (L' := [(0, _), (1, _), (3, _), (5, _)]) [2, 3, 1, 0] rfl ?_
  exact K5 15 0 _ (by omega) (by omega) (by omega) rfl
set_option maxRecDepth 100000 in
set_option maxHeartbeats 4000000 in
theorem c_X4_mixDies (l : Launch) (E : ewE) (M : ewM) (h0 : st0 M) (s : Int) : Ct l E yX4_mixDies (.code yX4_mixDies cX4_mixDies 6 (some .long)) 2 [vR E 77, vJ s] M (fun v M1 => v = some (vJ (f_h (M 51) 75 s)) ∧ M = M1) := by
  refine ct_of (L0 := [(0, vR E 77), (1, vJ s)]) (by decide +kernel) rfl (Nat.le_of_ble_eq_true rfl) ?_
  intro zp ze zs zm za zb zt zc zA hC
  obtain ⟨p1, p2, p3, p4, p5, p6, p7, p8⟩ := id h0
  have K5 : ∀ (n : Nat) (k h : Int), 75 - k < n → 0 ≤ k → k ≤ 75 → h = f_h (M 51) k.toNat (s) → jJ zp l ze (ct_rm 2) zs zm za zb zt zc E zA 6 0 0 (MQ zb (ct_Q E zA (fun v M1 => v = some (vJ (f_h (M 51) 75 s)) ∧ M = M1)) za zs 0 0 zA) 5 [(0, vR E 77), (1, vJ s), (3, vJ h), (5, vI k)] [] M := by
    intro n
    induction n with
    | zero => intros; omega
    | succ n ih =>
      intro k h i1 i2 i3 hh
      refine jw_iload hC dX4_mixDies_5 3 rfl ?_
      refine jw_bipush hC dX4_mixDies_7 (by decide) ?_
      refine jw_icmp_ge (tgt := 34) hC dX4_mixDies_9 (by decide) (by omega) (by omega) (by omega) (by omega) (fun h9 => ?_) (fun h9 => ?_)
      · skip
        refine jw_lload_n hC dX4_mixDies_34 2 rfl rfl ?_
        refine jw_lret hC dX4_mixDies_35 ?_
        exact ⟨by rw [hh, show k = 75 by omega]; rfl, rfl⟩
      · skip
        refine jw_lload_n hC dX4_mixDies_12 2 rfl rfl ?_
        refine jw_aload_n hC dX4_mixDies_13 0 rfl rfl ?_
        refine jw_getr hC fL_X4_12 ewR_x0 dX4_mixDies_14 ?_
        refine jw_getr hC fL_X4_79 (show ewR 50 6 0 51 from ewR_t0 (j := 0) (by decide)) dX4_mixDies_17 ?_
        refine jw_iload hC dX4_mixDies_20 3 rfl ?_
        refine jw_iald hC (show ewA 51 0 75 from ewA_points (j := 0) (by decide)) dX4_mixDies_22 (by omega) (by omega) (by decide) (fun b22 c22 => ?_)
        refine jw_i2l hC dX4_mixDies_23 (by omega) (by omega) ?_
        refine jw_callS hC (c_X4_mix l E _ _ _) sS_X4_301 dX4_mixDies_24 rfl rfl ⟨Nat.le_of_ble_eq_true rfl, Nat.le_of_ble_eq_true rfl⟩ ⟨Nat.zero_le _, Nat.zero_le _⟩ (Nat.le_of_ble_eq_true rfl) (fun v24 M24 g24 => ?_)
        obtain ⟨rfl, rfl⟩ := g24
        refine jw_lstore_n (L' := [(3, _), (0, _), (1, _), (5, _)]) hC dX4_mixDies_27 rfl (by decide) rfl ?_
        refine jw_iinc (L' := [(5, _), (3, _), (0, _), (1, _)]) hC dX4_mixDies_28 3 rfl (by decide) rfl ?_
        refine jw_goto (tgt := 5) hC dX4_mixDies_31 (by decide) ?_
        refine jw_loc (L' := [(0, _), (1, _), (3, _), (5, _)]) [2, 3, 1, 0] rfl ?_
        exact ih _ _ (by omega) (by omega) (by omega) (by rw [f_h_s _ i2, hh])
  refine jw_lload_n hC dX4_mixDies_0 1 rfl rfl ?_
  refine jw_lstore_n (L' := [(3, _), (0, _), (1, _)]) hC dX4_mixDies_1 rfl (by decide) rfl ?_
  refine jw_iconst hC dX4_mixDies_2 ?_
  refine jw_istore (L' := [(5, _), (3, _), (0, _), (1, _)]) hC dX4_mixDies_3 (by decide) rfl ?_
  refine jw_loc (L' := [(0, _), (1, _), (3, _), (5, _)]) [2, 3, 1, 0] rfl ?_
  exact K5 76 0 _ (by omega) (by omega) (by omega) rfl
set_option maxRecDepth 100000 in
set_option maxHeartbeats 4000000 in
theorem c_X4_mixPlaces (l : Launch) (E : ewE) (M : ewM) (h0 : st0 M) (s : Int) : Ct l E yX4_mixPlaces (.code yX4_mixPlaces cX4_mixPlaces 7 (some .long)) 5 [vR E 77, vJ s] M (fun v M1 => v = some (vJ (f_h (fun q => f_prop M (q / 7) (q % 7)) 1008 s)) ∧ M = M1) := by
  refine ct_of (L0 := [(0, vR E 77), (1, vJ s)]) (by decide +kernel) rfl (Nat.le_of_ble_eq_true rfl) ?_
  intro zp ze zs zm za zb zt zc zA hC
  obtain ⟨p1, p2, p3, p4, p5, p6, p7, p8⟩ := id h0
  have K16 : ∀ (n : Nat) (p w h : Int), 1160 - (8 * p + w) < n → 0 ≤ p → p < 144 → 0 ≤ w → w ≤ 7 → h = f_h (fun q => f_prop M (q / 7) (q % 7)) (7 * p + w).toNat s → jJ zp l ze (ct_rm 5) zs zm za zb zt zc E zA 7 0 0 (MQ zb (ct_Q E zA (fun v M1 => v = some (vJ (f_h (fun q => f_prop M (q / 7) (q % 7)) 1008 s)) ∧ M = M1)) za zs 0 0 zA) 16 [(0, vR E 77), (1, vJ s), (3, vJ h), (5, vI p), (6, vI w)] [] M := by
    intro n
    induction n with
    | zero => intros; omega
    | succ n ih =>
      intro p w h i1 i2 i3 i4 i5 hh
      refine jw_iload hC dX4_mixPlaces_16 4 rfl ?_
      refine jw_bipush hC dX4_mixPlaces_18 (by decide) ?_
      refine jw_icmp_ge (tgt := 43) hC dX4_mixPlaces_20 (by decide) (by omega) (by omega) (by omega) (by omega) (fun h20 => ?_) (fun h20 => ?_)
      · skip
        refine jw_iinc (L' := [(5, _), (0, _), (1, _), (3, _), (6, _)]) hC dX4_mixPlaces_43 3 rfl (by decide) rfl ?_
        refine jw_goto (tgt := 5) hC dX4_mixPlaces_46 (by decide) ?_
        refine jw_iload hC dX4_mixPlaces_5 0 rfl ?_
        refine jw_sipush hC dX4_mixPlaces_7 (by decide) ?_
        refine jw_icmp_ge (tgt := 49) hC dX4_mixPlaces_10 (by decide) (by omega) (by omega) (by omega) (by omega) (fun h10 => ?_) (fun h10 => ?_)
        · skip
          refine jw_lload_n hC dX4_mixPlaces_49 3 rfl rfl ?_
          refine jw_lret hC dX4_mixPlaces_50 ?_
          exact ⟨by rw [hh, show 7 * p + w = 1008 by omega]; rfl, rfl⟩
        · skip
          refine jw_iconst hC dX4_mixPlaces_13 ?_
          refine jw_istore (L' := [(6, _), (5, _), (0, _), (1, _), (3, _)]) hC dX4_mixPlaces_14 (by decide) rfl ?_
          refine jw_loc (L' := [(0, _), (1, _), (3, _), (5, _), (6, _)]) [2, 3, 4, 1, 0] rfl ?_
          first
          | exact ih (p + 1) 0 _ (by omega) (by omega) (by omega) (by omega) (by omega) (by rw [show 7 * (p + 1) + 0 = 7 * p + w by omega]; exact hh)
          | exact ih p (w + 1) _ (by omega) (by omega) (by omega) (by omega) (by omega) (by rw [show 7 * p + (w + 1) = 7 * p + w + 1 by omega, f_h_s _ (by omega), hh, show (7 * p + w) / 7 = p by omega, show (7 * p + w) % 7 = w by omega])
      · skip
        refine jw_lload_n hC dX4_mixPlaces_23 2 rfl rfl ?_
        refine jw_aload_n hC dX4_mixPlaces_24 0 rfl rfl ?_
        refine jw_iload hC dX4_mixPlaces_25 3 rfl ?_
        refine jw_iload hC dX4_mixPlaces_27 4 rfl ?_
        refine jw_callV hC (c_X4_propertyOf l E M h0 _ ⟨by omega, by omega⟩ _ ⟨by omega, by omega⟩) sV_X4_253 ewF_x4.o dX4_mixPlaces_29 rfl rfl ⟨Nat.le_of_ble_eq_true rfl, Nat.le_of_ble_eq_true rfl⟩ ⟨Nat.zero_le _, Nat.zero_le _⟩ (Nat.le_of_ble_eq_true rfl) (fun v29 M29 g29 => ?_)
        obtain ⟨rfl, hnb, rfl⟩ := g29
        refine jw_i2l hC dX4_mixPlaces_32 (by omega) (by omega) ?_
        refine jw_callS hC (c_X4_mix l E _ _ _) sS_X4_301 dX4_mixPlaces_33 rfl rfl ⟨Nat.le_of_ble_eq_true rfl, Nat.le_of_ble_eq_true rfl⟩ ⟨Nat.zero_le _, Nat.zero_le _⟩ (Nat.le_of_ble_eq_true rfl) (fun v33 M33 g33 => ?_)
        obtain ⟨rfl, rfl⟩ := g33
        refine jw_lstore_n (L' := [(3, _), (0, _), (1, _), (5, _), (6, _)]) hC dX4_mixPlaces_36 rfl (by decide) rfl ?_
        refine jw_iinc (L' := [(6, _), (3, _), (0, _), (1, _), (5, _)]) hC dX4_mixPlaces_37 4 rfl (by decide) rfl ?_
        refine jw_goto (tgt := 16) hC dX4_mixPlaces_40 (by decide) ?_
        refine jw_loc (L' := [(0, _), (1, _), (3, _), (5, _), (6, _)]) [2, 3, 1, 4, 0] rfl ?_
        first
        | exact ih (p + 1) 0 _ (by omega) (by omega) (by omega) (by omega) (by omega) (by rw [show 7 * (p + 1) + 0 = 7 * p + w by omega]; exact hh)
        | exact ih p (w + 1) _ (by omega) (by omega) (by omega) (by omega) (by omega) (by rw [show 7 * p + (w + 1) = 7 * p + w + 1 by omega, f_h_s _ (by omega), hh, show (7 * p + w) / 7 = p by omega, show (7 * p + w) % 7 = w by omega])
  refine jw_lload_n hC dX4_mixPlaces_0 1 rfl rfl ?_
  refine jw_lstore_n (L' := [(3, _), (0, _), (1, _)]) hC dX4_mixPlaces_1 rfl (by decide) rfl ?_
  refine jw_iconst hC dX4_mixPlaces_2 ?_
  refine jw_istore (L' := [(5, _), (3, _), (0, _), (1, _)]) hC dX4_mixPlaces_3 (by decide) rfl ?_
  refine jw_iload hC dX4_mixPlaces_5 0 rfl ?_
  refine jw_sipush hC dX4_mixPlaces_7 (by decide) ?_
  refine jw_icmp_ge (tgt := 49) hC dX4_mixPlaces_10 (by decide) (by omega) (by omega) (by omega) (by omega) (fun h10 => ?_) (fun h10 => ?_)
  · skip
    exfalso; omega
  · skip
    refine jw_iconst hC dX4_mixPlaces_13 ?_
    refine jw_istore (L' := [(6, _), (5, _), (3, _), (0, _), (1, _)]) hC dX4_mixPlaces_14 (by decide) rfl ?_
    refine jw_loc (L' := [(0, _), (1, _), (3, _), (5, _), (6, _)]) [3, 4, 2, 1, 0] rfl ?_
    exact K16 1161 0 0 _ (by omega) (by omega) (by omega) (by omega) (by omega) rfl
set_option maxRecDepth 100000 in
set_option maxHeartbeats 4000000 in
theorem c_X4_mixLooks (l : Launch) (E : ewE) (M : ewM) (h0 : st0 M) (s : Int) : Ct l E yX4_mixLooks (.code yX4_mixLooks cX4_mixLooks 6 (some .long)) 6 [vR E 77, vJ s] M (fun v M1 => v = some (vJ (31 * f_h (fun q => f_fc (M 1) (M 3) (q + 1) (M 52 0) (M 52 1)) 11 (f_h (fun q => if q % 4 = 0 then a_ans M (f_rel (M 51) (q / 4) 0) 3 4 else if q % 4 = 1 then f_bs (fun k => a_ans M (f_rel (M 51) (q / 4) 0) (k % 12) (k / 12)) 144 else if q % 4 = 2 then f_lt (M 51) (q / 4) 0 8 0 else f_need (f_rel (M 51) (q / 4) 0) (3 + M 50 3) 4 (M 1) (M 3) (M 52 1) (M 52 2)) 12 s) + f_fr (fun q => f_fc (M 1) (M 3) q (M 52 0) (M 52 1)) 10)) ∧ lk M M1) := by
  refine ct_of (L0 := [(0, vR E 77), (1, vJ s)]) (by decide +kernel) rfl (Nat.le_of_ble_eq_true rfl) ?_
  intro zp ze zs zm za zb zt zc zA hC
  obtain ⟨p1, p2, p3, p4, p5, p6, p7, p8⟩ := id h0
  have K76 : ∀ (n : Nat) (k h : Int) (M1 : ewM), 12 - k < n → 1 ≤ k → k ≤ 12 → h = f_h (fun q => f_fc (M 1) (M 3) (q + 1) (M 52 0) (M 52 1)) (k - 1).toNat (f_h (fun q => if q % 4 = 0 then a_ans M (f_rel (M 51) (q / 4) 0) 3 4 else if q % 4 = 1 then f_bs (fun k => a_ans M (f_rel (M 51) (q / 4) 0) (k % 12) (k / 12)) 144 else if q % 4 = 2 then f_lt (M 51) (q / 4) 0 8 0 else f_need (f_rel (M 51) (q / 4) 0) (3 + M 50 3) 4 (M 1) (M 3) (M 52 1) (M 52 2)) 12 s) → lk M M1 → jJ zp l ze (ct_rm 6) zs zm za zb zt zc E zA 6 0 0 (MQ zb (ct_Q E zA (fun v M1 => v = some (vJ (31 * f_h (fun q => f_fc (M 1) (M 3) (q + 1) (M 52 0) (M 52 1)) 11 (f_h (fun q => if q % 4 = 0 then a_ans M (f_rel (M 51) (q / 4) 0) 3 4 else if q % 4 = 1 then f_bs (fun k => a_ans M (f_rel (M 51) (q / 4) 0) (k % 12) (k / 12)) 144 else if q % 4 = 2 then f_lt (M 51) (q / 4) 0 8 0 else f_need (f_rel (M 51) (q / 4) 0) (3 + M 50 3) 4 (M 1) (M 3) (M 52 1) (M 52 2)) 12 s) + f_fr (fun q => f_fc (M 1) (M 3) q (M 52 0) (M 52 1)) 10)) ∧ lk M M1)) za zs 0 0 zA) 76 [(0, vR E 77), (1, vJ s), (3, vJ h), (5, vI k)] [] M1 := by
    intro n
    induction n with
    | zero => intros; omega
    | succ n ih =>
      intro k h M1 i1 i2 i3 hh lk0
      refine jw_iload hC dX4_mixLooks_76 3 rfl ?_
      refine jw_bipush hC dX4_mixLooks_78 (by decide) ?_
      refine jw_icmp_ge (tgt := 101) hC dX4_mixLooks_80 (by decide) (by omega) (by omega) (by omega) (by omega) (fun h80 => ?_) (fun h80 => ?_)
      · skip
        refine jw_lload_n hC dX4_mixLooks_101 2 rfl rfl ?_
        refine jw_aload_n hC dX4_mixLooks_102 0 rfl rfl ?_
        refine jw_callV hC (c_X4_bestFold l E M1 (lk_st0 lk0 h0)) sV_X4_378 ewF_x4.o dX4_mixLooks_103 rfl rfl ⟨Nat.le_of_ble_eq_true rfl, Nat.le_of_ble_eq_true rfl⟩ ⟨Nat.zero_le _, Nat.zero_le _⟩ (Nat.le_of_ble_eq_true rfl) (fun v103 M103 g103 => ?_)
        obtain ⟨rfl, g2⟩ := g103
        rw [lk0 1 (by decide), lk0 3 (by decide), lk0 52 (by decide)]
        have hfb := f_fr_b (fun q => f_fc (M 1) (M 3) q (M 52 0) (M 52 1)) 10
        refine jw_i2l hC dX4_mixLooks_106 (by omega) (by omega) ?_
        refine jw_callS hC (c_X4_mix l E _ _ _) sS_X4_301 dX4_mixLooks_107 rfl rfl ⟨Nat.le_of_ble_eq_true rfl, Nat.le_of_ble_eq_true rfl⟩ ⟨Nat.zero_le _, Nat.zero_le _⟩ (Nat.le_of_ble_eq_true rfl) (fun v107 M107 g107 => ?_)
        obtain ⟨rfl, rfl⟩ := g107
        refine jw_lret hC dX4_mixLooks_110 ?_
        exact ⟨by rw [hh, show k - 1 = 11 by omega]; rfl, lk_tr lk0 g2⟩
      · skip
        refine jw_lload_n hC dX4_mixLooks_83 2 rfl rfl ?_
        refine jw_aload_n hC dX4_mixLooks_84 0 rfl rfl ?_
        refine jw_iload hC dX4_mixLooks_85 3 rfl ?_
        refine jw_callV hC (c_X4_cracksOfFold l E M1 (lk_st0 lk0 h0) _ ⟨by omega, by omega⟩) sV_X4_267 ewF_x4.o dX4_mixLooks_87 rfl rfl ⟨Nat.le_of_ble_eq_true rfl, Nat.le_of_ble_eq_true rfl⟩ ⟨Nat.zero_le _, Nat.zero_le _⟩ (Nat.le_of_ble_eq_true rfl) (fun v87 M87 g87 => ?_)
        obtain ⟨rfl, g2⟩ := g87
        rw [lk0 1 (by decide), lk0 3 (by decide), lk0 52 (by decide)]
        have hfb := f_fc_b (d := M 1) (c := M 3) k (M 52 0) (M 52 1) p2
        refine jw_i2l hC dX4_mixLooks_90 (by omega) (by omega) ?_
        refine jw_callS hC (c_X4_mix l E _ _ _) sS_X4_301 dX4_mixLooks_91 rfl rfl ⟨Nat.le_of_ble_eq_true rfl, Nat.le_of_ble_eq_true rfl⟩ ⟨Nat.zero_le _, Nat.zero_le _⟩ (Nat.le_of_ble_eq_true rfl) (fun v91 M91 g91 => ?_)
        obtain ⟨rfl, rfl⟩ := g91
        refine jw_lstore_n (L' := [(3, _), (0, _), (1, _), (5, _)]) hC dX4_mixLooks_94 rfl (by decide) rfl ?_
        refine jw_iinc (L' := [(5, _), (3, _), (0, _), (1, _)]) hC dX4_mixLooks_95 3 rfl (by decide) rfl ?_
        refine jw_goto (tgt := 76) hC dX4_mixLooks_98 (by decide) ?_
        refine jw_loc (L' := [(0, _), (1, _), (3, _), (5, _)]) [2, 3, 1, 0] rfl ?_
        exact ih (k + 1) _ _ (by omega) (by omega) (by omega) (by
          rw [show k + 1 - 1 = k - 1 + 1 by omega, f_h_s _ (by omega), hh]
          try dsimp only
          rw [show k - 1 + 1 = k by omega]) (lk_tr lk0 g2)
  have K5 : ∀ (n : Nat) (k h : Int) (M1 : ewM), 3 - k < n → 0 ≤ k → k ≤ 3 → h = f_h (fun q => if q % 4 = 0 then a_ans M (f_rel (M 51) (q / 4) 0) 3 4 else if q % 4 = 1 then f_bs (fun k => a_ans M (f_rel (M 51) (q / 4) 0) (k % 12) (k / 12)) 144 else if q % 4 = 2 then f_lt (M 51) (q / 4) 0 8 0 else f_need (f_rel (M 51) (q / 4) 0) (3 + M 50 3) 4 (M 1) (M 3) (M 52 1) (M 52 2)) (4 * k).toNat s → lk M M1 → jJ zp l ze (ct_rm 6) zs zm za zb zt zc E zA 6 0 0 (MQ zb (ct_Q E zA (fun v M1 => v = some (vJ (31 * f_h (fun q => f_fc (M 1) (M 3) (q + 1) (M 52 0) (M 52 1)) 11 (f_h (fun q => if q % 4 = 0 then a_ans M (f_rel (M 51) (q / 4) 0) 3 4 else if q % 4 = 1 then f_bs (fun k => a_ans M (f_rel (M 51) (q / 4) 0) (k % 12) (k / 12)) 144 else if q % 4 = 2 then f_lt (M 51) (q / 4) 0 8 0 else f_need (f_rel (M 51) (q / 4) 0) (3 + M 50 3) 4 (M 1) (M 3) (M 52 1) (M 52 2)) 12 s) + f_fr (fun q => f_fc (M 1) (M 3) q (M 52 0) (M 52 1)) 10)) ∧ lk M M1)) za zs 0 0 zA) 5 [(0, vR E 77), (1, vJ s), (3, vJ h), (5, vI k)] [] M1 := by
    intro n
    induction n with
    | zero => intros; omega
    | succ n ih =>
      intro k h M1 i1 i2 i3 hh lk0
      refine jw_iload hC dX4_mixLooks_5 3 rfl ?_
      refine jw_iconst hC dX4_mixLooks_7 ?_
      refine jw_icmp_ge (tgt := 73) hC dX4_mixLooks_8 (by decide) (by omega) (by omega) (by omega) (by omega) (fun h8 => ?_) (fun h8 => ?_)
      · skip
        refine jw_iconst hC dX4_mixLooks_73 ?_
        refine jw_istore (L' := [(5, _), (0, _), (1, _), (3, _)]) hC dX4_mixLooks_74 (by decide) rfl ?_
        refine jw_loc (L' := [(0, _), (1, _), (3, _), (5, _)]) [1, 2, 3, 0] rfl ?_
        exact K76 12 1 _ M1 (by omega) (by omega) (by omega) (by rw [hh, show k = 3 by omega]; rfl) lk0
      · skip
        refine jw_lload_n hC dX4_mixLooks_11 2 rfl rfl ?_
        refine jw_aload_n hC dX4_mixLooks_12 0 rfl rfl ?_
        refine jw_iload hC dX4_mixLooks_13 3 rfl ?_
        refine jw_iconst hC dX4_mixLooks_15 ?_
        refine jw_iconst hC dX4_mixLooks_16 ?_
        refine jw_iconst hC dX4_mixLooks_17 ?_
        refine jw_callV hC (c_X4_answerOfPress l E M1 (lk_st0 lk0 h0) _ ⟨by omega, by omega⟩ _ _ (by decide) (by decide) (by decide) (by decide) _ ⟨by decide, by decide⟩) sV_X4_261 ewF_x4.o dX4_mixLooks_18 rfl rfl ⟨Nat.le_of_ble_eq_true rfl, Nat.le_of_ble_eq_true rfl⟩ ⟨Nat.zero_le _, Nat.zero_le _⟩ (Nat.le_of_ble_eq_true rfl) (fun v18 M18 g18 => ?_)
        obtain ⟨rfl, g2⟩ := g18
        rw [lk_ans lk0, lk0 51 (by decide)]
        have hab := a_ans_b h0 (f_rel (M 51) k 0) 3 4
        have lk1 := lk_tr lk0 g2
        refine jw_i2l hC dX4_mixLooks_21 (by omega) (by omega) ?_
        refine jw_callS hC (c_X4_mix l E _ _ _) sS_X4_301 dX4_mixLooks_22 rfl rfl ⟨Nat.le_of_ble_eq_true rfl, Nat.le_of_ble_eq_true rfl⟩ ⟨Nat.zero_le _, Nat.zero_le _⟩ (Nat.le_of_ble_eq_true rfl) (fun v22 M22 g22 => ?_)
        obtain ⟨rfl, rfl⟩ := g22
        refine jw_lstore_n (L' := [(3, _), (0, _), (1, _), (5, _)]) hC dX4_mixLooks_25 rfl (by decide) rfl ?_
        refine jw_lload_n hC dX4_mixLooks_26 0 rfl rfl ?_
        refine jw_aload_n hC dX4_mixLooks_27 1 rfl rfl ?_
        refine jw_iload hC dX4_mixLooks_28 3 rfl ?_
        refine jw_iconst hC dX4_mixLooks_30 ?_
        refine jw_callV hC (c_X4_leastHarm l E M18 (lk_st0 lk1 h0) _ ⟨by omega, by omega⟩ _ ⟨by decide, by decide⟩) sV_X4_264 ewF_x4.o dX4_mixLooks_31 rfl rfl ⟨Nat.le_of_ble_eq_true rfl, Nat.le_of_ble_eq_true rfl⟩ ⟨Nat.zero_le _, Nat.zero_le _⟩ (Nat.le_of_ble_eq_true rfl) (fun v31 M31 g31 => ?_)
        obtain ⟨rfl, g3⟩ := g31
        rw [show (fun k_1 => a_ans M18 (f_rel (M18 51) k 0) (k_1 % 12) (k_1 / 12)) = fun k_1 => a_ans M (f_rel (M 51) k 0) (k_1 % 12) (k_1 / 12) from funext fun z => by rw [lk_ans lk1, lk1 51 (by decide)]]
        have hbb := f_bs_b (fun k_1 => a_ans M (f_rel (M 51) k 0) (k_1 % 12) (k_1 / 12)) 144 (by decide)
        have lk2 := lk_tr lk1 g3
        refine jw_i2l hC dX4_mixLooks_34 (by omega) (by omega) ?_
        refine jw_callS hC (c_X4_mix l E _ _ _) sS_X4_301 dX4_mixLooks_35 rfl rfl ⟨Nat.le_of_ble_eq_true rfl, Nat.le_of_ble_eq_true rfl⟩ ⟨Nat.zero_le _, Nat.zero_le _⟩ (Nat.le_of_ble_eq_true rfl) (fun v35 M35 g35 => ?_)
        obtain ⟨rfl, rfl⟩ := g35
        refine jw_lstore_n (L' := [(3, _), (0, _), (1, _), (5, _)]) hC dX4_mixLooks_38 rfl (by decide) rfl ?_
        refine jw_lload_n hC dX4_mixLooks_39 0 rfl rfl ?_
        refine jw_aload_n hC dX4_mixLooks_40 1 rfl rfl ?_
        refine jw_iload hC dX4_mixLooks_41 3 rfl ?_
        refine jw_iconst hC dX4_mixLooks_43 ?_
        refine jw_callV hC (c_X4_leastTurnTo l E M31 (lk_st0 lk2 h0) _ ⟨by omega, by omega⟩ _ ⟨by decide, by decide⟩) sV_X4_270 ewF_x4.o dX4_mixLooks_44 rfl rfl ⟨Nat.le_of_ble_eq_true rfl, Nat.le_of_ble_eq_true rfl⟩ ⟨Nat.zero_le _, Nat.zero_le _⟩ (Nat.le_of_ble_eq_true rfl) (fun v44 M44 g44 => ?_)
        obtain ⟨rfl, rfl⟩ := g44
        rw [lk2 51 (by decide)]
        have hlb := f_lt_b (M 51) k 0 8 0 (by decide)
        refine jw_i2l hC dX4_mixLooks_47 (by omega) (by omega) ?_
        refine jw_callS hC (c_X4_mix l E _ _ _) sS_X4_301 dX4_mixLooks_48 rfl rfl ⟨Nat.le_of_ble_eq_true rfl, Nat.le_of_ble_eq_true rfl⟩ ⟨Nat.zero_le _, Nat.zero_le _⟩ (Nat.le_of_ble_eq_true rfl) (fun v48 M48 g48 => ?_)
        obtain ⟨rfl, rfl⟩ := g48
        refine jw_lstore_n (L' := [(3, _), (0, _), (1, _), (5, _)]) hC dX4_mixLooks_51 rfl (by decide) rfl ?_
        refine jw_lload_n hC dX4_mixLooks_52 0 rfl rfl ?_
        refine jw_aload_n hC dX4_mixLooks_53 1 rfl rfl ?_
        refine jw_iload hC dX4_mixLooks_54 3 rfl ?_
        refine jw_iconst hC dX4_mixLooks_56 ?_
        refine jw_iconst hC dX4_mixLooks_57 ?_
        refine jw_iconst hC dX4_mixLooks_58 ?_
        refine jw_callV hC (c_X4_leastBearing l E M31 (lk_st0 lk2 h0) _ ⟨by omega, by omega⟩ _ _ (by decide) (by decide) (by decide) (by decide) _ ⟨by decide, by decide⟩) sV_X4_273 ewF_x4.o dX4_mixLooks_59 rfl rfl ⟨Nat.le_of_ble_eq_true rfl, Nat.le_of_ble_eq_true rfl⟩ ⟨Nat.zero_le _, Nat.zero_le _⟩ (Nat.le_of_ble_eq_true rfl) (fun v59 M59 g59 => ?_)
        obtain ⟨rfl, g4⟩ := g59
        rw [lk2 51 (by decide), lk2 50 (by decide), lk2 1 (by decide), lk2 3 (by decide), lk2 52 (by decide)]
        have hnb := f_need_b (r := f_rel (M 51) k 0) (left := 3 + M 50 3) (top := 4) (deep := M 52 2) (f_rel_D p3 k 0) p1 p2 p5
        have lk3 := lk_tr lk2 g4
        refine jw_i2l hC dX4_mixLooks_62 (by omega) (by omega) ?_
        refine jw_callS hC (c_X4_mix l E _ _ _) sS_X4_301 dX4_mixLooks_63 rfl rfl ⟨Nat.le_of_ble_eq_true rfl, Nat.le_of_ble_eq_true rfl⟩ ⟨Nat.zero_le _, Nat.zero_le _⟩ (Nat.le_of_ble_eq_true rfl) (fun v63 M63 g63 => ?_)
        obtain ⟨rfl, rfl⟩ := g63
        refine jw_lstore_n (L' := [(3, _), (0, _), (1, _), (5, _)]) hC dX4_mixLooks_66 rfl (by decide) rfl ?_
        refine jw_iinc (L' := [(5, _), (3, _), (0, _), (1, _)]) hC dX4_mixLooks_67 3 rfl (by decide) rfl ?_
        refine jw_goto (tgt := 5) hC dX4_mixLooks_70 (by decide) ?_
        refine jw_loc (L' := [(0, _), (1, _), (3, _), (5, _)]) [2, 3, 1, 0] rfl ?_
        exact ih (k + 1) _ _ (by omega) (by omega) (by omega) (by
          rw [show 4 * (k + 1) = 4 * k + 3 + 1 by omega, f_h_s _ (by omega), show 4 * k + 3 = 4 * k + 2 + 1 by omega, f_h_s _ (by omega), show 4 * k + 2 = 4 * k + 1 + 1 by omega, f_h_s _ (by omega), f_h_s _ (by omega), hh]
          try dsimp only
          rw [show 4 * k % 4 = 0 by omega, show 4 * k / 4 = k by omega, show (4 * k + 1) % 4 = 1 by omega, show (4 * k + 1) / 4 = k by omega, show (4 * k + 1 + 1) % 4 = 2 by omega, show (4 * k + 1 + 1) / 4 = k by omega, show (4 * k + 1 + 1 + 1) % 4 = 3 by omega, show (4 * k + 1 + 1 + 1) / 4 = k by omega]
          rfl) lk3
  refine jw_lload_n hC dX4_mixLooks_0 1 rfl rfl ?_
  refine jw_lstore_n (L' := [(3, _), (0, _), (1, _)]) hC dX4_mixLooks_1 rfl (by decide) rfl ?_
  refine jw_iconst hC dX4_mixLooks_2 ?_
  refine jw_istore (L' := [(5, _), (3, _), (0, _), (1, _)]) hC dX4_mixLooks_3 (by decide) rfl ?_
  refine jw_loc (L' := [(0, _), (1, _), (3, _), (5, _)]) [2, 3, 1, 0] rfl ?_
  exact K5 4 0 _ M (by omega) (by omega) (by omega) rfl lk_rfl
set_option maxRecDepth 100000 in
set_option maxHeartbeats 4000000 in
theorem c_X4_mixSlotsAndBuffer (l : Launch) (E : ewE) (M : ewM) (hl : 0 ≤ M 81 1 ∧ M 81 1 ≤ 40) (hz : ∀ q : Int, M 79 q = 0 ∨ M 79 q = 1) (s : Int) : Ct l E yX4_mixSlotsAndBuffer (.code yX4_mixSlotsAndBuffer cX4_mixSlotsAndBuffer 6 (some .long)) 2 [vR E 77, vJ s] M (fun v M1 => v = some (vJ (f_h (M 82) (M 81 1).toNat (31 * f_h (M 79) 2 s + M 81 1))) ∧ M = M1) := by
  refine ct_of (L0 := [(0, vR E 77), (1, vJ s)]) (by decide +kernel) rfl (Nat.le_of_ble_eq_true rfl) ?_
  intro zp ze zs zm za zb zt zc zA hC
  have K53 : ∀ (n : Nat) (k h : Int), M 81 1 - k < n → 0 ≤ k → k ≤ M 81 1 → h = f_h (M 82) k.toNat (31 * f_h (M 79) 2 s + M 81 1) → jJ zp l ze (ct_rm 2) zs zm za zb zt zc E zA 6 0 0 (MQ zb (ct_Q E zA (fun v M1 => v = some (vJ (f_h (M 82) (M 81 1).toNat (31 * f_h (M 79) 2 s + M 81 1))) ∧ M = M1)) za zs 0 0 zA) 53 [(0, vR E 77), (1, vJ s), (3, vJ h), (5, vI k)] [] M := by
    intro n
    induction n with
    | zero => intros; omega
    | succ n ih =>
      intro k h i1 i2 i3 hh
      refine jw_iload hC dX4_mixSlotsAndBuffer_53 3 rfl ?_
      refine jw_aload_n hC dX4_mixSlotsAndBuffer_55 0 rfl rfl ?_
      refine jw_getr hC fL_X4_30 ewR_x6 dX4_mixSlotsAndBuffer_56 ?_
      refine jw_geti hC fL_X4_210.r ewF_d1 (kI := 1) rfl dX4_mixSlotsAndBuffer_59 (by omega) (fun b59 c59 => ?_)
      refine jw_icmp_ge (tgt := 94) hC dX4_mixSlotsAndBuffer_62 (by decide) (by omega) (by omega) (by omega) (by omega) (fun h62 => ?_) (fun h62 => ?_)
      · skip
        refine jw_lload_n hC dX4_mixSlotsAndBuffer_94 2 rfl rfl ?_
        refine jw_lret hC dX4_mixSlotsAndBuffer_95 ?_
        exact ⟨by rw [hh, show k = M 81 1 by omega], rfl⟩
      · skip
        refine jw_iload hC dX4_mixSlotsAndBuffer_65 3 rfl ?_
        refine jw_bipush hC dX4_mixSlotsAndBuffer_67 (by decide) ?_
        refine jw_icmp_ge (tgt := 94) hC dX4_mixSlotsAndBuffer_69 (by decide) (by omega) (by omega) (by omega) (by omega) (fun h69 => ?_) (fun h69 => ?_)
        · skip
          refine jw_lload_n hC dX4_mixSlotsAndBuffer_94 2 rfl rfl ?_
          refine jw_lret hC dX4_mixSlotsAndBuffer_95 ?_
          exact ⟨by rw [hh, show k = M 81 1 by omega], rfl⟩
        · skip
          refine jw_lload_n hC dX4_mixSlotsAndBuffer_72 2 rfl rfl ?_
          refine jw_aload_n hC dX4_mixSlotsAndBuffer_73 0 rfl rfl ?_
          refine jw_getr hC fL_X4_30 ewR_x6 dX4_mixSlotsAndBuffer_74 ?_
          refine jw_getr hC fL_X4_381 ewR_d0 dX4_mixSlotsAndBuffer_77 ?_
          refine jw_iload hC dX4_mixSlotsAndBuffer_80 3 rfl ?_
          refine jw_iald hC ewA_82 dX4_mixSlotsAndBuffer_82 (by omega) (by omega) (by decide) (fun b82 c82 => ?_)
          refine jw_i2l hC dX4_mixSlotsAndBuffer_83 (by omega) (by omega) ?_
          refine jw_callS hC (c_X4_mix l E _ _ _) sS_X4_301 dX4_mixSlotsAndBuffer_84 rfl rfl ⟨Nat.le_of_ble_eq_true rfl, Nat.le_of_ble_eq_true rfl⟩ ⟨Nat.zero_le _, Nat.zero_le _⟩ (Nat.le_of_ble_eq_true rfl) (fun v84 M84 g84 => ?_)
          obtain ⟨rfl, rfl⟩ := g84
          refine jw_lstore_n (L' := [(3, _), (0, _), (1, _), (5, _)]) hC dX4_mixSlotsAndBuffer_87 rfl (by decide) rfl ?_
          refine jw_iinc (L' := [(5, _), (3, _), (0, _), (1, _)]) hC dX4_mixSlotsAndBuffer_88 3 rfl (by decide) rfl ?_
          refine jw_goto (tgt := 53) hC dX4_mixSlotsAndBuffer_91 (by decide) ?_
          refine jw_loc (L' := [(0, _), (1, _), (3, _), (5, _)]) [2, 3, 1, 0] rfl ?_
          exact ih _ _ (by omega) (by omega) (by omega) (by rw [f_h_s _ i2, hh])
  have K5 : ∀ (n : Nat) (k h : Int), 2 - k < n → 0 ≤ k → k ≤ 2 → h = f_h (M 79) k.toNat s → jJ zp l ze (ct_rm 2) zs zm za zb zt zc E zA 6 0 0 (MQ zb (ct_Q E zA (fun v M1 => v = some (vJ (f_h (M 82) (M 81 1).toNat (31 * f_h (M 79) 2 s + M 81 1))) ∧ M = M1)) za zs 0 0 zA) 5 [(0, vR E 77), (1, vJ s), (3, vJ h), (5, vI k)] [] M := by
    intro n
    induction n with
    | zero => intros; omega
    | succ n ih =>
      intro k h i1 i2 i3 hh
      refine jw_iload hC dX4_mixSlotsAndBuffer_5 3 rfl ?_
      refine jw_iconst hC dX4_mixSlotsAndBuffer_7 ?_
      refine jw_icmp_ge (tgt := 37) hC dX4_mixSlotsAndBuffer_8 (by decide) (by omega) (by omega) (by omega) (by omega) (fun h8 => ?_) (fun h8 => ?_)
      · skip
        refine jw_lload_n hC dX4_mixSlotsAndBuffer_37 2 rfl rfl ?_
        refine jw_aload_n hC dX4_mixSlotsAndBuffer_38 0 rfl rfl ?_
        refine jw_getr hC fL_X4_30 ewR_x6 dX4_mixSlotsAndBuffer_39 ?_
        refine jw_geti hC fL_X4_210.r ewF_d1 (kI := 1) rfl dX4_mixSlotsAndBuffer_42 (by omega) (fun b42 c42 => ?_)
        refine jw_i2l hC dX4_mixSlotsAndBuffer_45 (by omega) (by omega) ?_
        refine jw_callS hC (c_X4_mix l E _ _ _) sS_X4_301 dX4_mixSlotsAndBuffer_46 rfl rfl ⟨Nat.le_of_ble_eq_true rfl, Nat.le_of_ble_eq_true rfl⟩ ⟨Nat.zero_le _, Nat.zero_le _⟩ (Nat.le_of_ble_eq_true rfl) (fun v46 M46 g46 => ?_)
        obtain ⟨rfl, rfl⟩ := g46
        refine jw_lstore_n (L' := [(3, _), (0, _), (1, _), (5, _)]) hC dX4_mixSlotsAndBuffer_49 rfl (by decide) rfl ?_
        refine jw_iconst hC dX4_mixSlotsAndBuffer_50 ?_
        refine jw_istore (L' := [(5, _), (3, _), (0, _), (1, _)]) hC dX4_mixSlotsAndBuffer_51 (by decide) rfl ?_
        refine jw_loc (L' := [(0, _), (1, _), (3, _), (5, _)]) [2, 3, 1, 0] rfl ?_
        exact K53 41 0 _ (by omega) (by omega) (by omega) (by rw [hh, show k = 2 by omega]; rfl)
      · skip
        refine jw_lload_n hC dX4_mixSlotsAndBuffer_11 2 rfl rfl ?_
        refine jw_aload_n hC dX4_mixSlotsAndBuffer_12 0 rfl rfl ?_
        refine jw_getr hC fL_X4_20 ewR_x2 dX4_mixSlotsAndBuffer_13 ?_
        refine jw_iload hC dX4_mixSlotsAndBuffer_16 3 rfl ?_
        refine jw_zald hC ewA_79 dX4_mixSlotsAndBuffer_18 (by omega) (by omega) (by decide) (fun b18 c18 => ?_)
        refine jw_if_eq (tgt := 26) hC dX4_mixSlotsAndBuffer_19 (by decide) (by omega) (by omega) (fun h19 => ?_) (fun h19 => ?_)
        · skip
          refine jw_lconst (v := 0) hC dX4_mixSlotsAndBuffer_26 rfl ?_
          refine jw_callS hC (c_X4_mix l E _ _ _) sS_X4_301 dX4_mixSlotsAndBuffer_27 rfl rfl ⟨Nat.le_of_ble_eq_true rfl, Nat.le_of_ble_eq_true rfl⟩ ⟨Nat.zero_le _, Nat.zero_le _⟩ (Nat.le_of_ble_eq_true rfl) (fun v27 M27 g27 => ?_)
          obtain ⟨rfl, rfl⟩ := g27
          refine jw_lstore_n (L' := [(3, _), (0, _), (1, _), (5, _)]) hC dX4_mixSlotsAndBuffer_30 rfl (by decide) rfl ?_
          refine jw_iinc (L' := [(5, _), (3, _), (0, _), (1, _)]) hC dX4_mixSlotsAndBuffer_31 3 rfl (by decide) rfl ?_
          refine jw_goto (tgt := 5) hC dX4_mixSlotsAndBuffer_34 (by decide) ?_
          refine jw_loc (L' := [(0, _), (1, _), (3, _), (5, _)]) [2, 3, 1, 0] rfl ?_
          have hzk := hz k
          exact ih _ _ (by omega) (by omega) (by omega) (by rw [f_h_s _ i2, hh]; omega)
        · skip
          refine jw_lconst (v := 1) hC dX4_mixSlotsAndBuffer_22 rfl ?_
          refine jw_goto (tgt := 27) hC dX4_mixSlotsAndBuffer_23 (by decide) ?_
          refine jw_callS hC (c_X4_mix l E _ _ _) sS_X4_301 dX4_mixSlotsAndBuffer_27 rfl rfl ⟨Nat.le_of_ble_eq_true rfl, Nat.le_of_ble_eq_true rfl⟩ ⟨Nat.zero_le _, Nat.zero_le _⟩ (Nat.le_of_ble_eq_true rfl) (fun v27 M27 g27 => ?_)
          obtain ⟨rfl, rfl⟩ := g27
          refine jw_lstore_n (L' := [(3, _), (0, _), (1, _), (5, _)]) hC dX4_mixSlotsAndBuffer_30 rfl (by decide) rfl ?_
          refine jw_iinc (L' := [(5, _), (3, _), (0, _), (1, _)]) hC dX4_mixSlotsAndBuffer_31 3 rfl (by decide) rfl ?_
          refine jw_goto (tgt := 5) hC dX4_mixSlotsAndBuffer_34 (by decide) ?_
          refine jw_loc (L' := [(0, _), (1, _), (3, _), (5, _)]) [2, 3, 1, 0] rfl ?_
          have hzk := hz k
          exact ih _ _ (by omega) (by omega) (by omega) (by rw [f_h_s _ i2, hh]; omega)
  refine jw_lload_n hC dX4_mixSlotsAndBuffer_0 1 rfl rfl ?_
  refine jw_lstore_n (L' := [(3, _), (0, _), (1, _)]) hC dX4_mixSlotsAndBuffer_1 rfl (by decide) rfl ?_
  refine jw_iconst hC dX4_mixSlotsAndBuffer_2 ?_
  refine jw_istore (L' := [(5, _), (3, _), (0, _), (1, _)]) hC dX4_mixSlotsAndBuffer_3 (by decide) rfl ?_
  refine jw_loc (L' := [(0, _), (1, _), (3, _), (5, _)]) [2, 3, 1, 0] rfl ?_
  exact K5 3 0 _ (by omega) (by omega) (by omega) rfl
