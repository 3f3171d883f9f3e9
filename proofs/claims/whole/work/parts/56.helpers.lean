/-! THE LAW'S OWN METHODS: each calls one of the class, and catches -/
def ewSh (own : String) (idx : Nat) (y : MethodName) (bytes : ByteArray) (maxL : Nat) (rt : Option FieldType) (hh : List (Nat × Nat × Nat × Nat)) (n : Nat) : Prop :=
  Cond.methodLink own idx y ∈ WW ∧ Cond.static y ∈ WW ∧ Cond.initialized y.cls ∈ WW ∧ Cond.codeWith y bytes maxL rt hh ∈ WW ∧ (y.cls ≠ "java/lang/invoke/MethodHandle" ∧ y.cls ≠ "java/lang/invoke/VarHandle" ∧ (parseMethodDescriptor y.desc).map (fun d => d.parameters.length) = some n)
theorem wl_13 : Cond.classLink "EmbossPressLaw" 13 xIO ∈ WW := w2_215
theorem wl_15 : Cond.classLink "EmbossPressLaw" 15 xIA ∈ WW := w2_216
theorem wl_39 : Cond.classLink "EmbossPressLaw" 39 xIS ∈ WW := w3_157
theorem nw_IO : Cond.castable xIO xIO ∈ NWL := by decide +kernel
theorem nw_IA : Cond.castable xIA xIA ∈ NWL := by decide +kernel
theorem nw_IS : Cond.castable xIS xIS ∈ NWL := by decide +kernel
theorem xn_1 : (xIA, xIO) ∈ XNL := by decide +kernel
theorem xn_2 : (xIS, xIA) ∈ XNL := by decide +kernel
section JW8
variable {p : Program} {l : Launch} {e : Env} {R : Room} {s : State} {m : MethodId} {args : Array Value} {below : List Frame} {meth : Method} {c : Code} {E : ewE} {A : Nat → Prop} {cc : ByteArray} {nL : Nat} {own : String} {ret : Option FieldType} {cells slots : Nat} {Q : State → Prop} {pc : Nat} {L L' : List (Nat × Value)} {S : List Value} {M : ewM}
theorem jw_last97 (hC : jC p e R s m args meth c E A cc nL own ret) {x : Int} (h1 : -2147483648 ≤ x) (h2 : x < 2147483648) (hd : decode cc pc = .ok (.lastore, 1)) (k : jJ p l e R s m args below meth c E A nL cells slots Q (pc + 1) L S (mu M 97 0 x)) : jJ p l e R s m args below meth c E A nL cells slots Q pc L (vJ x :: vI 0 :: vR E 97 :: S) M := by
  intro ls H locs hl hI
  obtain ⟨hP, hD, hS, hS4⟩ := hI
  have hcl := e32_clamp (a := 0) (by decide) (by decide)
  have he : ew_cell E 97 (fun b => if b = 0 then x else M 97 b) = .inl (E.2.2 2, 1, .inr (.inl (vp_updL (fun k => Int64.ofInt (M 97 k)) (Int32.ofInt 0).toNatClampNeg (Int64.ofInt x)))) := by
    show Sum.inl (E.2.2 2, 1, Sum.inr (Sum.inl (fun k : Nat => Int64.ofInt (if (k : Int) = 0 then x else M 97 k)))) = _
    refine congrArg (fun z => Sum.inl (E.2.2 2, 1, Sum.inr (Sum.inl z))) (funext fun q => ?_)
    show Int64.ofInt (if (q : Int) = 0 then x else M 97 q) = if q = (Int32.ofInt 0).toNatClampNeg then Int64.ofInt x else Int64.ofInt (M 97 q)
    by_cases hq : q = (Int32.ofInt 0).toNatClampNeg
    · rw [if_pos hq, if_pos (by omega)]
    · rw [if_neg hq, if_neg (by omega)]
  refine va_last hC.1 hC.2.1 hC.2.2.2.2.2.1 hP hD hS 97 2 (cA := E.2.2 2) (n := 1) (f := fun k => Int64.ofInt (M 97 k)) (ew_get (by decide)) rfl (e32_in (n := 1) (by decide) (by decide) (by decide)) hd (fun H1 locs1 hP hD hS => ?_)
  rw [ew_set he] at hP hD
  exact k ls H1 locs1 hl ⟨hP, hD, hS, ew_Smu hS4 h1 h2⟩
end JW8
theorem sH_point : ewSh "EmbossPressLaw" 85 yL_point cL_point 7 (some .int) [(0, 14, 17, 13), (0, 14, 21, 15)] 6 := ⟨ww_t2 212 (by decide +kernel) (by decide +kernel), ww_t2 213 (by decide +kernel) (by decide +kernel), w1_0, ww_t2 214 (by decide +kernel) (by decide +kernel), by decide +kernel, by decide +kernel, by decide +kernel⟩
def cp_point (M : ewM) (a x y dd : Int) : Option Value → ewM → Prop := fun v M1 => (((0 ≤ a ∧ a < 3) ∧ (0 ≤ x ∧ x < 5 ∧ 0 ≤ y ∧ y < 5)) ∧ (0 ≤ dd ∧ dd ≤ 9)) ∧ ∃ N : ewM, svc M N ∧ v = some (vI (M 51 (a * 25 + y * 5 + x))) ∧ M1 = mu N 51 (a * 25 + y * 5 + x) dd
set_option maxRecDepth 100000 in
set_option maxHeartbeats 4000000 in
theorem h_point (l : Launch) (hfl : l.stackTraces = false) (E : ewE) (M : ewM) (q4 : 0 ≤ M 77 4 ∧ M 77 4 ≤ 5) (q5 : 0 ≤ M 77 5 ∧ M 77 5 ≤ 6) (a : Int) (a1 : -2147483648 ≤ a) (a2 : a < 2147483648) (x : Int) (x1 : -2147483648 ≤ x) (x2 : x < 2147483648) (y : Int) (y1 : -2147483648 ≤ y) (y2 : y < 2147483648) (dd : Int) (dd1 : -2147483648 ≤ dd) (dd2 : dd < 2147483648) : Cl l E yL_point (.codeWith yL_point cL_point 7 (some .int) [(0, 14, 17, 13), (0, 14, 21, 15)]) 10 [vR E 77, vI a, vI x, vI y, vI dd, vR E 97] M (fun v M1 => (v = some (vI 0) ∧ ∃ (z9 : Int) (M0 : ewM), cp_point M a x y dd (some (vI z9)) M0 ∧ M1 = mu M0 97 0 (wr z9)) ∨ (v = some (vI 1) ∧ (¬ ((0 ≤ a ∧ a < 3) ∧ (0 ≤ x ∧ x < 5 ∧ 0 ≤ y ∧ y < 5))) ∧ M1 = M) ∨ (v = some (vI 2) ∧ (((0 ≤ a ∧ a < 3) ∧ (0 ≤ x ∧ x < 5 ∧ 0 ≤ y ∧ y < 5)) ∧ ¬ (0 ≤ dd ∧ dd ≤ 9)) ∧ M1 = M)) := by
  refine cl_of (L0 := [(0, vR E 77), (1, vI a), (2, vI x), (3, vI y), (4, vI dd), (5, vR E 97)]) (by decide +kernel) rfl (Nat.le_of_ble_eq_true rfl) ?_
  intro zp ze zs zm za zb zt zc zA hC hT
  refine jw_aload hC dL_point_0 5 rfl ?_
  refine jw_iconst hC dL_point_2 ?_
  refine jw_aload_n hC dL_point_3 0 rfl rfl ?_
  refine jw_iload_n hC dL_point_4 1 rfl rfl ?_
  refine jw_iload_n hC dL_point_5 2 rfl rfl ?_
  refine jw_iload_n hC dL_point_6 3 rfl rfl ?_
  refine jw_iload hC dL_point_7 4 rfl ?_
  refine jx_callV (post := cp_point M a x y dd) (S := [vI 0, vR E 97]) hC (c_X4_point l hfl E M q4 q5 a a1 a2 x x1 x2 y y1 y2 dd dd1 dd2) sV_L_7 ewF_x4.o dL_point_9 rfl rfl ⟨Nat.le_of_ble_eq_true rfl, Nat.le_of_ble_eq_true rfl⟩ ⟨Nat.le_refl _, Nat.le_refl _⟩ (Nat.le_of_ble_eq_true rfl) (fun C1 hx => ?_) (fun v M0 g => ?_)
  · rcases hx with ⟨rfl, h9⟩ | ⟨rfl, h9⟩
    · exact jx_catch1 hC hT ⟨by decide, by decide, by decide⟩ wl_13 nw_IO (fun q9 => jx_hand hC (Nat.le_refl _) (Nat.le_refl _) dL_point_17 dL_point_19 dL_point_20 (by decide) (Or.inr (Or.inl ⟨rfl, h9, rfl⟩)))
    · exact jx_catch2 hC hT ⟨by decide, by decide, by decide⟩ wl_15 nw_IA (by decide) wl_13 xn_1 (fun q9 => jx_hand hC (Nat.le_refl _) (Nat.le_refl _) dL_point_21 dL_point_23 dL_point_24 (by decide) (Or.inr (Or.inr ⟨rfl, h9, rfl⟩)))
  · have hv : ∃ z9 : Int, v = some (vI z9) := by
      obtain ⟨-, N, -, rfl, -⟩ := g <;> exact ⟨_, rfl⟩
    obtain ⟨z9, rfl⟩ := hv
    rw [show vpush (some (vI z9)) [vI 0, vR E 97] = [vI (wr z9), vI 0, vR E 97] from by rw [vI_wr]; rfl]
    refine jw_i2l hC dL_point_12 (wr_b1 _) (wr_b2 _) ?_
    refine jw_last97 hC (wr_b1 _) (wr_b2 _) dL_point_13 ?_
    refine jw_goto (tgt := 25) hC dL_point_14 (by decide) ?_
    refine jx_ret (Nat.le_refl _) (Nat.le_refl _) ?_
    refine jw_iconst hC dL_point_25 ?_
    refine jw_iret hC dL_point_26 ?_
    exact Or.inl ⟨rfl, z9, M0, g, rfl⟩
theorem sH_cast : ewSh "EmbossPressLaw" 94 yL_cast cL_cast 6 (some .int) [(0, 12, 15, 13)] 5 := ⟨ww_t3 73 (by decide +kernel) (by decide +kernel), ww_t3 74 (by decide +kernel) (by decide +kernel), w1_0, ww_t3 75 (by decide +kernel) (by decide +kernel), by decide +kernel, by decide +kernel, by decide +kernel⟩
def cp_cast (M : ewM) (a x y : Int) : Option Value → ewM → Prop := fun v M1 => ((0 ≤ a ∧ a < 3) ∧ (0 ≤ x ∧ x < 12 ∧ 0 ≤ y ∧ y < 12)) ∧ ∃ N : ewM, svc M N ∧ v = some (vI (f_sum (fun q => if 0 < M1 51 (a * 25 + q) then 1 else 0) 25)) ∧ (∀ q : Int, M1 51 q = if a * 25 ≤ q ∧ q < a * 25 + 25 then f_cw (M 1) x y (q - a * 25) else M 51 q) ∧ ∀ o, o ≠ 51 → M1 o = N o
set_option maxRecDepth 100000 in
set_option maxHeartbeats 4000000 in
theorem h_cast (l : Launch) (hfl : l.stackTraces = false) (E : ewE) (M : ewM) (h0 : st0 M) (q4 : 0 ≤ M 77 4 ∧ M 77 4 ≤ 5) (q5 : 0 ≤ M 77 5 ∧ M 77 5 ≤ 6) (a : Int) (a1 : -2147483648 ≤ a) (a2 : a < 2147483648) (x : Int) (x1 : -2147483648 ≤ x) (x2 : x < 2147483648) (y : Int) (y1 : -2147483648 ≤ y) (y2 : y < 2147483648) : Cl l E yL_cast (.codeWith yL_cast cL_cast 6 (some .int) [(0, 12, 15, 13)]) 10 [vR E 77, vI a, vI x, vI y, vR E 97] M (fun v M1 => (v = some (vI 0) ∧ ∃ (z9 : Int) (M0 : ewM), cp_cast M a x y (some (vI z9)) M0 ∧ M1 = mu M0 97 0 (wr z9)) ∨ (v = some (vI 1) ∧ (¬ ((0 ≤ a ∧ a < 3) ∧ (0 ≤ x ∧ x < 12 ∧ 0 ≤ y ∧ y < 12))) ∧ M1 = M)) := by
  refine cl_of (L0 := [(0, vR E 77), (1, vI a), (2, vI x), (3, vI y), (4, vR E 97)]) (by decide +kernel) rfl (Nat.le_of_ble_eq_true rfl) ?_
  intro zp ze zs zm za zb zt zc zA hC hT
  refine jw_aload hC dL_cast_0 4 rfl ?_
  refine jw_iconst hC dL_cast_2 ?_
  refine jw_aload_n hC dL_cast_3 0 rfl rfl ?_
  refine jw_iload_n hC dL_cast_4 1 rfl rfl ?_
  refine jw_iload_n hC dL_cast_5 2 rfl rfl ?_
  refine jw_iload_n hC dL_cast_6 3 rfl rfl ?_
  refine jx_callV (post := cp_cast M a x y) (S := [vI 0, vR E 97]) hC (c_X4_cast l hfl E M h0 q4 q5 a a1 a2 x x1 x2 y y1 y2) sV_L_17 ewF_x4.o dL_cast_7 rfl rfl ⟨Nat.le_of_ble_eq_true rfl, Nat.le_of_ble_eq_true rfl⟩ ⟨Nat.le_refl _, Nat.le_refl _⟩ (Nat.le_of_ble_eq_true rfl) (fun C1 hx => ?_) (fun v M0 g => ?_)
  · obtain ⟨rfl, h9⟩ := hx
    exact jx_catch1 hC hT ⟨by decide, by decide, by decide⟩ wl_13 nw_IO (fun q9 => jx_hand hC (Nat.le_refl _) (Nat.le_refl _) dL_cast_15 dL_cast_17 dL_cast_18 (by decide) (Or.inr ⟨rfl, h9, rfl⟩))
  · have hv : ∃ z9 : Int, v = some (vI z9) := by
      obtain ⟨-, N, -, rfl, -⟩ := g <;> exact ⟨_, rfl⟩
    obtain ⟨z9, rfl⟩ := hv
    rw [show vpush (some (vI z9)) [vI 0, vR E 97] = [vI (wr z9), vI 0, vR E 97] from by rw [vI_wr]; rfl]
    refine jw_i2l hC dL_cast_10 (wr_b1 _) (wr_b2 _) ?_
    refine jw_last97 hC (wr_b1 _) (wr_b2 _) dL_cast_11 ?_
    refine jw_goto (tgt := 19) hC dL_cast_12 (by decide) ?_
    refine jx_ret (Nat.le_refl _) (Nat.le_refl _) ?_
    refine jw_iconst hC dL_cast_19 ?_
    refine jw_iret hC dL_cast_20 ?_
    exact Or.inl ⟨rfl, z9, M0, g, rfl⟩
theorem sH_foil : ewSh "EmbossPressLaw" 106 yL_foil cL_foil 8 (some .int) [(0, 16, 19, 13), (0, 16, 23, 15)] 7 := ⟨ww_t3 93 (by decide +kernel) (by decide +kernel), ww_t3 94 (by decide +kernel) (by decide +kernel), w1_0, ww_t3 95 (by decide +kernel) (by decide +kernel), by decide +kernel, by decide +kernel, by decide +kernel⟩
def cp_foil (M : ewM) (f x y u w : Int) : Option Value → ewM → Prop := fun v M1 => (((0 ≤ x ∧ x < 12 ∧ 0 ≤ y ∧ y < 12) ∧ (0 ≤ u ∧ u < 12 ∧ 0 ≤ w ∧ w < 12)) ∧ ((1 ≤ f ∧ f ≤ 9) ∧ x ≤ u ∧ y ≤ w)) ∧ ∃ N : ewM, svc M N ∧ v = some (vI ((u - x + 1) * (w - y + 1))) ∧ M1 = mu (mu (mu (mu (mu N 50 10 f) 50 11 x) 50 12 y) 50 13 u) 50 14 w
set_option maxRecDepth 100000 in
set_option maxHeartbeats 4000000 in
theorem h_foil (l : Launch) (hfl : l.stackTraces = false) (E : ewE) (M : ewM) (q4 : 0 ≤ M 77 4 ∧ M 77 4 ≤ 5) (q5 : 0 ≤ M 77 5 ∧ M 77 5 ≤ 6) (f : Int) (f1 : -2147483648 ≤ f) (f2 : f < 2147483648) (x : Int) (x1 : -2147483648 ≤ x) (x2 : x < 2147483648) (y : Int) (y1 : -2147483648 ≤ y) (y2 : y < 2147483648) (u : Int) (u1 : -2147483648 ≤ u) (u2 : u < 2147483648) (w : Int) (w1 : -2147483648 ≤ w) (w2 : w < 2147483648) : Cl l E yL_foil (.codeWith yL_foil cL_foil 8 (some .int) [(0, 16, 19, 13), (0, 16, 23, 15)]) 10 [vR E 77, vI f, vI x, vI y, vI u, vI w, vR E 97] M (fun v M1 => (v = some (vI 0) ∧ ∃ (z9 : Int) (M0 : ewM), cp_foil M f x y u w (some (vI z9)) M0 ∧ M1 = mu M0 97 0 (wr z9)) ∨ (v = some (vI 1) ∧ (¬ ((0 ≤ x ∧ x < 12 ∧ 0 ≤ y ∧ y < 12) ∧ (0 ≤ u ∧ u < 12 ∧ 0 ≤ w ∧ w < 12))) ∧ M1 = M) ∨ (v = some (vI 2) ∧ (((0 ≤ x ∧ x < 12 ∧ 0 ≤ y ∧ y < 12) ∧ (0 ≤ u ∧ u < 12 ∧ 0 ≤ w ∧ w < 12)) ∧ ¬ ((1 ≤ f ∧ f ≤ 9) ∧ x ≤ u ∧ y ≤ w)) ∧ M1 = M)) := by
  refine cl_of (L0 := [(0, vR E 77), (1, vI f), (2, vI x), (3, vI y), (4, vI u), (5, vI w), (6, vR E 97)]) (by decide +kernel) rfl (Nat.le_of_ble_eq_true rfl) ?_
  intro zp ze zs zm za zb zt zc zA hC hT
  refine jw_aload hC dL_foil_0 6 rfl ?_
  refine jw_iconst hC dL_foil_2 ?_
  refine jw_aload_n hC dL_foil_3 0 rfl rfl ?_
  refine jw_iload_n hC dL_foil_4 1 rfl rfl ?_
  refine jw_iload_n hC dL_foil_5 2 rfl rfl ?_
  refine jw_iload_n hC dL_foil_6 3 rfl rfl ?_
  refine jw_iload hC dL_foil_7 4 rfl ?_
  refine jw_iload hC dL_foil_9 5 rfl ?_
  refine jx_callV (post := cp_foil M f x y u w) (S := [vI 0, vR E 97]) hC (c_X4_foil l hfl E M q4 q5 f f1 f2 x x1 x2 y y1 y2 u u1 u2 w w1 w2) sV_L_21 ewF_x4.o dL_foil_11 rfl rfl ⟨Nat.le_of_ble_eq_true rfl, Nat.le_of_ble_eq_true rfl⟩ ⟨Nat.le_refl _, Nat.le_refl _⟩ (Nat.le_of_ble_eq_true rfl) (fun C1 hx => ?_) (fun v M0 g => ?_)
  · rcases hx with ⟨rfl, h9⟩ | ⟨rfl, h9⟩
    · exact jx_catch1 hC hT ⟨by decide, by decide, by decide⟩ wl_13 nw_IO (fun q9 => jx_hand hC (Nat.le_refl _) (Nat.le_refl _) dL_foil_19 dL_foil_21 dL_foil_22 (by decide) (Or.inr (Or.inl ⟨rfl, h9, rfl⟩)))
    · exact jx_catch2 hC hT ⟨by decide, by decide, by decide⟩ wl_15 nw_IA (by decide) wl_13 xn_1 (fun q9 => jx_hand hC (Nat.le_refl _) (Nat.le_refl _) dL_foil_23 dL_foil_25 dL_foil_26 (by decide) (Or.inr (Or.inr ⟨rfl, h9, rfl⟩)))
  · have hv : ∃ z9 : Int, v = some (vI z9) := by
      obtain ⟨-, N, -, rfl, -⟩ := g <;> exact ⟨_, rfl⟩
    obtain ⟨z9, rfl⟩ := hv
    rw [show vpush (some (vI z9)) [vI 0, vR E 97] = [vI (wr z9), vI 0, vR E 97] from by rw [vI_wr]; rfl]
    refine jw_i2l hC dL_foil_14 (wr_b1 _) (wr_b2 _) ?_
    refine jw_last97 hC (wr_b1 _) (wr_b2 _) dL_foil_15 ?_
    refine jw_goto (tgt := 27) hC dL_foil_16 (by decide) ?_
    refine jx_ret (Nat.le_refl _) (Nat.le_refl _) ?_
    refine jw_iconst hC dL_foil_27 ?_
    refine jw_iret hC dL_foil_28 ?_
    exact Or.inl ⟨rfl, z9, M0, g, rfl⟩
theorem sH_press : ewSh "EmbossPressLaw" 110 yL_press cL_press 7 (some .int) [(0, 14, 17, 13), (0, 14, 21, 15)] 6 := ⟨ww_t3 102 (by decide +kernel) (by decide +kernel), ww_t3 103 (by decide +kernel) (by decide +kernel), w1_0, ww_t3 104 (by decide +kernel) (by decide +kernel), by decide +kernel, by decide +kernel, by decide +kernel⟩
def cp_press (M : ewM) (a x y t : Int) : Option Value → ewM → Prop := fun v M1 => ((0 ≤ a ∧ a < 3) ∧ (0 ≤ t ∧ t < 8)) ∧ ∃ N : ewM, svc M N ∧ ((0 < f_rsn (f_rel (M 51) a t) (x + M 50 3) y (M 52 2) ∧ v = some (vI (f_rsn (f_rel (M 51) a t) (x + M 50 3) y (M 52 2))) ∧ (∀ k : Int, M1 50 k = if k = 6 then wr (M 50 6 + 1) else M 50 k) ∧ ∀ o, o ≠ 50 → o ≠ 83 → M1 o = N o) ∨ (f_rsn (f_rel (M 51) a t) (x + M 50 3) y (M 52 2) = 0 ∧ v = some (vI (100 + f_cks (f_rel (M 51) a t) (x + M 50 3) y (M 1) (M 3) (M 52 0) (M 52 1))) ∧ M1 1 = f_emb (f_rel (M 51) a t) (x + M 50 3) y (M 1) 25 ∧ M1 2 = f_stk (M 50) (f_rel (M 51) a t) (x + M 50 3) y (M 2) 25 ∧ M1 3 = f_it (f_emb (f_rel (M 51) a t) (x + M 50 3) y (M 1) 25) (M 52 0) (M 52 1) (M 3) 144 ∧ M1 4 = f_prs (f_rel (M 51) a t) (x + M 50 3) y (M 4) 25 ∧ (∀ k : Int, M1 50 k = if k = 3 then f_sl (M 52 3) (wr (M 50 5 + 1)) (M 50 3) else if k = 4 then wr (M 50 4 + 1) else if k = 5 then wr (M 50 5 + 1) else if k = 7 then wr (M 50 7 + f_cks (f_rel (M 51) a t) (x + M 50 3) y (M 1) (M 3) (M 52 0) (M 52 1)) else if k = 10 then 0 else M 50 k) ∧ ∀ o, o ≠ 1 → o ≠ 2 → o ≠ 3 → o ≠ 4 → o ≠ 50 → o ≠ 83 → (o < 84 ∨ 87 < o) → M1 o = N o))
set_option maxRecDepth 100000 in
set_option maxHeartbeats 4000000 in
theorem h_press (l : Launch) (hfl : l.stackTraces = false) (E : ewE) (M : ewM) (h0 : st0 M) (q4 : 0 ≤ M 77 4 ∧ M 77 4 ≤ 5) (q5 : 0 ≤ M 77 5 ∧ M 77 5 ≤ 6) (a : Int) (a1 : -2147483648 ≤ a) (a2 : a < 2147483648) (x : Int) (x1 : -2147483648 ≤ x) (x2 : x < 2147483648) (y : Int) (y1 : -2147483648 ≤ y) (y2 : y < 2147483648) (t : Int) (t1 : -2147483648 ≤ t) (t2 : t < 2147483648) : Cl l E yL_press (.codeWith yL_press cL_press 7 (some .int) [(0, 14, 17, 13), (0, 14, 21, 15)]) 10 [vR E 77, vI a, vI x, vI y, vI t, vR E 97] M (fun v M1 => (v = some (vI 0) ∧ ∃ (z9 : Int) (M0 : ewM), cp_press M a x y t (some (vI z9)) M0 ∧ M1 = mu M0 97 0 (wr z9)) ∨ (v = some (vI 1) ∧ (¬ (0 ≤ a ∧ a < 3)) ∧ M1 = M) ∨ (v = some (vI 2) ∧ ((0 ≤ a ∧ a < 3) ∧ ¬ (0 ≤ t ∧ t < 8)) ∧ M1 = M)) := by
  refine cl_of (L0 := [(0, vR E 77), (1, vI a), (2, vI x), (3, vI y), (4, vI t), (5, vR E 97)]) (by decide +kernel) rfl (Nat.le_of_ble_eq_true rfl) ?_
  intro zp ze zs zm za zb zt zc zA hC hT
  refine jw_aload hC dL_press_0 5 rfl ?_
  refine jw_iconst hC dL_press_2 ?_
  refine jw_aload_n hC dL_press_3 0 rfl rfl ?_
  refine jw_iload_n hC dL_press_4 1 rfl rfl ?_
  refine jw_iload_n hC dL_press_5 2 rfl rfl ?_
  refine jw_iload_n hC dL_press_6 3 rfl rfl ?_
  refine jw_iload hC dL_press_7 4 rfl ?_
  refine jx_callV (post := cp_press M a x y t) (S := [vI 0, vR E 97]) hC (c_X4_press l hfl E M h0 q4 q5 a a1 a2 x x1 x2 y y1 y2 t t1 t2) sV_L_25 ewF_x4.o dL_press_9 rfl rfl ⟨Nat.le_of_ble_eq_true rfl, Nat.le_of_ble_eq_true rfl⟩ ⟨Nat.le_refl _, Nat.le_refl _⟩ (Nat.le_of_ble_eq_true rfl) (fun C1 hx => ?_) (fun v M0 g => ?_)
  · rcases hx with ⟨rfl, h9⟩ | ⟨rfl, h9⟩
    · exact jx_catch1 hC hT ⟨by decide, by decide, by decide⟩ wl_13 nw_IO (fun q9 => jx_hand hC (Nat.le_refl _) (Nat.le_refl _) dL_press_17 dL_press_19 dL_press_20 (by decide) (Or.inr (Or.inl ⟨rfl, h9, rfl⟩)))
    · exact jx_catch2 hC hT ⟨by decide, by decide, by decide⟩ wl_15 nw_IA (by decide) wl_13 xn_1 (fun q9 => jx_hand hC (Nat.le_refl _) (Nat.le_refl _) dL_press_21 dL_press_23 dL_press_24 (by decide) (Or.inr (Or.inr ⟨rfl, h9, rfl⟩)))
  · have hv : ∃ z9 : Int, v = some (vI z9) := by
      obtain ⟨-, N, -, (⟨-, rfl, -⟩ | ⟨-, rfl, -⟩)⟩ := g <;> exact ⟨_, rfl⟩
    obtain ⟨z9, rfl⟩ := hv
    rw [show vpush (some (vI z9)) [vI 0, vR E 97] = [vI (wr z9), vI 0, vR E 97] from by rw [vI_wr]; rfl]
    refine jw_i2l hC dL_press_12 (wr_b1 _) (wr_b2 _) ?_
    refine jw_last97 hC (wr_b1 _) (wr_b2 _) dL_press_13 ?_
    refine jw_goto (tgt := 25) hC dL_press_14 (by decide) ?_
    refine jx_ret (Nat.le_refl _) (Nat.le_refl _) ?_
    refine jw_iconst hC dL_press_25 ?_
    refine jw_iret hC dL_press_26 ?_
    exact Or.inl ⟨rfl, z9, M0, g, rfl⟩
theorem sH_fold : ewSh "EmbossPressLaw" 113 yL_fold cL_fold 4 (some .int) [(0, 9, 12, 13)] 3 := ⟨ww_t3 129 (by decide +kernel) (by decide +kernel), ww_t3 130 (by decide +kernel) (by decide +kernel), w1_0, ww_t3 131 (by decide +kernel) (by decide +kernel), by decide +kernel, by decide +kernel, by decide +kernel⟩
def cp_fold (M : ewM) (r : Int) : Option Value → ewM → Prop := fun v M1 => (1 ≤ r ∧ r < 12) ∧ ∃ N : ewM, svc M N ∧ v = some (vI (f_fc (M 1) (M 3) r (M 52 0) (M 52 1))) ∧ M1 3 = f_it (M 1) (M 52 0) (M 52 1) (f_brk (f_ovf (M 1) (M 3) r (M 52 0) (M 52 1)) (M 3)) 144 ∧ (∀ k : Int, M1 50 k = if k = 7 then wr (M 50 7 + f_fc (M 1) (M 3) r (M 52 0) (M 52 1)) else if k = 9 then wr (M 50 9 + 1) else M 50 k) ∧ ∀ o, o ≠ 3 → o ≠ 50 → (o < 84 ∨ 87 < o) → M1 o = N o
set_option maxRecDepth 100000 in
set_option maxHeartbeats 4000000 in
theorem h_fold (l : Launch) (hfl : l.stackTraces = false) (E : ewE) (M : ewM) (h0 : st0 M) (q4 : 0 ≤ M 77 4 ∧ M 77 4 ≤ 5) (q5 : 0 ≤ M 77 5 ∧ M 77 5 ≤ 6) (r : Int) (r1 : -2147483648 ≤ r) (r2 : r < 2147483648) : Cl l E yL_fold (.codeWith yL_fold cL_fold 4 (some .int) [(0, 9, 12, 13)]) 10 [vR E 77, vI r, vR E 97] M (fun v M1 => (v = some (vI 0) ∧ ∃ (z9 : Int) (M0 : ewM), cp_fold M r (some (vI z9)) M0 ∧ M1 = mu M0 97 0 (wr z9)) ∨ (v = some (vI 1) ∧ (¬ (1 ≤ r ∧ r < 12)) ∧ M1 = M)) := by
  refine cl_of (L0 := [(0, vR E 77), (1, vI r), (2, vR E 97)]) (by decide +kernel) rfl (Nat.le_of_ble_eq_true rfl) ?_
  intro zp ze zs zm za zb zt zc zA hC hT
  refine jw_aload_n hC dL_fold_0 2 rfl rfl ?_
  refine jw_iconst hC dL_fold_1 ?_
  refine jw_aload_n hC dL_fold_2 0 rfl rfl ?_
  refine jw_iload_n hC dL_fold_3 1 rfl rfl ?_
  refine jx_callV (post := cp_fold M r) (S := [vI 0, vR E 97]) hC (c_X4_fold l hfl E M h0 q4 q5 r r1 r2) sV_L_28 ewF_x4.o dL_fold_4 rfl rfl ⟨Nat.le_of_ble_eq_true rfl, Nat.le_of_ble_eq_true rfl⟩ ⟨Nat.le_refl _, Nat.le_refl _⟩ (Nat.le_of_ble_eq_true rfl) (fun C1 hx => ?_) (fun v M0 g => ?_)
  · obtain ⟨rfl, h9⟩ := hx
    exact jx_catch1 hC hT ⟨by decide, by decide, by decide⟩ wl_13 nw_IO (fun q9 => jx_hand_n hC (Nat.le_refl _) (Nat.le_refl _) dL_fold_12 rfl dL_fold_13 dL_fold_14 (by decide) (Or.inr ⟨rfl, h9, rfl⟩))
  · have hv : ∃ z9 : Int, v = some (vI z9) := by
      obtain ⟨-, N, -, rfl, -⟩ := g <;> exact ⟨_, rfl⟩
    obtain ⟨z9, rfl⟩ := hv
    rw [show vpush (some (vI z9)) [vI 0, vR E 97] = [vI (wr z9), vI 0, vR E 97] from by rw [vI_wr]; rfl]
    refine jw_i2l hC dL_fold_7 (wr_b1 _) (wr_b2 _) ?_
    refine jw_last97 hC (wr_b1 _) (wr_b2 _) dL_fold_8 ?_
    refine jw_goto (tgt := 15) hC dL_fold_9 (by decide) ?_
    refine jx_ret (Nat.le_refl _) (Nat.le_refl _) ?_
    refine jw_iconst hC dL_fold_15 ?_
    refine jw_iret hC dL_fold_16 ?_
    exact Or.inl ⟨rfl, z9, M0, g, rfl⟩
theorem sH_set : ewSh "EmbossPressLaw" 117 yL_set cL_set 5 (some .int) [(0, 10, 13, 13), (0, 10, 17, 15)] 4 := ⟨ww_t3 140 (by decide +kernel) (by decide +kernel), ww_t3 141 (by decide +kernel) (by decide +kernel), w1_0, ww_t3 142 (by decide +kernel) (by decide +kernel), by decide +kernel, by decide +kernel, by decide +kernel⟩
def cp_set (M : ewM) (a x : Int) : Option Value → ewM → Prop := fun v M1 => ((0 ≤ a ∧ a < 4) ∧ (g_least a.toNat ≤ x ∧ x ≤ g_great a.toNat)) ∧ ∃ N : ewM, svc M N ∧ v = some (vI (M 52 a)) ∧ M1 = mu N 52 a x
set_option maxRecDepth 100000 in
set_option maxHeartbeats 4000000 in
theorem h_set (l : Launch) (hfl : l.stackTraces = false) (E : ewE) (M : ewM) (q4 : 0 ≤ M 77 4 ∧ M 77 4 ≤ 5) (q5 : 0 ≤ M 77 5 ∧ M 77 5 ≤ 6) (a : Int) (a1 : -2147483648 ≤ a) (a2 : a < 2147483648) (x : Int) (x1 : -2147483648 ≤ x) (x2 : x < 2147483648) : Cl l E yL_set (.codeWith yL_set cL_set 5 (some .int) [(0, 10, 13, 13), (0, 10, 17, 15)]) 10 [vR E 77, vI a, vI x, vR E 97] M (fun v M1 => (v = some (vI 0) ∧ ∃ (z9 : Int) (M0 : ewM), cp_set M a x (some (vI z9)) M0 ∧ M1 = mu M0 97 0 (wr z9)) ∨ (v = some (vI 1) ∧ (¬ (0 ≤ a ∧ a < 4)) ∧ M1 = M) ∨ (v = some (vI 2) ∧ ((0 ≤ a ∧ a < 4) ∧ ¬ (g_least a.toNat ≤ x ∧ x ≤ g_great a.toNat)) ∧ M1 = M)) := by
  refine cl_of (L0 := [(0, vR E 77), (1, vI a), (2, vI x), (3, vR E 97)]) (by decide +kernel) rfl (Nat.le_of_ble_eq_true rfl) ?_
  intro zp ze zs zm za zb zt zc zA hC hT
  refine jw_aload_n hC dL_set_0 3 rfl rfl ?_
  refine jw_iconst hC dL_set_1 ?_
  refine jw_aload_n hC dL_set_2 0 rfl rfl ?_
  refine jw_iload_n hC dL_set_3 1 rfl rfl ?_
  refine jw_iload_n hC dL_set_4 2 rfl rfl ?_
  refine jx_callV (post := cp_set M a x) (S := [vI 0, vR E 97]) hC (c_X4_set l hfl E M q4 q5 a a1 a2 x x1 x2) sV_L_32 ewF_x4.o dL_set_5 rfl rfl ⟨Nat.le_of_ble_eq_true rfl, Nat.le_of_ble_eq_true rfl⟩ ⟨Nat.le_refl _, Nat.le_refl _⟩ (Nat.le_of_ble_eq_true rfl) (fun C1 hx => ?_) (fun v M0 g => ?_)
  · rcases hx with ⟨rfl, h9⟩ | ⟨rfl, h9⟩
    · exact jx_catch1 hC hT ⟨by decide, by decide, by decide⟩ wl_13 nw_IO (fun q9 => jx_hand hC (Nat.le_refl _) (Nat.le_refl _) dL_set_13 dL_set_15 dL_set_16 (by decide) (Or.inr (Or.inl ⟨rfl, h9, rfl⟩)))
    · exact jx_catch2 hC hT ⟨by decide, by decide, by decide⟩ wl_15 nw_IA (by decide) wl_13 xn_1 (fun q9 => jx_hand hC (Nat.le_refl _) (Nat.le_refl _) dL_set_17 dL_set_19 dL_set_20 (by decide) (Or.inr (Or.inr ⟨rfl, h9, rfl⟩)))
  · have hv : ∃ z9 : Int, v = some (vI z9) := by
      obtain ⟨-, N, -, rfl, -⟩ := g <;> exact ⟨_, rfl⟩
    obtain ⟨z9, rfl⟩ := hv
    rw [show vpush (some (vI z9)) [vI 0, vR E 97] = [vI (wr z9), vI 0, vR E 97] from by rw [vI_wr]; rfl]
    refine jw_i2l hC dL_set_8 (wr_b1 _) (wr_b2 _) ?_
    refine jw_last97 hC (wr_b1 _) (wr_b2 _) dL_set_9 ?_
    refine jw_goto (tgt := 21) hC dL_set_10 (by decide) ?_
    refine jx_ret (Nat.le_refl _) (Nat.le_refl _) ?_
    refine jw_iconst hC dL_set_21 ?_
    refine jw_iret hC dL_set_22 ?_
    exact Or.inl ⟨rfl, z9, M0, g, rfl⟩
theorem sH_append : ewSh "EmbossPressLaw" 121 yL_append cL_append 4 (some .int) [(0, 9, 12, 15), (0, 9, 15, 39)] 3 := ⟨ww_t3 154 (by decide +kernel) (by decide +kernel), ww_t3 155 (by decide +kernel) (by decide +kernel), w1_0, ww_t3 156 (by decide +kernel) (by decide +kernel), by decide +kernel, by decide +kernel, by decide +kernel⟩
def cp_append (M : ewM) (a : Int) : Option Value → ewM → Prop := fun v M1 => ((33 ≤ a ∧ a ≤ 126) ∧ M 81 1 < 40) ∧ v = some (vI (M 81 1 + 1)) ∧ M1 = mu (mu M 82 (M 81 1) a) 81 1 (M 81 1 + 1)
set_option maxRecDepth 100000 in
set_option maxHeartbeats 4000000 in
theorem h_append (l : Launch) (hfl : l.stackTraces = false) (E : ewE) (M : ewM) (hl : 0 ≤ M 81 1 ∧ M 81 1 ≤ 40) (a : Int) (a1 : -2147483648 ≤ a) (a2 : a < 2147483648) : Cl l E yL_append (.codeWith yL_append cL_append 4 (some .int) [(0, 9, 12, 15), (0, 9, 15, 39)]) 10 [vR E 77, vI a, vR E 97] M (fun v M1 => (v = some (vI 0) ∧ ∃ (z9 : Int) (M0 : ewM), cp_append M a (some (vI z9)) M0 ∧ M1 = mu M0 97 0 (wr z9)) ∨ (v = some (vI 1) ∧ (¬ (33 ≤ a ∧ a ≤ 126)) ∧ M1 = M) ∨ (v = some (vI 2) ∧ ((33 ≤ a ∧ a ≤ 126) ∧ ¬ M 81 1 < 40) ∧ M1 = M)) := by
  refine cl_of (L0 := [(0, vR E 77), (1, vI a), (2, vR E 97)]) (by decide +kernel) rfl (Nat.le_of_ble_eq_true rfl) ?_
  intro zp ze zs zm za zb zt zc zA hC hT
  refine jw_aload_n hC dL_append_0 2 rfl rfl ?_
  refine jw_iconst hC dL_append_1 ?_
  refine jw_aload_n hC dL_append_2 0 rfl rfl ?_
  refine jw_iload_n hC dL_append_3 1 rfl rfl ?_
  refine jx_callV (post := cp_append M a) (S := [vI 0, vR E 97]) hC (c_X4_append l hfl E M hl a a1 a2) sV_L_36 ewF_x4.o dL_append_4 rfl rfl ⟨Nat.le_of_ble_eq_true rfl, Nat.le_of_ble_eq_true rfl⟩ ⟨Nat.le_refl _, Nat.le_refl _⟩ (Nat.le_of_ble_eq_true rfl) (fun C1 hx => ?_) (fun v M0 g => ?_)
  · rcases hx with ⟨rfl, h9⟩ | ⟨rfl, h9⟩
    · exact jx_catch1 hC hT ⟨by decide, by decide, by decide⟩ wl_15 nw_IA (fun q9 => jx_hand_n hC (Nat.le_refl _) (Nat.le_refl _) dL_append_12 rfl dL_append_13 dL_append_14 (by decide) (Or.inr (Or.inl ⟨rfl, h9, rfl⟩)))
    · exact jx_catch2 hC hT ⟨by decide, by decide, by decide⟩ wl_39 nw_IS (by decide) wl_15 xn_2 (fun q9 => jx_hand_n hC (Nat.le_refl _) (Nat.le_refl _) dL_append_15 rfl dL_append_16 dL_append_17 (by decide) (Or.inr (Or.inr ⟨rfl, h9, rfl⟩)))
  · have hv : ∃ z9 : Int, v = some (vI z9) := by
      obtain ⟨-, rfl, -⟩ := g <;> exact ⟨_, rfl⟩
    obtain ⟨z9, rfl⟩ := hv
    rw [show vpush (some (vI z9)) [vI 0, vR E 97] = [vI (wr z9), vI 0, vR E 97] from by rw [vI_wr]; rfl]
    refine jw_i2l hC dL_append_7 (wr_b1 _) (wr_b2 _) ?_
    refine jw_last97 hC (wr_b1 _) (wr_b2 _) dL_append_8 ?_
    refine jw_goto (tgt := 18) hC dL_append_9 (by decide) ?_
    refine jx_ret (Nat.le_refl _) (Nat.le_refl _) ?_
    refine jw_iconst hC dL_append_18 ?_
    refine jw_iret hC dL_append_19 ?_
    exact Or.inl ⟨rfl, z9, M0, g, rfl⟩
theorem sH_load : ewSh "EmbossPressLaw" 132 yL_load cL_load 4 (some .int) [(0, 9, 12, 13), (0, 9, 15, 15)] 3 := ⟨ww_t3 187 (by decide +kernel) (by decide +kernel), ww_t3 188 (by decide +kernel) (by decide +kernel), w1_0, ww_t3 189 (by decide +kernel) (by decide +kernel), by decide +kernel, by decide +kernel, by decide +kernel⟩
def cp_load (M : ewM) (a : Int) : Option Value → ewM → Prop := fun v M1 => ((0 ≤ a ∧ a < 3) ∧ f_tl (M 82) (M 81 1)) ∧ ∃ N : ewM, svc M N ∧ v = some (vI (f_sum (fun q => if 0 < M1 51 (a * 25 + q) then 1 else 0) 25)) ∧ M1 = mu (mset N 51 (fun q => if a * 25 ≤ q ∧ q < a * 25 + 25 then f_rp (M 82) (M 81 1).toNat (q - a * 25) else M 51 q)) 81 1 0
set_option maxRecDepth 100000 in
set_option maxHeartbeats 4000000 in
theorem h_load (l : Launch) (hfl : l.stackTraces = false) (E : ewE) (M : ewM) (q4 : 0 ≤ M 77 4 ∧ M 77 4 ≤ 5) (q5 : 0 ≤ M 77 5 ∧ M 77 5 ≤ 6) (hl : 0 ≤ M 81 1 ∧ M 81 1 ≤ 40) (a : Int) (a1 : -2147483648 ≤ a) (a2 : a < 2147483648) : Cl l E yL_load (.codeWith yL_load cL_load 4 (some .int) [(0, 9, 12, 13), (0, 9, 15, 15)]) 10 [vR E 77, vI a, vR E 97] M (fun v M1 => (v = some (vI 0) ∧ ∃ (z9 : Int) (M0 : ewM), cp_load M a (some (vI z9)) M0 ∧ M1 = mu M0 97 0 (wr z9)) ∨ (v = some (vI 1) ∧ (¬ (0 ≤ a ∧ a < 3)) ∧ M1 = M) ∨ (v = some (vI 2) ∧ ((0 ≤ a ∧ a < 3) ∧ ¬ f_tl (M 82) (M 81 1)) ∧ M1 = M)) := by
  refine cl_of (L0 := [(0, vR E 77), (1, vI a), (2, vR E 97)]) (by decide +kernel) rfl (Nat.le_of_ble_eq_true rfl) ?_
  intro zp ze zs zm za zb zt zc zA hC hT
  refine jw_aload_n hC dL_load_0 2 rfl rfl ?_
  refine jw_iconst hC dL_load_1 ?_
  refine jw_aload_n hC dL_load_2 0 rfl rfl ?_
  refine jw_iload_n hC dL_load_3 1 rfl rfl ?_
  refine jx_callV (post := cp_load M a) (S := [vI 0, vR E 97]) hC (c_X4_load l hfl E M q4 q5 hl a a1 a2) sV_L_41 ewF_x4.o dL_load_4 rfl rfl ⟨Nat.le_of_ble_eq_true rfl, Nat.le_of_ble_eq_true rfl⟩ ⟨Nat.le_refl _, Nat.le_refl _⟩ (Nat.le_of_ble_eq_true rfl) (fun C1 hx => ?_) (fun v M0 g => ?_)
  · rcases hx with ⟨rfl, h9⟩ | ⟨rfl, h9⟩
    · exact jx_catch1 hC hT ⟨by decide, by decide, by decide⟩ wl_13 nw_IO (fun q9 => jx_hand_n hC (Nat.le_refl _) (Nat.le_refl _) dL_load_12 rfl dL_load_13 dL_load_14 (by decide) (Or.inr (Or.inl ⟨rfl, h9, rfl⟩)))
    · exact jx_catch2 hC hT ⟨by decide, by decide, by decide⟩ wl_15 nw_IA (by decide) wl_13 xn_1 (fun q9 => jx_hand_n hC (Nat.le_refl _) (Nat.le_refl _) dL_load_15 rfl dL_load_16 dL_load_17 (by decide) (Or.inr (Or.inr ⟨rfl, h9, rfl⟩)))
  · have hv : ∃ z9 : Int, v = some (vI z9) := by
      obtain ⟨-, N, -, rfl, -⟩ := g <;> exact ⟨_, rfl⟩
    obtain ⟨z9, rfl⟩ := hv
    rw [show vpush (some (vI z9)) [vI 0, vR E 97] = [vI (wr z9), vI 0, vR E 97] from by rw [vI_wr]; rfl]
    refine jw_i2l hC dL_load_7 (wr_b1 _) (wr_b2 _) ?_
    refine jw_last97 hC (wr_b1 _) (wr_b2 _) dL_load_8 ?_
    refine jw_goto (tgt := 18) hC dL_load_9 (by decide) ?_
    refine jx_ret (Nat.le_refl _) (Nat.le_refl _) ?_
    refine jw_iconst hC dL_load_18 ?_
    refine jw_iret hC dL_load_19 ?_
    exact Or.inl ⟨rfl, z9, M0, g, rfl⟩
theorem sH_keep : ewSh "EmbossPressLaw" 135 yL_keep cL_keep 4 (some .int) [(0, 9, 12, 15)] 3 := ⟨ww_t4 232 (by decide +kernel) (by decide +kernel), ww_t4 233 (by decide +kernel) (by decide +kernel), w1_0, ww_t4 234 (by decide +kernel) (by decide +kernel), by decide +kernel, by decide +kernel, by decide +kernel⟩
def cp_keep (M : ewM) (a : Int) : Option Value → ewM → Prop := fun v M1 => (0 ≤ a ∧ a < 2) ∧ v = some (vI (M 50 4)) ∧ ∀ j : Nat, (j : Int) = 1 + a → cpS M 0 M1 j ∧ M1 79 = (fun q => if q = a then 1 else M 79 q) ∧ ∀ o, o ≠ 79 → (o < 5 * j + 1 ∨ 5 * j + 4 < o) → (o < 50 + 3 * j ∨ 50 + 3 * j + 2 < o) → M1 o = M o
set_option maxRecDepth 100000 in
set_option maxHeartbeats 4000000 in
theorem h_keep (l : Launch) (hfl : l.stackTraces = false) (E : ewE) (M : ewM) (a : Int) (a1 : -2147483648 ≤ a) (a2 : a < 2147483648) : Cl l E yL_keep (.codeWith yL_keep cL_keep 4 (some .int) [(0, 9, 12, 15)]) 10 [vR E 77, vI a, vR E 97] M (fun v M1 => (v = some (vI 0) ∧ ∃ (z9 : Int) (M0 : ewM), cp_keep M a (some (vI z9)) M0 ∧ M1 = mu M0 97 0 (wr z9)) ∨ (v = some (vI 1) ∧ (¬ (0 ≤ a ∧ a < 2)) ∧ M1 = M)) := by
  refine cl_of (L0 := [(0, vR E 77), (1, vI a), (2, vR E 97)]) (by decide +kernel) rfl (Nat.le_of_ble_eq_true rfl) ?_
  intro zp ze zs zm za zb zt zc zA hC hT
  refine jw_aload_n hC dL_keep_0 2 rfl rfl ?_
  refine jw_iconst hC dL_keep_1 ?_
  refine jw_aload_n hC dL_keep_2 0 rfl rfl ?_
  refine jw_iload_n hC dL_keep_3 1 rfl rfl ?_
  refine jx_callV (post := cp_keep M a) (S := [vI 0, vR E 97]) hC (c_X4_keep l hfl E M a a1 a2) sV_L_44 ewF_x4.o dL_keep_4 rfl rfl ⟨Nat.le_of_ble_eq_true rfl, Nat.le_of_ble_eq_true rfl⟩ ⟨Nat.le_refl _, Nat.le_refl _⟩ (Nat.le_of_ble_eq_true rfl) (fun C1 hx => ?_) (fun v M0 g => ?_)
  · obtain ⟨rfl, h9⟩ := hx
    exact jx_catch1 hC hT ⟨by decide, by decide, by decide⟩ wl_15 nw_IA (fun q9 => jx_hand_n hC (Nat.le_refl _) (Nat.le_refl _) dL_keep_12 rfl dL_keep_13 dL_keep_14 (by decide) (Or.inr ⟨rfl, h9, rfl⟩))
  · have hv : ∃ z9 : Int, v = some (vI z9) := by
      obtain ⟨-, rfl, -⟩ := g <;> exact ⟨_, rfl⟩
    obtain ⟨z9, rfl⟩ := hv
    rw [show vpush (some (vI z9)) [vI 0, vR E 97] = [vI (wr z9), vI 0, vR E 97] from by rw [vI_wr]; rfl]
    refine jw_i2l hC dL_keep_7 (wr_b1 _) (wr_b2 _) ?_
    refine jw_last97 hC (wr_b1 _) (wr_b2 _) dL_keep_8 ?_
    refine jw_goto (tgt := 15) hC dL_keep_9 (by decide) ?_
    refine jx_ret (Nat.le_refl _) (Nat.le_refl _) ?_
    refine jw_iconst hC dL_keep_15 ?_
    refine jw_iret hC dL_keep_16 ?_
    exact Or.inl ⟨rfl, z9, M0, g, rfl⟩
theorem sH_goBack : ewSh "EmbossPressLaw" 138 yL_goBack cL_goBack 4 (some .int) [(0, 9, 12, 15), (0, 9, 15, 39)] 3 := ⟨ww_t5 3 (by decide +kernel) (by decide +kernel), ww_t5 4 (by decide +kernel) (by decide +kernel), w1_0, ww_t5 5 (by decide +kernel) (by decide +kernel), by decide +kernel, by decide +kernel, by decide +kernel⟩
def cp_goBack (M : ewM) (a : Int) : Option Value → ewM → Prop := fun v M1 => ((0 ≤ a ∧ a < 2) ∧ ¬ M 79 a = 0) ∧ ∃ N : ewM, svc M N ∧ v = some (vI (M1 50 4)) ∧ ∀ j : Nat, (j : Int) = 1 + a → cpS N j M1 0 ∧ ∀ o, (o < 1 ∨ 4 < o) → (o < 50 ∨ 52 < o) → M1 o = N o
set_option maxRecDepth 100000 in
set_option maxHeartbeats 4000000 in
theorem h_goBack (l : Launch) (hfl : l.stackTraces = false) (E : ewE) (M : ewM) (q4 : 0 ≤ M 77 4 ∧ M 77 4 ≤ 5) (q5 : 0 ≤ M 77 5 ∧ M 77 5 ≤ 6) (a : Int) (a1 : -2147483648 ≤ a) (a2 : a < 2147483648) : Cl l E yL_goBack (.codeWith yL_goBack cL_goBack 4 (some .int) [(0, 9, 12, 15), (0, 9, 15, 39)]) 10 [vR E 77, vI a, vR E 97] M (fun v M1 => (v = some (vI 0) ∧ ∃ (z9 : Int) (M0 : ewM), cp_goBack M a (some (vI z9)) M0 ∧ M1 = mu M0 97 0 (wr z9)) ∨ (v = some (vI 1) ∧ (¬ (0 ≤ a ∧ a < 2)) ∧ M1 = M) ∨ (v = some (vI 2) ∧ ((0 ≤ a ∧ a < 2) ∧ M 79 a = 0) ∧ M1 = M)) := by
  refine cl_of (L0 := [(0, vR E 77), (1, vI a), (2, vR E 97)]) (by decide +kernel) rfl (Nat.le_of_ble_eq_true rfl) ?_
  intro zp ze zs zm za zb zt zc zA hC hT
  refine jw_aload_n hC dL_goBack_0 2 rfl rfl ?_
  refine jw_iconst hC dL_goBack_1 ?_
  refine jw_aload_n hC dL_goBack_2 0 rfl rfl ?_
  refine jw_iload_n hC dL_goBack_3 1 rfl rfl ?_
  refine jx_callV (post := cp_goBack M a) (S := [vI 0, vR E 97]) hC (c_X4_goBack l hfl E M q4 q5 a a1 a2) sV_L_47 ewF_x4.o dL_goBack_4 rfl rfl ⟨Nat.le_of_ble_eq_true rfl, Nat.le_of_ble_eq_true rfl⟩ ⟨Nat.le_refl _, Nat.le_refl _⟩ (Nat.le_of_ble_eq_true rfl) (fun C1 hx => ?_) (fun v M0 g => ?_)
  · rcases hx with ⟨rfl, h9⟩ | ⟨rfl, h9⟩
    · exact jx_catch1 hC hT ⟨by decide, by decide, by decide⟩ wl_15 nw_IA (fun q9 => jx_hand_n hC (Nat.le_refl _) (Nat.le_refl _) dL_goBack_12 rfl dL_goBack_13 dL_goBack_14 (by decide) (Or.inr (Or.inl ⟨rfl, h9, rfl⟩)))
    · exact jx_catch2 hC hT ⟨by decide, by decide, by decide⟩ wl_39 nw_IS (by decide) wl_15 xn_2 (fun q9 => jx_hand_n hC (Nat.le_refl _) (Nat.le_refl _) dL_goBack_15 rfl dL_goBack_16 dL_goBack_17 (by decide) (Or.inr (Or.inr ⟨rfl, h9, rfl⟩)))
  · have hv : ∃ z9 : Int, v = some (vI z9) := by
      obtain ⟨-, N, -, rfl, -⟩ := g <;> exact ⟨_, rfl⟩
    obtain ⟨z9, rfl⟩ := hv
    rw [show vpush (some (vI z9)) [vI 0, vR E 97] = [vI (wr z9), vI 0, vR E 97] from by rw [vI_wr]; rfl]
    refine jw_i2l hC dL_goBack_7 (wr_b1 _) (wr_b2 _) ?_
    refine jw_last97 hC (wr_b1 _) (wr_b2 _) dL_goBack_8 ?_
    refine jw_goto (tgt := 18) hC dL_goBack_9 (by decide) ?_
    refine jx_ret (Nat.le_refl _) (Nat.le_refl _) ?_
    refine jw_iconst hC dL_goBack_18 ?_
    refine jw_iret hC dL_goBack_19 ?_
    exact Or.inl ⟨rfl, z9, M0, g, rfl⟩
theorem sH_undo : ewSh "EmbossPressLaw" 141 yL_undo cL_undo 3 (some .int) [(0, 8, 11, 39)] 2 := ⟨ww_t5 11 (by decide +kernel) (by decide +kernel), ww_t5 12 (by decide +kernel) (by decide +kernel), w1_0, ww_t5 13 (by decide +kernel) (by decide +kernel), by decide +kernel, by decide +kernel, by decide +kernel⟩
def cp_undo (M : ewM) : Option Value → ewM → Prop := fun v M1 => (¬ M 77 5 = 0) ∧ v = some (vI (M 77 5 - 1)) ∧ ∀ j : Nat, (j : Int) = 3 + (M 77 4 + (M 77 5 - 1)) % 6 → cpS M j M1 0 ∧ M1 77 = (mu M 77 5 (M 77 5 - 1)) 77 ∧ ∀ o, o ≠ 77 → (o < 1 ∨ 4 < o) → (o < 50 ∨ 52 < o) → M1 o = M o
set_option maxRecDepth 100000 in
set_option maxHeartbeats 4000000 in
theorem h_undo (l : Launch) (hfl : l.stackTraces = false) (E : ewE) (M : ewM) (q4 : 0 ≤ M 77 4 ∧ M 77 4 ≤ 5) (q5 : 0 ≤ M 77 5 ∧ M 77 5 ≤ 6)  : Cl l E yL_undo (.codeWith yL_undo cL_undo 3 (some .int) [(0, 8, 11, 39)]) 10 [vR E 77, vR E 97] M (fun v M1 => (v = some (vI 0) ∧ ∃ (z9 : Int) (M0 : ewM), cp_undo M (some (vI z9)) M0 ∧ M1 = mu M0 97 0 (wr z9)) ∨ (v = some (vI 1) ∧ (M 77 5 = 0) ∧ M1 = M)) := by
  refine cl_of (L0 := [(0, vR E 77), (1, vR E 97)]) (by decide +kernel) rfl (Nat.le_of_ble_eq_true rfl) ?_
  intro zp ze zs zm za zb zt zc zA hC hT
  refine jw_aload_n hC dL_undo_0 1 rfl rfl ?_
  refine jw_iconst hC dL_undo_1 ?_
  refine jw_aload_n hC dL_undo_2 0 rfl rfl ?_
  refine jx_callV (post := cp_undo M) (S := [vI 0, vR E 97]) hC (c_X4_undo l hfl E M q4 q5) sV_L_50 ewF_x4.o dL_undo_3 rfl rfl ⟨Nat.le_of_ble_eq_true rfl, Nat.le_of_ble_eq_true rfl⟩ ⟨Nat.le_refl _, Nat.le_refl _⟩ (Nat.le_of_ble_eq_true rfl) (fun C1 hx => ?_) (fun v M0 g => ?_)
  · obtain ⟨rfl, h9⟩ := hx
    exact jx_catch1 hC hT ⟨by decide, by decide, by decide⟩ wl_39 nw_IS (fun q9 => jx_hand_n hC (Nat.le_refl _) (Nat.le_refl _) dL_undo_11 rfl dL_undo_12 dL_undo_13 (by decide) (Or.inr ⟨rfl, h9, rfl⟩))
  · have hv : ∃ z9 : Int, v = some (vI z9) := by
      obtain ⟨-, rfl, -⟩ := g <;> exact ⟨_, rfl⟩
    obtain ⟨z9, rfl⟩ := hv
    rw [show vpush (some (vI z9)) [vI 0, vR E 97] = [vI (wr z9), vI 0, vR E 97] from by rw [vI_wr]; rfl]
    refine jw_i2l hC dL_undo_6 (wr_b1 _) (wr_b2 _) ?_
    refine jw_last97 hC (wr_b1 _) (wr_b2 _) dL_undo_7 ?_
    refine jw_goto (tgt := 14) hC dL_undo_8 (by decide) ?_
    refine jx_ret (Nat.le_refl _) (Nat.le_refl _) ?_
    refine jw_iconst hC dL_undo_14 ?_
    refine jw_iret hC dL_undo_15 ?_
    exact Or.inl ⟨rfl, z9, M0, g, rfl⟩
theorem sH_dieOf : ewSh "EmbossPressLaw" 145 yL_dieOf cL_dieOf 7 (some .int) [(0, 14, 17, 13), (0, 14, 21, 15)] 6 := ⟨ww_t5 19 (by decide +kernel) (by decide +kernel), ww_t5 20 (by decide +kernel) (by decide +kernel), w1_0, ww_t5 21 (by decide +kernel) (by decide +kernel), by decide +kernel, by decide +kernel, by decide +kernel⟩
def cp_dieOf (M : ewM) (a x y t : Int) : Option Value → ewM → Prop := fun v M1 => (((0 ≤ a ∧ a < 3) ∧ (0 ≤ x ∧ x < 5 ∧ 0 ≤ y ∧ y < 5)) ∧ (0 ≤ t ∧ t < 8)) ∧ v = some (vI (f_tp (M 51) a x y t)) ∧ lk M M1
set_option maxRecDepth 100000 in
set_option maxHeartbeats 4000000 in
theorem h_dieOf (l : Launch) (hfl : l.stackTraces = false) (E : ewE) (M : ewM) (a : Int) (a1 : -2147483648 ≤ a) (a2 : a < 2147483648) (x : Int) (x1 : -2147483648 ≤ x) (x2 : x < 2147483648) (y : Int) (y1 : -2147483648 ≤ y) (y2 : y < 2147483648) (t : Int) (t1 : -2147483648 ≤ t) (t2 : t < 2147483648) : Cl l E yL_dieOf (.codeWith yL_dieOf cL_dieOf 7 (some .int) [(0, 14, 17, 13), (0, 14, 21, 15)]) 10 [vR E 77, vI a, vI x, vI y, vI t, vR E 97] M (fun v M1 => (v = some (vI 0) ∧ ∃ (z9 : Int) (M0 : ewM), cp_dieOf M a x y t (some (vI z9)) M0 ∧ M1 = mu M0 97 0 (wr z9)) ∨ (v = some (vI 1) ∧ (¬ ((0 ≤ a ∧ a < 3) ∧ (0 ≤ x ∧ x < 5 ∧ 0 ≤ y ∧ y < 5))) ∧ M1 = M) ∨ (v = some (vI 2) ∧ (((0 ≤ a ∧ a < 3) ∧ (0 ≤ x ∧ x < 5 ∧ 0 ≤ y ∧ y < 5)) ∧ ¬ (0 ≤ t ∧ t < 8)) ∧ M1 = M)) := by
  refine cl_of (L0 := [(0, vR E 77), (1, vI a), (2, vI x), (3, vI y), (4, vI t), (5, vR E 97)]) (by decide +kernel) rfl (Nat.le_of_ble_eq_true rfl) ?_
  intro zp ze zs zm za zb zt zc zA hC hT
  refine jw_aload hC dL_dieOf_0 5 rfl ?_
  refine jw_iconst hC dL_dieOf_2 ?_
  refine jw_aload_n hC dL_dieOf_3 0 rfl rfl ?_
  refine jw_iload_n hC dL_dieOf_4 1 rfl rfl ?_
  refine jw_iload_n hC dL_dieOf_5 2 rfl rfl ?_
  refine jw_iload_n hC dL_dieOf_6 3 rfl rfl ?_
  refine jw_iload hC dL_dieOf_7 4 rfl ?_
  refine jx_callV (post := cp_dieOf M a x y t) (S := [vI 0, vR E 97]) hC (c_X4_dieOf l hfl E M a a1 a2 x x1 x2 y y1 y2 t t1 t2) sV_L_54 ewF_x4.o dL_dieOf_9 rfl rfl ⟨Nat.le_of_ble_eq_true rfl, Nat.le_of_ble_eq_true rfl⟩ ⟨Nat.le_refl _, Nat.le_refl _⟩ (Nat.le_of_ble_eq_true rfl) (fun C1 hx => ?_) (fun v M0 g => ?_)
  · rcases hx with ⟨rfl, h9⟩ | ⟨rfl, h9⟩
    · exact jx_catch1 hC hT ⟨by decide, by decide, by decide⟩ wl_13 nw_IO (fun q9 => jx_hand hC (Nat.le_refl _) (Nat.le_refl _) dL_dieOf_17 dL_dieOf_19 dL_dieOf_20 (by decide) (Or.inr (Or.inl ⟨rfl, h9, rfl⟩)))
    · exact jx_catch2 hC hT ⟨by decide, by decide, by decide⟩ wl_15 nw_IA (by decide) wl_13 xn_1 (fun q9 => jx_hand hC (Nat.le_refl _) (Nat.le_refl _) dL_dieOf_21 dL_dieOf_23 dL_dieOf_24 (by decide) (Or.inr (Or.inr ⟨rfl, h9, rfl⟩)))
  · have hv : ∃ z9 : Int, v = some (vI z9) := by
      obtain ⟨-, rfl, -⟩ := g <;> exact ⟨_, rfl⟩
    obtain ⟨z9, rfl⟩ := hv
    rw [show vpush (some (vI z9)) [vI 0, vR E 97] = [vI (wr z9), vI 0, vR E 97] from by rw [vI_wr]; rfl]
    refine jw_i2l hC dL_dieOf_12 (wr_b1 _) (wr_b2 _) ?_
    refine jw_last97 hC (wr_b1 _) (wr_b2 _) dL_dieOf_13 ?_
    refine jw_goto (tgt := 25) hC dL_dieOf_14 (by decide) ?_
    refine jx_ret (Nat.le_refl _) (Nat.le_refl _) ?_
    refine jw_iconst hC dL_dieOf_25 ?_
    refine jw_iret hC dL_dieOf_26 ?_
    exact Or.inl ⟨rfl, z9, M0, g, rfl⟩
theorem sH_place : ewSh "EmbossPressLaw" 148 yL_place cL_place 6 (some .int) [(0, 12, 15, 13), (0, 12, 19, 15)] 5 := ⟨ww_t5 26 (by decide +kernel) (by decide +kernel), ww_t5 27 (by decide +kernel) (by decide +kernel), w1_0, ww_t5 28 (by decide +kernel) (by decide +kernel), by decide +kernel, by decide +kernel, by decide +kernel⟩
def cp_place (M : ewM) (x y w : Int) : Option Value → ewM → Prop := fun v M1 => ((0 ≤ x ∧ x < 12 ∧ 0 ≤ y ∧ y < 12) ∧ (0 ≤ w ∧ w < 7)) ∧ v = some (vI (f_prop M (f_pl x y) w)) ∧ lk M M1
set_option maxRecDepth 100000 in
set_option maxHeartbeats 4000000 in
theorem h_place (l : Launch) (hfl : l.stackTraces = false) (E : ewE) (M : ewM) (h0 : st0 M) (x : Int) (x1 : -2147483648 ≤ x) (x2 : x < 2147483648) (y : Int) (y1 : -2147483648 ≤ y) (y2 : y < 2147483648) (w : Int) (w1 : -2147483648 ≤ w) (w2 : w < 2147483648) : Cl l E yL_place (.codeWith yL_place cL_place 6 (some .int) [(0, 12, 15, 13), (0, 12, 19, 15)]) 10 [vR E 77, vI x, vI y, vI w, vR E 97] M (fun v M1 => (v = some (vI 0) ∧ ∃ (z9 : Int) (M0 : ewM), cp_place M x y w (some (vI z9)) M0 ∧ M1 = mu M0 97 0 (wr z9)) ∨ (v = some (vI 1) ∧ (¬ (0 ≤ x ∧ x < 12 ∧ 0 ≤ y ∧ y < 12)) ∧ M1 = M) ∨ (v = some (vI 2) ∧ ((0 ≤ x ∧ x < 12 ∧ 0 ≤ y ∧ y < 12) ∧ ¬ (0 ≤ w ∧ w < 7)) ∧ M1 = M)) := by
  refine cl_of (L0 := [(0, vR E 77), (1, vI x), (2, vI y), (3, vI w), (4, vR E 97)]) (by decide +kernel) rfl (Nat.le_of_ble_eq_true rfl) ?_
  intro zp ze zs zm za zb zt zc zA hC hT
  refine jw_aload hC dL_place_0 4 rfl ?_
  refine jw_iconst hC dL_place_2 ?_
  refine jw_aload_n hC dL_place_3 0 rfl rfl ?_
  refine jw_iload_n hC dL_place_4 1 rfl rfl ?_
  refine jw_iload_n hC dL_place_5 2 rfl rfl ?_
  refine jw_iload_n hC dL_place_6 3 rfl rfl ?_
  refine jx_callV (post := cp_place M x y w) (S := [vI 0, vR E 97]) hC (c_X4_place l hfl E M h0 x x1 x2 y y1 y2 w w1 w2) sV_L_57 ewF_x4.o dL_place_7 rfl rfl ⟨Nat.le_of_ble_eq_true rfl, Nat.le_of_ble_eq_true rfl⟩ ⟨Nat.le_refl _, Nat.le_refl _⟩ (Nat.le_of_ble_eq_true rfl) (fun C1 hx => ?_) (fun v M0 g => ?_)
  · rcases hx with ⟨rfl, h9⟩ | ⟨rfl, h9⟩
    · exact jx_catch1 hC hT ⟨by decide, by decide, by decide⟩ wl_13 nw_IO (fun q9 => jx_hand hC (Nat.le_refl _) (Nat.le_refl _) dL_place_15 dL_place_17 dL_place_18 (by decide) (Or.inr (Or.inl ⟨rfl, h9, rfl⟩)))
    · exact jx_catch2 hC hT ⟨by decide, by decide, by decide⟩ wl_15 nw_IA (by decide) wl_13 xn_1 (fun q9 => jx_hand hC (Nat.le_refl _) (Nat.le_refl _) dL_place_19 dL_place_21 dL_place_22 (by decide) (Or.inr (Or.inr ⟨rfl, h9, rfl⟩)))
  · have hv : ∃ z9 : Int, v = some (vI z9) := by
      obtain ⟨-, rfl, -⟩ := g <;> exact ⟨_, rfl⟩
    obtain ⟨z9, rfl⟩ := hv
    rw [show vpush (some (vI z9)) [vI 0, vR E 97] = [vI (wr z9), vI 0, vR E 97] from by rw [vI_wr]; rfl]
    refine jw_i2l hC dL_place_10 (wr_b1 _) (wr_b2 _) ?_
    refine jw_last97 hC (wr_b1 _) (wr_b2 _) dL_place_11 ?_
    refine jw_goto (tgt := 23) hC dL_place_12 (by decide) ?_
    refine jx_ret (Nat.le_refl _) (Nat.le_refl _) ?_
    refine jw_iconst hC dL_place_23 ?_
    refine jw_iret hC dL_place_24 ?_
    exact Or.inl ⟨rfl, z9, M0, g, rfl⟩
theorem sH_count : ewSh "EmbossPressLaw" 151 yL_count cL_count 4 (some .int) [(0, 9, 12, 15)] 3 := ⟨ww_t5 34 (by decide +kernel) (by decide +kernel), ww_t5 35 (by decide +kernel) (by decide +kernel), w1_0, ww_t5 36 (by decide +kernel) (by decide +kernel), by decide +kernel, by decide +kernel, by decide +kernel⟩
def cp_count (M : ewM) (w : Int) : Option Value → ewM → Prop := fun v M1 => (0 ≤ w ∧ w < 14) ∧ v = some (vI (f_num M w)) ∧ lk M M1
set_option maxRecDepth 100000 in
set_option maxHeartbeats 4000000 in
theorem h_count (l : Launch) (hfl : l.stackTraces = false) (E : ewE) (M : ewM) (h0 : st0 M) (w : Int) (w1 : -2147483648 ≤ w) (w2 : w < 2147483648) : Cl l E yL_count (.codeWith yL_count cL_count 4 (some .int) [(0, 9, 12, 15)]) 10 [vR E 77, vI w, vR E 97] M (fun v M1 => (v = some (vI 0) ∧ ∃ (z9 : Int) (M0 : ewM), cp_count M w (some (vI z9)) M0 ∧ M1 = mu M0 97 0 (wr z9)) ∨ (v = some (vI 1) ∧ (¬ (0 ≤ w ∧ w < 14)) ∧ M1 = M)) := by
  refine cl_of (L0 := [(0, vR E 77), (1, vI w), (2, vR E 97)]) (by decide +kernel) rfl (Nat.le_of_ble_eq_true rfl) ?_
  intro zp ze zs zm za zb zt zc zA hC hT
  refine jw_aload_n hC dL_count_0 2 rfl rfl ?_
  refine jw_iconst hC dL_count_1 ?_
  refine jw_aload_n hC dL_count_2 0 rfl rfl ?_
  refine jw_iload_n hC dL_count_3 1 rfl rfl ?_
  refine jx_callV (post := cp_count M w) (S := [vI 0, vR E 97]) hC (c_X4_count l hfl E M h0 w w1 w2) sV_L_60 ewF_x4.o dL_count_4 rfl rfl ⟨Nat.le_of_ble_eq_true rfl, Nat.le_of_ble_eq_true rfl⟩ ⟨Nat.le_refl _, Nat.le_refl _⟩ (Nat.le_of_ble_eq_true rfl) (fun C1 hx => ?_) (fun v M0 g => ?_)
  · obtain ⟨rfl, h9⟩ := hx
    exact jx_catch1 hC hT ⟨by decide, by decide, by decide⟩ wl_15 nw_IA (fun q9 => jx_hand_n hC (Nat.le_refl _) (Nat.le_refl _) dL_count_12 rfl dL_count_13 dL_count_14 (by decide) (Or.inr ⟨rfl, h9, rfl⟩))
  · have hv : ∃ z9 : Int, v = some (vI z9) := by
      obtain ⟨-, rfl, -⟩ := g <;> exact ⟨_, rfl⟩
    obtain ⟨z9, rfl⟩ := hv
    rw [show vpush (some (vI z9)) [vI 0, vR E 97] = [vI (wr z9), vI 0, vR E 97] from by rw [vI_wr]; rfl]
    refine jw_i2l hC dL_count_7 (wr_b1 _) (wr_b2 _) ?_
    refine jw_last97 hC (wr_b1 _) (wr_b2 _) dL_count_8 ?_
    refine jw_goto (tgt := 15) hC dL_count_9 (by decide) ?_
    refine jx_ret (Nat.le_refl _) (Nat.le_refl _) ?_
    refine jw_iconst hC dL_count_15 ?_
    refine jw_iret hC dL_count_16 ?_
    exact Or.inl ⟨rfl, z9, M0, g, rfl⟩
theorem sH_setting : ewSh "EmbossPressLaw" 154 yL_setting cL_setting 4 (some .int) [(0, 9, 12, 13)] 3 := ⟨ww_t5 42 (by decide +kernel) (by decide +kernel), ww_t5 43 (by decide +kernel) (by decide +kernel), w1_0, ww_t5 44 (by decide +kernel) (by decide +kernel), by decide +kernel, by decide +kernel, by decide +kernel⟩
def cp_setting (M : ewM) (w : Int) : Option Value → ewM → Prop := fun v M1 => (0 ≤ w ∧ w < 4) ∧ v = some (vI (M 52 w)) ∧ lk M M1
set_option maxRecDepth 100000 in
set_option maxHeartbeats 4000000 in
theorem h_setting (l : Launch) (hfl : l.stackTraces = false) (E : ewE) (M : ewM) (w : Int) (w1 : -2147483648 ≤ w) (w2 : w < 2147483648) : Cl l E yL_setting (.codeWith yL_setting cL_setting 4 (some .int) [(0, 9, 12, 13)]) 10 [vR E 77, vI w, vR E 97] M (fun v M1 => (v = some (vI 0) ∧ ∃ (z9 : Int) (M0 : ewM), cp_setting M w (some (vI z9)) M0 ∧ M1 = mu M0 97 0 (wr z9)) ∨ (v = some (vI 1) ∧ (¬ (0 ≤ w ∧ w < 4)) ∧ M1 = M)) := by
  refine cl_of (L0 := [(0, vR E 77), (1, vI w), (2, vR E 97)]) (by decide +kernel) rfl (Nat.le_of_ble_eq_true rfl) ?_
  intro zp ze zs zm za zb zt zc zA hC hT
  refine jw_aload_n hC dL_setting_0 2 rfl rfl ?_
  refine jw_iconst hC dL_setting_1 ?_
  refine jw_aload_n hC dL_setting_2 0 rfl rfl ?_
  refine jw_iload_n hC dL_setting_3 1 rfl rfl ?_
  refine jx_callV (post := cp_setting M w) (S := [vI 0, vR E 97]) hC (c_X4_setting l hfl E M w w1 w2) sV_L_63 ewF_x4.o dL_setting_4 rfl rfl ⟨Nat.le_of_ble_eq_true rfl, Nat.le_of_ble_eq_true rfl⟩ ⟨Nat.le_refl _, Nat.le_refl _⟩ (Nat.le_of_ble_eq_true rfl) (fun C1 hx => ?_) (fun v M0 g => ?_)
  · obtain ⟨rfl, h9⟩ := hx
    exact jx_catch1 hC hT ⟨by decide, by decide, by decide⟩ wl_13 nw_IO (fun q9 => jx_hand_n hC (Nat.le_refl _) (Nat.le_refl _) dL_setting_12 rfl dL_setting_13 dL_setting_14 (by decide) (Or.inr ⟨rfl, h9, rfl⟩))
  · have hv : ∃ z9 : Int, v = some (vI z9) := by
      obtain ⟨-, rfl, -⟩ := g <;> exact ⟨_, rfl⟩
    obtain ⟨z9, rfl⟩ := hv
    rw [show vpush (some (vI z9)) [vI 0, vR E 97] = [vI (wr z9), vI 0, vR E 97] from by rw [vI_wr]; rfl]
    refine jw_i2l hC dL_setting_7 (wr_b1 _) (wr_b2 _) ?_
    refine jw_last97 hC (wr_b1 _) (wr_b2 _) dL_setting_8 ?_
    refine jw_goto (tgt := 15) hC dL_setting_9 (by decide) ?_
    refine jx_ret (Nat.le_refl _) (Nat.le_refl _) ?_
    refine jw_iconst hC dL_setting_15 ?_
    refine jw_iret hC dL_setting_16 ?_
    exact Or.inl ⟨rfl, z9, M0, g, rfl⟩
theorem sH_ifPressed : ewSh "EmbossPressLaw" 157 yL_ifPressed cL_ifPressed 7 (some .int) [(0, 14, 17, 13), (0, 14, 21, 15)] 6 := ⟨ww_t5 49 (by decide +kernel) (by decide +kernel), ww_t5 50 (by decide +kernel) (by decide +kernel), w1_0, ww_t5 51 (by decide +kernel) (by decide +kernel), by decide +kernel, by decide +kernel, by decide +kernel⟩
def cp_ifPressed (M : ewM) (a x y t : Int) : Option Value → ewM → Prop := fun v M1 => ((0 ≤ a ∧ a < 3) ∧ (0 ≤ t ∧ t < 8)) ∧ v = some (vI (a_ans M (f_rel (M 51) a t) x y)) ∧ lk M M1
set_option maxRecDepth 100000 in
set_option maxHeartbeats 4000000 in
theorem h_ifPressed (l : Launch) (hfl : l.stackTraces = false) (E : ewE) (M : ewM) (h0 : st0 M) (a : Int) (a1 : -2147483648 ≤ a) (a2 : a < 2147483648) (x : Int) (x1 : -2147483648 ≤ x) (x2 : x < 2147483648) (y : Int) (y1 : -2147483648 ≤ y) (y2 : y < 2147483648) (t : Int) (t1 : -2147483648 ≤ t) (t2 : t < 2147483648) : Cl l E yL_ifPressed (.codeWith yL_ifPressed cL_ifPressed 7 (some .int) [(0, 14, 17, 13), (0, 14, 21, 15)]) 10 [vR E 77, vI a, vI x, vI y, vI t, vR E 97] M (fun v M1 => (v = some (vI 0) ∧ ∃ (z9 : Int) (M0 : ewM), cp_ifPressed M a x y t (some (vI z9)) M0 ∧ M1 = mu M0 97 0 (wr z9)) ∨ (v = some (vI 1) ∧ (¬ (0 ≤ a ∧ a < 3)) ∧ M1 = M) ∨ (v = some (vI 2) ∧ ((0 ≤ a ∧ a < 3) ∧ ¬ (0 ≤ t ∧ t < 8)) ∧ M1 = M)) := by
  refine cl_of (L0 := [(0, vR E 77), (1, vI a), (2, vI x), (3, vI y), (4, vI t), (5, vR E 97)]) (by decide +kernel) rfl (Nat.le_of_ble_eq_true rfl) ?_
  intro zp ze zs zm za zb zt zc zA hC hT
  refine jw_aload hC dL_ifPressed_0 5 rfl ?_
  refine jw_iconst hC dL_ifPressed_2 ?_
  refine jw_aload_n hC dL_ifPressed_3 0 rfl rfl ?_
  refine jw_iload_n hC dL_ifPressed_4 1 rfl rfl ?_
  refine jw_iload_n hC dL_ifPressed_5 2 rfl rfl ?_
  refine jw_iload_n hC dL_ifPressed_6 3 rfl rfl ?_
  refine jw_iload hC dL_ifPressed_7 4 rfl ?_
  refine jx_callV (post := cp_ifPressed M a x y t) (S := [vI 0, vR E 97]) hC (c_X4_ifPressed l hfl E M h0 a a1 a2 x x1 x2 y y1 y2 t t1 t2) sV_L_66 ewF_x4.o dL_ifPressed_9 rfl rfl ⟨Nat.le_of_ble_eq_true rfl, Nat.le_of_ble_eq_true rfl⟩ ⟨Nat.le_refl _, Nat.le_refl _⟩ (Nat.le_of_ble_eq_true rfl) (fun C1 hx => ?_) (fun v M0 g => ?_)
  · rcases hx with ⟨rfl, h9⟩ | ⟨rfl, h9⟩
    · exact jx_catch1 hC hT ⟨by decide, by decide, by decide⟩ wl_13 nw_IO (fun q9 => jx_hand hC (Nat.le_refl _) (Nat.le_refl _) dL_ifPressed_17 dL_ifPressed_19 dL_ifPressed_20 (by decide) (Or.inr (Or.inl ⟨rfl, h9, rfl⟩)))
    · exact jx_catch2 hC hT ⟨by decide, by decide, by decide⟩ wl_15 nw_IA (by decide) wl_13 xn_1 (fun q9 => jx_hand hC (Nat.le_refl _) (Nat.le_refl _) dL_ifPressed_21 dL_ifPressed_23 dL_ifPressed_24 (by decide) (Or.inr (Or.inr ⟨rfl, h9, rfl⟩)))
  · have hv : ∃ z9 : Int, v = some (vI z9) := by
      obtain ⟨-, rfl, -⟩ := g <;> exact ⟨_, rfl⟩
    obtain ⟨z9, rfl⟩ := hv
    rw [show vpush (some (vI z9)) [vI 0, vR E 97] = [vI (wr z9), vI 0, vR E 97] from by rw [vI_wr]; rfl]
    refine jw_i2l hC dL_ifPressed_12 (wr_b1 _) (wr_b2 _) ?_
    refine jw_last97 hC (wr_b1 _) (wr_b2 _) dL_ifPressed_13 ?_
    refine jw_goto (tgt := 25) hC dL_ifPressed_14 (by decide) ?_
    refine jx_ret (Nat.le_refl _) (Nat.le_refl _) ?_
    refine jw_iconst hC dL_ifPressed_25 ?_
    refine jw_iret hC dL_ifPressed_26 ?_
    exact Or.inl ⟨rfl, z9, M0, g, rfl⟩
theorem sH_gentlest : ewSh "EmbossPressLaw" 160 yL_gentlest cL_gentlest 5 (some .int) [(0, 10, 13, 13), (0, 10, 17, 15)] 4 := ⟨ww_t5 56 (by decide +kernel) (by decide +kernel), ww_t5 57 (by decide +kernel) (by decide +kernel), w1_0, ww_t5 58 (by decide +kernel) (by decide +kernel), by decide +kernel, by decide +kernel, by decide +kernel⟩
def cp_gentlest (M : ewM) (a t : Int) : Option Value → ewM → Prop := fun v M1 => ((0 ≤ a ∧ a < 3) ∧ (0 ≤ t ∧ t < 8)) ∧ v = some (vI (f_bs (fun k => a_ans M (f_rel (M 51) a t) (k % 12) (k / 12)) 144)) ∧ lk M M1
set_option maxRecDepth 100000 in
set_option maxHeartbeats 4000000 in
theorem h_gentlest (l : Launch) (hfl : l.stackTraces = false) (E : ewE) (M : ewM) (h0 : st0 M) (a : Int) (a1 : -2147483648 ≤ a) (a2 : a < 2147483648) (t : Int) (t1 : -2147483648 ≤ t) (t2 : t < 2147483648) : Cl l E yL_gentlest (.codeWith yL_gentlest cL_gentlest 5 (some .int) [(0, 10, 13, 13), (0, 10, 17, 15)]) 10 [vR E 77, vI a, vI t, vR E 97] M (fun v M1 => (v = some (vI 0) ∧ ∃ (z9 : Int) (M0 : ewM), cp_gentlest M a t (some (vI z9)) M0 ∧ M1 = mu M0 97 0 (wr z9)) ∨ (v = some (vI 1) ∧ (¬ (0 ≤ a ∧ a < 3)) ∧ M1 = M) ∨ (v = some (vI 2) ∧ ((0 ≤ a ∧ a < 3) ∧ ¬ (0 ≤ t ∧ t < 8)) ∧ M1 = M)) := by
  refine cl_of (L0 := [(0, vR E 77), (1, vI a), (2, vI t), (3, vR E 97)]) (by decide +kernel) rfl (Nat.le_of_ble_eq_true rfl) ?_
  intro zp ze zs zm za zb zt zc zA hC hT
  refine jw_aload_n hC dL_gentlest_0 3 rfl rfl ?_
  refine jw_iconst hC dL_gentlest_1 ?_
  refine jw_aload_n hC dL_gentlest_2 0 rfl rfl ?_
  refine jw_iload_n hC dL_gentlest_3 1 rfl rfl ?_
  refine jw_iload_n hC dL_gentlest_4 2 rfl rfl ?_
  refine jx_callV (post := cp_gentlest M a t) (S := [vI 0, vR E 97]) hC (c_X4_gentlest l hfl E M h0 a a1 a2 t t1 t2) sV_L_69 ewF_x4.o dL_gentlest_5 rfl rfl ⟨Nat.le_of_ble_eq_true rfl, Nat.le_of_ble_eq_true rfl⟩ ⟨Nat.le_refl _, Nat.le_refl _⟩ (Nat.le_of_ble_eq_true rfl) (fun C1 hx => ?_) (fun v M0 g => ?_)
  · rcases hx with ⟨rfl, h9⟩ | ⟨rfl, h9⟩
    · exact jx_catch1 hC hT ⟨by decide, by decide, by decide⟩ wl_13 nw_IO (fun q9 => jx_hand hC (Nat.le_refl _) (Nat.le_refl _) dL_gentlest_13 dL_gentlest_15 dL_gentlest_16 (by decide) (Or.inr (Or.inl ⟨rfl, h9, rfl⟩)))
    · exact jx_catch2 hC hT ⟨by decide, by decide, by decide⟩ wl_15 nw_IA (by decide) wl_13 xn_1 (fun q9 => jx_hand hC (Nat.le_refl _) (Nat.le_refl _) dL_gentlest_17 dL_gentlest_19 dL_gentlest_20 (by decide) (Or.inr (Or.inr ⟨rfl, h9, rfl⟩)))
  · have hv : ∃ z9 : Int, v = some (vI z9) := by
      obtain ⟨-, rfl, -⟩ := g <;> exact ⟨_, rfl⟩
    obtain ⟨z9, rfl⟩ := hv
    rw [show vpush (some (vI z9)) [vI 0, vR E 97] = [vI (wr z9), vI 0, vR E 97] from by rw [vI_wr]; rfl]
    refine jw_i2l hC dL_gentlest_8 (wr_b1 _) (wr_b2 _) ?_
    refine jw_last97 hC (wr_b1 _) (wr_b2 _) dL_gentlest_9 ?_
    refine jw_goto (tgt := 21) hC dL_gentlest_10 (by decide) ?_
    refine jx_ret (Nat.le_refl _) (Nat.le_refl _) ?_
    refine jw_iconst hC dL_gentlest_21 ?_
    refine jw_iret hC dL_gentlest_22 ?_
    exact Or.inl ⟨rfl, z9, M0, g, rfl⟩
theorem sH_ifFolded : ewSh "EmbossPressLaw" 163 yL_ifFolded cL_ifFolded 4 (some .int) [(0, 9, 12, 13)] 3 := ⟨ww_t5 63 (by decide +kernel) (by decide +kernel), ww_t5 64 (by decide +kernel) (by decide +kernel), w1_0, ww_t5 65 (by decide +kernel) (by decide +kernel), by decide +kernel, by decide +kernel, by decide +kernel⟩
def cp_ifFolded (M : ewM) (r : Int) : Option Value → ewM → Prop := fun v M1 => (1 ≤ r ∧ r < 12) ∧ v = some (vI (f_fc (M 1) (M 3) r (M 52 0) (M 52 1))) ∧ lk M M1
set_option maxRecDepth 100000 in
set_option maxHeartbeats 4000000 in
theorem h_ifFolded (l : Launch) (hfl : l.stackTraces = false) (E : ewE) (M : ewM) (h0 : st0 M) (r : Int) (r1 : -2147483648 ≤ r) (r2 : r < 2147483648) : Cl l E yL_ifFolded (.codeWith yL_ifFolded cL_ifFolded 4 (some .int) [(0, 9, 12, 13)]) 10 [vR E 77, vI r, vR E 97] M (fun v M1 => (v = some (vI 0) ∧ ∃ (z9 : Int) (M0 : ewM), cp_ifFolded M r (some (vI z9)) M0 ∧ M1 = mu M0 97 0 (wr z9)) ∨ (v = some (vI 1) ∧ (¬ (1 ≤ r ∧ r < 12)) ∧ M1 = M)) := by
  refine cl_of (L0 := [(0, vR E 77), (1, vI r), (2, vR E 97)]) (by decide +kernel) rfl (Nat.le_of_ble_eq_true rfl) ?_
  intro zp ze zs zm za zb zt zc zA hC hT
  refine jw_aload_n hC dL_ifFolded_0 2 rfl rfl ?_
  refine jw_iconst hC dL_ifFolded_1 ?_
  refine jw_aload_n hC dL_ifFolded_2 0 rfl rfl ?_
  refine jw_iload_n hC dL_ifFolded_3 1 rfl rfl ?_
  refine jx_callV (post := cp_ifFolded M r) (S := [vI 0, vR E 97]) hC (c_X4_ifFolded l hfl E M h0 r r1 r2) sV_L_72 ewF_x4.o dL_ifFolded_4 rfl rfl ⟨Nat.le_of_ble_eq_true rfl, Nat.le_of_ble_eq_true rfl⟩ ⟨Nat.le_refl _, Nat.le_refl _⟩ (Nat.le_of_ble_eq_true rfl) (fun C1 hx => ?_) (fun v M0 g => ?_)
  · obtain ⟨rfl, h9⟩ := hx
    exact jx_catch1 hC hT ⟨by decide, by decide, by decide⟩ wl_13 nw_IO (fun q9 => jx_hand_n hC (Nat.le_refl _) (Nat.le_refl _) dL_ifFolded_12 rfl dL_ifFolded_13 dL_ifFolded_14 (by decide) (Or.inr ⟨rfl, h9, rfl⟩))
  · have hv : ∃ z9 : Int, v = some (vI z9) := by
      obtain ⟨-, rfl, -⟩ := g <;> exact ⟨_, rfl⟩
    obtain ⟨z9, rfl⟩ := hv
    rw [show vpush (some (vI z9)) [vI 0, vR E 97] = [vI (wr z9), vI 0, vR E 97] from by rw [vI_wr]; rfl]
    refine jw_i2l hC dL_ifFolded_7 (wr_b1 _) (wr_b2 _) ?_
    refine jw_last97 hC (wr_b1 _) (wr_b2 _) dL_ifFolded_8 ?_
    refine jw_goto (tgt := 15) hC dL_ifFolded_9 (by decide) ?_
    refine jx_ret (Nat.le_refl _) (Nat.le_refl _) ?_
    refine jw_iconst hC dL_ifFolded_15 ?_
    refine jw_iret hC dL_ifFolded_16 ?_
    exact Or.inl ⟨rfl, z9, M0, g, rfl⟩
theorem sH_alike : ewSh "EmbossPressLaw" 170 yL_alike cL_alike 5 (some .int) [(0, 10, 13, 13)] 4 := ⟨ww_t5 70 (by decide +kernel) (by decide +kernel), ww_t5 71 (by decide +kernel) (by decide +kernel), w1_0, ww_t5 72 (by decide +kernel) (by decide +kernel), by decide +kernel, by decide +kernel, by decide +kernel⟩
def cp_alike (M : ewM) (a b : Int) : Option Value → ewM → Prop := fun v M1 => ((0 ≤ a ∧ a < 3) ∧ (0 ≤ b ∧ b < 3)) ∧ v = some (vI (f_lt (M 51) a b 8 0)) ∧ lk M M1
set_option maxRecDepth 100000 in
set_option maxHeartbeats 4000000 in
theorem h_alike (l : Launch) (hfl : l.stackTraces = false) (E : ewE) (M : ewM) (h0 : st0 M) (a : Int) (a1 : -2147483648 ≤ a) (a2 : a < 2147483648) (b : Int) (b1 : -2147483648 ≤ b) (b2 : b < 2147483648) : Cl l E yL_alike (.codeWith yL_alike cL_alike 5 (some .int) [(0, 10, 13, 13)]) 10 [vR E 77, vI a, vI b, vR E 97] M (fun v M1 => (v = some (vI 0) ∧ ∃ (z9 : Int) (M0 : ewM), cp_alike M a b (some (vI z9)) M0 ∧ M1 = mu M0 97 0 (wr z9)) ∨ (v = some (vI 1) ∧ (¬ ((0 ≤ a ∧ a < 3) ∧ (0 ≤ b ∧ b < 3))) ∧ M1 = M)) := by
  refine cl_of (L0 := [(0, vR E 77), (1, vI a), (2, vI b), (3, vR E 97)]) (by decide +kernel) rfl (Nat.le_of_ble_eq_true rfl) ?_
  intro zp ze zs zm za zb zt zc zA hC hT
  refine jw_aload_n hC dL_alike_0 3 rfl rfl ?_
  refine jw_iconst hC dL_alike_1 ?_
  refine jw_aload_n hC dL_alike_2 0 rfl rfl ?_
  refine jw_iload_n hC dL_alike_3 1 rfl rfl ?_
  refine jw_iload_n hC dL_alike_4 2 rfl rfl ?_
  refine jx_callV (post := cp_alike M a b) (S := [vI 0, vR E 97]) hC (c_X4_alike l hfl E M h0 a a1 a2 b b1 b2) sV_L_75 ewF_x4.o dL_alike_5 rfl rfl ⟨Nat.le_of_ble_eq_true rfl, Nat.le_of_ble_eq_true rfl⟩ ⟨Nat.le_refl _, Nat.le_refl _⟩ (Nat.le_of_ble_eq_true rfl) (fun C1 hx => ?_) (fun v M0 g => ?_)
  · obtain ⟨rfl, h9⟩ := hx
    exact jx_catch1 hC hT ⟨by decide, by decide, by decide⟩ wl_13 nw_IO (fun q9 => jx_hand hC (Nat.le_refl _) (Nat.le_refl _) dL_alike_13 dL_alike_15 dL_alike_16 (by decide) (Or.inr ⟨rfl, h9, rfl⟩))
  · have hv : ∃ z9 : Int, v = some (vI z9) := by
      obtain ⟨-, rfl, -⟩ := g <;> exact ⟨_, rfl⟩
    obtain ⟨z9, rfl⟩ := hv
    rw [show vpush (some (vI z9)) [vI 0, vR E 97] = [vI (wr z9), vI 0, vR E 97] from by rw [vI_wr]; rfl]
    refine jw_i2l hC dL_alike_8 (wr_b1 _) (wr_b2 _) ?_
    refine jw_last97 hC (wr_b1 _) (wr_b2 _) dL_alike_9 ?_
    refine jw_goto (tgt := 17) hC dL_alike_10 (by decide) ?_
    refine jx_ret (Nat.le_refl _) (Nat.le_refl _) ?_
    refine jw_iconst hC dL_alike_17 ?_
    refine jw_iret hC dL_alike_18 ?_
    exact Or.inl ⟨rfl, z9, M0, g, rfl⟩
theorem sH_needed : ewSh "EmbossPressLaw" 173 yL_needed cL_needed 7 (some .int) [(0, 14, 17, 13), (0, 14, 21, 15)] 6 := ⟨ww_t5 77 (by decide +kernel) (by decide +kernel), ww_t5 78 (by decide +kernel) (by decide +kernel), w1_0, ww_t5 79 (by decide +kernel) (by decide +kernel), by decide +kernel, by decide +kernel, by decide +kernel⟩
def cp_needed (M : ewM) (a x y t : Int) : Option Value → ewM → Prop := fun v M1 => ((0 ≤ a ∧ a < 3) ∧ (0 ≤ t ∧ t < 8)) ∧ v = some (vI (f_need (f_rel (M 51) a t) (x + M 50 3) y (M 1) (M 3) (M 52 1) (M 52 2))) ∧ lk M M1
set_option maxRecDepth 100000 in
set_option maxHeartbeats 4000000 in
theorem h_needed (l : Launch) (hfl : l.stackTraces = false) (E : ewE) (M : ewM) (h0 : st0 M) (a : Int) (a1 : -2147483648 ≤ a) (a2 : a < 2147483648) (x : Int) (x1 : -2147483648 ≤ x) (x2 : x < 2147483648) (y : Int) (y1 : -2147483648 ≤ y) (y2 : y < 2147483648) (t : Int) (t1 : -2147483648 ≤ t) (t2 : t < 2147483648) : Cl l E yL_needed (.codeWith yL_needed cL_needed 7 (some .int) [(0, 14, 17, 13), (0, 14, 21, 15)]) 10 [vR E 77, vI a, vI x, vI y, vI t, vR E 97] M (fun v M1 => (v = some (vI 0) ∧ ∃ (z9 : Int) (M0 : ewM), cp_needed M a x y t (some (vI z9)) M0 ∧ M1 = mu M0 97 0 (wr z9)) ∨ (v = some (vI 1) ∧ (¬ (0 ≤ a ∧ a < 3)) ∧ M1 = M) ∨ (v = some (vI 2) ∧ ((0 ≤ a ∧ a < 3) ∧ ¬ (0 ≤ t ∧ t < 8)) ∧ M1 = M)) := by
  refine cl_of (L0 := [(0, vR E 77), (1, vI a), (2, vI x), (3, vI y), (4, vI t), (5, vR E 97)]) (by decide +kernel) rfl (Nat.le_of_ble_eq_true rfl) ?_
  intro zp ze zs zm za zb zt zc zA hC hT
  refine jw_aload hC dL_needed_0 5 rfl ?_
  refine jw_iconst hC dL_needed_2 ?_
  refine jw_aload_n hC dL_needed_3 0 rfl rfl ?_
  refine jw_iload_n hC dL_needed_4 1 rfl rfl ?_
  refine jw_iload_n hC dL_needed_5 2 rfl rfl ?_
  refine jw_iload_n hC dL_needed_6 3 rfl rfl ?_
  refine jw_iload hC dL_needed_7 4 rfl ?_
  refine jx_callV (post := cp_needed M a x y t) (S := [vI 0, vR E 97]) hC (c_X4_needed l hfl E M h0 a a1 a2 x x1 x2 y y1 y2 t t1 t2) sV_L_78 ewF_x4.o dL_needed_9 rfl rfl ⟨Nat.le_of_ble_eq_true rfl, Nat.le_of_ble_eq_true rfl⟩ ⟨Nat.le_refl _, Nat.le_refl _⟩ (Nat.le_of_ble_eq_true rfl) (fun C1 hx => ?_) (fun v M0 g => ?_)
  · rcases hx with ⟨rfl, h9⟩ | ⟨rfl, h9⟩
    · exact jx_catch1 hC hT ⟨by decide, by decide, by decide⟩ wl_13 nw_IO (fun q9 => jx_hand hC (Nat.le_refl _) (Nat.le_refl _) dL_needed_17 dL_needed_19 dL_needed_20 (by decide) (Or.inr (Or.inl ⟨rfl, h9, rfl⟩)))
    · exact jx_catch2 hC hT ⟨by decide, by decide, by decide⟩ wl_15 nw_IA (by decide) wl_13 xn_1 (fun q9 => jx_hand hC (Nat.le_refl _) (Nat.le_refl _) dL_needed_21 dL_needed_23 dL_needed_24 (by decide) (Or.inr (Or.inr ⟨rfl, h9, rfl⟩)))
  · have hv : ∃ z9 : Int, v = some (vI z9) := by
      obtain ⟨-, rfl, -⟩ := g <;> exact ⟨_, rfl⟩
    obtain ⟨z9, rfl⟩ := hv
    rw [show vpush (some (vI z9)) [vI 0, vR E 97] = [vI (wr z9), vI 0, vR E 97] from by rw [vI_wr]; rfl]
    refine jw_i2l hC dL_needed_12 (wr_b1 _) (wr_b2 _) ?_
    refine jw_last97 hC (wr_b1 _) (wr_b2 _) dL_needed_13 ?_
    refine jw_goto (tgt := 25) hC dL_needed_14 (by decide) ?_
    refine jx_ret (Nat.le_refl _) (Nat.le_refl _) ?_
    refine jw_iconst hC dL_needed_25 ?_
    refine jw_iret hC dL_needed_26 ?_
    exact Or.inl ⟨rfl, z9, M0, g, rfl⟩
