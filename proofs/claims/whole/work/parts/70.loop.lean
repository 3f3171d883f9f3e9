/-! THE LAW'S LOOP -/
set_option maxRecDepth 100000 in
set_option maxHeartbeats 4000000 in
theorem lw_iter {p : Program} {l : Launch} {e : Env} {s : State} {m : MethodId} {args : Array Value} {below : List Frame} {meth : Method} {c : Code} {E : ewE} {A : Nat → Prop} {Q : State → Prop} {b N : Nat} {xs : Nat → Int32} (hC : jC p e room_1 s m args meth c E A code 9 "EmbossPressLaw" (some .boolean)) (hfl : l.stackTraces = false) (hX : lwX s E A b N xs)
    (kend : ∀ (i : Int) (M : ewM), jJ p l e room_1 s m args below meth c E A 9 601024 7293034 Q 1710 [(0, vR E 300), (1, vR E 77), (2, vR E 88), (3, vR E 97), (4, vI i)] [] M) {i : Int} {M : ewM} (h0 : 0 ≤ i) (h1 : i ≤ N) (h : Rl M) (kn : i + 6 ≤ N → ∀ T : ewM, Rl T → jJ p l e room_1 s m args below meth c E A 9 (98 + (i + 6).toNat) (14065 + (i + 6).toNat) Q 23 [(0, vR E 300), (1, vR E 77), (2, vR E 88), (3, vR E 97), (4, vI (i + 6))] [] T) : jJ p l e room_1 s m args below meth c E A 9 (98 + i.toNat) (14065 + i.toNat) Q 23 [(0, vR E 300), (1, vR E 77), (2, vR E 88), (3, vR E 97), (4, vI i)] [] M := by
  have hN := hX.2.2.2.2
  refine jw_iload hC dL_law_23 4 rfl ?_
  refine jw_aload_n hC dL_law_25 0 rfl rfl ?_
  refine jw_slen hC hX dL_law_26 ?_
  refine jw_bipush hC dL_law_27 (by decide) ?_
  refine jw_isub hC dL_law_29 ?_
  refine jw_icmp_gt (tgt := 1710) hC dL_law_30 (by decide) (by omega) (by omega) (by omega) (by omega) (fun _ => jw_widen (by omega) (by omega) (kend i M)) (fun hle => ?_)
  have back : ∀ T : ewM, Rl T → jJ p l e room_1 s m args below meth c E A 9 (98 + i.toNat + 1) (14065 + i.toNat + 6) Q 1704 [(0, vR E 300), (1, vR E 77), (2, vR E 88), (3, vR E 97), (4, vI i)] [] T := by
    intro T hT
    refine jw_iinc (n := 6) hC dL_law_1704 4 rfl (by decide) rfl ?_
    refine jw_goto (tgt := 23) hC dL_law_1707 (by decide) ?_
    refine jw_loc (L' := [(0, vR E 300), (1, vR E 77), (2, vR E 88), (3, vR E 97), (4, vI (i + 6))]) [1, 2, 3, 4, 0] rfl ?_
    exact jw_widen (by omega) (by omega) (kn (by omega) T hT)
  refine jw_aload_n hC dL_law_33 0 rfl rfl ?_
  refine jw_iload hC dL_law_34 4 rfl ?_
  refine jw_sld hC hX (by omega) (by omega) dL_law_36 ?_
  refine jw_bipush hC dL_law_37 (by decide) ?_
  refine jw_and31 hC dL_law_39 ?_
  have hb := and31 (Int32.ofInt (sx xs i))
  generalize (Int32.ofInt (sx xs i) &&& 31).toInt = v at hb ⊢
  have h01 : 0 ≤ i ∧ i + 5 < N := ⟨h0, by omega⟩
  have hcs : 98 + i.toNat + 1 ≤ 601024 ∧ 14065 + i.toNat + 6 ≤ 7293034 := ⟨by omega, by omega⟩
  rcases (show v = 0 ∨ v = 1 ∨ v = 2 ∨ v = 3 ∨ v = 4 ∨ v = 5 ∨ v = 6 ∨ v = 7 ∨ v = 8 ∨ v = 9 ∨ v = 10 ∨ v = 11 ∨ v = 12 ∨ v = 13 ∨ v = 14 ∨ v = 15 ∨ v = 16 ∨ v = 17 ∨ v = 18 ∨ v = 19 ∨ v = 20 ∨ v = 21 ∨ v = 22 ∨ v = 23 ∨ v = 24 ∨ v = 25 ∨ v = 26 ∨ 26 < v by omega) with rfl | rfl | rfl | rfl | rfl | rfl | rfl | rfl | rfl | rfl | rfl | rfl | rfl | rfl | rfl | rfl | rfl | rfl | rfl | rfl | rfl | rfl | rfl | rfl | rfl | rfl | rfl | hv
  · exact jw_tabIn (tgt := 164) hC dL_law_40 (by decide) (by decide) (by decide) (by decide) rfl (by decide) (lc_point hC hfl hX h i h01 hcs back)
  · exact jw_tabIn (tgt := 256) hC dL_law_40 (by decide) (by decide) (by decide) (by decide) rfl (by decide) (lc_cast hC hfl hX h i h01 hcs back)
  · exact jw_tabIn (tgt := 336) hC dL_law_40 (by decide) (by decide) (by decide) (by decide) rfl (by decide) (lc_sheet hC hfl hX h i h01 hcs back)
  · exact jw_tabIn (tgt := 349) hC dL_law_40 (by decide) (by decide) (by decide) (by decide) rfl (by decide) (lc_pin hC hfl hX h i h01 hcs back)
  · exact jw_tabIn (tgt := 362) hC dL_law_40 (by decide) (by decide) (by decide) (by decide) rfl (by decide) (lc_foil hC hfl hX h i h01 hcs back)
  · exact jw_tabIn (tgt := 466) hC dL_law_40 (by decide) (by decide) (by decide) (by decide) rfl (by decide) (lc_press hC hfl hX h i h01 hcs back)
  · exact jw_tabIn (tgt := 558) hC dL_law_40 (by decide) (by decide) (by decide) (by decide) rfl (by decide) (lc_fold hC hfl hX h i h01 hcs back)
  · exact jw_tabIn (tgt := 614) hC dL_law_40 (by decide) (by decide) (by decide) (by decide) rfl (by decide) (lc_set hC hfl hX h i h01 hcs back)
  · exact jw_tabIn (tgt := 682) hC dL_law_40 (by decide) (by decide) (by decide) (by decide) rfl (by decide) (lc_append hC hfl hX h i h01 hcs back)
  · exact jw_tabIn (tgt := 738) hC dL_law_40 (by decide) (by decide) (by decide) (by decide) rfl (by decide) (lc_clearBuffer hC hfl hX h i h01 hcs back)
  · exact jw_tabIn (tgt := 751) hC dL_law_40 (by decide) (by decide) (by decide) (by decide) rfl (by decide) (lc_firstError hC hfl hX h i h01 hcs back)
  · exact jw_tabIn (tgt := 764) hC dL_law_40 (by decide) (by decide) (by decide) (by decide) rfl (by decide) (lc_load hC hfl hX h i h01 hcs back)
  · exact jw_tabIn (tgt := 820) hC dL_law_40 (by decide) (by decide) (by decide) (by decide) rfl (by decide) (lc_keep hC hfl hX h i h01 hcs back)
  · exact jw_tabIn (tgt := 876) hC dL_law_40 (by decide) (by decide) (by decide) (by decide) rfl (by decide) (lc_goBack hC hfl hX h i h01 hcs back)
  · exact jw_tabIn (tgt := 932) hC dL_law_40 (by decide) (by decide) (by decide) (by decide) rfl (by decide) (lc_undo hC hfl hX h i h01 hcs back)
  · exact jw_tabIn (tgt := 976) hC dL_law_40 (by decide) (by decide) (by decide) (by decide) rfl (by decide) (lc_dieOf hC hfl hX h i h01 hcs back)
  · exact jw_tabIn (tgt := 1068) hC dL_law_40 (by decide) (by decide) (by decide) (by decide) rfl (by decide) (lc_place hC hfl hX h i h01 hcs back)
  · exact jw_tabIn (tgt := 1148) hC dL_law_40 (by decide) (by decide) (by decide) (by decide) rfl (by decide) (lc_count hC hfl hX h i h01 hcs back)
  · exact jw_tabIn (tgt := 1204) hC dL_law_40 (by decide) (by decide) (by decide) (by decide) rfl (by decide) (lc_setting hC hfl hX h i h01 hcs back)
  · exact jw_tabIn (tgt := 1260) hC dL_law_40 (by decide) (by decide) (by decide) (by decide) rfl (by decide) (lc_ifPressed hC hfl hX h i h01 hcs back)
  · exact jw_tabIn (tgt := 1352) hC dL_law_40 (by decide) (by decide) (by decide) (by decide) rfl (by decide) (lc_gentlest hC hfl hX h i h01 hcs back)
  · exact jw_tabIn (tgt := 1420) hC dL_law_40 (by decide) (by decide) (by decide) (by decide) rfl (by decide) (lc_ifFolded hC hfl hX h i h01 hcs back)
  · exact jw_tabIn (tgt := 1476) hC dL_law_40 (by decide) (by decide) (by decide) (by decide) rfl (by decide) (lc_bestFold hC hfl hX h i h01 hcs back)
  · exact jw_tabIn (tgt := 1489) hC dL_law_40 (by decide) (by decide) (by decide) (by decide) rfl (by decide) (lc_alike hC hfl hX h i h01 hcs back)
  · exact jw_tabIn (tgt := 1557) hC dL_law_40 (by decide) (by decide) (by decide) (by decide) rfl (by decide) (lc_needed hC hfl hX h i h01 hcs back)
  · exact jw_tabIn (tgt := 1649) hC dL_law_40 (by decide) (by decide) (by decide) (by decide) rfl (by decide) (lc_wholeShare hC hfl hX h i h01 hcs back)
  · exact jw_tabIn (tgt := 1690) hC dL_law_40 (by decide) (by decide) (by decide) (by decide) rfl (by decide) (lc_digest hC hfl hX h i h01 hcs back)
  · exact jw_tabOut (tgt := 1704) hC dL_law_40 (Or.inr hv) (by omega) (by omega) (by decide) (jw_widen (Nat.le_add_right _ 1) (Nat.le_add_right _ 6) (back M h))
theorem lw_loop {p : Program} {l : Launch} {e : Env} {s : State} {m : MethodId} {args : Array Value} {below : List Frame} {meth : Method} {c : Code} {E : ewE} {A : Nat → Prop} {Q : State → Prop} {b N : Nat} {xs : Nat → Int32} (hC : jC p e room_1 s m args meth c E A code 9 "EmbossPressLaw" (some .boolean)) (hfl : l.stackTraces = false) (hX : lwX s E A b N xs)
    (kend : ∀ (i : Int) (M : ewM), jJ p l e room_1 s m args below meth c E A 9 601024 7293034 Q 1710 [(0, vR E 300), (1, vR E 77), (2, vR E 88), (3, vR E 97), (4, vI i)] [] M) : ∀ (n : Nat) (i : Int) (M : ewM), 0 ≤ i → i ≤ N → (N : Int) - i ≤ n → Rl M → jJ p l e room_1 s m args below meth c E A 9 (98 + i.toNat) (14065 + i.toNat) Q 23 [(0, vR E 300), (1, vR E 77), (2, vR E 88), (3, vR E 97), (4, vI i)] [] M := by
  intro n
  induction n with
  | zero => exact fun i M h0 h1 h2 h => lw_iter hC hfl hX kend h0 h1 h (fun h6 => by omega)
  | succ n ih => exact fun i M h0 h1 h2 h => lw_iter hC hfl hX kend h0 h1 h (fun h6 T hT => ih (i + 6) T (by omega) h6 (by omega) hT)
