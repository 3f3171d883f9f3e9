set_option maxRecDepth 100000 in
set_option maxHeartbeats 4000000 in
theorem lw_entry {p : Program} {l : Launch} {e : Env} {s : State} {m : MethodId} {args : Array Value} {below : List Frame} {meth : Method} {c : Code} {D : va_G} {T : Nat → ClassId} {fv bb : Nat} {A : Nat → Prop} {Q : State → Prop} (hC : kC p s m args meth c D T fv A code 14 "EmbossPressLaw")
    (kk : ∀ (hP : Nat) (b : Nat → Nat) (a : Nat → Nat → Nat), kJ p l e room_1 s m args below meth c D A 14 88 7169 Q 10 [(0, .ref bb), (1, .ref hP), (2, vI 0)] [] (wS T hP b a)) : kJ p l e room_1 s m args below meth c D A 14 0 0 Q 0 [(0, .ref bb)] [] [] := by
  refine kw_makeP hC nw_press (fun h0 => k_X4_init l D T fv h0) w1_17 yk_X4 ⟨Nat.le_of_ble_eq_true rfl, Nat.le_of_ble_eq_true rfl⟩ ⟨Nat.le_of_ble_eq_true rfl, Nat.le_of_ble_eq_true rfl⟩ (Nat.le_of_ble_eq_true rfl) dL_law_0 dL_law_3 dL_law_4 (fun hP w1 hb1 => ?_)
  obtain ⟨b, a, rfl⟩ := hb1
  refine kw_astore_n (L' := [(1, .ref hP), (0, .ref bb)]) hC dL_law_7 rfl (by decide) rfl ?_
  refine kw_iconst hC dL_law_8 ?_
  refine kw_istore_n (L' := [(2, vI 0), (1, .ref hP), (0, .ref bb)]) hC dL_law_9 rfl (by decide) rfl ?_
  exact fun ls H locs hl hP9 hD hS => kk hP b a ls H locs (lv_sub hl [2, 1, 0] rfl) hP9 hD hS
