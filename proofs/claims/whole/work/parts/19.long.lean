/-! THE LONG FIELD of the reference (its hash) -/
theorem ew_Smu13 {M : ewM} (h : ew_S M) (x : Int) : ew_S (mu M 88 13 x) := by
  intro i k hi hk
  by_cases h1 : i = 88
  · subst h1
    rw [mu_nk _ _ _ (fun z => hk ⟨rfl, z⟩)]
    exact h 88 k hi hk
  · rw [mu_ne _ _ _ h1]
    exact h i k hi hk
section JW5
variable {p : Program} {l : Launch} {e : Env} {R : Room} {s : State} {m : MethodId} {args : Array Value} {below : List Frame} {meth : Method} {c : Code} {E : ewE} {A : Nat → Prop} {cc : ByteArray} {nL : Nat} {own : String} {ret : Option FieldType} {cells slots : Nat} {Q : State → Prop} {pc : Nat} {L L' : List (Nat × Value)} {S : List Value} {M : ewM}
theorem jw_getj (hC : jC p e R s m args meth c E A cc nL own ret) {idx : Nat} (hL : ewLr own idx 8 13) (hd : decode cc pc = .ok (.getfield idx, 3)) (k : jJ p l e R s m args below meth c E A nL cells slots Q (pc + 3) L (vJ (M 88 13) :: S) M) : jJ p l e R s m args below meth c E A nL cells slots Q pc L (vR E 88 :: S) M := by
  intro ls H locs hl hI
  obtain ⟨C, T, N, tys, ⟨k1, k2, k3, k4⟩, hk, hw⟩ := hL
  exact va_get hC.1 hC.2.1 hC.2.2.2.2.1 k2 hC.2.2.2.1 hC.2.2.2.2.2.1 hI.1 88 (ew_get (by decide)) k1 13 hk (hC.2.2.2.2.1 _ hw) (fun _ h9 => h9) rfl hd (k ls H locs hl hI)
theorem jw_putj (hC : jC p e R s m args meth c E A cc nL own ret) {idx : Nat} {x : Int} (hL : ewL own idx 8 13 .long) (hd : decode cc pc = .ok (.putfield idx, 3)) (k : jJ p l e R s m args below meth c E A nL cells slots Q (pc + 3) L S (mu M 88 13 x)) : jJ p l e R s m args below meth c E A nL cells slots Q pc L (vJ x :: vR E 88 :: S) M := by
  intro ls H locs hl hI
  obtain ⟨C, T, N, tys, ⟨k1, k2, k3, k4⟩, hk, hfin, hty, hw⟩ := hL
  obtain ⟨hP, hD, hS, hS4⟩ := hI
  refine va_put (ty := .long) (v := vJ x) hC.1 hC.2.1 hC.2.2.2.2.1 k2 tys k3 k4 hC.2.2.2.1 hC.2.2.2.2.2.1 hP hD hS 88 (ew_get (by decide)) k1 13 hk (hC.2.2.2.2.1 _ hw) (fun _ h9 => h9) hfin ((k3 13 hk).trans (by rw [hty])) rfl rfl (Nat.le_of_ble_eq_true rfl) hd (fun H1 locs1 hP hD hS => ?_)
  rw [ew_set (k := 13) (x := x) (by rfl)] at hP hD
  exact k ls H1 locs1 hl ⟨hP, hD, hS, ew_Smu13 hS4 x⟩
end JW5
