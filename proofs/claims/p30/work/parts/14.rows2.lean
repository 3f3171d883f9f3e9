/-! MORE ROWS: whole arrays -/
def mset (M : ewM) (o : Nat) (f : Int → Int) : ewM := fun a => if a = o then f else M a
theorem mset_at (M : ewM) (o : Nat) (f : Int → Int) : mset M o f o = f := by unfold mset; rw [if_pos rfl]
theorem mset_ne (M : ewM) {o a : Nat} (f : Int → Int) (h : a ≠ o) : mset M o f a = M a := by unfold mset; rw [if_neg h]
theorem mset_S {M : ewM} {o : Nat} {f : Int → Int} (h : ew_S M) (hf : ∀ k : Int, -2147483648 ≤ f k ∧ f k < 2147483648) : ew_S (mset M o f) := by
  intro i k hi hk
  by_cases h9 : i = o
  · subst h9; rw [mset_at]; exact hf k
  · rw [mset_ne M f h9]; exact h i k hi hk
theorem mset_set (M : ewM) (o : Nat) (f g : Int → Int) : mset (mset M o f) o g = mset M o g := by
  funext a
  unfold mset
  split <;> rfl
theorem ew_len {E : ewE} {M : ewM} {k : Nat} {q : Nat × va_E} (h : (ew_ws E M)[k]? = some q) : k < 88 ∧ q = (E.1 k, ew_cell E k (M k)) := by
  have hk0 : k < 88 := by
    have := (List.getElem?_eq_some_iff.mp h).1
    unfold ew_ws at this
    rwa [List.length_map, List.length_range] at this
  rw [ew_get hk0] at h
  cases h
  exact ⟨hk0, rfl⟩
theorem ew_Dc {E : ewE} {A : Nat → Prop} {M M2 : ewM} (h : va_D A (ew_ws E M)) : va_D A (ew_ws E M2) := by
  refine ⟨fun i j p q hi hj hpq => ?_, fun k q hk => ?_⟩
  · obtain ⟨h1, rfl⟩ := ew_len hi
    obtain ⟨h2, rfl⟩ := ew_len hj
    exact h.1 i j _ _ (ew_get h1) (ew_get h2) hpq
  · obtain ⟨h1, rfl⟩ := ew_len hk
    exact h.2 k (E.1 k, ew_cell E k (M k)) (ew_get h1)
theorem arrV_cg {c : ClassId} {n : Nat} {f g : Nat → Value} (h : ∀ j, j < n → f j = g j) : arrV c n f = arrV c n g := by
  unfold arrV
  congr 1
  exact congrArg Array.ofFn (funext fun j => h j.1 j.2)
theorem ew_Px {E : ewE} {M : ewM} {H : Heap} {o t n : Nat} {g : Int → Int} (hP : va_P E.2.1 vwCl (ew_ws E M) H) (hA : ewA o t n) (hg : ∀ k : Int, 0 ≤ k → k < n → M o k = g k) : va_P E.2.1 vwCl (ew_ws E (mset M o g)) H := by
  intro k q hk
  obtain ⟨h1, rfl⟩ := ew_len hk
  have h2 := hP k _ (ew_get h1)
  by_cases h9 : k = o
  · subst h9
    rw [mset_at, hA.2.2]
    rw [hA.2.2] at h2
    refine h2.trans (congrArg some ?_)
    show arrV _ n (fun j => .int (Int32.ofInt (M k j))) = arrV _ n (fun j => .int (Int32.ofInt (g j)))
    exact arrV_cg fun j hj => by rw [hg j (by omega) (by omega)]
  · rw [mset_ne M g h9]
    exact h2
section JW2
variable {p : Program} {l : Launch} {e : Env} {R : Room} {s : State} {m : MethodId} {args : Array Value} {below : List Frame} {meth : Method} {c : Code} {E : ewE} {A : Nat → Prop} {cc : ByteArray} {nL : Nat} {own : String} {ret : Option FieldType} {cells slots : Nat} {Q : State → Prop} {pc : Nat} {L L' : List (Nat × Value)} {S : List Value} {M : ewM}
/-- an array, told by other words that agree in its places -/
theorem jw_ext {o t n : Nat} {g : Int → Int} (hA : ewA o t n) (hg : ∀ k : Int, 0 ≤ k → k < n → M o k = g k) (hb : ∀ k : Int, -2147483648 ≤ g k ∧ g k < 2147483648) (k : jJ p l e R s m args below meth c E A nL cells slots Q pc L S (mset M o g)) : jJ p l e R s m args below meth c E A nL cells slots Q pc L S M :=
  fun ls H locs hl hI => k ls H locs hl ⟨ew_Px hI.1 hA hg, ew_Dc hI.2.1, hI.2.2.1, mset_S hI.2.2.2 hb⟩
/-- the same world under another name -/
theorem jw_M {M2 : ewM} (h : M = M2) (k : jJ p l e R s m args below meth c E A nL cells slots Q pc L S M2) : jJ p l e R s m args below meth c E A nL cells slots Q pc L S M := h ▸ k
/-- the static System.arraycopy of a whole array of ints -/
theorem jw_copy (hC : jC p e R s m args meth c E A cc nL own ret) {idx o1 o2 n : Nat} (h1 : ewA o1 0 n) (h2 : ewA o2 0 n) (hn : n < 2147483648) (hd : decode cc pc = .ok (.invokestatic idx, 3)) (w1 : Cond.methodLink own idx arraycopyName ∈ WW) (w2 : Cond.native arraycopyName ∈ WW) (w3 : Cond.static arraycopyName ∈ WW) (w4 : Cond.initialized "java/lang/System" ∈ WW)
    (hR : 1 ≤ R.frames ∧ (S.map fun v => v.category).sum + (nativeFrameWords "java/lang/System" "arraycopy" 5 + 11) ≤ R.locals)
    (k : jJ p l e R s m args below meth c E A nL cells slots Q (pc + 3) L S (mset M o2 (M o1))) : jJ p l e R s m args below meth c E A nL cells slots Q pc L (vI n :: vI 0 :: vR E o2 :: vI 0 :: vR E o1 :: S) M := by
  intro ls H locs hl hI
  obtain ⟨hP, hD, hS, hS4⟩ := hI
  have hcn : (Int32.ofInt (n : Int)).toNatClampNeg = n := by have := e32_clamp (a := (n : Int)) (by omega) (by omega); omega
  have hc0 : (Int32.ofInt 0).toNatClampNeg = 0 := rfl
  have hz : ¬ Int32.ofInt 0 < 0 := by decide
  have hnz : ¬ Int32.ofInt (n : Int) < 0 := by
    intro h
    have := (e32_lt (a := (n : Int)) (b := 0) (by omega) (by omega) (by decide) (by decide)).mp h
    omega
  refine va_copyi hC.1 hC.2.1 (hC.2.2.1.trans hl.1.symm) hC.2.2.2.1 (hC.2.2.2.2.1 _ w1) (hC.2.2.2.2.1 _ w2) (hC.2.2.2.2.1 _ w3) (hC.2.2.2.2.1 _ w4) hC.2.2.2.2.2.1 hP hD hS o1 o2 0 0 (ty := .int) ((ew_get h1.1).trans (by rw [h1.2.2]; rfl)) ((ew_get h2.1).trans (by rw [h2.2.2]; rfl)) rfl rfl rfl hz hz hnz (by rw [hcn, hc0]; omega) (by rw [hcn, hc0]; omega) (fun _ _ => rfl) hR.1 hR.2 hd (fun H1 locs1 hP hD hS => ?_)
  have hP2 : va_P E.2.1 vwCl (ew_ws E (mset M o2 (M o1))) H1 := by
    intro i q hk
    obtain ⟨h3, rfl⟩ := ew_len hk
    by_cases h9 : i = o2
    · subst h9
      have hl9 : i < (ew_ws E M).length := by unfold ew_ws; rw [List.length_map, List.length_range]; exact h3
      have h4 := hP i (E.1 i, _) (List.getElem?_set_self hl9)
      rw [mset_at, h2.2.2]
      refine h4.trans (congrArg some ?_)
      show arrV (E.2.2.1 0) n (fun j => .int (va_cpy (fun k => Int32.ofInt (M o1 k)) (fun k => Int32.ofInt (M i k)) (Int32.ofInt 0).toNatClampNeg (Int32.ofInt 0).toNatClampNeg (Int32.ofInt (n : Int)).toNatClampNeg j)) = arrV (E.2.2.1 0) n (fun j => .int (Int32.ofInt (M o1 j)))
      refine arrV_cg fun j hj => ?_
      rw [hcn, hc0]
      unfold va_cpy
      rw [if_pos (by omega)]
      simp
    · rw [mset_ne M _ h9]
      exact hP i _ ((List.getElem?_set_ne (Ne.symm h9)).trans (ew_get h3))
  exact k ls H1 locs1 hl ⟨hP2, ew_Dc (M := M) (by
    refine ⟨fun i j x y hi hj hxy => ?_, fun k q hk => ?_⟩
    · obtain ⟨g1, rfl⟩ := ew_len hi
      obtain ⟨g2, rfl⟩ := ew_len hj
      have hl9 : ∀ {i : Nat}, i < 88 → i < (ew_ws E M).length := fun h => by unfold ew_ws; rw [List.length_map, List.length_range]; exact h
      have key : ∀ {i : Nat}, i < 88 → ∃ z : va_E, ((ew_ws E M).set o2 (E.1 o2, .inl (E.2.2.1 0, n, .inl (va_cpy (fun k => Int32.ofInt (M o1 k)) (fun k => Int32.ofInt (M o2 k)) (Int32.ofInt 0).toNatClampNeg (Int32.ofInt 0).toNatClampNeg (Int32.ofInt (n : Int)).toNatClampNeg))))[i]? = some (E.1 i, z) := by
        intro i hi
        by_cases h9 : i = o2
        · subst h9; exact ⟨_, List.getElem?_set_self (hl9 hi)⟩
        · exact ⟨_, (List.getElem?_set_ne (Ne.symm h9)).trans (ew_get hi)⟩
      obtain ⟨z1, k1⟩ := key g1
      obtain ⟨z2, k2⟩ := key g2
      exact hD.1 i j _ _ k1 k2 hxy
    · obtain ⟨g1, rfl⟩ := ew_len hk
      exact hC.2.2.2.2.2.2.2.2.2.1 k g1), hS, mset_S hS4 (fun k => hS4 o1 k h1.1 (fun h => h1.2.1 h.1))⟩
end JW2
