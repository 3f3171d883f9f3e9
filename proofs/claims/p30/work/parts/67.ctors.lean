/-! THE CONSTRUCTORS -/

/-- a new sheet -/
def shW (T : Nat → ClassId) (h0 : Nat) (a : Nat → Nat) : va_W := [(h0, .inr (5, [.ref (a 0), .ref (a 1), .ref (a 2), .ref (a 3)])), (a 0, kA T 0 144), (a 1, kA T 0 144), (a 2, kA T 0 144), (a 3, kA T 0 144)]
/-- a new state -/
def snW (T : Nat → ClassId) (h0 : Nat) (a : Nat → Nat) : va_W := [(h0, .inr (6, [.ref (a 0), .ref (a 1), .ref (a 2), vI 0, vI 0, vI 0, vI 0, vI 0, vI 1, vI 0, vI 0, vI 0, vI 0, vI 0, vI 0])), (a 0, kA T 0 75), (a 1, .inl (T 0, 4, .inl (fun k => Int32.ofInt (g_first k)))), (a 2, .inr (5, [.ref (a 3), .ref (a 4), .ref (a 5), .ref (a 6)])), (a 3, kA T 0 144), (a 4, kA T 0 144), (a 5, kA T 0 144), (a 6, kA T 0 144)]
def dtW (T : Nat → ClassId) (h0 : Nat) (a : Nat → Nat) : va_W := [(h0, .inr (4, [.ref (a 0), vI 0])), (a 0, kA T 0 40)]
def cfW (T : Nat → ClassId) (h0 : Nat) (a : Nat → Nat) : va_W := [(h0, .inr (3, [.ref (a 0), .ref (a 1), .ref (a 2), vI 0])), (a 0, kA T 0 144), (a 1, kA T 0 144), (a 2, kA T 0 144)]
theorem kA_int (N : Nat) (cA : ClassId) : vp_cell cA (N, .inl (fun _ => Int32.ofInt 0)) = arrV cA N (fun _ => defaultValue .int) := rfl
theorem kA_bool (N : Nat) (cA : ClassId) : vp_cell cA (N, .inl (fun _ => Int32.ofInt 0)) = arrV cA N (fun _ => defaultValue .boolean) := rfl
theorem lF_X4_12 : ewLf "EmbossPress" 12 7 0 (.object "EmbossPress$State") := ⟨_, _, _, _, eK_X4, by decide, rfl, rfl, rfl, w1_160⟩
theorem lF_X4_16 : ewLf "EmbossPress" 16 7 1 (.array (.object "EmbossPress$State")) := ⟨_, _, _, _, eK_X4, by decide, rfl, rfl, rfl, w1_161⟩
theorem lF_X4_20 : ewLf "EmbossPress" 20 7 2 (.array .boolean) := ⟨_, _, _, _, eK_X4, by decide, rfl, rfl, rfl, w1_162⟩
theorem lF_X4_24 : ewLf "EmbossPress" 24 7 3 (.array (.object "EmbossPress$State")) := ⟨_, _, _, _, eK_X4, by decide, rfl, rfl, rfl, w1_163⟩
theorem lF_X4_30 : ewLf "EmbossPress" 30 7 6 (.object "EmbossPress$DieText") := ⟨_, _, _, _, eK_X4, by decide, rfl, rfl, rfl, w1_166⟩
theorem lF_X4_34 : ewLf "EmbossPress" 34 7 7 (.array .int) := ⟨_, _, _, _, eK_X4, by decide, rfl, rfl, rfl, w1_167⟩
theorem lF_X4_41 : ewLf "EmbossPress" 41 7 8 (.object "EmbossPress$Sheet") := ⟨_, _, _, _, eK_X4, by decide, rfl, rfl, rfl, w1_168⟩
theorem lF_X4_48 : ewLf "EmbossPress" 48 7 9 (.object "EmbossPress$CrackFinder") := ⟨_, _, _, _, eK_X4, by decide, rfl, rfl, rfl, w1_169⟩
theorem lF_X0_9 : ewLf "EmbossPress$CrackFinder" 9 3 0 (.array .int) := ⟨_, _, _, _, eK_X0, by decide, rfl, rfl, rfl, w1_147⟩
theorem lF_X0_15 : ewLf "EmbossPress$CrackFinder" 15 3 1 (.array .int) := ⟨_, _, _, _, eK_X0, by decide, rfl, rfl, rfl, w1_148⟩
theorem lF_X0_18 : ewLf "EmbossPress$CrackFinder" 18 3 2 (.array .int) := ⟨_, _, _, _, eK_X0, by decide, rfl, rfl, rfl, w1_149⟩
theorem lF_X1_9 : ewLf "EmbossPress$DieText" 9 4 0 (.array .int) := ⟨_, _, _, _, eK_X1, by decide, rfl, rfl, rfl, w1_132⟩
theorem lF_X2_9 : ewLf "EmbossPress$Sheet" 9 5 0 (.array .int) := ⟨_, _, _, _, eK_X2, by decide, rfl, rfl, rfl, w1_44⟩
theorem lF_X2_15 : ewLf "EmbossPress$Sheet" 15 5 1 (.array .int) := ⟨_, _, _, _, eK_X2, by decide, rfl, rfl, rfl, w1_46⟩
theorem lF_X2_18 : ewLf "EmbossPress$Sheet" 18 5 2 (.array .int) := ⟨_, _, _, _, eK_X2, by decide, rfl, rfl, rfl, w1_49⟩
theorem lF_X2_21 : ewLf "EmbossPress$Sheet" 21 5 3 (.array .int) := ⟨_, _, _, _, eK_X2, by decide, rfl, rfl, rfl, w1_52⟩
theorem lF_X3_9 : ewLf "EmbossPress$State" 9 6 0 (.array .int) := ⟨_, _, _, _, eK_X3, by decide, rfl, rfl, rfl, w1_64⟩
theorem lF_X3_23 : ewLf "EmbossPress$State" 23 6 1 (.array .int) := ⟨_, _, _, _, eK_X3, by decide, rfl, rfl, rfl, w1_66⟩
theorem lF_X3_29 : ewLf "EmbossPress$State" 29 6 2 (.object "EmbossPress$Sheet") := ⟨_, _, _, _, eK_X3, by decide, rfl, rfl, rfl, w1_68⟩
theorem nw_sheet3 : ewNew "EmbossPress$State" 26 5 [.null, .null, .null, .null] := ⟨_, _, _, _, eK_X2, w1_38, w1_39, w1_3, fun j hj => by
  rcases (show j = 0 ∨ j = 1 ∨ j = 2 ∨ j = 3 by omega) with rfl | rfl | rfl | rfl <;> rfl, rfl⟩
theorem nw_sheet4 : ewNew "EmbossPress" 38 5 [.null, .null, .null, .null] := ⟨_, _, _, _, eK_X2, w1_139, w1_39, w1_3, fun j hj => by
  rcases (show j = 0 ∨ j = 1 ∨ j = 2 ∨ j = 3 by omega) with rfl | rfl | rfl | rfl <;> rfl, rfl⟩
theorem nw_state : ewNew "EmbossPress" 9 6 [.null, .null, .null, vI 0, vI 0, vI 0, vI 0, vI 0, vI 0, vI 0, vI 0, vI 0, vI 0, vI 0, vI 0] := ⟨_, _, _, _, eK_X3, w1_23, w1_24, w1_2, fun j hj => by
  rcases (show j = 0 ∨ j = 1 ∨ j = 2 ∨ j = 3 ∨ j = 4 ∨ j = 5 ∨ j = 6 ∨ j = 7 ∨ j = 8 ∨ j = 9 ∨ j = 10 ∨ j = 11 ∨ j = 12 ∨ j = 13 ∨ j = 14 by omega) with rfl | rfl | rfl | rfl | rfl | rfl | rfl | rfl | rfl | rfl | rfl | rfl | rfl | rfl | rfl <;> rfl, rfl⟩
theorem nw_text : ewNew "EmbossPress" 27 4 [.null, vI 0] := ⟨_, _, _, _, eK_X1, w1_126, w1_127, w1_4, fun j hj => by
  rcases (show j = 0 ∨ j = 1 by omega) with rfl | rfl <;> rfl, rfl⟩
theorem nw_finder : ewNew "EmbossPress" 45 3 [.null, .null, .null, vI 0] := ⟨_, _, _, _, eK_X0, w1_141, w1_142, w1_5, fun j hj => by
  rcases (show j = 0 ∨ j = 1 ∨ j = 2 ∨ j = 3 by omega) with rfl | rfl | rfl | rfl <;> rfl, rfl⟩
theorem nw_press : ewNew "EmbossPressLaw" 13 7 [.null, .null, .null, .null, vI 0, vI 0, .null, .null, .null, .null] := ⟨_, _, _, _, eK_X4, w1_15, w1_16, w1_1, fun j hj => by
  rcases (show j = 0 ∨ j = 1 ∨ j = 2 ∨ j = 3 ∨ j = 4 ∨ j = 5 ∨ j = 6 ∨ j = 7 ∨ j = 8 ∨ j = 9 by omega) with rfl | rfl | rfl | rfl | rfl | rfl | rfl | rfl | rfl | rfl <;> rfl, rfl⟩
theorem yk_X0 : Cond.code yX0_init cX0_init 1 none ∈ WW ∧ Cond.initialized yX0_init.cls ∈ WW ∧ Cond.instanceMethod yX0_init ∈ WW ∧ yX0_init.name = "<init>" ∧ (yX0_init.cls ≠ "java/lang/invoke/MethodHandle" ∧ yX0_init.cls ≠ "java/lang/invoke/VarHandle" ∧ (parseMethodDescriptor yX0_init.desc).map (fun d => d.parameters.length) = some 0) := ⟨w1_145, w1_5, w1_144, rfl, by decide +kernel, by decide +kernel, by decide +kernel⟩
theorem yk_X1 : Cond.code yX1_init cX1_init 1 none ∈ WW ∧ Cond.initialized yX1_init.cls ∈ WW ∧ Cond.instanceMethod yX1_init ∈ WW ∧ yX1_init.name = "<init>" ∧ (yX1_init.cls ≠ "java/lang/invoke/MethodHandle" ∧ yX1_init.cls ≠ "java/lang/invoke/VarHandle" ∧ (parseMethodDescriptor yX1_init.desc).map (fun d => d.parameters.length) = some 0) := ⟨w1_130, w1_4, w1_129, rfl, by decide +kernel, by decide +kernel, by decide +kernel⟩
theorem yk_X2 : Cond.code yX2_init cX2_init 1 none ∈ WW ∧ Cond.initialized yX2_init.cls ∈ WW ∧ Cond.instanceMethod yX2_init ∈ WW ∧ yX2_init.name = "<init>" ∧ (yX2_init.cls ≠ "java/lang/invoke/MethodHandle" ∧ yX2_init.cls ≠ "java/lang/invoke/VarHandle" ∧ (parseMethodDescriptor yX2_init.desc).map (fun d => d.parameters.length) = some 0) := ⟨w1_42, w1_3, w1_41, rfl, by decide +kernel, by decide +kernel, by decide +kernel⟩
theorem yk_X3 : Cond.code yX3_init cX3_init 1 none ∈ WW ∧ Cond.initialized yX3_init.cls ∈ WW ∧ Cond.instanceMethod yX3_init ∈ WW ∧ yX3_init.name = "<init>" ∧ (yX3_init.cls ≠ "java/lang/invoke/MethodHandle" ∧ yX3_init.cls ≠ "java/lang/invoke/VarHandle" ∧ (parseMethodDescriptor yX3_init.desc).map (fun d => d.parameters.length) = some 0) := ⟨w1_27, w1_2, w1_26, rfl, by decide +kernel, by decide +kernel, by decide +kernel⟩
theorem yk_X4 : Cond.code yX4_init cX4_init 2 none ∈ WW ∧ Cond.initialized yX4_init.cls ∈ WW ∧ Cond.instanceMethod yX4_init ∈ WW ∧ yX4_init.name = "<init>" ∧ (yX4_init.cls ≠ "java/lang/invoke/MethodHandle" ∧ yX4_init.cls ≠ "java/lang/invoke/VarHandle" ∧ (parseMethodDescriptor yX4_init.desc).map (fun d => d.parameters.length) = some 0) := ⟨w1_19, w1_1, w1_18, rfl, by decide +kernel, by decide +kernel, by decide +kernel⟩
theorem wc_18 : Jvm.Cond.methodLink "EmbossPress$State" (18 : Nat) (⟨"[I", "clone", "()Ljava/lang/Object;"⟩ : Jvm.MethodName) ∈ WW := ww_t1 31 (by decide +kernel) (by decide +kernel)
theorem wc_same : Jvm.Cond.sameMethod "[I" "java/lang/Object" "clone" "()Ljava/lang/Object;" ∈ WW := ww_t1 32 (by decide +kernel) (by decide +kernel)
theorem wc_19 : Jvm.Cond.classLink "EmbossPress$State" (19 : Nat) "[I" ∈ WW := ww_t1 37 (by decide +kernel) (by decide +kernel)
section KCL
variable {p : Program} {l : Launch} {e : Env} {R : Room} {s : State} {m : MethodId} {args : Array Value} {below : List Frame} {meth : Method} {c : Code} {D : va_G} {T : Nat → ClassId} {fv : Nat} {A : Nat → Prop} {cc : ByteArray} {nL : Nat} {cells slots : Nat} {Q : State → Prop} {pc : Nat} {L : List (Nat × Value)} {S : List Value} {ws : va_W}
theorem kw_first (hC : kC p s m args meth c D T fv A cc nL "EmbossPress$State") (hd : decode cc pc = .ok (.getstatic 15, 3)) (k : kJ p l e R s m args below meth c D A nL cells slots Q (pc + 3) L (.ref fv :: S) ws) : kJ p l e R s m args below meth c D A nL cells slots Q pc L S ws :=
  fun ls H locs hl hP hD hS => va_getsN hC.1 hC.2.1 hC.2.2.2.2.2.2.2.2.2.1 hS hC.2.2.2.1 (va_Nw.use rfl (hC.2.2.2.2.2.2.2.2.1.1.1 (Jvm.Cond.fieldLinkNest "EmbossPress$State" (15 : Nat) "EmbossPress" "FIRST_VALUES" "[I" "EmbossPress") (by decide +kernel))) (fun _ h => h) hd (k ls H locs hl hP hD hS)
theorem kw_clone (hC : kC p s m args meth c D T fv A cc nL "EmbossPress$State") (hcs : cells + 1 ≤ R.cells ∧ slots + 4 ≤ R.slots) (hR : 1 ≤ R.frames ∧ 22 ≤ R.locals) (hSS : (S.map fun v => v.category).sum ≤ 8) (hd : decode cc pc = .ok (.invokevirtual 18, 3))
    (k : ∀ q : Nat, kJ p l e R s m args below meth c D A nL (cells + 1) (slots + 4) Q (pc + 3) L (.ref q :: S) (ws ++ [(q, .inl (T 0, 4, .inl (fun k => Int32.ofInt (g_first k))))])) : kJ p l e R s m args below meth c D A nL cells slots Q pc L (.ref fv :: S) ws := by
  intro ls H locs hl hP hD hS
  obtain ⟨cell, a1, a2, a3, a4, a5, a6⟩ := hC.2.2.2.2.2.2.2.2.2.2
  have hnm : s.vm.findClass "[I" = some (T 0) := (hC.2.2.2.2.2.1.2 0 _ rfl).2
  obtain ⟨c0, t0', f1, f2, f3⟩ := Cond.castable_spec (va_Nw.use (A := args) rfl hC.2.2.2.2.2.2.2.2.1.2.1)
  cases hnm.symm.trans f1
  have hsz : cell.slots.size = 4 := by rw [a5]; exact arrV_size _ _ _
  have hcE : ({ cls := cell.cls, slots := cell.slots } : Cell) = vp_cell (T 0) (4, .inl (fun k => Int32.ofInt (g_first k))) := by rw [a4, a5]; rfl
  have hW : ∀ w : Cond, w ∈ WW → w.before args s = true := fun w hw => hC.2.2.2.2.1 w hw
  intro T9 hT X
  have hcH : H[fv]? = some cell := by rw [hS.2.1 fv (Array.getElem?_eq_some_iff.mp a1).1 a6]; exact a1
  have hcellT : T9.heap[fv]? = some cell := by rw [hT]; exact hcH
  obtain ⟨-, kA, hkA, comp, hkind⟩ := State.isArrayOf_alike X.warmed.alike ((hC.2.2.2.2.2.1.2 0 _ rfl).1 0 (fun _ => .null))
  obtain ⟨-, kS, hkS, compS, hkindS⟩ := (hC.2.2.2.2.2.1.2 0 _ rfl).1 0 (fun _ => .null)
  obtain ⟨vm', X', st⟩ := X.cloneArray hC.1 hC.2.2.2.1 (hW _ wc_18) (hW _ wc_same) (hW _ w1_33) (hW _ w1_34) (hW _ w1_35) (a := fv) (cell := cell) hcellT a2 a3 (by rw [a4]; exact hnm) f2 (by rw [a4]; exact f3)
    (fun i v hv => by
      rw [a4]
      have hk' : T9.vm.classes[T 0]? = some kA := hkA
      rw [a5] at hv
      have hfit : fits .int v = true := by
        have hi : i < 4 := by
          have := (Array.getElem?_eq_some_iff.mp hv).1
          rwa [show (vp_cell (T 0) (4, .inl (fun k => Int32.ofInt (g_first k)))).slots.size = 4 from arrV_size _ _ _] at this
        have h9 := arrV_read (T 0) (fun k => Value.int (Int32.ofInt (g_first k))) hi
        have h8 : (vp_cell (T 0) (4, .inl (fun k => Int32.ofInt (g_first k)))).slots[i]? = some (Value.int (Int32.ofInt (g_first i))) := h9
        rw [h8] at hv
        cases hv
        rfl
      simpa [State.fitsSlot, State.slotType?, hk', hkind] using hfit)
    (g := F0 m pc ls (.ref fv :: S)) rfl (by rw [hC.2.2.1]; exact hl.1) rfl (by rw [hC.2.1]; exact hd) hR.1 (by show 2 * 0 + _ + 14 ≤ _; omega) hcs.1 (by rw [hsz]; exact hcs.2) (hloader := by rw [a4]; exact Vm.clonesLoader_of_array hkS hkindS)
  rw [hcE, hsz] at X'
  generalize hH1 : H.push (vp_cell (T 0) (4, .inl (fun k => Int32.ofInt (g_first k)))) = H1
  have z1 : H1.size = H.size + 1 := by rw [← hH1, Array.size_push]
  have e1 : H1[H.size]? = some (vp_cell (T 0) (4, .inl (fun k => Int32.ofInt (g_first k)))) := by rw [← hH1, Array.getElem?_push_size]
  have o1 : ∀ q : Nat, q < H.size → H1[q]? = H[q]? := fun q hq => by rw [← hH1, Array.getElem?_push, if_neg (Nat.ne_of_lt hq)]
  have hk : ∀ (k : Nat) (y : Nat × va_E), ws[k]? = some y → H1[y.1]? = H[y.1]? := fun k y hy => o1 y.1 ((hP k y hy).lt)
  obtain ⟨t, b1, b2⟩ := k H.size ls H1 locs hl ((hP.kept hk).app (fun k y hy => by
      have hz : k < 1 := (List.getElem?_eq_some_iff.mp hy).1
      rw [show k = 0 by omega] at hy
      cases hy
      exact e1)) (hD.push hP rfl (hC.2.2.2.2.2.2.2.1 _ hS.1)) ⟨Nat.le_trans hS.1 (by omega), fun y h1 h2 => (o1 y (Nat.lt_of_lt_of_le h1 hS.1)).trans (hS.2.1 y h1 h2), hS.2.2⟩
    ((T9.setVm vm').pushCell (vp_cell (T 0) (4, .inl (fun k => Int32.ofInt (g_first k))))) (by rw [← hH1, ← hT]; rfl) X'
  refine ⟨t, st t ?_, b2⟩
  rw [hcE, hT]
  exact b1
/-- the cast behind the clone -/
theorem kw_cast (hC : kC p s m args meth c D T fv A cc nL "EmbossPress$State") {q q0 : Nat} {x : vp_A} (ha : ws[q0]? = some (q, .inl (T 0, x))) (hd : decode cc pc = .ok (.checkcast 19, 3)) (k : kJ p l e R s m args below meth c D A nL cells slots Q (pc + 3) L (.ref q :: S) ws) : kJ p l e R s m args below meth c D A nL cells slots Q pc L (.ref q :: S) ws :=
  fun ls H locs hl hP hD hS => va_castA hC.1 hC.2.1 hC.2.2.2.1 (hC.2.2.2.2.1 _ wc_19) hP q0 ha (hC.2.2.2.2.2.1.2 0 _ rfl).2 hd (k ls H locs hl hP hD hS)
end KCL
set_option maxRecDepth 100000 in
set_option maxHeartbeats 4000000 in
theorem k_X2_init (l : Launch) (D : va_G) (T : Nat → ClassId) (fv h0 : Nat) : Ck l D T fv yX2_init (.code yX2_init cX2_init 1 none) 2 4 576 h0 (.inr (5, [.null, .null, .null, .null])) (fun ws1 => ∃ a : Nat → Nat, ws1 = shW T h0 a) := by
  refine ck_of (by decide +kernel) rfl (Nat.le_of_ble_eq_true rfl) ?_
  intro zp ze zs zm za zb zt zc zA hC hr hin
  refine kw_aload_n hC dX2_init_0 0 rfl rfl ?_
  refine kw_obj hC w1_43 dX2_init_1 ⟨Nat.le_of_ble_eq_true rfl, Nat.le_of_ble_eq_true rfl⟩ ?_
  refine kw_aload_n hC dX2_init_4 0 rfl rfl ?_
  refine kw_sipush hC dX2_init_5 (by decide) ?_
  refine kw_newa hC (at0 := .int) 0 144 w1_63 rfl rfl (kA_int 144) (fun C h => by cases h) rfl (by decide) (by decide) ⟨Nat.le_of_ble_eq_true rfl, Nat.le_of_ble_eq_true rfl⟩ dX2_init_8 (fun q1 => ?_)
  refine kw_putF (ws' := ([(h0, .inr (5, [.ref q1, .null, .null, .null]))] ++ [(q1, kA T 0 144)])) hC (q0 := 0) hin lF_X2_9 rfl rfl rfl (Nat.le_of_ble_eq_true rfl) dX2_init_10 rfl ?_
  refine kw_aload_n hC dX2_init_13 0 rfl rfl ?_
  refine kw_sipush hC dX2_init_14 (by decide) ?_
  refine kw_newa hC (at0 := .int) 0 144 w1_63 rfl rfl (kA_int 144) (fun C h => by cases h) rfl (by decide) (by decide) ⟨Nat.le_of_ble_eq_true rfl, Nat.le_of_ble_eq_true rfl⟩ dX2_init_17 (fun q2 => ?_)
  refine kw_putF (ws' := (([(h0, .inr (5, [.ref q1, .ref q2, .null, .null]))] ++ [(q1, kA T 0 144)]) ++ [(q2, kA T 0 144)])) hC (q0 := 0) hin lF_X2_15 rfl rfl rfl (Nat.le_of_ble_eq_true rfl) dX2_init_19 rfl ?_
  refine kw_aload_n hC dX2_init_22 0 rfl rfl ?_
  refine kw_sipush hC dX2_init_23 (by decide) ?_
  refine kw_newa hC (at0 := .int) 0 144 w1_63 rfl rfl (kA_int 144) (fun C h => by cases h) rfl (by decide) (by decide) ⟨Nat.le_of_ble_eq_true rfl, Nat.le_of_ble_eq_true rfl⟩ dX2_init_26 (fun q3 => ?_)
  refine kw_putF (ws' := ((([(h0, .inr (5, [.ref q1, .ref q2, .ref q3, .null]))] ++ [(q1, kA T 0 144)]) ++ [(q2, kA T 0 144)]) ++ [(q3, kA T 0 144)])) hC (q0 := 0) hin lF_X2_18 rfl rfl rfl (Nat.le_of_ble_eq_true rfl) dX2_init_28 rfl ?_
  refine kw_aload_n hC dX2_init_31 0 rfl rfl ?_
  refine kw_sipush hC dX2_init_32 (by decide) ?_
  refine kw_newa hC (at0 := .int) 0 144 w1_63 rfl rfl (kA_int 144) (fun C h => by cases h) rfl (by decide) (by decide) ⟨Nat.le_of_ble_eq_true rfl, Nat.le_of_ble_eq_true rfl⟩ dX2_init_35 (fun q4 => ?_)
  refine kw_putF (ws' := (((([(h0, .inr (5, [.ref q1, .ref q2, .ref q3, .ref q4]))] ++ [(q1, kA T 0 144)]) ++ [(q2, kA T 0 144)]) ++ [(q3, kA T 0 144)]) ++ [(q4, kA T 0 144)])) hC (q0 := 0) hin lF_X2_21 rfl rfl rfl (Nat.le_of_ble_eq_true rfl) dX2_init_37 rfl ?_
  refine kw_vret hC hr dX2_init_40 ?_
  exact ⟨fun i => if i = 0 then q1 else if i = 1 then q2 else if i = 2 then q3 else q4, rfl⟩
set_option maxRecDepth 100000 in
set_option maxHeartbeats 4000000 in
theorem k_X3_init (l : Launch) (D : va_G) (T : Nat → ClassId) (fv h0 : Nat) : Ck l D T fv yX3_init (.code yX3_init cX3_init 1 none) 3 7 659 h0 (.inr (6, [.null, .null, .null, vI 0, vI 0, vI 0, vI 0, vI 0, vI 0, vI 0, vI 0, vI 0, vI 0, vI 0, vI 0])) (fun ws1 => ∃ a : Nat → Nat, ws1 = snW T h0 a) := by
  refine ck_of (by decide +kernel) rfl (Nat.le_of_ble_eq_true rfl) ?_
  intro zp ze zs zm za zb zt zc zA hC hr hin
  refine kw_aload_n hC dX3_init_0 0 rfl rfl ?_
  refine kw_obj hC w1_28 dX3_init_1 ⟨Nat.le_of_ble_eq_true rfl, Nat.le_of_ble_eq_true rfl⟩ ?_
  refine kw_aload_n hC dX3_init_4 0 rfl rfl ?_
  refine kw_bipush hC dX3_init_5 (by decide) ?_
  refine kw_newa hC (at0 := .int) 0 75 w1_63 rfl rfl (kA_int 75) (fun C h => by cases h) rfl (by decide) (by decide) ⟨Nat.le_of_ble_eq_true rfl, Nat.le_of_ble_eq_true rfl⟩ dX3_init_7 (fun q1 => ?_)
  refine kw_putF (ws' := ([(h0, .inr (6, [.ref q1, .null, .null, vI 0, vI 0, vI 0, vI 0, vI 0, vI 0, vI 0, vI 0, vI 0, vI 0, vI 0, vI 0]))] ++ [(q1, kA T 0 75)])) hC (q0 := 0) hin lF_X3_9 rfl rfl rfl (Nat.le_of_ble_eq_true rfl) dX3_init_9 rfl ?_
  refine kw_aload_n hC dX3_init_12 0 rfl rfl ?_
  refine kw_first hC dX3_init_13 ?_
  refine kw_clone hC ⟨Nat.le_of_ble_eq_true rfl, Nat.le_of_ble_eq_true rfl⟩ ⟨Nat.le_of_ble_eq_true rfl, Nat.le_of_ble_eq_true rfl⟩ (Nat.le_of_ble_eq_true rfl) dX3_init_16 (fun q2 => ?_)
  refine kw_cast hC (q0 := 2) rfl dX3_init_19 ?_
  refine kw_putF (ws' := (([(h0, .inr (6, [.ref q1, .ref q2, .null, vI 0, vI 0, vI 0, vI 0, vI 0, vI 0, vI 0, vI 0, vI 0, vI 0, vI 0, vI 0]))] ++ [(q1, kA T 0 75)]) ++ [(q2, .inl (T 0, 4, .inl (fun k => Int32.ofInt (g_first k))))])) hC (q0 := 0) hin lF_X3_23 rfl rfl rfl (Nat.le_of_ble_eq_true rfl) dX3_init_22 rfl ?_
  refine kw_aload_n hC dX3_init_25 0 rfl rfl ?_
  refine kw_makeN hC nw_sheet3 (fun h0 => k_X2_init l D T fv h0) (by decide +kernel) yk_X2 ⟨Nat.le_of_ble_eq_true rfl, Nat.le_of_ble_eq_true rfl⟩ ⟨Nat.le_of_ble_eq_true rfl, Nat.le_of_ble_eq_true rfl⟩ (Nat.le_of_ble_eq_true rfl) dX3_init_26 dX3_init_29 dX3_init_30 (fun q3 w3 hb3 => ?_)
  obtain ⟨a3, rfl⟩ := hb3
  refine kw_putF (ws' := ((([(h0, .inr (6, [.ref q1, .ref q2, .ref q3, vI 0, vI 0, vI 0, vI 0, vI 0, vI 0, vI 0, vI 0, vI 0, vI 0, vI 0, vI 0]))] ++ [(q1, kA T 0 75)]) ++ [(q2, .inl (T 0, 4, .inl (fun k => Int32.ofInt (g_first k))))]) ++ shW T q3 a3)) hC (q0 := 0) hin lF_X3_29 rfl rfl rfl (Nat.le_of_ble_eq_true rfl) dX3_init_33 rfl ?_
  refine kw_aload_n hC dX3_init_36 0 rfl rfl ?_
  refine kw_iconst hC dX3_init_37 ?_
  refine kw_puti (ws' := ((([(h0, .inr (6, [.ref q1, .ref q2, .ref q3, vI 0, vI 0, vI 0, vI 0, vI 0, vI 1, vI 0, vI 0, vI 0, vI 0, vI 0, vI 0]))] ++ [(q1, kA T 0 75)]) ++ [(q2, .inl (T 0, 4, .inl (fun k => Int32.ofInt (g_first k))))]) ++ shW T q3 a3)) hC (q0 := 0) fL_X3_33 rfl (Nat.le_of_ble_eq_true rfl) dX3_init_38 rfl ?_
  refine kw_vret hC hr dX3_init_41 ?_
  exact ⟨fun i => if i = 0 then q1 else if i = 1 then q2 else if i = 2 then q3 else a3 (i - 3), rfl⟩
set_option maxRecDepth 100000 in
set_option maxHeartbeats 4000000 in
theorem k_X1_init (l : Launch) (D : va_G) (T : Nat → ClassId) (fv h0 : Nat) : Ck l D T fv yX1_init (.code yX1_init cX1_init 1 none) 2 1 40 h0 (.inr (4, [.null, vI 0])) (fun ws1 => ∃ a : Nat → Nat, ws1 = dtW T h0 a) := by
  refine ck_of (by decide +kernel) rfl (Nat.le_of_ble_eq_true rfl) ?_
  intro zp ze zs zm za zb zt zc zA hC hr hin
  refine kw_aload_n hC dX1_init_0 0 rfl rfl ?_
  refine kw_obj hC w1_131 dX1_init_1 ⟨Nat.le_of_ble_eq_true rfl, Nat.le_of_ble_eq_true rfl⟩ ?_
  refine kw_aload_n hC dX1_init_4 0 rfl rfl ?_
  refine kw_bipush hC dX1_init_5 (by decide) ?_
  refine kw_newa hC (at0 := .int) 0 40 w1_63 rfl rfl (kA_int 40) (fun C h => by cases h) rfl (by decide) (by decide) ⟨Nat.le_of_ble_eq_true rfl, Nat.le_of_ble_eq_true rfl⟩ dX1_init_7 (fun q1 => ?_)
  refine kw_putF (ws' := ([(h0, .inr (4, [.ref q1, vI 0]))] ++ [(q1, kA T 0 40)])) hC (q0 := 0) hin lF_X1_9 rfl rfl rfl (Nat.le_of_ble_eq_true rfl) dX1_init_9 rfl ?_
  refine kw_vret hC hr dX1_init_12 ?_
  exact ⟨fun _ => q1, rfl⟩
set_option maxRecDepth 100000 in
set_option maxHeartbeats 4000000 in
theorem k_X0_init (l : Launch) (D : va_G) (T : Nat → ClassId) (fv h0 : Nat) : Ck l D T fv yX0_init (.code yX0_init cX0_init 1 none) 2 3 432 h0 (.inr (3, [.null, .null, .null, vI 0])) (fun ws1 => ∃ a : Nat → Nat, ws1 = cfW T h0 a) := by
  refine ck_of (by decide +kernel) rfl (Nat.le_of_ble_eq_true rfl) ?_
  intro zp ze zs zm za zb zt zc zA hC hr hin
  refine kw_aload_n hC dX0_init_0 0 rfl rfl ?_
  refine kw_obj hC w1_146 dX0_init_1 ⟨Nat.le_of_ble_eq_true rfl, Nat.le_of_ble_eq_true rfl⟩ ?_
  refine kw_aload_n hC dX0_init_4 0 rfl rfl ?_
  refine kw_sipush hC dX0_init_5 (by decide) ?_
  refine kw_newa hC (at0 := .int) 0 144 w1_63 rfl rfl (kA_int 144) (fun C h => by cases h) rfl (by decide) (by decide) ⟨Nat.le_of_ble_eq_true rfl, Nat.le_of_ble_eq_true rfl⟩ dX0_init_8 (fun q1 => ?_)
  refine kw_putF (ws' := ([(h0, .inr (3, [.ref q1, .null, .null, vI 0]))] ++ [(q1, kA T 0 144)])) hC (q0 := 0) hin lF_X0_9 rfl rfl rfl (Nat.le_of_ble_eq_true rfl) dX0_init_10 rfl ?_
  refine kw_aload_n hC dX0_init_13 0 rfl rfl ?_
  refine kw_sipush hC dX0_init_14 (by decide) ?_
  refine kw_newa hC (at0 := .int) 0 144 w1_63 rfl rfl (kA_int 144) (fun C h => by cases h) rfl (by decide) (by decide) ⟨Nat.le_of_ble_eq_true rfl, Nat.le_of_ble_eq_true rfl⟩ dX0_init_17 (fun q2 => ?_)
  refine kw_putF (ws' := (([(h0, .inr (3, [.ref q1, .ref q2, .null, vI 0]))] ++ [(q1, kA T 0 144)]) ++ [(q2, kA T 0 144)])) hC (q0 := 0) hin lF_X0_15 rfl rfl rfl (Nat.le_of_ble_eq_true rfl) dX0_init_19 rfl ?_
  refine kw_aload_n hC dX0_init_22 0 rfl rfl ?_
  refine kw_sipush hC dX0_init_23 (by decide) ?_
  refine kw_newa hC (at0 := .int) 0 144 w1_63 rfl rfl (kA_int 144) (fun C h => by cases h) rfl (by decide) (by decide) ⟨Nat.le_of_ble_eq_true rfl, Nat.le_of_ble_eq_true rfl⟩ dX0_init_26 (fun q3 => ?_)
  refine kw_putF (ws' := ((([(h0, .inr (3, [.ref q1, .ref q2, .ref q3, vI 0]))] ++ [(q1, kA T 0 144)]) ++ [(q2, kA T 0 144)]) ++ [(q3, kA T 0 144)])) hC (q0 := 0) hin lF_X0_18 rfl rfl rfl (Nat.le_of_ble_eq_true rfl) dX0_init_28 rfl ?_
  refine kw_vret hC hr dX0_init_31 ?_
  exact ⟨fun i => if i = 0 then q1 else if i = 1 then q2 else q3, rfl⟩
/-- a new object -/
def epW (T : Nat → ClassId) (h0 : Nat) (b : Nat → Nat) (a : Nat → Nat → Nat) : va_W := (((((((((((((((([(h0, .inr (7, [.ref (b 1), .ref (b 2), .ref (b 5), .ref (b 6), vI 0, vI 0, .ref (b 13), .ref (b 14), .ref (b 15), .ref (b 16)]))] ++ snW T (b 1) (a 1)) ++ [((b 2), .inl (T 3, 2, .inr (.inr (.inr (.inr (va_up (va_up (fun _ => none) 0 (some (b 3))) 1 (some (b 4))))))))]) ++ snW T (b 3) (a 3)) ++ snW T (b 4) (a 4)) ++ [((b 5), kA T 1 2)]) ++ [((b 6), .inl (T 3, 6, .inr (.inr (.inr (.inr (va_up (va_up (va_up (va_up (va_up (va_up (fun _ => none) 0 (some (b 7))) 1 (some (b 8))) 2 (some (b 9))) 3 (some (b 10))) 4 (some (b 11))) 5 (some (b 12))))))))]) ++ snW T (b 7) (a 7)) ++ snW T (b 8) (a 8)) ++ snW T (b 9) (a 9)) ++ snW T (b 10) (a 10)) ++ snW T (b 11) (a 11)) ++ snW T (b 12) (a 12)) ++ dtW T (b 13) (a 13)) ++ [((b 14), kA T 0 25)]) ++ shW T (b 15) (a 15)) ++ cfW T (b 16) (a 16))
set_option maxRecDepth 100000 in
set_option maxHeartbeats 4000000 in
theorem k_X4_init (l : Launch) (D : va_G) (T : Nat → ClassId) (fv h0 : Nat) : Ck l D T fv yX4_init (.code yX4_init cX4_init 2 none) 4 87 7159 h0 (.inr (7, [.null, .null, .null, .null, vI 0, vI 0, .null, .null, .null, .null])) (fun ws1 => ∃ (b : Nat → Nat) (a : Nat → Nat → Nat), ws1 = epW T h0 b a) := by
  refine ck_of (by decide +kernel) rfl (Nat.le_of_ble_eq_true rfl) ?_
  intro zp ze zs zm za zb zt zc zA hC hr hin
  refine kw_aload_n hC dX4_init_0 0 rfl rfl ?_
  refine kw_obj hC w1_20 dX4_init_1 ⟨Nat.le_of_ble_eq_true rfl, Nat.le_of_ble_eq_true rfl⟩ ?_
  refine kw_aload_n hC dX4_init_4 0 rfl rfl ?_
  refine kw_makeN hC nw_state (fun h0 => k_X3_init l D T fv h0) (by decide +kernel) yk_X3 ⟨Nat.le_of_ble_eq_true rfl, Nat.le_of_ble_eq_true rfl⟩ ⟨Nat.le_of_ble_eq_true rfl, Nat.le_of_ble_eq_true rfl⟩ (Nat.le_of_ble_eq_true rfl) dX4_init_5 dX4_init_8 dX4_init_9 (fun q1 w1 hb1 => ?_)
  obtain ⟨a1, rfl⟩ := hb1
  refine kw_putF (ws' := ([(h0, .inr (7, [.ref q1, .null, .null, .null, vI 0, vI 0, .null, .null, .null, .null]))] ++ snW T q1 a1)) hC (q0 := 0) hin lF_X4_12 rfl rfl rfl (Nat.le_of_ble_eq_true rfl) dX4_init_12 rfl ?_
  refine kw_aload_n hC dX4_init_15 0 rfl rfl ?_
  refine kw_iconst hC dX4_init_16 ?_
  refine kw_anew hC 2 w1_23 rfl (by decide) ⟨Nat.le_of_ble_eq_true rfl, Nat.le_of_ble_eq_true rfl⟩ dX4_init_17 (fun q2 => ?_)
  refine kw_putF (ws' := (([(h0, .inr (7, [.ref q1, .ref q2, .null, .null, vI 0, vI 0, .null, .null, .null, .null]))] ++ snW T q1 a1) ++ [(q2, .inl (T 3, 2, .inr (.inr (.inr (.inr (fun _ => none))))))])) hC (q0 := 0) hin lF_X4_16 rfl rfl rfl (Nat.le_of_ble_eq_true rfl) dX4_init_20 rfl ?_
  refine kw_iconst hC dX4_init_23 ?_
  refine kw_istore_n (L' := [(1, _), (0, _)]) hC dX4_init_24 rfl (by decide) rfl ?_
  refine kw_iload_n hC dX4_init_25 0 rfl rfl ?_
  refine kw_iconst hC dX4_init_26 ?_
  refine kw_lt (tgt := 49) hC dX4_init_27 (by decide) (by decide) ?_
  refine kw_aload_n hC dX4_init_30 1 rfl rfl ?_
  refine kw_getr hC (q0 := 0) fL_X4_16 rfl rfl dX4_init_31 ?_
  refine kw_iload_n hC dX4_init_34 0 rfl rfl ?_
  refine kw_makeN hC nw_state (fun h0 => k_X3_init l D T fv h0) (by decide +kernel) yk_X3 ⟨Nat.le_of_ble_eq_true rfl, Nat.le_of_ble_eq_true rfl⟩ ⟨Nat.le_of_ble_eq_true rfl, Nat.le_of_ble_eq_true rfl⟩ (Nat.le_of_ble_eq_true rfl) dX4_init_35 dX4_init_38 dX4_init_39 (fun q3 w3 hb3 => ?_)
  obtain ⟨a3, rfl⟩ := hb3
  refine kw_astq (ws' := ((([(h0, .inr (7, [.ref q1, .ref q2, .null, .null, vI 0, vI 0, .null, .null, .null, .null]))] ++ snW T q1 a1) ++ [(q2, .inl (T 3, 2, .inr (.inr (.inr (.inr (va_up (fun _ => none) 0 (some q3)))))))]) ++ snW T q3 a3)) hC (q0 := 9) (qk := 10) rfl rfl (by decide) dX4_init_42 rfl ?_
  refine kw_iinc (L' := [(1, vI 1), (0, _)]) hC dX4_init_43 0 rfl (by decide) rfl ?_
  refine kw_goto (tgt := 25) hC dX4_init_46 (by decide) ?_
  refine kw_iload_n hC dX4_init_25 0 rfl rfl ?_
  refine kw_iconst hC dX4_init_26 ?_
  refine kw_lt (tgt := 49) hC dX4_init_27 (by decide) (by decide) ?_
  refine kw_aload_n hC dX4_init_30 1 rfl rfl ?_
  refine kw_getr hC (q0 := 0) fL_X4_16 rfl rfl dX4_init_31 ?_
  refine kw_iload_n hC dX4_init_34 0 rfl rfl ?_
  refine kw_makeN hC nw_state (fun h0 => k_X3_init l D T fv h0) (by decide +kernel) yk_X3 ⟨Nat.le_of_ble_eq_true rfl, Nat.le_of_ble_eq_true rfl⟩ ⟨Nat.le_of_ble_eq_true rfl, Nat.le_of_ble_eq_true rfl⟩ (Nat.le_of_ble_eq_true rfl) dX4_init_35 dX4_init_38 dX4_init_39 (fun q4 w4 hb4 => ?_)
  obtain ⟨a4, rfl⟩ := hb4
  refine kw_astq (ws' := (((([(h0, .inr (7, [.ref q1, .ref q2, .null, .null, vI 0, vI 0, .null, .null, .null, .null]))] ++ snW T q1 a1) ++ [(q2, .inl (T 3, 2, .inr (.inr (.inr (.inr (va_up (va_up (fun _ => none) 0 (some q3)) 1 (some q4)))))))]) ++ snW T q3 a3) ++ snW T q4 a4)) hC (q0 := 9) (qk := 18) rfl rfl (by decide) dX4_init_42 rfl ?_
  refine kw_iinc (L' := [(1, vI 2), (0, _)]) hC dX4_init_43 0 rfl (by decide) rfl ?_
  refine kw_goto (tgt := 25) hC dX4_init_46 (by decide) ?_
  refine kw_iload_n hC dX4_init_25 0 rfl rfl ?_
  refine kw_iconst hC dX4_init_26 ?_
  refine kw_ge (tgt := 49) hC dX4_init_27 (by decide) (by decide) ?_
  refine kw_aload_n hC dX4_init_49 1 rfl rfl ?_
  refine kw_iconst hC dX4_init_50 ?_
  refine kw_newa hC (at0 := .boolean) 1 2 w1_138 rfl rfl (kA_bool 2) (fun C h => by cases h) rfl (by decide) (by decide) ⟨Nat.le_of_ble_eq_true rfl, Nat.le_of_ble_eq_true rfl⟩ dX4_init_51 (fun q5 => ?_)
  refine kw_putF (ws' := ((((([(h0, .inr (7, [.ref q1, .ref q2, .ref q5, .null, vI 0, vI 0, .null, .null, .null, .null]))] ++ snW T q1 a1) ++ [(q2, .inl (T 3, 2, .inr (.inr (.inr (.inr (va_up (va_up (fun _ => none) 0 (some q3)) 1 (some q4)))))))]) ++ snW T q3 a3) ++ snW T q4 a4) ++ [(q5, kA T 1 2)])) hC (q0 := 0) hin lF_X4_20 rfl rfl rfl (Nat.le_of_ble_eq_true rfl) dX4_init_53 rfl ?_
  refine kw_aload_n hC dX4_init_56 1 rfl rfl ?_
  refine kw_bipush hC dX4_init_57 (by decide) ?_
  refine kw_anew hC 6 w1_23 rfl (by decide) ⟨Nat.le_of_ble_eq_true rfl, Nat.le_of_ble_eq_true rfl⟩ dX4_init_59 (fun q6 => ?_)
  refine kw_putF (ws' := (((((([(h0, .inr (7, [.ref q1, .ref q2, .ref q5, .ref q6, vI 0, vI 0, .null, .null, .null, .null]))] ++ snW T q1 a1) ++ [(q2, .inl (T 3, 2, .inr (.inr (.inr (.inr (va_up (va_up (fun _ => none) 0 (some q3)) 1 (some q4)))))))]) ++ snW T q3 a3) ++ snW T q4 a4) ++ [(q5, kA T 1 2)]) ++ [(q6, .inl (T 3, 6, .inr (.inr (.inr (.inr (fun _ => none))))))])) hC (q0 := 0) hin lF_X4_24 rfl rfl rfl (Nat.le_of_ble_eq_true rfl) dX4_init_62 rfl ?_
  refine kw_iconst hC dX4_init_65 ?_
  refine kw_istore_n (L' := [(1, _), (0, _)]) hC dX4_init_66 rfl (by decide) rfl ?_
  refine kw_iload_n hC dX4_init_67 0 rfl rfl ?_
  refine kw_bipush hC dX4_init_68 (by decide) ?_
  refine kw_lt (tgt := 92) hC dX4_init_70 (by decide) (by decide) ?_
  refine kw_aload_n hC dX4_init_73 1 rfl rfl ?_
  refine kw_getr hC (q0 := 0) fL_X4_24 rfl rfl dX4_init_74 ?_
  refine kw_iload_n hC dX4_init_77 0 rfl rfl ?_
  refine kw_makeN hC nw_state (fun h0 => k_X3_init l D T fv h0) (by decide +kernel) yk_X3 ⟨Nat.le_of_ble_eq_true rfl, Nat.le_of_ble_eq_true rfl⟩ ⟨Nat.le_of_ble_eq_true rfl, Nat.le_of_ble_eq_true rfl⟩ (Nat.le_of_ble_eq_true rfl) dX4_init_78 dX4_init_81 dX4_init_82 (fun q7 w7 hb7 => ?_)
  obtain ⟨a7, rfl⟩ := hb7
  refine kw_astq (ws' := ((((((([(h0, .inr (7, [.ref q1, .ref q2, .ref q5, .ref q6, vI 0, vI 0, .null, .null, .null, .null]))] ++ snW T q1 a1) ++ [(q2, .inl (T 3, 2, .inr (.inr (.inr (.inr (va_up (va_up (fun _ => none) 0 (some q3)) 1 (some q4)))))))]) ++ snW T q3 a3) ++ snW T q4 a4) ++ [(q5, kA T 1 2)]) ++ [(q6, .inl (T 3, 6, .inr (.inr (.inr (.inr (va_up (fun _ => none) 0 (some q7)))))))]) ++ snW T q7 a7)) hC (q0 := 27) (qk := 28) rfl rfl (by decide) dX4_init_85 rfl ?_
  refine kw_iinc (L' := [(1, vI 1), (0, _)]) hC dX4_init_86 0 rfl (by decide) rfl ?_
  refine kw_goto (tgt := 67) hC dX4_init_89 (by decide) ?_
  refine kw_iload_n hC dX4_init_67 0 rfl rfl ?_
  refine kw_bipush hC dX4_init_68 (by decide) ?_
  refine kw_lt (tgt := 92) hC dX4_init_70 (by decide) (by decide) ?_
  refine kw_aload_n hC dX4_init_73 1 rfl rfl ?_
  refine kw_getr hC (q0 := 0) fL_X4_24 rfl rfl dX4_init_74 ?_
  refine kw_iload_n hC dX4_init_77 0 rfl rfl ?_
  refine kw_makeN hC nw_state (fun h0 => k_X3_init l D T fv h0) (by decide +kernel) yk_X3 ⟨Nat.le_of_ble_eq_true rfl, Nat.le_of_ble_eq_true rfl⟩ ⟨Nat.le_of_ble_eq_true rfl, Nat.le_of_ble_eq_true rfl⟩ (Nat.le_of_ble_eq_true rfl) dX4_init_78 dX4_init_81 dX4_init_82 (fun q8 w8 hb8 => ?_)
  obtain ⟨a8, rfl⟩ := hb8
  refine kw_astq (ws' := (((((((([(h0, .inr (7, [.ref q1, .ref q2, .ref q5, .ref q6, vI 0, vI 0, .null, .null, .null, .null]))] ++ snW T q1 a1) ++ [(q2, .inl (T 3, 2, .inr (.inr (.inr (.inr (va_up (va_up (fun _ => none) 0 (some q3)) 1 (some q4)))))))]) ++ snW T q3 a3) ++ snW T q4 a4) ++ [(q5, kA T 1 2)]) ++ [(q6, .inl (T 3, 6, .inr (.inr (.inr (.inr (va_up (va_up (fun _ => none) 0 (some q7)) 1 (some q8)))))))]) ++ snW T q7 a7) ++ snW T q8 a8)) hC (q0 := 27) (qk := 36) rfl rfl (by decide) dX4_init_85 rfl ?_
  refine kw_iinc (L' := [(1, vI 2), (0, _)]) hC dX4_init_86 0 rfl (by decide) rfl ?_
  refine kw_goto (tgt := 67) hC dX4_init_89 (by decide) ?_
  refine kw_iload_n hC dX4_init_67 0 rfl rfl ?_
  refine kw_bipush hC dX4_init_68 (by decide) ?_
  refine kw_lt (tgt := 92) hC dX4_init_70 (by decide) (by decide) ?_
  refine kw_aload_n hC dX4_init_73 1 rfl rfl ?_
  refine kw_getr hC (q0 := 0) fL_X4_24 rfl rfl dX4_init_74 ?_
  refine kw_iload_n hC dX4_init_77 0 rfl rfl ?_
  refine kw_makeN hC nw_state (fun h0 => k_X3_init l D T fv h0) (by decide +kernel) yk_X3 ⟨Nat.le_of_ble_eq_true rfl, Nat.le_of_ble_eq_true rfl⟩ ⟨Nat.le_of_ble_eq_true rfl, Nat.le_of_ble_eq_true rfl⟩ (Nat.le_of_ble_eq_true rfl) dX4_init_78 dX4_init_81 dX4_init_82 (fun q9 w9 hb9 => ?_)
  obtain ⟨a9, rfl⟩ := hb9
  refine kw_astq (ws' := ((((((((([(h0, .inr (7, [.ref q1, .ref q2, .ref q5, .ref q6, vI 0, vI 0, .null, .null, .null, .null]))] ++ snW T q1 a1) ++ [(q2, .inl (T 3, 2, .inr (.inr (.inr (.inr (va_up (va_up (fun _ => none) 0 (some q3)) 1 (some q4)))))))]) ++ snW T q3 a3) ++ snW T q4 a4) ++ [(q5, kA T 1 2)]) ++ [(q6, .inl (T 3, 6, .inr (.inr (.inr (.inr (va_up (va_up (va_up (fun _ => none) 0 (some q7)) 1 (some q8)) 2 (some q9)))))))]) ++ snW T q7 a7) ++ snW T q8 a8) ++ snW T q9 a9)) hC (q0 := 27) (qk := 44) rfl rfl (by decide) dX4_init_85 rfl ?_
  refine kw_iinc (L' := [(1, vI 3), (0, _)]) hC dX4_init_86 0 rfl (by decide) rfl ?_
  refine kw_goto (tgt := 67) hC dX4_init_89 (by decide) ?_
  refine kw_iload_n hC dX4_init_67 0 rfl rfl ?_
  refine kw_bipush hC dX4_init_68 (by decide) ?_
  refine kw_lt (tgt := 92) hC dX4_init_70 (by decide) (by decide) ?_
  refine kw_aload_n hC dX4_init_73 1 rfl rfl ?_
  refine kw_getr hC (q0 := 0) fL_X4_24 rfl rfl dX4_init_74 ?_
  refine kw_iload_n hC dX4_init_77 0 rfl rfl ?_
  refine kw_makeN hC nw_state (fun h0 => k_X3_init l D T fv h0) (by decide +kernel) yk_X3 ⟨Nat.le_of_ble_eq_true rfl, Nat.le_of_ble_eq_true rfl⟩ ⟨Nat.le_of_ble_eq_true rfl, Nat.le_of_ble_eq_true rfl⟩ (Nat.le_of_ble_eq_true rfl) dX4_init_78 dX4_init_81 dX4_init_82 (fun q10 w10 hb10 => ?_)
  obtain ⟨a10, rfl⟩ := hb10
  refine kw_astq (ws' := (((((((((([(h0, .inr (7, [.ref q1, .ref q2, .ref q5, .ref q6, vI 0, vI 0, .null, .null, .null, .null]))] ++ snW T q1 a1) ++ [(q2, .inl (T 3, 2, .inr (.inr (.inr (.inr (va_up (va_up (fun _ => none) 0 (some q3)) 1 (some q4)))))))]) ++ snW T q3 a3) ++ snW T q4 a4) ++ [(q5, kA T 1 2)]) ++ [(q6, .inl (T 3, 6, .inr (.inr (.inr (.inr (va_up (va_up (va_up (va_up (fun _ => none) 0 (some q7)) 1 (some q8)) 2 (some q9)) 3 (some q10)))))))]) ++ snW T q7 a7) ++ snW T q8 a8) ++ snW T q9 a9) ++ snW T q10 a10)) hC (q0 := 27) (qk := 52) rfl rfl (by decide) dX4_init_85 rfl ?_
  refine kw_iinc (L' := [(1, vI 4), (0, _)]) hC dX4_init_86 0 rfl (by decide) rfl ?_
  refine kw_goto (tgt := 67) hC dX4_init_89 (by decide) ?_
  refine kw_iload_n hC dX4_init_67 0 rfl rfl ?_
  refine kw_bipush hC dX4_init_68 (by decide) ?_
  refine kw_lt (tgt := 92) hC dX4_init_70 (by decide) (by decide) ?_
  refine kw_aload_n hC dX4_init_73 1 rfl rfl ?_
  refine kw_getr hC (q0 := 0) fL_X4_24 rfl rfl dX4_init_74 ?_
  refine kw_iload_n hC dX4_init_77 0 rfl rfl ?_
  refine kw_makeN hC nw_state (fun h0 => k_X3_init l D T fv h0) (by decide +kernel) yk_X3 ⟨Nat.le_of_ble_eq_true rfl, Nat.le_of_ble_eq_true rfl⟩ ⟨Nat.le_of_ble_eq_true rfl, Nat.le_of_ble_eq_true rfl⟩ (Nat.le_of_ble_eq_true rfl) dX4_init_78 dX4_init_81 dX4_init_82 (fun q11 w11 hb11 => ?_)
  obtain ⟨a11, rfl⟩ := hb11
  refine kw_astq (ws' := ((((((((((([(h0, .inr (7, [.ref q1, .ref q2, .ref q5, .ref q6, vI 0, vI 0, .null, .null, .null, .null]))] ++ snW T q1 a1) ++ [(q2, .inl (T 3, 2, .inr (.inr (.inr (.inr (va_up (va_up (fun _ => none) 0 (some q3)) 1 (some q4)))))))]) ++ snW T q3 a3) ++ snW T q4 a4) ++ [(q5, kA T 1 2)]) ++ [(q6, .inl (T 3, 6, .inr (.inr (.inr (.inr (va_up (va_up (va_up (va_up (va_up (fun _ => none) 0 (some q7)) 1 (some q8)) 2 (some q9)) 3 (some q10)) 4 (some q11)))))))]) ++ snW T q7 a7) ++ snW T q8 a8) ++ snW T q9 a9) ++ snW T q10 a10) ++ snW T q11 a11)) hC (q0 := 27) (qk := 60) rfl rfl (by decide) dX4_init_85 rfl ?_
  refine kw_iinc (L' := [(1, vI 5), (0, _)]) hC dX4_init_86 0 rfl (by decide) rfl ?_
  refine kw_goto (tgt := 67) hC dX4_init_89 (by decide) ?_
  refine kw_iload_n hC dX4_init_67 0 rfl rfl ?_
  refine kw_bipush hC dX4_init_68 (by decide) ?_
  refine kw_lt (tgt := 92) hC dX4_init_70 (by decide) (by decide) ?_
  refine kw_aload_n hC dX4_init_73 1 rfl rfl ?_
  refine kw_getr hC (q0 := 0) fL_X4_24 rfl rfl dX4_init_74 ?_
  refine kw_iload_n hC dX4_init_77 0 rfl rfl ?_
  refine kw_makeN hC nw_state (fun h0 => k_X3_init l D T fv h0) (by decide +kernel) yk_X3 ⟨Nat.le_of_ble_eq_true rfl, Nat.le_of_ble_eq_true rfl⟩ ⟨Nat.le_of_ble_eq_true rfl, Nat.le_of_ble_eq_true rfl⟩ (Nat.le_of_ble_eq_true rfl) dX4_init_78 dX4_init_81 dX4_init_82 (fun q12 w12 hb12 => ?_)
  obtain ⟨a12, rfl⟩ := hb12
  refine kw_astq (ws' := (((((((((((([(h0, .inr (7, [.ref q1, .ref q2, .ref q5, .ref q6, vI 0, vI 0, .null, .null, .null, .null]))] ++ snW T q1 a1) ++ [(q2, .inl (T 3, 2, .inr (.inr (.inr (.inr (va_up (va_up (fun _ => none) 0 (some q3)) 1 (some q4)))))))]) ++ snW T q3 a3) ++ snW T q4 a4) ++ [(q5, kA T 1 2)]) ++ [(q6, .inl (T 3, 6, .inr (.inr (.inr (.inr (va_up (va_up (va_up (va_up (va_up (va_up (fun _ => none) 0 (some q7)) 1 (some q8)) 2 (some q9)) 3 (some q10)) 4 (some q11)) 5 (some q12)))))))]) ++ snW T q7 a7) ++ snW T q8 a8) ++ snW T q9 a9) ++ snW T q10 a10) ++ snW T q11 a11) ++ snW T q12 a12)) hC (q0 := 27) (qk := 68) rfl rfl (by decide) dX4_init_85 rfl ?_
  refine kw_iinc (L' := [(1, vI 6), (0, _)]) hC dX4_init_86 0 rfl (by decide) rfl ?_
  refine kw_goto (tgt := 67) hC dX4_init_89 (by decide) ?_
  refine kw_iload_n hC dX4_init_67 0 rfl rfl ?_
  refine kw_bipush hC dX4_init_68 (by decide) ?_
  refine kw_ge (tgt := 92) hC dX4_init_70 (by decide) (by decide) ?_
  refine kw_aload_n hC dX4_init_92 1 rfl rfl ?_
  refine kw_makeN hC nw_text (fun h0 => k_X1_init l D T fv h0) (by decide +kernel) yk_X1 ⟨Nat.le_of_ble_eq_true rfl, Nat.le_of_ble_eq_true rfl⟩ ⟨Nat.le_of_ble_eq_true rfl, Nat.le_of_ble_eq_true rfl⟩ (Nat.le_of_ble_eq_true rfl) dX4_init_93 dX4_init_96 dX4_init_97 (fun q13 w13 hb13 => ?_)
  obtain ⟨a13, rfl⟩ := hb13
  refine kw_putF (ws' := ((((((((((((([(h0, .inr (7, [.ref q1, .ref q2, .ref q5, .ref q6, vI 0, vI 0, .ref q13, .null, .null, .null]))] ++ snW T q1 a1) ++ [(q2, .inl (T 3, 2, .inr (.inr (.inr (.inr (va_up (va_up (fun _ => none) 0 (some q3)) 1 (some q4)))))))]) ++ snW T q3 a3) ++ snW T q4 a4) ++ [(q5, kA T 1 2)]) ++ [(q6, .inl (T 3, 6, .inr (.inr (.inr (.inr (va_up (va_up (va_up (va_up (va_up (va_up (fun _ => none) 0 (some q7)) 1 (some q8)) 2 (some q9)) 3 (some q10)) 4 (some q11)) 5 (some q12)))))))]) ++ snW T q7 a7) ++ snW T q8 a8) ++ snW T q9 a9) ++ snW T q10 a10) ++ snW T q11 a11) ++ snW T q12 a12) ++ dtW T q13 a13)) hC (q0 := 0) hin lF_X4_30 rfl rfl rfl (Nat.le_of_ble_eq_true rfl) dX4_init_100 rfl ?_
  refine kw_aload_n hC dX4_init_103 1 rfl rfl ?_
  refine kw_bipush hC dX4_init_104 (by decide) ?_
  refine kw_newa hC (at0 := .int) 0 25 w1_63 rfl rfl (kA_int 25) (fun C h => by cases h) rfl (by decide) (by decide) ⟨Nat.le_of_ble_eq_true rfl, Nat.le_of_ble_eq_true rfl⟩ dX4_init_106 (fun q14 => ?_)
  refine kw_putF (ws' := (((((((((((((([(h0, .inr (7, [.ref q1, .ref q2, .ref q5, .ref q6, vI 0, vI 0, .ref q13, .ref q14, .null, .null]))] ++ snW T q1 a1) ++ [(q2, .inl (T 3, 2, .inr (.inr (.inr (.inr (va_up (va_up (fun _ => none) 0 (some q3)) 1 (some q4)))))))]) ++ snW T q3 a3) ++ snW T q4 a4) ++ [(q5, kA T 1 2)]) ++ [(q6, .inl (T 3, 6, .inr (.inr (.inr (.inr (va_up (va_up (va_up (va_up (va_up (va_up (fun _ => none) 0 (some q7)) 1 (some q8)) 2 (some q9)) 3 (some q10)) 4 (some q11)) 5 (some q12)))))))]) ++ snW T q7 a7) ++ snW T q8 a8) ++ snW T q9 a9) ++ snW T q10 a10) ++ snW T q11 a11) ++ snW T q12 a12) ++ dtW T q13 a13) ++ [(q14, kA T 0 25)])) hC (q0 := 0) hin lF_X4_34 rfl rfl rfl (Nat.le_of_ble_eq_true rfl) dX4_init_108 rfl ?_
  refine kw_aload_n hC dX4_init_111 1 rfl rfl ?_
  refine kw_makeN hC nw_sheet4 (fun h0 => k_X2_init l D T fv h0) (by decide +kernel) yk_X2 ⟨Nat.le_of_ble_eq_true rfl, Nat.le_of_ble_eq_true rfl⟩ ⟨Nat.le_of_ble_eq_true rfl, Nat.le_of_ble_eq_true rfl⟩ (Nat.le_of_ble_eq_true rfl) dX4_init_112 dX4_init_115 dX4_init_116 (fun q15 w15 hb15 => ?_)
  obtain ⟨a15, rfl⟩ := hb15
  refine kw_putF (ws' := ((((((((((((((([(h0, .inr (7, [.ref q1, .ref q2, .ref q5, .ref q6, vI 0, vI 0, .ref q13, .ref q14, .ref q15, .null]))] ++ snW T q1 a1) ++ [(q2, .inl (T 3, 2, .inr (.inr (.inr (.inr (va_up (va_up (fun _ => none) 0 (some q3)) 1 (some q4)))))))]) ++ snW T q3 a3) ++ snW T q4 a4) ++ [(q5, kA T 1 2)]) ++ [(q6, .inl (T 3, 6, .inr (.inr (.inr (.inr (va_up (va_up (va_up (va_up (va_up (va_up (fun _ => none) 0 (some q7)) 1 (some q8)) 2 (some q9)) 3 (some q10)) 4 (some q11)) 5 (some q12)))))))]) ++ snW T q7 a7) ++ snW T q8 a8) ++ snW T q9 a9) ++ snW T q10 a10) ++ snW T q11 a11) ++ snW T q12 a12) ++ dtW T q13 a13) ++ [(q14, kA T 0 25)]) ++ shW T q15 a15)) hC (q0 := 0) hin lF_X4_41 rfl rfl rfl (Nat.le_of_ble_eq_true rfl) dX4_init_119 rfl ?_
  refine kw_aload_n hC dX4_init_122 1 rfl rfl ?_
  refine kw_makeN hC nw_finder (fun h0 => k_X0_init l D T fv h0) (by decide +kernel) yk_X0 ⟨Nat.le_of_ble_eq_true rfl, Nat.le_of_ble_eq_true rfl⟩ ⟨Nat.le_of_ble_eq_true rfl, Nat.le_of_ble_eq_true rfl⟩ (Nat.le_of_ble_eq_true rfl) dX4_init_123 dX4_init_126 dX4_init_127 (fun q16 w16 hb16 => ?_)
  obtain ⟨a16, rfl⟩ := hb16
  refine kw_putF (ws' := (((((((((((((((([(h0, .inr (7, [.ref q1, .ref q2, .ref q5, .ref q6, vI 0, vI 0, .ref q13, .ref q14, .ref q15, .ref q16]))] ++ snW T q1 a1) ++ [(q2, .inl (T 3, 2, .inr (.inr (.inr (.inr (va_up (va_up (fun _ => none) 0 (some q3)) 1 (some q4)))))))]) ++ snW T q3 a3) ++ snW T q4 a4) ++ [(q5, kA T 1 2)]) ++ [(q6, .inl (T 3, 6, .inr (.inr (.inr (.inr (va_up (va_up (va_up (va_up (va_up (va_up (fun _ => none) 0 (some q7)) 1 (some q8)) 2 (some q9)) 3 (some q10)) 4 (some q11)) 5 (some q12)))))))]) ++ snW T q7 a7) ++ snW T q8 a8) ++ snW T q9 a9) ++ snW T q10 a10) ++ snW T q11 a11) ++ snW T q12 a12) ++ dtW T q13 a13) ++ [(q14, kA T 0 25)]) ++ shW T q15 a15) ++ cfW T q16 a16)) hC (q0 := 0) hin lF_X4_48 rfl rfl rfl (Nat.le_of_ble_eq_true rfl) dX4_init_130 rfl ?_
  refine kw_vret hC hr dX4_init_133 ?_
  exact ⟨fun i => if i = 1 then q1 else if i = 2 then q2 else if i = 3 then q3 else if i = 4 then q4 else if i = 5 then q5 else if i = 6 then q6 else if i = 7 then q7 else if i = 8 then q8 else if i = 9 then q9 else if i = 10 then q10 else if i = 11 then q11 else if i = 12 then q12 else if i = 13 then q13 else if i = 14 then q14 else if i = 15 then q15 else q16, fun i => if i = 1 then a1 else if i = 3 then a3 else if i = 4 then a4 else if i = 7 then a7 else if i = 8 then a8 else if i = 9 then a9 else if i = 10 then a10 else if i = 11 then a11 else if i = 12 then a12 else if i = 13 then a13 else if i = 15 then a15 else a16, rfl⟩
