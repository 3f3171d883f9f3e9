/-! THE JUDGEMENT: jJ pc L S M: from every frame at pc with the locals L, the stack S, over a heap that holds the world M, the machine comes to Q -/
def ew_ty (E : ewE) : List (ClassId × FieldType) := [(E.2.2.1 0, .int), (E.2.2.1 1, .boolean), (E.2.2.1 2, .int), (E.2.2.1 3, .object "EmbossPress$State")]
def NWL : List Cond := [Jvm.Cond.fieldLinkNest "EmbossPress$State" (15 : Nat) "EmbossPress" "FIRST_VALUES" "[I" "EmbossPress",
  Jvm.Cond.methodLinkNest "EmbossPress" (11 : Nat) ({ cls := "EmbossPress$State", name := "<init>", desc := "()V" } : Jvm.MethodName) "EmbossPress",
  Jvm.Cond.methodLinkNest "EmbossPress$State" (28 : Nat) ({ cls := "EmbossPress$Sheet", name := "<init>", desc := "()V" } : Jvm.MethodName) "EmbossPress",
  Jvm.Cond.methodLinkNest "EmbossPress" (29 : Nat) ({ cls := "EmbossPress$DieText", name := "<init>", desc := "()V" } : Jvm.MethodName) "EmbossPress",
  Jvm.Cond.methodLinkNest "EmbossPress" (40 : Nat) ({ cls := "EmbossPress$Sheet", name := "<init>", desc := "()V" } : Jvm.MethodName) "EmbossPress",
  Jvm.Cond.methodLinkNest "EmbossPress" (47 : Nat) ({ cls := "EmbossPress$CrackFinder", name := "<init>", desc := "()V" } : Jvm.MethodName) "EmbossPress",
  Jvm.Cond.methodLinkNest "EmbossPress$CrackFinder" (42 : Nat) ({ cls := "EmbossPress", name := "placeIndex", desc := "(JJ)I" } : Jvm.MethodName) "EmbossPress",
  Jvm.Cond.methodLinkNest "EmbossPress$State" (80 : Nat) ({ cls := "EmbossPress", name := "pointIndex", desc := "(III)I" } : Jvm.MethodName) "EmbossPress",
  Jvm.Cond.methodLinkNest "EmbossPress$Sheet" (44 : Nat) ({ cls := "EmbossPress", name := "placeUnder", desc := "(IJJ)I" } : Jvm.MethodName) "EmbossPress",
  Jvm.Cond.methodLinkNest "EmbossPress$Sheet" (40 : Nat) ({ cls := "EmbossPress", name := "placeIndex", desc := "(JJ)I" } : Jvm.MethodName) "EmbossPress",
  Jvm.Cond.methodLinkNest "EmbossPress$State" (88 : Nat) ({ cls := "EmbossPress", name := "placeUnder", desc := "(IJJ)I" } : Jvm.MethodName) "EmbossPress"]
/-- the links between nest mates: they hold in every warmed state -/
def ew_N (U : State) : Prop := (∀ w ∈ NWL, va_Nw w U) ∧ True ∧ True
theorem ew_N.moved {s U : State} (hW : s.WarmedH U.vm) (h : ew_N s) : ew_N U := by
  refine ⟨fun w hw => ?_, trivial, trivial⟩
  have h1 := h.1 w hw
  simp only [NWL, List.mem_cons, List.not_mem_nil, or_false] at hw
  rcases hw with rfl | rfl | rfl | rfl | rfl | rfl | rfl | rfl | rfl | rfl | rfl
  · exact va_Nw.warmF hW h1
  · exact va_Nw.warmM hW h1
  · exact va_Nw.warmM hW h1
  · exact va_Nw.warmM hW h1
  · exact va_Nw.warmM hW h1
  · exact va_Nw.warmM hW h1
  · exact va_Nw.warmM hW h1
  · exact va_Nw.warmM hW h1
  · exact va_Nw.warmM hW h1
  · exact va_Nw.warmM hW h1
  · exact va_Nw.warmM hW h1
theorem ew_N.same {u U : State} (hv : u.vm = U.vm) (h : ew_N u) : ew_N U := ⟨fun w hw => va_Nw.same ((show ∀ w ∈ NWL, w.onTables = true by decide +kernel) w hw) hv (h.1 w hw), trivial, trivial⟩
def ew_A (E : ewE) (sz : Nat) : Nat → Prop := fun q => (∃ i : Nat, i < 88 ∧ q = E.1 i) ∨ sz ≤ q
def g_first (k : Nat) : Int := if k = 0 then 12 else if k = 1 then 3 else if k = 2 then 9 else 0
def g_least (k : Nat) : Int := if k = 2 then 1 else 0
def g_great (k : Nat) : Int := if k = 0 then 99 else if k = 1 then 20 else 9
/-- the script, at E.1 203: no cell of the world -/
def ew_X (E : ewE) (A : Nat → Prop) (U : State) (H : Heap) : Prop := va_X (E.1 203) E.2.2.2.1 E.2.2.2.2 U H ∧ E.1 203 < H.size ∧ ¬ A (E.1 203) ∧ E.2.2.2.1 ≤ 260
theorem ew_X.mv {E : ewE} {A B : Nat → Prop} {u U : State} {H H1 : Heap} (h : ew_X E A u H) (hvm : u.vm.Alike U.vm) (hq : ∀ a : Nat, a < H.size → ¬ A a → H1[a]? = H[a]?) (hAB : ∀ q, B q → A q) : ew_X E B U H1 := by
  have h1 := hq _ h.2.1 h.2.2.1
  refine ⟨va_X.moved hvm (h.1.kept h1), ?_, fun hb => h.2.2.1 (hAB _ hb), h.2.2.2⟩
  obtain ⟨scr, hs, -⟩ := h.1
  rw [hs] at h1
  exact (Array.getElem?_eq_some_iff.mp h1).1
/-- the three static arrays of EmbossPress, at E.1 200, 201, 202, and the script: no cells of the world -/
def ew_G (E : ewE) (A : Nat → Prop) (U : State) (H : Heap) : Prop :=
  ((va_Z "EmbossPress" "FIRST_VALUES" "[I" (vR E 200) A U H ∧ va_T .int (E.1 200) 4 (fun k => vI (g_first k)) A U H) ∧ ew_X E A U H) ∧
  (va_Z "EmbossPress" "LEAST_VALUES" "[I" (vR E 201) A U H ∧ va_T .int (E.1 201) 4 (fun k => vI (g_least k)) A U H) ∧
  (va_Z "EmbossPress" "GREATEST_VALUES" "[I" (vR E 202) A U H ∧ va_T .int (E.1 202) 4 (fun k => vI (g_great k)) A U H)
theorem ew_G.mv {E : ewE} {A B : Nat → Prop} {u U : State} {H H1 : Heap} (h : ew_G E A u H) (hvm : u.vm.Alike U.vm) (hq : ∀ a : Nat, a < H.size → ¬ A a → H1[a]? = H[a]?) (hAB : ∀ q, B q → A q) : ew_G E B U H1 :=
  ⟨⟨⟨((h.1.1.1.moved hvm).kept hq).narrow hAB, ((h.1.1.2.moved hvm).kept hq).narrow hAB⟩, h.1.2.mv hvm hq hAB⟩, ⟨((h.2.1.1.moved hvm).kept hq).narrow hAB, ((h.2.1.2.moved hvm).kept hq).narrow hAB⟩, ⟨((h.2.2.1.moved hvm).kept hq).narrow hAB, ((h.2.2.2.moved hvm).kept hq).narrow hAB⟩⟩
def ew_B (E : ewE) (M : ewM) (U : State) : Prop := va_P E.2.1 vwCl (ew_ws E M) U.heap ∧ va_K E.2.1 vwCl (ew_ty E) U ∧ va_D (fun _ => True) (ew_ws E M) ∧ ew_S M ∧ ew_N U ∧ ew_G E (ew_A E U.heap.size) U U.heap
def ew_I (E : ewE) (A : Nat → Prop) (s : State) (M : ewM) (H : Heap) (locs : List Loc) : Prop := va_P E.2.1 vwCl (ew_ws E M) H ∧ va_D A (ew_ws E M) ∧ va_S A s.heap H locs ∧ ew_S M
def jC (p : Program) (e : Env) (R : Room) (s : State) (m : MethodId) (args : Array Value) (meth : Method) (c : Code) (E : ewE) (A : Nat → Prop) (cc : ByteArray) (nL : Nat) (own : String) (ret : Option FieldType) : Prop :=
  p.tables.exec = Jvm.exec ∧ c.code = cc ∧ c.maxLocals = nL ∧ s.vm.findClass own = some m.cls ∧ (∀ w ∈ WW, w.before args s = true) ∧ va_K E.2.1 vwCl (ew_ty E) s ∧ meth.locks = false ∧ meth.sig.returnType = ret ∧ (∀ q : Nat, s.heap.size ≤ q → A q) ∧ (∀ i : Nat, i < 88 → A (E.1 i)) ∧ ew_N s ∧ ew_G E A s s.heap
def jJ (p : Program) (l : Launch) (e : Env) (R : Room) (s : State) (m : MethodId) (args : Array Value) (below : List Frame) (meth : Method) (c : Code) (E : ewE) (A : Nat → Prop) (nL : Nat) (cells slots : Nat) (Q : State → Prop) (pc : Nat) (L : List (Nat × Value)) (S : List Value) (M : ewM) : Prop :=
  ∀ (ls : Array Slot) (H : Heap) (locs : List Loc), lv_has ls nL L → ew_I E A s M H locs → W p l e R s m args below meth c H locs cells slots Q (F0 m pc ls S)
def ewK (ci : Nat) (C : String) (T : u_T) (N : Nat) (ty : Nat → FieldType) : Prop := vwCl[ci]? = some (C, T, N) ∧ (∀ w ∈ u_ws C T N, w ∈ WW) ∧ (∀ k, k < N → parseFieldDescriptor (T k).2.2.1 = some (ty k)) ∧ ∀ a, a < N → ∀ b, b < N → a ≠ b → (T a).2.1 ≠ (T b).2.1
/-- a field's link: own's pool entry idx is field k of class ci, of type ty -/
def ewL (own : String) (idx ci k : Nat) (ty : FieldType) : Prop := ∃ (C : String) (T : u_T) (N : Nat) (tys : Nat → FieldType), ewK ci C T N tys ∧ k < N ∧ (T k).2.2.2 = false ∧ tys k = ty ∧ Cond.fieldLink own idx (T k).1 (T k).2.1 (T k).2.2.1 ∈ WW
def ewLr (own : String) (idx ci k : Nat) : Prop := ∃ (C : String) (T : u_T) (N : Nat) (tys : Nat → FieldType), ewK ci C T N tys ∧ k < N ∧ Cond.fieldLink own idx (T k).1 (T k).2.1 (T k).2.2.1 ∈ WW
theorem ewL.r {own : String} {idx ci k : Nat} {ty : FieldType} (h : ewL own idx ci k ty) : ewLr own idx ci k := by
  obtain ⟨C, T, N, tys, h1, h2, -, -, h3⟩ := h
  exact ⟨C, T, N, tys, h1, h2, h3⟩
def vpush (v : Option Value) (S : List Value) : List Value := match v with
  | none => S
  | some x => x :: S
theorem vpush_eq (v : Option Value) (S : List Value) : v.toList ++ S = vpush v S := by cases v <;> rfl
section JW
variable {p : Program} {l : Launch} {e : Env} {R : Room} {s : State} {m : MethodId} {args : Array Value} {below : List Frame} {meth : Method} {c : Code} {E : ewE} {A : Nat → Prop} {cc : ByteArray} {nL : Nat} {own : String} {ret : Option FieldType} {cells slots : Nat} {Q : State → Prop} {pc : Nat} {L L' : List (Nat × Value)} {S : List Value} {M : ewM}
theorem ew_A_in {sz : Nat} (hs : ∀ q : Nat, s.heap.size ≤ q → A q) (hi : ∀ i : Nat, i < 88 → A (E.1 i)) (h : s.heap.size ≤ sz) : ∀ q : Nat, ew_A E sz q → A q := by
  rintro q (⟨i, h1, rfl⟩ | hq)
  · exact hi i h1
  · exact hs q (Nat.le_trans h hq)
theorem jw_G {H : Heap} {locs : List Loc} {U : State} (hC : jC p e R s m args meth c E A cc nL own ret) (hI : ew_I E A s M H locs) (hU : U.heap = H) (hW : s.WarmedH U.vm) : ew_G E (ew_A E U.heap.size) U U.heap :=
  ew_G.mv hC.2.2.2.2.2.2.2.2.2.2.2 hW.alike (fun a h1 h2 => by rw [hU]; exact hI.2.2.1.2.1 a h1 h2) (ew_A_in hC.2.2.2.2.2.2.2.2.1 hC.2.2.2.2.2.2.2.2.2.1 (by rw [hU]; exact hI.2.2.1.1))
theorem jw_iconst (hC : jC p e R s m args meth c E A cc nL own ret) {n : Int} (hd : decode cc pc = .ok (.iconst n, 1)) (k : jJ p l e R s m args below meth c E A nL cells slots Q (pc + 1) L (vI n :: S) M) : jJ p l e R s m args below meth c E A nL cells slots Q pc L S M := by
  intro ls H locs hl hI
  exact lv_iconst hC.1 hC.2.1 hd rfl (k ls H locs hl hI)
theorem jw_bipush (hC : jC p e R s m args meth c E A cc nL own ret) {n : Int} (hd : decode cc pc = .ok (.bipush n, 2)) (hv : (Int8.ofInt n).toInt32 = Int32.ofInt n) (k : jJ p l e R s m args below meth c E A nL cells slots Q (pc + 2) L (vI n :: S) M) : jJ p l e R s m args below meth c E A nL cells slots Q pc L S M := by
  intro ls H locs hl hI
  exact lv_bipush hC.1 hC.2.1 hd hv (k ls H locs hl hI)
theorem jw_sipush (hC : jC p e R s m args meth c E A cc nL own ret) {n : Int} (hd : decode cc pc = .ok (.sipush n, 3)) (hv : (Int16.ofInt n).toInt32 = Int32.ofInt n) (k : jJ p l e R s m args below meth c E A nL cells slots Q (pc + 3) L (vI n :: S) M) : jJ p l e R s m args below meth c E A nL cells slots Q pc L S M := by
  intro ls H locs hl hI
  exact lv_sipush hC.1 hC.2.1 hd hv (k ls H locs hl hI)
theorem jw_ldc (hC : jC p e R s m args meth c E A cc nL own ret) {n : Int} {idx : Nat} (hd : decode cc pc = .ok (.ldc idx, 2)) (hw : Cond.constant own idx (Int32.ofInt n) ∈ WW) (k : jJ p l e R s m args below meth c E A nL cells slots Q (pc + 2) L (vI n :: S) M) : jJ p l e R s m args below meth c E A nL cells slots Q pc L S M := by
  intro ls H locs hl hI
  exact lv_ldc hC.1 hC.2.1 hC.2.2.2.1 (hC.2.2.2.2.1 _ hw) hd (k ls H locs hl hI)
theorem jw_ldc2 (hC : jC p e R s m args meth c E A cc nL own ret) {n : Int} {idx : Nat} (hd : decode cc pc = .ok (.ldc2_w idx, 3)) (hw : Cond.constantLong own idx (Int64.ofInt n) ∈ WW) (k : jJ p l e R s m args below meth c E A nL cells slots Q (pc + 3) L (vJ n :: S) M) : jJ p l e R s m args below meth c E A nL cells slots Q pc L S M := by
  intro ls H locs hl hI
  exact lv_ldc2 hC.1 hC.2.1 hC.2.2.2.1 (hC.2.2.2.2.1 _ hw) hd (k ls H locs hl hI)
theorem jw_lconst (hC : jC p e R s m args meth c E A cc nL own ret) {n : Fin 2} {v : Int} (hd : decode cc pc = .ok (.lconst n, 1)) (hv : Int64.ofNat (n : Nat) = Int64.ofInt v) (k : jJ p l e R s m args below meth c E A nL cells slots Q (pc + 1) L (vJ v :: S) M) : jJ p l e R s m args below meth c E A nL cells slots Q pc L S M := by
  intro ls H locs hl hI
  exact lv_lconst hC.1 hC.2.1 hd hv (k ls H locs hl hI)
theorem jw_iload_n (hC : jC p e R s m args meth c E A cc nL own ret) {kk : Fin 4} {i : Nat} {x : Int} (hd : decode cc pc = .ok (.iload_n kk, 1)) (j : Nat) (hi : (kk : Nat) = i) (hj : L[j]? = some (i, vI x)) (k : jJ p l e R s m args below meth c E A nL cells slots Q (pc + 1) L (vI x :: S) M) : jJ p l e R s m args below meth c E A nL cells slots Q pc L S M := by
  intro ls H locs hl hI
  exact lv_iload_n hC.1 hC.2.1 hd hi (lv_at hl j hj) (k ls H locs hl hI)
theorem jw_iload (hC : jC p e R s m args meth c E A cc nL own ret) {i : Nat} {x : Int} (hd : decode cc pc = .ok (.iload i, 2)) (j : Nat) (hj : L[j]? = some (i, vI x)) (k : jJ p l e R s m args below meth c E A nL cells slots Q (pc + 2) L (vI x :: S) M) : jJ p l e R s m args below meth c E A nL cells slots Q pc L S M := by
  intro ls H locs hl hI
  exact lv_iload hC.1 hC.2.1 hd (lv_at hl j hj) (k ls H locs hl hI)
theorem jw_istore_n (hC : jC p e R s m args meth c E A cc nL own ret) {kk : Fin 4} {i : Nat} {x : Int} (hd : decode cc pc = .ok (.istore_n kk, 1)) (hi : (kk : Nat) = i) (hn : i < nL) (hf : (i, Value.int (Int32.ofInt x)) :: L.filter (fun q => !(q.1 == i) && !(q.1 + 1 == i && q.2.category == 2)) = L') (k : jJ p l e R s m args below meth c E A nL cells slots Q (pc + 1) L' S M) : jJ p l e R s m args below meth c E A nL cells slots Q pc L (vI x :: S) M := by
  intro ls H locs hl hI
  exact lv_istore_n hC.1 hC.2.1 hd hi hl hn hf (fun ls2 hl2 => k ls2 H locs hl2 hI)
theorem jw_istore (hC : jC p e R s m args meth c E A cc nL own ret) {i : Nat} {x : Int} (hd : decode cc pc = .ok (.istore i, 2)) (hn : i < nL) (hf : (i, Value.int (Int32.ofInt x)) :: L.filter (fun q => !(q.1 == i) && !(q.1 + 1 == i && q.2.category == 2)) = L') (k : jJ p l e R s m args below meth c E A nL cells slots Q (pc + 2) L' S M) : jJ p l e R s m args below meth c E A nL cells slots Q pc L (vI x :: S) M := by
  intro ls H locs hl hI
  exact lv_istore hC.1 hC.2.1 hd hl hn hf (fun ls2 hl2 => k ls2 H locs hl2 hI)
theorem jw_lload_n (hC : jC p e R s m args meth c E A cc nL own ret) {kk : Fin 4} {i : Nat} {x : Int} (hd : decode cc pc = .ok (.lload_n kk, 1)) (j : Nat) (hi : (kk : Nat) = i) (hj : L[j]? = some (i, vJ x)) (k : jJ p l e R s m args below meth c E A nL cells slots Q (pc + 1) L (vJ x :: S) M) : jJ p l e R s m args below meth c E A nL cells slots Q pc L S M := by
  intro ls H locs hl hI
  exact lv_lload_n hC.1 hC.2.1 hd hi (lv_at hl j hj) (k ls H locs hl hI)
theorem jw_lload (hC : jC p e R s m args meth c E A cc nL own ret) {i : Nat} {x : Int} (hd : decode cc pc = .ok (.lload i, 2)) (j : Nat) (hj : L[j]? = some (i, vJ x)) (k : jJ p l e R s m args below meth c E A nL cells slots Q (pc + 2) L (vJ x :: S) M) : jJ p l e R s m args below meth c E A nL cells slots Q pc L S M := by
  intro ls H locs hl hI
  exact lv_lload hC.1 hC.2.1 hd (lv_at hl j hj) (k ls H locs hl hI)
theorem jw_lstore_n (hC : jC p e R s m args meth c E A cc nL own ret) {kk : Fin 4} {i : Nat} {x : Int} (hd : decode cc pc = .ok (.lstore_n kk, 1)) (hi : (kk : Nat) = i) (hn : i + 1 < nL) (hf : (i, Value.long (Int64.ofInt x)) :: L.filter (fun q => !(q.1 == i) && (!(q.1 == i + 1) && !(q.1 + 1 == i && q.2.category == 2))) = L') (k : jJ p l e R s m args below meth c E A nL cells slots Q (pc + 1) L' S M) : jJ p l e R s m args below meth c E A nL cells slots Q pc L (vJ x :: S) M := by
  intro ls H locs hl hI
  exact lv_lstore_n hC.1 hC.2.1 hd hi hl hn hf (fun ls2 hl2 => k ls2 H locs hl2 hI)
theorem jw_lstore (hC : jC p e R s m args meth c E A cc nL own ret) {i : Nat} {x : Int} (hd : decode cc pc = .ok (.lstore i, 2)) (hn : i + 1 < nL) (hf : (i, Value.long (Int64.ofInt x)) :: L.filter (fun q => !(q.1 == i) && (!(q.1 == i + 1) && !(q.1 + 1 == i && q.2.category == 2))) = L') (k : jJ p l e R s m args below meth c E A nL cells slots Q (pc + 2) L' S M) : jJ p l e R s m args below meth c E A nL cells slots Q pc L (vJ x :: S) M := by
  intro ls H locs hl hI
  exact lv_lstore hC.1 hC.2.1 hd hl hn hf (fun ls2 hl2 => k ls2 H locs hl2 hI)
theorem jw_aload_n (hC : jC p e R s m args meth c E A cc nL own ret) {kk : Fin 4} {i : Nat} {x : Nat} (hd : decode cc pc = .ok (.aload_n kk, 1)) (j : Nat) (hi : (kk : Nat) = i) (hj : L[j]? = some (i, vR E x)) (k : jJ p l e R s m args below meth c E A nL cells slots Q (pc + 1) L (vR E x :: S) M) : jJ p l e R s m args below meth c E A nL cells slots Q pc L S M := by
  intro ls H locs hl hI
  exact lv_aload_n hC.1 hC.2.1 hd hi (lv_at hl j hj) (k ls H locs hl hI)
theorem jw_aload (hC : jC p e R s m args meth c E A cc nL own ret) {i : Nat} {x : Nat} (hd : decode cc pc = .ok (.aload i, 2)) (j : Nat) (hj : L[j]? = some (i, vR E x)) (k : jJ p l e R s m args below meth c E A nL cells slots Q (pc + 2) L (vR E x :: S) M) : jJ p l e R s m args below meth c E A nL cells slots Q pc L S M := by
  intro ls H locs hl hI
  exact lv_aload hC.1 hC.2.1 hd (lv_at hl j hj) (k ls H locs hl hI)
theorem jw_astore_n (hC : jC p e R s m args meth c E A cc nL own ret) {kk : Fin 4} {i : Nat} {x : Nat} (hd : decode cc pc = .ok (.astore_n kk, 1)) (hi : (kk : Nat) = i) (hn : i < nL) (hf : (i, Value.ref (E.1 x)) :: L.filter (fun q => !(q.1 == i) && !(q.1 + 1 == i && q.2.category == 2)) = L') (k : jJ p l e R s m args below meth c E A nL cells slots Q (pc + 1) L' S M) : jJ p l e R s m args below meth c E A nL cells slots Q pc L (vR E x :: S) M := by
  intro ls H locs hl hI
  exact lv_astore_n hC.1 hC.2.1 hd hi hl hn hf (fun ls2 hl2 => k ls2 H locs hl2 hI)
theorem jw_astore (hC : jC p e R s m args meth c E A cc nL own ret) {i : Nat} {x : Nat} (hd : decode cc pc = .ok (.astore i, 2)) (hn : i < nL) (hf : (i, Value.ref (E.1 x)) :: L.filter (fun q => !(q.1 == i) && !(q.1 + 1 == i && q.2.category == 2)) = L') (k : jJ p l e R s m args below meth c E A nL cells slots Q (pc + 2) L' S M) : jJ p l e R s m args below meth c E A nL cells slots Q pc L (vR E x :: S) M := by
  intro ls H locs hl hI
  exact lv_astore hC.1 hC.2.1 hd hl hn hf (fun ls2 hl2 => k ls2 H locs hl2 hI)
theorem jw_iinc (hC : jC p e R s m args meth c E A cc nL own ret) {i : Nat} {n x : Int} (hd : decode cc pc = .ok (.iinc i n, 3)) (j : Nat) (hj : L[j]? = some (i, vI x)) (hn : i < nL) (hf : (i, Value.int (Int32.ofInt (x + n))) :: L.filter (fun q => !(q.1 == i) && !(q.1 + 1 == i && q.2.category == 2)) = L') (k : jJ p l e R s m args below meth c E A nL cells slots Q (pc + 3) L' S M) : jJ p l e R s m args below meth c E A nL cells slots Q pc L S M := by
  intro ls H locs hl hI
  exact lv_iinc hC.1 hC.2.1 hd hl hj (Int32.ofInt_add x n).symm hn hf (fun ls2 hl2 => k ls2 H locs hl2 hI)
theorem jw_iadd (hC : jC p e R s m args meth c E A cc nL own ret) {x y : Int} (hd : decode cc pc = .ok (.iadd, 1)) (k : jJ p l e R s m args below meth c E A nL cells slots Q (pc + 1) L (vI (x + y) :: S) M) : jJ p l e R s m args below meth c E A nL cells slots Q pc L (vI y :: vI x :: S) M := by
  intro ls H locs hl hI
  have k := k ls H locs hl hI
  unfold vI at k ⊢
  rw [Int32.ofInt_add] at k
  exact lv_iadd hC.1 hC.2.1 hd k
theorem jw_isub (hC : jC p e R s m args meth c E A cc nL own ret) {x y : Int} (hd : decode cc pc = .ok (.isub, 1)) (k : jJ p l e R s m args below meth c E A nL cells slots Q (pc + 1) L (vI (x - y) :: S) M) : jJ p l e R s m args below meth c E A nL cells slots Q pc L (vI y :: vI x :: S) M := by
  intro ls H locs hl hI
  have k := k ls H locs hl hI
  unfold vI at k ⊢
  rw [Int32.ofInt_sub] at k
  exact lv_isub hC.1 hC.2.1 hd k
theorem jw_imul (hC : jC p e R s m args meth c E A cc nL own ret) {x y : Int} (hd : decode cc pc = .ok (.imul, 1)) (k : jJ p l e R s m args below meth c E A nL cells slots Q (pc + 1) L (vI (x * y) :: S) M) : jJ p l e R s m args below meth c E A nL cells slots Q pc L (vI y :: vI x :: S) M := by
  intro ls H locs hl hI
  have k := k ls H locs hl hI
  unfold vI at k ⊢
  rw [Int32.ofInt_mul] at k
  exact lv_imul hC.1 hC.2.1 hd k
theorem jw_ladd (hC : jC p e R s m args meth c E A cc nL own ret) {x y : Int} (hd : decode cc pc = .ok (.ladd, 1)) (k : jJ p l e R s m args below meth c E A nL cells slots Q (pc + 1) L (vJ (x + y) :: S) M) : jJ p l e R s m args below meth c E A nL cells slots Q pc L (vJ y :: vJ x :: S) M := by
  intro ls H locs hl hI
  have k := k ls H locs hl hI
  unfold vJ at k ⊢
  rw [Int64.ofInt_add] at k
  exact lv_ladd hC.1 hC.2.1 hd k
theorem jw_lsub (hC : jC p e R s m args meth c E A cc nL own ret) {x y : Int} (hd : decode cc pc = .ok (.lsub, 1)) (k : jJ p l e R s m args below meth c E A nL cells slots Q (pc + 1) L (vJ (x - y) :: S) M) : jJ p l e R s m args below meth c E A nL cells slots Q pc L (vJ y :: vJ x :: S) M := by
  intro ls H locs hl hI
  have k := k ls H locs hl hI
  unfold vJ at k ⊢
  rw [Int64.ofInt_sub] at k
  exact lv_lsub hC.1 hC.2.1 hd k
theorem jw_lmul (hC : jC p e R s m args meth c E A cc nL own ret) {x y : Int} (hd : decode cc pc = .ok (.lmul, 1)) (k : jJ p l e R s m args below meth c E A nL cells slots Q (pc + 1) L (vJ (x * y) :: S) M) : jJ p l e R s m args below meth c E A nL cells slots Q pc L (vJ y :: vJ x :: S) M := by
  intro ls H locs hl hI
  have k := k ls H locs hl hI
  unfold vJ at k ⊢
  rw [Int64.ofInt_mul] at k
  exact lv_lmul hC.1 hC.2.1 hd k
theorem jw_idiv (hC : jC p e R s m args meth c E A cc nL own ret) {x y : Int} (hd : decode cc pc = .ok (.idiv, 1)) (h1 : 0 ≤ x) (h2 : x < 2147483648) (h3 : 0 < y) (h4 : y < 2147483648) (k : jJ p l e R s m args below meth c E A nL cells slots Q (pc + 1) L (vI (x / y) :: S) M) : jJ p l e R s m args below meth c E A nL cells slots Q pc L (vI y :: vI x :: S) M := by
  intro ls H locs hl hI
  have k := k ls H locs hl hI
  have hne : ¬ Int32.ofInt y = 0 := fun h => by
    have h5 := (e32_eq (b := 0) (by omega) h4 (by decide) (by decide)).mp h
    omega
  unfold vI at k ⊢
  rw [← e32_div h1 h2 h3 h4] at k
  exact lv_idiv hC.1 hC.2.1 hd hne k
theorem jw_irem (hC : jC p e R s m args meth c E A cc nL own ret) {x y : Int} (hd : decode cc pc = .ok (.irem, 1)) (h1 : 0 ≤ x) (h2 : x < 2147483648) (h3 : 0 < y) (h4 : y < 2147483648) (k : jJ p l e R s m args below meth c E A nL cells slots Q (pc + 1) L (vI (x % y) :: S) M) : jJ p l e R s m args below meth c E A nL cells slots Q pc L (vI y :: vI x :: S) M := by
  intro ls H locs hl hI
  have k := k ls H locs hl hI
  have hne : ¬ Int32.ofInt y = 0 := fun h => by
    have h5 := (e32_eq (b := 0) (by omega) h4 (by decide) (by decide)).mp h
    omega
  unfold vI at k ⊢
  rw [← e32_rem h1 h2 h3 h4] at k
  exact lv_irem hC.1 hC.2.1 hd hne k
theorem jw_ineg (hC : jC p e R s m args meth c E A cc nL own ret) {x : Int} (hd : decode cc pc = .ok (.ineg, 1)) (k : jJ p l e R s m args below meth c E A nL cells slots Q (pc + 1) L (vI (-x) :: S) M) : jJ p l e R s m args below meth c E A nL cells slots Q pc L (vI x :: S) M := by
  intro ls H locs hl hI
  have k := k ls H locs hl hI
  unfold vI at k ⊢
  rw [Int32.ofInt_neg] at k
  exact lv_ineg hC.1 hC.2.1 hd k
theorem jw_i2l (hC : jC p e R s m args meth c E A cc nL own ret) {x : Int} (hd : decode cc pc = .ok (.i2l, 1)) (h1 : -2147483648 ≤ x) (h2 : x < 2147483648) (k : jJ p l e R s m args below meth c E A nL cells slots Q (pc + 1) L (vJ x :: S) M) : jJ p l e R s m args below meth c E A nL cells slots Q pc L (vI x :: S) M := by
  intro ls H locs hl hI
  exact lv_i2l hC.1 hC.2.1 hd (e32_l h1 h2) (k ls H locs hl hI)
theorem jw_l2i (hC : jC p e R s m args meth c E A cc nL own ret) {x : Int} (hd : decode cc pc = .ok (.l2i, 1)) (k : jJ p l e R s m args below meth c E A nL cells slots Q (pc + 1) L (vI x :: S) M) : jJ p l e R s m args below meth c E A nL cells slots Q pc L (vJ x :: S) M := by
  intro ls H locs hl hI
  exact lv_l2i hC.1 hC.2.1 hd Int64.toInt32_ofInt (k ls H locs hl hI)
theorem jw_goto (hC : jC p e R s m args meth c E A cc nL own ret) {off : Int} {tgt : Nat} (hd : decode cc pc = .ok (.goto off, 3)) (ht : (pc : Int) + off = (tgt : Int)) (k : jJ p l e R s m args below meth c E A nL cells slots Q tgt L S M) : jJ p l e R s m args below meth c E A nL cells slots Q pc L S M := by
  intro ls H locs hl hI
  exact lv_goto hC.1 hC.2.1 hd ht (k ls H locs hl hI)
theorem jw_dupi (hC : jC p e R s m args meth c E A cc nL own ret) {x : Int} (hd : decode cc pc = .ok (.dup, 1)) (k : jJ p l e R s m args below meth c E A nL cells slots Q (pc + 1) L (vI x :: vI x :: S) M) : jJ p l e R s m args below meth c E A nL cells slots Q pc L (vI x :: S) M := by
  intro ls H locs hl hI
  exact lv_dup hC.1 hC.2.1 hd rfl (k ls H locs hl hI)
theorem jw_dupr (hC : jC p e R s m args meth c E A cc nL own ret) {x : Nat} (hd : decode cc pc = .ok (.dup, 1)) (k : jJ p l e R s m args below meth c E A nL cells slots Q (pc + 1) L (vR E x :: vR E x :: S) M) : jJ p l e R s m args below meth c E A nL cells slots Q pc L (vR E x :: S) M := by
  intro ls H locs hl hI
  exact lv_dup hC.1 hC.2.1 hd rfl (k ls H locs hl hI)
theorem jw_dup2 (hC : jC p e R s m args meth c E A cc nL own ret) {x : Nat} {y : Int} (hd : decode cc pc = .ok (.dup2, 1)) (k : jJ p l e R s m args below meth c E A nL cells slots Q (pc + 1) L (vI y :: vR E x :: vI y :: vR E x :: S) M) : jJ p l e R s m args below meth c E A nL cells slots Q pc L (vI y :: vR E x :: S) M := by
  intro ls H locs hl hI
  exact lv_dup2_11 hC.1 hC.2.1 hd rfl rfl (k ls H locs hl hI)
theorem jw_icmp_eq (hC : jC p e R s m args meth c E A cc nL own ret) {x y off : Int} {tgt : Nat} (hd : decode cc pc = .ok (.if_icmp .eq off, 3)) (ht : (pc : Int) + off = (tgt : Int)) (h1 : -2147483648 ≤ x) (h2 : x < 2147483648) (h3 : -2147483648 ≤ y) (h4 : y < 2147483648) (kt : x = y → jJ p l e R s m args below meth c E A nL cells slots Q tgt L S M) (kf : ¬ x = y → jJ p l e R s m args below meth c E A nL cells slots Q (pc + 3) L S M) : jJ p l e R s m args below meth c E A nL cells slots Q pc L (vI y :: vI x :: S) M := by
  intro ls H locs hl hI
  exact lv_icmp_eq hC.1 hC.2.1 hd ht (fun h => kt ((e32_eq h1 h2 h3 h4).mp h) ls H locs hl hI) (fun h => kf (fun h9 => h ((e32_eq h1 h2 h3 h4).mpr h9)) ls H locs hl hI)
theorem jw_if_eq (hC : jC p e R s m args meth c E A cc nL own ret) {x off : Int} {tgt : Nat} (hd : decode cc pc = .ok (.ifCond .eq off, 3)) (ht : (pc : Int) + off = (tgt : Int)) (h1 : -2147483648 ≤ x) (h2 : x < 2147483648) (kt : x = 0 → jJ p l e R s m args below meth c E A nL cells slots Q tgt L S M) (kf : ¬ x = 0 → jJ p l e R s m args below meth c E A nL cells slots Q (pc + 3) L S M) : jJ p l e R s m args below meth c E A nL cells slots Q pc L (vI x :: S) M := by
  intro ls H locs hl hI
  exact lv_if_eq hC.1 hC.2.1 hd ht (fun h => kt ((e32_eq (b := 0) h1 h2 (by decide) (by decide)).mp h) ls H locs hl hI) (fun h => kf (fun h9 => h ((e32_eq (b := 0) h1 h2 (by decide) (by decide)).mpr h9)) ls H locs hl hI)
theorem jw_icmp_ne (hC : jC p e R s m args meth c E A cc nL own ret) {x y off : Int} {tgt : Nat} (hd : decode cc pc = .ok (.if_icmp .ne off, 3)) (ht : (pc : Int) + off = (tgt : Int)) (h1 : -2147483648 ≤ x) (h2 : x < 2147483648) (h3 : -2147483648 ≤ y) (h4 : y < 2147483648) (kt : ¬ x = y → jJ p l e R s m args below meth c E A nL cells slots Q tgt L S M) (kf : x = y → jJ p l e R s m args below meth c E A nL cells slots Q (pc + 3) L S M) : jJ p l e R s m args below meth c E A nL cells slots Q pc L (vI y :: vI x :: S) M := by
  intro ls H locs hl hI
  exact lv_icmp_ne hC.1 hC.2.1 hd ht (fun h => kt (fun h9 => h ((e32_eq h1 h2 h3 h4).mpr h9)) ls H locs hl hI) (fun h => kf ((e32_eq h1 h2 h3 h4).mp h) ls H locs hl hI)
theorem jw_if_ne (hC : jC p e R s m args meth c E A cc nL own ret) {x off : Int} {tgt : Nat} (hd : decode cc pc = .ok (.ifCond .ne off, 3)) (ht : (pc : Int) + off = (tgt : Int)) (h1 : -2147483648 ≤ x) (h2 : x < 2147483648) (kt : ¬ x = 0 → jJ p l e R s m args below meth c E A nL cells slots Q tgt L S M) (kf : x = 0 → jJ p l e R s m args below meth c E A nL cells slots Q (pc + 3) L S M) : jJ p l e R s m args below meth c E A nL cells slots Q pc L (vI x :: S) M := by
  intro ls H locs hl hI
  exact lv_if_ne hC.1 hC.2.1 hd ht (fun h => kt (fun h9 => h ((e32_eq (b := 0) h1 h2 (by decide) (by decide)).mpr h9)) ls H locs hl hI) (fun h => kf ((e32_eq (b := 0) h1 h2 (by decide) (by decide)).mp h) ls H locs hl hI)
theorem jw_icmp_lt (hC : jC p e R s m args meth c E A cc nL own ret) {x y off : Int} {tgt : Nat} (hd : decode cc pc = .ok (.if_icmp .lt off, 3)) (ht : (pc : Int) + off = (tgt : Int)) (h1 : -2147483648 ≤ x) (h2 : x < 2147483648) (h3 : -2147483648 ≤ y) (h4 : y < 2147483648) (kt : x < y → jJ p l e R s m args below meth c E A nL cells slots Q tgt L S M) (kf : y ≤ x → jJ p l e R s m args below meth c E A nL cells slots Q (pc + 3) L S M) : jJ p l e R s m args below meth c E A nL cells slots Q pc L (vI y :: vI x :: S) M := by
  intro ls H locs hl hI
  exact lv_icmp_lt hC.1 hC.2.1 hd ht (fun h => kt ((e32_lt h1 h2 h3 h4).mp h) ls H locs hl hI) (fun h => kf (by have h8 := mt (e32_lt h1 h2 h3 h4).mpr h; omega) ls H locs hl hI)
theorem jw_if_lt (hC : jC p e R s m args meth c E A cc nL own ret) {x off : Int} {tgt : Nat} (hd : decode cc pc = .ok (.ifCond .lt off, 3)) (ht : (pc : Int) + off = (tgt : Int)) (h1 : -2147483648 ≤ x) (h2 : x < 2147483648) (kt : x < 0 → jJ p l e R s m args below meth c E A nL cells slots Q tgt L S M) (kf : 0 ≤ x → jJ p l e R s m args below meth c E A nL cells slots Q (pc + 3) L S M) : jJ p l e R s m args below meth c E A nL cells slots Q pc L (vI x :: S) M := by
  intro ls H locs hl hI
  exact lv_if_lt hC.1 hC.2.1 hd ht (fun h => kt ((e32_lt (b := 0) h1 h2 (by decide) (by decide)).mp h) ls H locs hl hI) (fun h => kf (by have h8 := mt (e32_lt (b := 0) h1 h2 (by decide) (by decide)).mpr h; omega) ls H locs hl hI)
theorem jw_icmp_ge (hC : jC p e R s m args meth c E A cc nL own ret) {x y off : Int} {tgt : Nat} (hd : decode cc pc = .ok (.if_icmp .ge off, 3)) (ht : (pc : Int) + off = (tgt : Int)) (h1 : -2147483648 ≤ x) (h2 : x < 2147483648) (h3 : -2147483648 ≤ y) (h4 : y < 2147483648) (kt : y ≤ x → jJ p l e R s m args below meth c E A nL cells slots Q tgt L S M) (kf : x < y → jJ p l e R s m args below meth c E A nL cells slots Q (pc + 3) L S M) : jJ p l e R s m args below meth c E A nL cells slots Q pc L (vI y :: vI x :: S) M := by
  intro ls H locs hl hI
  exact lv_icmp_ge hC.1 hC.2.1 hd ht (fun h => kt ((e32_le h3 h4 h1 h2).mp h) ls H locs hl hI) (fun h => kf (by have h8 := mt (e32_le h3 h4 h1 h2).mpr h; omega) ls H locs hl hI)
theorem jw_if_ge (hC : jC p e R s m args meth c E A cc nL own ret) {x off : Int} {tgt : Nat} (hd : decode cc pc = .ok (.ifCond .ge off, 3)) (ht : (pc : Int) + off = (tgt : Int)) (h1 : -2147483648 ≤ x) (h2 : x < 2147483648) (kt : 0 ≤ x → jJ p l e R s m args below meth c E A nL cells slots Q tgt L S M) (kf : x < 0 → jJ p l e R s m args below meth c E A nL cells slots Q (pc + 3) L S M) : jJ p l e R s m args below meth c E A nL cells slots Q pc L (vI x :: S) M := by
  intro ls H locs hl hI
  exact lv_if_ge hC.1 hC.2.1 hd ht (fun h => kt ((e32_le (a := 0) (by decide) (by decide) h1 h2).mp h) ls H locs hl hI) (fun h => kf (by have h8 := mt (e32_le (a := 0) (by decide) (by decide) h1 h2).mpr h; omega) ls H locs hl hI)
theorem jw_icmp_gt (hC : jC p e R s m args meth c E A cc nL own ret) {x y off : Int} {tgt : Nat} (hd : decode cc pc = .ok (.if_icmp .gt off, 3)) (ht : (pc : Int) + off = (tgt : Int)) (h1 : -2147483648 ≤ x) (h2 : x < 2147483648) (h3 : -2147483648 ≤ y) (h4 : y < 2147483648) (kt : y < x → jJ p l e R s m args below meth c E A nL cells slots Q tgt L S M) (kf : x ≤ y → jJ p l e R s m args below meth c E A nL cells slots Q (pc + 3) L S M) : jJ p l e R s m args below meth c E A nL cells slots Q pc L (vI y :: vI x :: S) M := by
  intro ls H locs hl hI
  exact lv_icmp_gt hC.1 hC.2.1 hd ht (fun h => kt ((e32_lt h3 h4 h1 h2).mp h) ls H locs hl hI) (fun h => kf (by have h8 := mt (e32_lt h3 h4 h1 h2).mpr h; omega) ls H locs hl hI)
theorem jw_if_gt (hC : jC p e R s m args meth c E A cc nL own ret) {x off : Int} {tgt : Nat} (hd : decode cc pc = .ok (.ifCond .gt off, 3)) (ht : (pc : Int) + off = (tgt : Int)) (h1 : -2147483648 ≤ x) (h2 : x < 2147483648) (kt : 0 < x → jJ p l e R s m args below meth c E A nL cells slots Q tgt L S M) (kf : x ≤ 0 → jJ p l e R s m args below meth c E A nL cells slots Q (pc + 3) L S M) : jJ p l e R s m args below meth c E A nL cells slots Q pc L (vI x :: S) M := by
  intro ls H locs hl hI
  exact lv_if_gt hC.1 hC.2.1 hd ht (fun h => kt ((e32_lt (a := 0) (by decide) (by decide) h1 h2).mp h) ls H locs hl hI) (fun h => kf (by have h8 := mt (e32_lt (a := 0) (by decide) (by decide) h1 h2).mpr h; omega) ls H locs hl hI)
theorem jw_icmp_le (hC : jC p e R s m args meth c E A cc nL own ret) {x y off : Int} {tgt : Nat} (hd : decode cc pc = .ok (.if_icmp .le off, 3)) (ht : (pc : Int) + off = (tgt : Int)) (h1 : -2147483648 ≤ x) (h2 : x < 2147483648) (h3 : -2147483648 ≤ y) (h4 : y < 2147483648) (kt : x ≤ y → jJ p l e R s m args below meth c E A nL cells slots Q tgt L S M) (kf : y < x → jJ p l e R s m args below meth c E A nL cells slots Q (pc + 3) L S M) : jJ p l e R s m args below meth c E A nL cells slots Q pc L (vI y :: vI x :: S) M := by
  intro ls H locs hl hI
  exact lv_icmp_le hC.1 hC.2.1 hd ht (fun h => kt ((e32_le h1 h2 h3 h4).mp h) ls H locs hl hI) (fun h => kf (by have h8 := mt (e32_le h1 h2 h3 h4).mpr h; omega) ls H locs hl hI)
theorem jw_if_le (hC : jC p e R s m args meth c E A cc nL own ret) {x off : Int} {tgt : Nat} (hd : decode cc pc = .ok (.ifCond .le off, 3)) (ht : (pc : Int) + off = (tgt : Int)) (h1 : -2147483648 ≤ x) (h2 : x < 2147483648) (kt : x ≤ 0 → jJ p l e R s m args below meth c E A nL cells slots Q tgt L S M) (kf : 0 < x → jJ p l e R s m args below meth c E A nL cells slots Q (pc + 3) L S M) : jJ p l e R s m args below meth c E A nL cells slots Q pc L (vI x :: S) M := by
  intro ls H locs hl hI
  exact lv_if_le hC.1 hC.2.1 hd ht (fun h => kt ((e32_le (b := 0) h1 h2 (by decide) (by decide)).mp h) ls H locs hl hI) (fun h => kf (by have h8 := mt (e32_le (b := 0) h1 h2 (by decide) (by decide)).mpr h; omega) ls H locs hl hI)
def lcm (x y : Int) : Int := if y < x then 1 else if x = y then 0 else -1
theorem lcm_lt {x y : Int} : lcm x y < 0 ↔ x < y := by unfold lcm; split <;> (try split) <;> constructor <;> intro h <;> omega
theorem lcm_ge {x y : Int} : 0 ≤ lcm x y ↔ y ≤ x := by unfold lcm; split <;> (try split) <;> constructor <;> intro h <;> omega
theorem lcm_eq {x y : Int} : lcm x y = 0 ↔ x = y := by unfold lcm; split <;> (try split) <;> constructor <;> intro h <;> omega
theorem lcm_gt {x y : Int} : 0 < lcm x y ↔ y < x := by unfold lcm; split <;> (try split) <;> constructor <;> intro h <;> omega
theorem lcm_le {x y : Int} : lcm x y ≤ 0 ↔ x ≤ y := by unfold lcm; split <;> (try split) <;> constructor <;> intro h <;> omega
theorem lcm_b1 {x y : Int} : -2147483648 ≤ lcm x y := by unfold lcm; split <;> (try split) <;> omega
theorem lcm_b2 {x y : Int} : lcm x y < 2147483648 := by unfold lcm; split <;> (try split) <;> omega
theorem lg_cm {x y : Int} (h1 : -9223372036854775808 ≤ x) (h2 : x < 9223372036854775808) (h3 : -9223372036854775808 ≤ y) (h4 : y < 9223372036854775808) : lg_cmp (Int64.ofInt x) (Int64.ofInt y) = Int32.ofInt (lcm x y) := by
  unfold lg_cmp lcm
  by_cases hg : y < x
  · rw [if_pos ((e64_lt h3 h4 h1 h2).mpr hg), if_pos hg]; rfl
  · rw [if_neg (mt (e64_lt h3 h4 h1 h2).mp hg), if_neg hg]
    by_cases he : x = y
    · rw [if_pos ((e64_eq h1 h2 h3 h4).mpr he), if_pos he]; rfl
    · rw [if_neg (mt (e64_eq h1 h2 h3 h4).mp he), if_neg he]; rfl
theorem jw_lcmp (hC : jC p e R s m args meth c E A cc nL own ret) {x y : Int} (hd : decode cc pc = .ok (.lcmp, 1)) (h1 : -9223372036854775808 ≤ x) (h2 : x < 9223372036854775808) (h3 : -9223372036854775808 ≤ y) (h4 : y < 9223372036854775808) (k : jJ p l e R s m args below meth c E A nL cells slots Q (pc + 1) L (vI (lcm x y) :: S) M) : jJ p l e R s m args below meth c E A nL cells slots Q pc L (vJ y :: vJ x :: S) M := by
  intro ls H locs hl hI
  have k := k ls H locs hl hI
  unfold vI at k
  rw [← lg_cm h1 h2 h3 h4] at k
  exact W.lcmp hC.1 hC.2.1 hd k
theorem jw_max (hC : jC p e R s m args meth c E A cc nL own ret) {x y : Int} {idx : Nat} (hd : decode cc pc = .ok (.invokestatic idx, 3)) (h1 : -2147483648 ≤ x) (h2 : x < 2147483648) (h3 : -2147483648 ≤ y) (h4 : y < 2147483648) (w1 : Cond.methodLink own idx Lib.Math.max.name ∈ WW) (w2 : Cond.static Lib.Math.max.name ∈ WW) (w3 : Cond.initialized "java/lang/Math" ∈ WW) (w4 : Cond.code Lib.Math.max.name Lib.Math.max.code 2 (some .int) ∈ WW) (hR : 1 ≤ R.frames ∧ (S.map fun v => v.category).sum + 13 ≤ R.locals) (hcs : cells ≤ R.cells ∧ slots ≤ R.slots) (k : jJ p l e R s m args below meth c E A nL cells slots Q (pc + 3) L (vI (max x y) :: S) M) : jJ p l e R s m args below meth c E A nL cells slots Q pc L (vI y :: vI x :: S) M := by
  intro ls H locs hl hI
  have k := k ls H locs hl hI
  have e9 : Int32.ofInt (max x y) = if Int32.ofInt x < Int32.ofInt y then Int32.ofInt y else Int32.ofInt x := by
    have h9 := e32_lt h1 h2 h3 h4
    by_cases h : x < y
    · rw [if_pos (h9.mpr h)]; congr 1; omega
    · rw [if_neg (mt h9.mp h)]; congr 1; omega
  unfold vI at k ⊢
  rw [e9] at k
  exact va_mmax hC.1 hC.2.1 (hC.2.2.1.trans hl.1.symm) hC.2.2.2.1 (hC.2.2.2.2.1 _ w1) (hC.2.2.2.2.1 _ w2) (hC.2.2.2.2.1 _ w3) (hC.2.2.2.2.1 _ w4) hR.1 hR.2 hcs.1 hcs.2 hd k
theorem jw_min (hC : jC p e R s m args meth c E A cc nL own ret) {x y : Int} {idx : Nat} (hd : decode cc pc = .ok (.invokestatic idx, 3)) (h1 : -2147483648 ≤ x) (h2 : x < 2147483648) (h3 : -2147483648 ≤ y) (h4 : y < 2147483648) (w1 : Cond.methodLink own idx Lib.Math.min.name ∈ WW) (w2 : Cond.static Lib.Math.min.name ∈ WW) (w3 : Cond.initialized "java/lang/Math" ∈ WW) (w4 : Cond.code Lib.Math.min.name Lib.Math.min.code 2 (some .int) ∈ WW) (hR : 1 ≤ R.frames ∧ (S.map fun v => v.category).sum + 13 ≤ R.locals) (hcs : cells ≤ R.cells ∧ slots ≤ R.slots) (k : jJ p l e R s m args below meth c E A nL cells slots Q (pc + 3) L (vI (min x y) :: S) M) : jJ p l e R s m args below meth c E A nL cells slots Q pc L (vI y :: vI x :: S) M := by
  intro ls H locs hl hI
  have k := k ls H locs hl hI
  have e9 : Int32.ofInt (min x y) = if Int32.ofInt y < Int32.ofInt x then Int32.ofInt y else Int32.ofInt x := by
    have h9 := e32_lt h3 h4 h1 h2
    by_cases h : y < x
    · rw [if_pos (h9.mpr h)]; congr 1; omega
    · rw [if_neg (mt h9.mp h)]; congr 1; omega
  unfold vI at k ⊢
  rw [e9] at k
  exact va_mmin hC.1 hC.2.1 (hC.2.2.1.trans hl.1.symm) hC.2.2.2.1 (hC.2.2.2.2.1 _ w1) (hC.2.2.2.2.1 _ w2) (hC.2.2.2.2.1 _ w3) (hC.2.2.2.2.1 _ w4) hR.1 hR.2 hcs.1 hcs.2 hd k
theorem jw_geti (hC : jC p e R s m args meth c E A cc nL own ret) {idx ci kf o : Nat} {kI : Int} (hL : ewLr own idx ci kf) (hF : ewF o ci kf) (hkI : (kf : Int) = kI) (hd : decode cc pc = .ok (.getfield idx, 3)) (h13 : ¬ (o = 88 ∧ kI = 13)) (k : -2147483648 ≤ M o kI → M o kI < 2147483648 → jJ p l e R s m args below meth c E A nL cells slots Q (pc + 3) L (vI (M o kI) :: S) M) : jJ p l e R s m args below meth c E A nL cells slots Q pc L (vR E o :: S) M := by
  subst hkI
  intro ls H locs hl hI
  obtain ⟨C, T, N, tys, ⟨k1, k2, k3, k4⟩, hk, hw⟩ := hL
  obtain ⟨ho, hs⟩ := hF
  obtain ⟨fs, f1, f2, -⟩ := hs E (M o)
  exact va_get hC.1 hC.2.1 hC.2.2.2.2.1 k2 hC.2.2.2.1 hC.2.2.2.2.2.1 hI.1 o ((ew_get ho).trans (by rw [f1])) k1 kf hk (hC.2.2.2.2.1 _ hw) (fun _ h9 => h9) f2 hd (k (hI.2.2.2 o kf ho h13).1 (hI.2.2.2 o kf ho h13).2 ls H locs hl hI)
theorem jw_getr (hC : jC p e R s m args meth c E A cc nL own ret) {idx ci kf o t : Nat} (hL : ewLr own idx ci kf) (hF : ewR o ci kf t) (hd : decode cc pc = .ok (.getfield idx, 3)) (k : jJ p l e R s m args below meth c E A nL cells slots Q (pc + 3) L (vR E t :: S) M) : jJ p l e R s m args below meth c E A nL cells slots Q pc L (vR E o :: S) M := by
  intro ls H locs hl hI
  obtain ⟨C, T, N, tys, ⟨k1, k2, k3, k4⟩, hk, hw⟩ := hL
  obtain ⟨ho, hs⟩ := hF
  obtain ⟨fs, f1, f2⟩ := hs E (M o)
  exact va_get hC.1 hC.2.1 hC.2.2.2.2.1 k2 hC.2.2.2.1 hC.2.2.2.2.2.1 hI.1 o ((ew_get ho).trans (by rw [f1])) k1 kf hk (hC.2.2.2.2.1 _ hw) (fun _ h9 => h9) f2 hd (k ls H locs hl hI)
theorem jw_puti (hC : jC p e R s m args meth c E A cc nL own ret) {idx ci kf o : Nat} {x kI : Int} (hL : ewL own idx ci kf .int) (hF : ewF o ci kf) (hkI : (kf : Int) = kI) (hd : decode cc pc = .ok (.putfield idx, 3)) (h1 : -2147483648 ≤ x) (h2 : x < 2147483648) (k : jJ p l e R s m args below meth c E A nL cells slots Q (pc + 3) L S (mu M o kI x)) : jJ p l e R s m args below meth c E A nL cells slots Q pc L (vI x :: vR E o :: S) M := by
  subst hkI
  intro ls H locs hl hI
  obtain ⟨C, T, N, tys, ⟨k1, k2, k3, k4⟩, hk, hfin, hty, hw⟩ := hL
  obtain ⟨ho, hs⟩ := hF
  obtain ⟨fs, f1, f2, f3⟩ := hs E (M o)
  obtain ⟨hP, hD, hS, hS4⟩ := hI
  refine va_put (ty := .int) (v := vI x) hC.1 hC.2.1 hC.2.2.2.2.1 k2 tys k3 k4 hC.2.2.2.1 hC.2.2.2.2.2.1 hP hD hS o ((ew_get ho).trans (by rw [f1])) k1 kf hk (hC.2.2.2.2.1 _ hw) (fun _ h9 => h9) hfin ((k3 kf hk).trans (by rw [hty])) rfl rfl (List.getElem?_eq_some_iff.mp f2).1 hd (fun H1 locs1 hP hD hS => ?_)
  rw [ew_set (f3 x)] at hP hD
  exact k ls H1 locs1 hl ⟨hP, hD, hS, (ew_Smu hS4 h1 h2)⟩
theorem jw_putz (hC : jC p e R s m args meth c E A cc nL own ret) {idx ci kf o : Nat} {x kI : Int} (hL : ewL own idx ci kf .boolean) (hF : ewF o ci kf) (hkI : (kf : Int) = kI) (hd : decode cc pc = .ok (.putfield idx, 3)) (hz : x = 0 ∨ x = 1) (k : jJ p l e R s m args below meth c E A nL cells slots Q (pc + 3) L S (mu M o kI x)) : jJ p l e R s m args below meth c E A nL cells slots Q pc L (vI x :: vR E o :: S) M := by
  subst hkI
  intro ls H locs hl hI
  obtain ⟨C, T, N, tys, ⟨k1, k2, k3, k4⟩, hk, hfin, hty, hw⟩ := hL
  obtain ⟨ho, hs⟩ := hF
  obtain ⟨fs, f1, f2, f3⟩ := hs E (M o)
  obtain ⟨hP, hD, hS, hS4⟩ := hI
  refine va_put (ty := .boolean) (v := vI x) hC.1 hC.2.1 hC.2.2.2.2.1 k2 tys k3 k4 hC.2.2.2.1 hC.2.2.2.2.2.1 hP hD hS o ((ew_get ho).trans (by rw [f1])) k1 kf hk (hC.2.2.2.2.1 _ hw) (fun _ h9 => h9) hfin ((k3 kf hk).trans (by rw [hty])) (by rcases hz with rfl | rfl <;> rfl) (by rcases hz with rfl | rfl <;> rfl) (List.getElem?_eq_some_iff.mp f2).1 hd (fun H1 locs1 hP hD hS => ?_)
  rw [ew_set (f3 x)] at hP hD
  exact k ls H1 locs1 hl ⟨hP, hD, hS, (ew_Smu hS4 (by omega) (by omega))⟩
theorem jw_iald (hC : jC p e R s m args meth c E A cc nL own ret) {o n : Nat} {i : Int} (hA : ewA o 0 n) (hd : decode cc pc = .ok (.iaload, 1)) (h0 : 0 ≤ i) (hn : i < n) (hN : n < 2147483648) (k : -2147483648 ≤ M o i → M o i < 2147483648 → jJ p l e R s m args below meth c E A nL cells slots Q (pc + 1) L (vI (M o i) :: S) M) : jJ p l e R s m args below meth c E A nL cells slots Q pc L (vI i :: vR E o :: S) M := by
  intro ls H locs hl hI
  obtain ⟨ho, h88, hs⟩ := hA
  have hn9 : n < 2147483648 := hN
  have hcl := e32_clamp (a := i) h0 (by omega)
  have hin := e32_in h0 hn hn9
  refine va_iald hC.1 hC.2.1 hC.2.2.2.2.2.1 hI.1 o 0 ((ew_get ho).trans (by rw [hs]; rfl)) rfl hin hd ?_
  have k := k (hI.2.2.2 o i ho (fun h => h88 h.1)).1 (hI.2.2.2 o i ho (fun h => h88 h.1)).2 ls H locs hl hI
  unfold vI at k
  rw [← hcl] at k
  exact k
theorem jw_zald (hC : jC p e R s m args meth c E A cc nL own ret) {o n : Nat} {i : Int} (hA : ewA o 1 n) (hd : decode cc pc = .ok (.baload, 1)) (h0 : 0 ≤ i) (hn : i < n) (hN : n < 2147483648) (k : -2147483648 ≤ M o i → M o i < 2147483648 → jJ p l e R s m args below meth c E A nL cells slots Q (pc + 1) L (vI (M o i) :: S) M) : jJ p l e R s m args below meth c E A nL cells slots Q pc L (vI i :: vR E o :: S) M := by
  intro ls H locs hl hI
  obtain ⟨ho, h88, hs⟩ := hA
  have hn9 : n < 2147483648 := hN
  have hcl := e32_clamp (a := i) h0 (by omega)
  have hin := e32_in h0 hn hn9
  refine va_zald hC.1 hC.2.1 hC.2.2.2.2.2.1 hI.1 o 1 ((ew_get ho).trans (by rw [hs]; rfl)) rfl hin hd ?_
  have k := k (hI.2.2.2 o i ho (fun h => h88 h.1)).1 (hI.2.2.2 o i ho (fun h => h88 h.1)).2 ls H locs hl hI
  unfold vI at k
  rw [← hcl] at k
  exact k
theorem jw_iast (hC : jC p e R s m args meth c E A cc nL own ret) {o n : Nat} {i x : Int} (hA : ewA o 0 n) (hd : decode cc pc = .ok (.iastore, 1)) (h0 : 0 ≤ i) (hn : i < n) (hN : n < 2147483648) (h1 : -2147483648 ≤ x) (h2 : x < 2147483648) (k : jJ p l e R s m args below meth c E A nL cells slots Q (pc + 1) L S (mu M o i x)) : jJ p l e R s m args below meth c E A nL cells slots Q pc L (vI x :: vI i :: vR E o :: S) M := by
  intro ls H locs hl hI
  obtain ⟨ho, h88, hs⟩ := hA
  have hn9 : n < 2147483648 := hN
  have hcl := e32_clamp (a := i) h0 (by omega)
  have hin := e32_in h0 hn hn9
  obtain ⟨hP, hD, hS, hS4⟩ := hI
  have he : ew_cell E o (fun b => if b = i then x else M o b) = .inl (E.2.2.1 0, n, .inl (upd (fun k => Int32.ofInt (M o k)) (Int32.ofInt i).toNatClampNeg (Int32.ofInt x))) := by
    rw [hs]
    unfold ew_arr
    refine congrArg (fun z => Sum.inl (E.2.2.1 0, n, Sum.inl z)) (funext fun q => ?_)
    show Int32.ofInt (if (q : Int) = i then x else M o q) = if q = (Int32.ofInt i).toNatClampNeg then Int32.ofInt x else Int32.ofInt (M o q)
    by_cases hq : q = (Int32.ofInt i).toNatClampNeg
    · rw [if_pos hq, if_pos (by omega)]
    · rw [if_neg hq, if_neg (by omega)]
  refine va_iast hC.1 hC.2.1 hC.2.2.2.2.2.1 hP hD hS o 0 ((ew_get ho).trans (by rw [hs]; rfl)) rfl hin hd (fun H1 locs1 hP hD hS => ?_)
  rw [ew_set he] at hP hD
  exact k ls H1 locs1 hl ⟨hP, hD, hS, (ew_Smu hS4 h1 h2)⟩
theorem jw_zast (hC : jC p e R s m args meth c E A cc nL own ret) {o n : Nat} {i x : Int} (hA : ewA o 1 n) (hd : decode cc pc = .ok (.bastore, 1)) (h0 : 0 ≤ i) (hn : i < n) (hN : n < 2147483648) (hz : x = 0 ∨ x = 1) (k : jJ p l e R s m args below meth c E A nL cells slots Q (pc + 1) L S (mu M o i x)) : jJ p l e R s m args below meth c E A nL cells slots Q pc L (vI x :: vI i :: vR E o :: S) M := by
  intro ls H locs hl hI
  obtain ⟨ho, h88, hs⟩ := hA
  have hn9 : n < 2147483648 := hN
  have hcl := e32_clamp (a := i) h0 (by omega)
  have hin := e32_in h0 hn hn9
  obtain ⟨hP, hD, hS, hS4⟩ := hI
  have he : ew_cell E o (fun b => if b = i then x else M o b) = .inl (E.2.2.1 1, n, .inl (upd (fun k => Int32.ofInt (M o k)) (Int32.ofInt i).toNatClampNeg (vp_nar .boolean (Int32.ofInt x)))) := by
    rw [hs]
    unfold ew_arr
    have hz9 : vp_nar .boolean (Int32.ofInt x) = Int32.ofInt x := by rcases hz with rfl | rfl <;> rfl
    rw [hz9]
    refine congrArg (fun z => Sum.inl (E.2.2.1 1, n, Sum.inl z)) (funext fun q => ?_)
    show Int32.ofInt (if (q : Int) = i then x else M o q) = if q = (Int32.ofInt i).toNatClampNeg then Int32.ofInt x else Int32.ofInt (M o q)
    by_cases hq : q = (Int32.ofInt i).toNatClampNeg
    · rw [if_pos hq, if_pos (by omega)]
    · rw [if_neg hq, if_neg (by omega)]
  refine va_zast hC.1 hC.2.1 hC.2.2.2.2.2.1 hP hD hS o 1 ((ew_get ho).trans (by rw [hs]; rfl)) rfl hin hd (fun H1 locs1 hP hD hS => ?_)
  rw [ew_set he] at hP hD
  exact k ls H1 locs1 hl ⟨hP, hD, hS, (ew_Smu hS4 (by omega) (by omega))⟩
def ct_Q (E : ewE) (A : Nat → Prop) (post : Option Value → ewM → Prop) : Array Value → State → Outcome → State → Prop := fun _ st oc t => (∃ (v : Option Value) (M1 : ewM), oc = .returned v ∧ post v M1 ∧ ew_B E M1 t) ∧ va_F A st t
abbrev ct_rm (d : Nat) : Room := { frames := d, cells := 0, slots := 0, locals := 40 * d }
/-- a contract: from the world M the method y of these arguments comes back, and 'post' tells answer and world; it makes nothing -/
def Ct (l : Launch) (E : ewE) (y : MethodName) (cd : Cond) (d : Nat) (As : List Value) (M : ewM) (post : Option Value → ewM → Prop) : Prop :=
  ∀ sz : Nat, Met l y (cd :: WW) (ct_rm d) (va_Pc As (fun U => U.heap.size = sz ∧ ew_B E M U)) (ct_Q E (ew_A E sz) post) 0 0 (ew_A E sz)
theorem jw_iret (hC : jC p e R s m args meth c E A cc nL own (some .int)) {post : Option Value → ewM → Prop} {x : Int} (hd : decode cc pc = .ok (.ireturn, 1)) (h : post (some (vI x)) M) : jJ p l e R s m args below meth c E A nL cells slots (MQ below (ct_Q E A post) args s cells slots A) pc L [vI x] M := by
  intro ls H locs hl hI
  exact W.iret hC.1 hC.2.1 hC.2.2.2.2.2.2.2.1 (fun t ht hW => ⟨⟨_, M, rfl, h, ⟨by rw [ht]; exact hI.1, va_K.moved hW.alike hC.2.2.2.2.2.1, hI.2.1.weaken (fun _ _ _ _ => trivial), hI.2.2.2, hC.2.2.2.2.2.2.2.2.2.2.1.moved hW, jw_G hC hI ht hW⟩⟩, hI.2.2.1.F ht⟩) hI.2.2.1.2.2 hd hC.2.2.2.2.2.2.1
theorem jw_zret (hC : jC p e R s m args meth c E A cc nL own (some .boolean)) {post : Option Value → ewM → Prop} {x : Int} (hz : x = 0 ∨ x = 1) (hd : decode cc pc = .ok (.ireturn, 1)) (h : post (some (vI x)) M) : jJ p l e R s m args below meth c E A nL cells slots (MQ below (ct_Q E A post) args s cells slots A) pc L [vI x] M := by
  intro ls H locs hl hI
  exact W.zret hC.1 hC.2.1 hC.2.2.2.2.2.2.2.1 (by rcases hz with rfl | rfl <;> rfl) (fun t ht hW => ⟨⟨_, M, rfl, h, ⟨by rw [ht]; exact hI.1, va_K.moved hW.alike hC.2.2.2.2.2.1, hI.2.1.weaken (fun _ _ _ _ => trivial), hI.2.2.2, hC.2.2.2.2.2.2.2.2.2.2.1.moved hW, jw_G hC hI ht hW⟩⟩, hI.2.2.1.F ht⟩) hI.2.2.1.2.2 hd hC.2.2.2.2.2.2.1
theorem jw_lret (hC : jC p e R s m args meth c E A cc nL own (some .long)) {post : Option Value → ewM → Prop} {x : Int} (hd : decode cc pc = .ok (.lreturn, 1)) (h : post (some (vJ x)) M) : jJ p l e R s m args below meth c E A nL cells slots (MQ below (ct_Q E A post) args s cells slots A) pc L [vJ x] M := by
  intro ls H locs hl hI
  exact W.lret hC.1 hC.2.1 hC.2.2.2.2.2.2.2.1 (fun t ht hW => ⟨⟨_, M, rfl, h, ⟨by rw [ht]; exact hI.1, va_K.moved hW.alike hC.2.2.2.2.2.1, hI.2.1.weaken (fun _ _ _ _ => trivial), hI.2.2.2, hC.2.2.2.2.2.2.2.2.2.2.1.moved hW, jw_G hC hI ht hW⟩⟩, hI.2.2.1.F ht⟩) hI.2.2.1.2.2 hd hC.2.2.2.2.2.2.1
theorem jw_dret (hC : jC p e R s m args meth c E A cc nL own (some .double)) {post : Option Value → ewM → Prop} {x : UInt64} (hd : decode cc pc = .ok (.dreturn, 1)) (h : post (some (Value.double x)) M) : jJ p l e R s m args below meth c E A nL cells slots (MQ below (ct_Q E A post) args s cells slots A) pc L [Value.double x] M := by
  intro ls H locs hl hI
  exact W.dret hC.1 hC.2.1 hC.2.2.2.2.2.2.2.1 (fun t ht hW => ⟨⟨_, M, rfl, h, ⟨by rw [ht]; exact hI.1, va_K.moved hW.alike hC.2.2.2.2.2.1, hI.2.1.weaken (fun _ _ _ _ => trivial), hI.2.2.2, hC.2.2.2.2.2.2.2.2.2.2.1.moved hW, jw_G hC hI ht hW⟩⟩, hI.2.2.1.F ht⟩) hI.2.2.1.2.2 hd hC.2.2.2.2.2.2.1
theorem jw_vret (hC : jC p e R s m args meth c E A cc nL own none) {post : Option Value → ewM → Prop}  (hd : decode cc pc = .ok (.return_, 1)) (h : post none M) : jJ p l e R s m args below meth c E A nL cells slots (MQ below (ct_Q E A post) args s cells slots A) pc L [] M := by
  intro ls H locs hl hI
  exact W.vret hC.1 hC.2.1 hC.2.2.2.2.2.2.2.1 (fun t ht hW => ⟨⟨_, M, rfl, h, ⟨by rw [ht]; exact hI.1, va_K.moved hW.alike hC.2.2.2.2.2.1, hI.2.1.weaken (fun _ _ _ _ => trivial), hI.2.2.2, hC.2.2.2.2.2.2.2.2.2.2.1.moved hW, jw_G hC hI ht hW⟩⟩, hI.2.2.1.F ht⟩) hI.2.2.1.2.2 hd hC.2.2.2.2.2.2.1

theorem ew_DA {E : ewE} {A : Nat → Prop} {M : ewM} (h : va_D (fun _ => True) (ew_ws E M)) (hA : ∀ i : Nat, i < 88 → A (E.1 i)) : va_D A (ew_ws E M) := by
  refine h.weaken (fun k q hk _ => ?_)
  have hk0 : k < 88 := by
    have := (List.getElem?_eq_some_iff.mp hk).1
    unfold ew_ws at this
    rwa [List.length_map, List.length_range] at this
  rw [ew_get hk0] at hk
  cases hk
  exact hA k hk0
/-- what a virtual call's place says: own's pool entry idx is y of the class C, its code, its number of arguments -/
def ewV (own : String) (idx : Nat) (C : String) (y : MethodName) (bytes : ByteArray) (maxL : Nat) (rt : Option FieldType) (n ci : Nat) : Prop :=
  Cond.methodLink own idx y ∈ WW ∧ Cond.instanceMethod y ∈ WW ∧ Cond.selects C y y ∈ WW ∧ Cond.initialized C ∈ WW ∧ Cond.code y bytes maxL rt ∈ WW ∧ (y.cls = C ∧ y.cls ≠ "java/lang/invoke/MethodHandle" ∧ y.cls ≠ "java/lang/invoke/VarHandle" ∧ (parseMethodDescriptor y.desc).map (fun d => d.parameters.length) = some n) ∧ ∃ (T : u_T) (N : Nat), vwCl[ci]? = some (C, T, N)
/-- .. a static call's -/
def ewSt (own : String) (idx : Nat) (y : MethodName) (bytes : ByteArray) (maxL : Nat) (rt : Option FieldType) (n : Nat) : Prop :=
  Cond.methodLink own idx y ∈ WW ∧ Cond.static y ∈ WW ∧ Cond.initialized y.cls ∈ WW ∧ Cond.code y bytes maxL rt ∈ WW ∧ y.cls ≠ "java/lang/invoke/MethodHandle" ∧ y.cls ≠ "java/lang/invoke/VarHandle" ∧ (parseMethodDescriptor y.desc).map (fun d => d.parameters.length) = some n
/-- behind a call of a contract's method -/
theorem jw_run (hC : jC p e R s m args meth c E A cc nL own ret) {S0 : List Value} {ls : Array Slot} {H : Heap} {locs : List Loc} {post : Option Value → ewM → Prop} {a : Array Value}
    (hl : lv_has ls nL L) (hI : ew_I E A s M H locs) (hr : va_Run p l e R s m args below meth c H locs cells slots 0 0 (F0 m pc ls S0) S (ct_Q E (ew_A E H.size) post a) (ew_A E H.size))
    (k : ∀ (v : Option Value) (M1 : ewM), post v M1 → jJ p l e R s m args below meth c E A nL cells slots Q (pc + 3) L (vpush v S) M1) : W p l e R s m args below meth c H locs cells slots Q (F0 m pc ls S0) := by
  intro T hT X
  obtain ⟨v, st0, t, T', Lc, h0, X', hL, e1, e2, ⟨⟨v1, M1, hv, hp, hB⟩, hz, hk⟩, st⟩ := hr T hT X
  cases hv
  rw [h0] at hz hk
  obtain ⟨hP, hD, hS, hS4⟩ := hI
  have hAA : ∀ q : Nat, ew_A E H.size q → A q := by
    rintro q (⟨i, hi, rfl⟩ | hq)
    · exact hC.2.2.2.2.2.2.2.2.2.1 i hi
    · exact hC.2.2.2.2.2.2.2.2.1 q (Nat.le_trans hS.1 hq)
  have hI1 : ew_I E A s M1 T'.heap (locs ++ Lc) := by
    refine ⟨by rw [e1]; exact hB.1, ew_DA hB.2.2.1 hC.2.2.2.2.2.2.2.2.2.1, ⟨by rw [e1]; exact Nat.le_trans hS.1 hz, fun q h1 h2 => ?_, fun q hq => ?_⟩, hB.2.2.2.1⟩
    · rw [e1, hk q (Nat.lt_of_lt_of_le h1 hS.1) (fun z => h2 (hAA q z))]
      exact hS.2.1 q h1 h2
    · rcases List.mem_append.mp hq with h | h
      · exact hS.2.2 q h
      · exact hAA _ (hL q h)
  have k := k v M1 hp ls T'.heap (locs ++ Lc) hl hI1
  rw [← vpush_eq] at k
  obtain ⟨t2, a1, b1⟩ := k T' rfl X'
  exact ⟨t2, st t2 a1, b1⟩
theorem jw_blind {sz : Nat} {As : List Value} : FrameBlind (va_Pc As (fun U => U.heap.size = sz ∧ ew_B E M U)) := by
  intro a U g mk q
  obtain ⟨q0, q1, qP, qK, qD, qS, qN, qG⟩ := q
  exact ⟨q0, q1, qP, va_K.moved (u := U) (U := U.calling g mk a) (Vm.Alike.refl U.vm) qK, qD, qS, ew_N.same (u := U) (U := U.calling g mk a) rfl qN, ew_G.mv (u := U) (U := U.calling g mk a) qG (Vm.Alike.refl U.vm) (fun _ _ _ => rfl) (fun _ h => h)⟩
theorem jw_pre (hC : jC p e R s m args meth c E A cc nL own ret) {H : Heap} {locs : List Loc} (hI : ew_I E A s M H locs) {As : List Value} : ∀ U : State, U.heap = H → s.WarmedH U.vm → va_Pc As (fun U => U.heap.size = H.size ∧ ew_B E M U) As.toArray U := by
  intro U hU hW
  exact ⟨rfl, by rw [hU], by rw [hU]; exact hI.1, va_K.moved hW.alike hC.2.2.2.2.2.1, hI.2.1.weaken (fun _ _ _ _ => trivial), hI.2.2.2, hC.2.2.2.2.2.2.2.2.2.2.1.moved hW, jw_G hC hI hU hW⟩
theorem jw_callV (hC : jC p e R s m args meth c E A cc nL own ret) {S0 As : List Value} {idx o ci maxL d n : Nat} {C : String} {y : MethodName} {bytes : ByteArray} {rt : Option FieldType} {post : Option Value → ewM → Prop}
    (hM : Ct l E y (.code y bytes maxL rt) d (vR E o :: As) M post) (hV : ewV own idx C y bytes maxL rt n ci) (hO : ewO o ci) (hd : decode cc pc = .ok (.invokevirtual idx, 3)) (hst : S0 = As.reverse ++ vR E o :: S) (hn : As.length = n)
    (hR : d + 1 ≤ R.frames ∧ 8 + (maxL + 11) + 40 * d ≤ R.locals) (hcs : cells ≤ R.cells ∧ slots ≤ R.slots) (hS : (S.map fun v => v.category).sum ≤ 8)
    (k : ∀ (v : Option Value) (M1 : ewM), post v M1 → jJ p l e R s m args below meth c E A nL cells slots Q (pc + 3) L (vpush v S) M1) : jJ p l e R s m args below meth c E A nL cells slots Q pc L S0 M := by
  intro ls H locs hl hI
  obtain ⟨w1, w2, w3, w4, w5, hd1, T, N, hcl⟩ := hV
  have hG : GoodIn WW (wsV own idx C y (Cond.code y bytes maxL rt :: WW)) := by
    intro w hw
    have hm : w ∈ WW := by
      simp only [wsV, List.cons_append, List.nil_append, List.mem_cons] at hw
      rcases hw with rfl | rfl | rfl | rfl | rfl | hw
      · exact w1
      · exact w2
      · exact w3
      · exact w4
      · exact w5
      · exact hw
    exact ⟨hm, ww_good hm⟩
  have cw := cwV (R := R) (rm := ct_rm d) (mc := 0) (ms := 0) n hC.2.2.2.2.1 hG rfl rfl rfl hd1 hR
  obtain ⟨ho, hs⟩ := hO
  obtain ⟨fs, f1⟩ := hs E (M o)
  have hrec : ∃ cell : Cell, H[E.1 o]? = some cell ∧ cell.vm.isStatics = false ∧ s.vm.findClass C = some cell.cls := va_recv hC.2.2.2.2.2.1 hI.1 hcl ((ew_get ho).trans (by rw [f1]))
  exact jw_run hC hl hI (va_runV (As := As) (rest := S) ⟨hC.1, hC.2.1, hC.2.2.1, hC.2.2.2.1, hC.2.2.2.2.1⟩ (hM H.size) cw ⟨jw_blind, hrec, jw_pre hC hI⟩ rfl hn hl.1 hst (lv_room hS) hd hcs) k
theorem jw_callS (hC : jC p e R s m args meth c E A cc nL own ret) {S0 As : List Value} {idx maxL d n : Nat} {y : MethodName} {bytes : ByteArray} {rt : Option FieldType} {post : Option Value → ewM → Prop}
    (hM : Ct l E y (.code y bytes maxL rt) d As M post) (hV : ewSt own idx y bytes maxL rt n) (hd : decode cc pc = .ok (.invokestatic idx, 3)) (hst : S0 = As.reverse ++ S) (hn : As.length = n)
    (hR : d + 1 ≤ R.frames ∧ 8 + (maxL + 11) + 40 * d ≤ R.locals) (hcs : cells ≤ R.cells ∧ slots ≤ R.slots) (hS : (S.map fun v => v.category).sum ≤ 8)
    (k : ∀ (v : Option Value) (M1 : ewM), post v M1 → jJ p l e R s m args below meth c E A nL cells slots Q (pc + 3) L (vpush v S) M1) : jJ p l e R s m args below meth c E A nL cells slots Q pc L S0 M := by
  intro ls H locs hl hI
  obtain ⟨w1, w2, w4, w5, hd1⟩ := hV
  have hG : GoodIn WW (va_wsS own idx y (Cond.code y bytes maxL rt :: WW)) := by
    intro w hw
    have hm : w ∈ WW := by
      simp only [va_wsS, List.cons_append, List.nil_append, List.mem_cons] at hw
      rcases hw with rfl | rfl | rfl | rfl | hw
      · exact w1
      · exact w2
      · exact w4
      · exact w5
      · exact hw
    exact ⟨hm, ww_good hm⟩
  have cw := va_cwS (R := R) (rm := ct_rm d) (mc := 0) (ms := 0) n hC.2.2.2.2.1 hG rfl rfl rfl hd1 hR
  exact jw_run hC hl hI (va_runS (As := As) (rest := S) ⟨hC.1, hC.2.1, hC.2.2.1, hC.2.2.2.1, hC.2.2.2.2.1⟩ (hM H.size) cw ⟨jw_blind, jw_pre hC hI⟩ rfl hn hl.1 hst (lv_room hS) hd hcs) k
/-- a static call of a nest mate's private method -/
def ewSn (own : String) (idx : Nat) (y : MethodName) (bytes : ByteArray) (maxL : Nat) (rt : Option FieldType) (n : Nat) : Prop :=
  Cond.methodLinkNest own idx y "EmbossPress" ∈ NWL ∧ Cond.static y ∈ WW ∧ Cond.initialized y.cls ∈ WW ∧ Cond.code y bytes maxL rt ∈ WW ∧ y.cls ≠ "java/lang/invoke/MethodHandle" ∧ y.cls ≠ "java/lang/invoke/VarHandle" ∧ (parseMethodDescriptor y.desc).map (fun d => d.parameters.length) = some n
theorem jw_callSn (hC : jC p e R s m args meth c E A cc nL own ret) {S0 As : List Value} {idx maxL d n : Nat} {y : MethodName} {bytes : ByteArray} {rt : Option FieldType} {post : Option Value → ewM → Prop}
    (hM : Ct l E y (.code y bytes maxL rt) d As M post) (hV : ewSn own idx y bytes maxL rt n) (hd : decode cc pc = .ok (.invokestatic idx, 3)) (hst : S0 = As.reverse ++ S) (hn : As.length = n)
    (hR : d + 1 ≤ R.frames ∧ 8 + (maxL + 11) + 40 * d ≤ R.locals) (hcs : cells ≤ R.cells ∧ slots ≤ R.slots) (hS : (S.map fun v => v.category).sum ≤ 8)
    (k : ∀ (v : Option Value) (M1 : ewM), post v M1 → jJ p l e R s m args below meth c E A nL cells slots Q (pc + 3) L (vpush v S) M1) : jJ p l e R s m args below meth c E A nL cells slots Q pc L S0 M := by
  intro ls H locs hl hI
  obtain ⟨w1, w2, w4, w5, hd1⟩ := hV
  have hG : GoodIn WW (Cond.code y bytes maxL rt :: WW) := by
    intro w hw
    have hm : w ∈ WW := by
      rcases List.mem_cons.mp hw with rfl | hw
      · exact w5
      · exact hw
    exact ⟨hm, ww_good hm⟩
  have cw := va_cnB (R := R) (rm := ct_rm d) (mc := 0) (ms := 0) n hC.2.2.2.2.1 hG rfl rfl rfl (hC.2.2.2.2.2.2.2.2.2.2.1.1 _ w1) (hC.2.2.2.2.1 _ w4) hd1 hR
  exact jw_run hC hl hI (va_runSN (As := As) (rest := S) ⟨hC.1, hC.2.1, hC.2.2.1, hC.2.2.2.1, hC.2.2.2.2.1⟩ (hM H.size) ⟨cw, hC.2.2.2.2.1 _ w2, trivial⟩ ⟨jw_blind, jw_pre hC hI⟩ rfl hn hl.1 hst (lv_room hS) hd hcs) k
theorem jw_loc (is : List Nat) (hf : lv_pick L is = L') (k : jJ p l e R s m args below meth c E A nL cells slots Q pc L' S M) : jJ p l e R s m args below meth c E A nL cells slots Q pc L S M := fun ls H locs hl hI => k ls H locs (lv_sub hl is hf) hI
theorem jw_S (k : ew_S M → jJ p l e R s m args below meth c E A nL cells slots Q pc L S M) : jJ p l e R s m args below meth c E A nL cells slots Q pc L S M := fun ls H locs hl hI => k hI.2.2.2 ls H locs hl hI
theorem jw_if {q : Prop} (h : Decidable q) {L2 : List (Nat × Value)} {S2 : List Value} (kt : q → jJ p l e R s m args below meth c E A nL cells slots Q pc L S M) (kf : ¬ q → jJ p l e R s m args below meth c E A nL cells slots Q pc L2 S2 M) : jJ p l e R s m args below meth c E A nL cells slots Q pc (if q then L else L2) (if q then S else S2) M := by
  by_cases hq : q
  · rw [if_pos hq, if_pos hq]; exact kt hq
  · rw [if_neg hq, if_neg hq]; exact kf hq
end JW
/-- a contract, by the walk of the method's body -/
theorem ct_of {l : Launch} {E : ewE} {y : MethodName} {cc : ByteArray} {nL d : Nat} {ret : Option FieldType} {As : List Value} {L0 : List (Nat × Value)} {M : ewM} {post : Option Value → ewM → Prop} (hy : plainName y.cls = true) (hL0 : lv_args 0 As = L0) (hlen : (lg_sl As).length ≤ nL)
    (body : ∀ (p : Program) (e : Env) (s : State) (m : MethodId) (args : Array Value) (below : List Frame) (meth : Method) (c : Code) (A : Nat → Prop), jC p e (ct_rm d) s m args meth c E A cc nL y.cls ret → jJ p l e (ct_rm d) s m args below meth c E A nL 0 0 (MQ below (ct_Q E A post) args s 0 0 A) 0 L0 [] M) : Ct l E y (.code y cc nL ret) d As M post := by
  intro sz
  refine Met.ofW (cc := cc) (maxL := nL) (ret := ret) hy rfl ?_
  intro p e s m args below meth c s₁ B hml hv
  obtain ⟨rfl, hsz, hP, hK, hD, hS, hN, hG⟩ := hv
  subst hsz
  have hts := atoms_spec (ws := Cond.code y cc nL ret :: WW) B.pre
  have hC : jC p e (ct_rm d) s m As.toArray meth c E (ew_A E s.heap.size) cc nL y.cls ret := ⟨B.exec, B.bytes, hml, findClass_of_methodNamed B.named, fun w h => hts w (List.mem_cons_of_mem _ h), hK, B.notSynchronized, B.returns, fun q h => Or.inr h, fun i hi => Or.inl ⟨i, hi, rfl⟩, hN, hG⟩
  have hl := lv_entry As (n := nL) hlen
  rw [lg_entry_eq]
  rw [hL0] at hl
  exact body p e s m As.toArray below meth c (ew_A E s.heap.size) hC _ s.heap [] hl ⟨hP, ew_DA hD (fun i hi => Or.inl ⟨i, hi, rfl⟩), va_S.rf, hS⟩
