/-! CONSTRUCTORS: a world that grows, cell by cell: kJ pc L S ws -/
theorem kx_lt {D : va_G} {cl : List vw_C} {ws : va_W} {H1 : Heap} (h : va_P D cl ws H1) {k : Nat} {q : Nat × va_E} (hk : ws[k]? = some q) : q.1 < H1.size := (h k q hk).lt
abbrev kty (T : Nat → ClassId) : List (ClassId × FieldType) := [(T 0, .int), (T 1, .boolean), (T 2, .int), (T 3, .object "EmbossPress$State")]
/-- an array of n whole numbers or booleans (t 0 or 1), all 0 -/
def kA (T : Nat → ClassId) (t n : Nat) : va_E := .inl (T t, n, .inl (fun _ => Int32.ofInt 0))
/-- the cell of FIRST_VALUES -/
def kF (fv : Nat) (T : Nat → ClassId) (A : Nat → Prop) (H : Heap) : Prop := ∃ cell : Cell, H[fv]? = some cell ∧ (∀ k, cell.vm ≠ .statics k) ∧ cell.vm ≠ .unknown ∧ cell.cls = T 0 ∧ cell.slots = (vp_cell (T 0) (4, .inl (fun k => Int32.ofInt (g_first k)))).slots ∧ ¬ A fv
def kZ (fv : Nat) (T : Nat → ClassId) (A : Nat → Prop) (U : State) (H : Heap) : Prop := va_Z "EmbossPress" "FIRST_VALUES" "[I" (.ref fv) A U H ∧ kF fv T A H
theorem kZ.mv {fv : Nat} {T : Nat → ClassId} {A B : Nat → Prop} {u U : State} {H H1 : Heap} (h : kZ fv T A u H) (hvm : u.vm.Alike U.vm) (hq : ∀ a : Nat, a < H.size → ¬ A a → H1[a]? = H[a]?) (hAB : ∀ q, B q → A q) : kZ fv T B U H1 := by
  obtain ⟨h1, cell, a1, a2, a3, a4, a5, a6⟩ := h
  exact ⟨((h1.moved hvm).kept hq).narrow hAB, cell, by rw [hq fv (Array.getElem?_eq_some_iff.mp a1).1 a6]; exact a1, a2, a3, a4, a5, fun z => a6 (hAB _ z)⟩
def kN (U : State) : Prop := ew_N U ∧ va_Nw (.castable "[I" "java/lang/Cloneable") U ∧ va_AO "EmbossPress$State" U
theorem kN.moved {s U : State} (hW : s.WarmedH U.vm) (h : kN s) : kN U := ⟨h.1.moved hW, va_Nw.warmC hW h.2.1, va_AO.moved hW.alike h.2.2⟩
theorem kN.same {u U : State} (hv : u.vm = U.vm) (h : kN u) : kN U := ⟨h.1.same hv, va_Nw.same rfl hv h.2.1, va_AO.moved (by rw [hv]; exact Vm.Alike.refl U.vm) h.2.2⟩
def k1 (h0 sz : Nat) : Nat → Prop := fun q => q = h0 ∨ sz ≤ q
abbrev k_rm (d nc ns : Nat) : Room := { frames := d, cells := nc, slots := ns, locals := 60 * d }
def kB (D : va_G) (T : Nat → ClassId) (fv h0 : Nat) (e0 : va_E) (sz : Nat) (U : State) : Prop := U.heap.size = sz ∧ (va_P D vwCl [(h0, e0)] U.heap ∧ h0 < sz) ∧ va_K D vwCl (kty T) U ∧ kN U ∧ kZ fv T (k1 h0 sz) U U.heap
def kQ (D : va_G) (B : va_W → Prop) (A : Nat → Prop) : Array Value → State → Outcome → State → Prop := fun _ st oc t => (∃ ws1 : va_W, oc = .returned none ∧ B ws1 ∧ va_P D vwCl ws1 t.heap ∧ va_D A ws1) ∧ va_F A st t
/-- a constructor's contract: the cell h0, with e0, becomes the cells of B -/
def Ck (l : Launch) (D : va_G) (T : Nat → ClassId) (fv : Nat) (y : MethodName) (cd : Cond) (d nc ns h0 : Nat) (e0 : va_E) (B : va_W → Prop) : Prop :=
  ∀ sz : Nat, Met l y (cd :: WW) (k_rm d nc ns) (va_Pc [.ref h0] (kB D T fv h0 e0 sz)) (kQ D B (k1 h0 sz)) nc ns (k1 h0 sz)
theorem kB_blind {D : va_G} {T : Nat → ClassId} {fv h0 sz : Nat} {e0 : va_E} {As : List Value} : FrameBlind (va_Pc As (kB D T fv h0 e0 sz)) := by
  intro a U g mk q
  obtain ⟨q0, q1, q2, q3, q4, q5⟩ := q
  exact ⟨q0, q1, q2, va_K.moved (u := U) (U := U.calling g mk a) (Vm.Alike.refl U.vm) q3, kN.same (u := U) (U := U.calling g mk a) rfl q4, kZ.mv (u := U) (U := U.calling g mk a) q5 (Vm.Alike.refl U.vm) (fun _ _ _ => rfl) (fun _ h => h)⟩
section KW
variable {p : Program} {l : Launch} {e : Env} {R : Room} {s : State} {m : MethodId} {args : Array Value} {below : List Frame} {meth : Method} {c : Code} {D : va_G} {T : Nat → ClassId} {fv : Nat} {A : Nat → Prop} {cc : ByteArray} {nL : Nat} {own : String} {cells slots : Nat} {Q : State → Prop} {pc : Nat} {L L' : List (Nat × Value)} {S : List Value} {ws ws' : va_W}
def kC (p : Program) (s : State) (m : MethodId) (args : Array Value) (meth : Method) (c : Code) (D : va_G) (T : Nat → ClassId) (fv : Nat) (A : Nat → Prop) (cc : ByteArray) (nL : Nat) (own : String) : Prop :=
  p.tables.exec = Jvm.exec ∧ c.code = cc ∧ c.maxLocals = nL ∧ s.vm.findClass own = some m.cls ∧ (∀ w ∈ WW, w.before args s = true) ∧ va_K D vwCl (kty T) s ∧ meth.locks = false ∧ (∀ q : Nat, s.heap.size ≤ q → A q) ∧ kN s ∧ kZ fv T A s s.heap
def kJ (p : Program) (l : Launch) (e : Env) (R : Room) (s : State) (m : MethodId) (args : Array Value) (below : List Frame) (meth : Method) (c : Code) (D : va_G) (A : Nat → Prop) (nL : Nat) (cells slots : Nat) (Q : State → Prop) (pc : Nat) (L : List (Nat × Value)) (S : List Value) (ws : va_W) : Prop :=
  ∀ (ls : Array Slot) (H : Heap) (locs : List Loc), lv_has ls nL L → va_P D vwCl ws H → va_D A ws → va_S A s.heap H locs → W p l e R s m args below meth c H locs cells slots Q (F0 m pc ls S)
theorem kw_eq (h : ws = ws') (k : kJ p l e R s m args below meth c D A nL cells slots Q pc L S ws') : kJ p l e R s m args below meth c D A nL cells slots Q pc L S ws := by rw [h]; exact k
theorem kw_widen {k n : Nat} (h1 : cells ≤ k) (h2 : slots ≤ n) (k9 : kJ p l e R s m args below meth c D A nL k n Q pc L S ws) : kJ p l e R s m args below meth c D A nL cells slots Q pc L S ws := fun ls H locs hl hP hD hS => W.widen h1 h2 (k9 ls H locs hl hP hD hS)
theorem kw_aload_n (hC : kC p s m args meth c D T fv A cc nL own) {kk : Fin 4} {i x : Nat} (hd : decode cc pc = .ok (.aload_n kk, 1)) (j : Nat) (hi : (kk : Nat) = i) (hj : L[j]? = some (i, .ref x)) (k : kJ p l e R s m args below meth c D A nL cells slots Q (pc + 1) L (.ref x :: S) ws) : kJ p l e R s m args below meth c D A nL cells slots Q pc L S ws :=
  fun ls H locs hl hP hD hS => lv_aload_n hC.1 hC.2.1 hd hi (lv_at hl j hj) (k ls H locs hl hP hD hS)
theorem kw_astore_n (hC : kC p s m args meth c D T fv A cc nL own) {kk : Fin 4} {i x : Nat} (hd : decode cc pc = .ok (.astore_n kk, 1)) (hi : (kk : Nat) = i) (hn : i < nL) (hf : (i, Value.ref x) :: L.filter (fun q => !(q.1 == i) && !(q.1 + 1 == i && q.2.category == 2)) = L') (k : kJ p l e R s m args below meth c D A nL cells slots Q (pc + 1) L' S ws) : kJ p l e R s m args below meth c D A nL cells slots Q pc L (.ref x :: S) ws :=
  fun ls H locs hl hP hD hS => lv_astore_n hC.1 hC.2.1 hd hi hl hn hf (fun ls2 hl2 => k ls2 H locs hl2 hP hD hS)
theorem kw_istore_n (hC : kC p s m args meth c D T fv A cc nL own) {kk : Fin 4} {i : Nat} {x : Int} (hd : decode cc pc = .ok (.istore_n kk, 1)) (hi : (kk : Nat) = i) (hn : i < nL) (hf : (i, Value.int (Int32.ofInt x)) :: L.filter (fun q => !(q.1 == i) && !(q.1 + 1 == i && q.2.category == 2)) = L') (k : kJ p l e R s m args below meth c D A nL cells slots Q (pc + 1) L' S ws) : kJ p l e R s m args below meth c D A nL cells slots Q pc L (vI x :: S) ws :=
  fun ls H locs hl hP hD hS => lv_istore_n hC.1 hC.2.1 hd hi hl hn hf (fun ls2 hl2 => k ls2 H locs hl2 hP hD hS)
theorem kw_istore (hC : kC p s m args meth c D T fv A cc nL own) {i : Nat} {x : Int} (hd : decode cc pc = .ok (.istore i, 2)) (hn : i < nL) (hf : (i, Value.int (Int32.ofInt x)) :: L.filter (fun q => !(q.1 == i) && !(q.1 + 1 == i && q.2.category == 2)) = L') (k : kJ p l e R s m args below meth c D A nL cells slots Q (pc + 2) L' S ws) : kJ p l e R s m args below meth c D A nL cells slots Q pc L (vI x :: S) ws :=
  fun ls H locs hl hP hD hS => lv_istore hC.1 hC.2.1 hd hl hn hf (fun ls2 hl2 => k ls2 H locs hl2 hP hD hS)
theorem kw_iload_n (hC : kC p s m args meth c D T fv A cc nL own) {kk : Fin 4} {i : Nat} {x : Int} (hd : decode cc pc = .ok (.iload_n kk, 1)) (j : Nat) (hi : (kk : Nat) = i) (hj : L[j]? = some (i, vI x)) (k : kJ p l e R s m args below meth c D A nL cells slots Q (pc + 1) L (vI x :: S) ws) : kJ p l e R s m args below meth c D A nL cells slots Q pc L S ws :=
  fun ls H locs hl hP hD hS => lv_iload_n hC.1 hC.2.1 hd hi (lv_at hl j hj) (k ls H locs hl hP hD hS)
theorem kw_iinc (hC : kC p s m args meth c D T fv A cc nL own) {i : Nat} {n x : Int} (hd : decode cc pc = .ok (.iinc i n, 3)) (j : Nat) (hj : L[j]? = some (i, vI x)) (hn : i < nL) (hf : (i, Value.int (Int32.ofInt (x + n))) :: L.filter (fun q => !(q.1 == i) && !(q.1 + 1 == i && q.2.category == 2)) = L') (k : kJ p l e R s m args below meth c D A nL cells slots Q (pc + 3) L' S ws) : kJ p l e R s m args below meth c D A nL cells slots Q pc L S ws :=
  fun ls H locs hl hP hD hS => lv_iinc hC.1 hC.2.1 hd hl hj (Int32.ofInt_add x n).symm hn hf (fun ls2 hl2 => k ls2 H locs hl2 hP hD hS)
theorem kw_iconst (hC : kC p s m args meth c D T fv A cc nL own) {n : Int} (hd : decode cc pc = .ok (.iconst n, 1)) (k : kJ p l e R s m args below meth c D A nL cells slots Q (pc + 1) L (vI n :: S) ws) : kJ p l e R s m args below meth c D A nL cells slots Q pc L S ws :=
  fun ls H locs hl hP hD hS => lv_iconst hC.1 hC.2.1 hd rfl (k ls H locs hl hP hD hS)
theorem kw_bipush (hC : kC p s m args meth c D T fv A cc nL own) {n : Int} (hd : decode cc pc = .ok (.bipush n, 2)) (hv : (Int8.ofInt n).toInt32 = Int32.ofInt n) (k : kJ p l e R s m args below meth c D A nL cells slots Q (pc + 2) L (vI n :: S) ws) : kJ p l e R s m args below meth c D A nL cells slots Q pc L S ws :=
  fun ls H locs hl hP hD hS => lv_bipush hC.1 hC.2.1 hd hv (k ls H locs hl hP hD hS)
theorem kw_sipush (hC : kC p s m args meth c D T fv A cc nL own) {n : Int} (hd : decode cc pc = .ok (.sipush n, 3)) (hv : (Int16.ofInt n).toInt32 = Int32.ofInt n) (k : kJ p l e R s m args below meth c D A nL cells slots Q (pc + 3) L (vI n :: S) ws) : kJ p l e R s m args below meth c D A nL cells slots Q pc L S ws :=
  fun ls H locs hl hP hD hS => lv_sipush hC.1 hC.2.1 hd hv (k ls H locs hl hP hD hS)
theorem kw_goto (hC : kC p s m args meth c D T fv A cc nL own) {off : Int} {tgt : Nat} (hd : decode cc pc = .ok (.goto off, 3)) (ht : (pc : Int) + off = (tgt : Int)) (k : kJ p l e R s m args below meth c D A nL cells slots Q tgt L S ws) : kJ p l e R s m args below meth c D A nL cells slots Q pc L S ws :=
  fun ls H locs hl hP hD hS => lv_goto hC.1 hC.2.1 hd ht (k ls H locs hl hP hD hS)
theorem kw_ge (hC : kC p s m args meth c D T fv A cc nL own) {x y off : Int} {tgt : Nat} (hd : decode cc pc = .ok (.if_icmp .ge off, 3)) (ht : (pc : Int) + off = (tgt : Int)) (h : Int32.ofInt y ≤ Int32.ofInt x) (k : kJ p l e R s m args below meth c D A nL cells slots Q tgt L S ws) : kJ p l e R s m args below meth c D A nL cells slots Q pc L (vI y :: vI x :: S) ws :=
  fun ls H locs hl hP hD hS => lv_icmp_ge hC.1 hC.2.1 hd ht (fun _ => k ls H locs hl hP hD hS) (fun z => absurd h z)
theorem kw_lt (hC : kC p s m args meth c D T fv A cc nL own) {x y off : Int} {tgt : Nat} (hd : decode cc pc = .ok (.if_icmp .ge off, 3)) (ht : (pc : Int) + off = (tgt : Int)) (h : ¬ Int32.ofInt y ≤ Int32.ofInt x) (k : kJ p l e R s m args below meth c D A nL cells slots Q (pc + 3) L S ws) : kJ p l e R s m args below meth c D A nL cells slots Q pc L (vI y :: vI x :: S) ws :=
  fun ls H locs hl hP hD hS => lv_icmp_ge hC.1 hC.2.1 hd ht (fun z => absurd z h) (fun _ => k ls H locs hl hP hD hS)
/-- Object's constructor -/
theorem kw_obj (hC : kC p s m args meth c D T fv A cc nL own) {idx x : Nat} (hw : Cond.methodLink own idx Lib.objectInit ∈ WW) (hd : decode cc pc = .ok (.invokespecial idx, 3)) (hR : 1 ≤ R.frames ∧ 12 ≤ R.locals) (k : kJ p l e R s m args below meth c D A nL cells slots Q (pc + 3) L [] ws) : kJ p l e R s m args below meth c D A nL cells slots Q pc L [.ref x] ws := by
  intro ls H locs hl hP hD hS
  refine W.objInit hC.1 hC.2.1 hC.2.2.2.1 (hC.2.2.2.2.1 _ hw) (hC.2.2.2.2.1 _ w1_21) (hC.2.2.2.2.1 _ w1_22) rfl (by rw [hC.2.2.1]; exact hl.1) rfl hd hR.1 (by show 0 + 0 + 12 ≤ _; omega) ?_
  exact k ls H locs hl hP hD hS
/-- a new array of ints or booleans -/
theorem kw_newa (hC : kC p s m args meth c D T fv A cc nL own) {at0 : ArrayType} {ty : FieldType} (t N : Nat) {n : Int} (harr : Cond.arrayClass (newarray.typeOf at0) ∈ WW) (hty : newarray.typeOf at0 = ty) (ht : (kty T)[t]? = some (T t, ty)) (h0 : ∀ (cA : ClassId), vp_cell cA (N, .inl (fun _ => Int32.ofInt 0)) = arrV cA N (fun _ => defaultValue ty)) (hobj : ∀ C, ty ≠ .object C)
    (hn : n = (N : Int)) (hN : N < 100000) (hb : N * componentBytes ty ≤ 536870912) (hcs : cells + 1 ≤ R.cells ∧ slots + N ≤ R.slots) (hd : decode cc pc = .ok (.newarray at0, 2))
    (k : ∀ q : Nat, kJ p l e R s m args below meth c D A nL (cells + 1) (slots + N) Q (pc + 2) L (.ref q :: S) (ws ++ [(q, kA T t N)])) : kJ p l e R s m args below meth c D A nL cells slots Q pc L (vI n :: S) ws := by
  intro ls H locs hl hP hD hS
  subst hn
  have hcl := e32_clamp (a := (N : Int)) (by omega) (by omega)
  refine va_newa (a0 := (N, .inl (fun _ => Int32.ofInt 0))) hC.1 hC.2.1 (hC.2.2.2.2.1 _ harr) hty hC.2.2.2.2.2.1 hP hD hS hC.2.2.2.2.2.2.2.1 h0 (fun z => ?_) (by omega) hb hcs.1 hcs.2 hd (fun q cA H1 hK hP hD hS => ?_)
  · rw [Int32.lt_iff_toInt_lt, e32 (by omega) (by omega)] at z
    have : (0 : Int32).toInt = 0 := rfl
    omega
  · have h1 := (hK.2 (kty T).length (cA, ty) (by rw [List.getElem?_append_right (Nat.le_refl _)]; simp)).2
    have h2 := (hC.2.2.2.2.2.1.2 t _ ht).2
    have e9 : cA = T t := by
      cases ty with
      | object C => exact absurd rfl (hobj C)
      | _ => exact Option.some.inj (h1.symm.trans h2)
    rw [e9] at hP hD
    exact k q ls H1 locs hl hP hD hS
/-- a new row of states -/
theorem kw_anew (hC : kC p s m args meth c D T fv A cc nL own) {idx : Nat} (N : Nat) {n : Int} (hw : Cond.classLink own idx "EmbossPress$State" ∈ WW) (hn : n = (N : Int)) (hN : N < 100) (hcs : cells + 1 ≤ R.cells ∧ slots + N ≤ R.slots) (hd : decode cc pc = .ok (.anewarray idx, 3))
    (k : ∀ q : Nat, kJ p l e R s m args below meth c D A nL (cells + 1) (slots + N) Q (pc + 3) L (.ref q :: S) (ws ++ [(q, .inl (T 3, N, .inr (.inr (.inr (.inr (fun _ => none))))))])) : kJ p l e R s m args below meth c D A nL cells slots Q pc L (vI n :: S) ws := by
  intro ls H locs hl hP hD hS
  subst hn
  have hcl := e32_clamp (a := (N : Int)) (by omega) (by omega)
  refine va_newq (C := "EmbossPress$State") hC.1 hC.2.1 hC.2.2.2.1 (hC.2.2.2.2.1 _ hw) hC.2.2.2.2.2.2.2.2.1.2.2 hC.2.2.2.2.2.1 hP hD hS hC.2.2.2.2.2.2.2.1 (fun z => ?_) (by omega) (by omega) hcs.1 hcs.2 hd (fun q cA H1 hK hP hD hS => ?_)
  · rw [Int32.lt_iff_toInt_lt, e32 (by omega) (by omega)] at z
    have : (0 : Int32).toInt = 0 := rfl
    omega
  · obtain ⟨a1, a2, a3, a4, a5, a6⟩ := (hK.2 (kty T).length (cA, .object "EmbossPress$State") (by rw [List.getElem?_append_right (Nat.le_refl _)]; simp)).2
    obtain ⟨b1, b2, b3, b4, b5, b6⟩ := (hC.2.2.2.2.2.1.2 3 _ rfl).2
    have e9 : cA = T 3 := Option.some.inj (a6.symm.trans b6)
    rw [e9] at hP hD
    exact k q ls H1 locs hl hP hD hS
theorem kw_dup (hC : kC p s m args meth c D T fv A cc nL own) {x : Nat} (hd : decode cc pc = .ok (.dup, 1)) (k : kJ p l e R s m args below meth c D A nL cells slots Q (pc + 1) L (.ref x :: .ref x :: S) ws) : kJ p l e R s m args below meth c D A nL cells slots Q pc L (.ref x :: S) ws :=
  fun ls H locs hl hP hD hS => lv_dup hC.1 hC.2.1 hd rfl (k ls H locs hl hP hD hS)
/-- a final field's link in its own constructor -/
def ewLf (own : String) (idx ci k : Nat) (ty : FieldType) : Prop := ∃ (C : String) (T : u_T) (N : Nat) (tys : Nat → FieldType), ewK ci C T N tys ∧ k < N ∧ (T k).2.2.2 = true ∧ tys k = ty ∧ (T k).1 = own ∧ Cond.fieldLink own idx (T k).1 (T k).2.1 (T k).2.2.1 ∈ WW
theorem kw_putF (hC : kC p s m args meth c D T fv A cc nL own) {idx ci kI x a q0 : Nat} {fs : List Value} {ty : FieldType} (hin : meth.name = "<init>") (hL : ewLf own idx ci kI ty) (he : ws[q0]? = some (a, .inr (ci, fs))) (hfit : fits ty (.ref x) = true) (hnw : narrow ty (.ref x) = .ref x) (hlen : kI < fs.length) (hd : decode cc pc = .ok (.putfield idx, 3)) (hw : ws.set q0 (a, .inr (ci, fs.set kI (.ref x))) = ws')
    (k : kJ p l e R s m args below meth c D A nL cells slots Q (pc + 3) L S ws') : kJ p l e R s m args below meth c D A nL cells slots Q pc L (.ref x :: .ref a :: S) ws := by
  intro ls H locs hl hP hD hS
  obtain ⟨C, T0, N, tys, ⟨k1, k2, k3, k4⟩, h1, h2, h3, h4, h5⟩ := hL
  subst hw
  exact va_putF hC.1 hC.2.1 hC.2.2.2.2.1 k2 tys k3 k4 hC.2.2.2.1 hC.2.2.2.2.2.1 hP hD hS q0 he k1 kI h1 (hC.2.2.2.2.1 _ h5) (fun _ h9 => h9) h2 hin h4 (by rw [k3 kI h1, h3]) hnw hfit hlen hd (fun H1 locs1 hP hD hS => k ls H1 locs1 hl hP hD hS)
theorem kw_puti (hC : kC p s m args meth c D T fv A cc nL own) {idx ci kI a q0 : Nat} {x : Int} {fs : List Value} (hL : ewL own idx ci kI .int) (he : ws[q0]? = some (a, .inr (ci, fs))) (hlen : kI < fs.length) (hd : decode cc pc = .ok (.putfield idx, 3)) (hw : ws.set q0 (a, .inr (ci, fs.set kI (vI x))) = ws')
    (k : kJ p l e R s m args below meth c D A nL cells slots Q (pc + 3) L S ws') : kJ p l e R s m args below meth c D A nL cells slots Q pc L (vI x :: .ref a :: S) ws := by
  intro ls H locs hl hP hD hS
  obtain ⟨C, T0, N, tys, ⟨k1, k2, k3, k4⟩, h1, h2, h3, h5⟩ := hL
  subst hw
  exact va_put hC.1 hC.2.1 hC.2.2.2.2.1 k2 tys k3 k4 hC.2.2.2.1 hC.2.2.2.2.2.1 hP hD hS q0 he k1 kI h1 (hC.2.2.2.2.1 _ h5) (fun _ h9 => h9) h2 (by rw [k3 kI h1, h3]) rfl rfl hlen hd (fun H1 locs1 hP hD hS => k ls H1 locs1 hl hP hD hS)
theorem kw_getr (hC : kC p s m args meth c D T fv A cc nL own) {idx ci kI a q0 : Nat} {v : Value} {fs : List Value} (hL : ewLr own idx ci kI) (he : ws[q0]? = some (a, .inr (ci, fs))) (hv : fs[kI]? = some v) (hd : decode cc pc = .ok (.getfield idx, 3))
    (k : kJ p l e R s m args below meth c D A nL cells slots Q (pc + 3) L (v :: S) ws) : kJ p l e R s m args below meth c D A nL cells slots Q pc L (.ref a :: S) ws := by
  intro ls H locs hl hP hD hS
  obtain ⟨C, T0, N, tys, ⟨k1, k2, k3, k4⟩, h1, h5⟩ := hL
  exact va_get hC.1 hC.2.1 hC.2.2.2.2.1 k2 hC.2.2.2.1 hC.2.2.2.2.2.1 hP q0 he k1 kI h1 (hC.2.2.2.2.1 _ h5) (fun _ h9 => h9) hv hd (k ls H locs hl hP hD hS)
theorem kw_iast (hC : kC p s m args meth c D T fv A cc nL own) {a q0 n : Nat} {f : Nat → Int32} {i x : Int} (he : ws[q0]? = some (a, .inl (T 0, n, .inl f))) (hi : 0 ≤ i ∧ i < n ∧ n < 100000) (hd : decode cc pc = .ok (.iastore, 1)) (hw : ws.set q0 (a, .inl (T 0, n, .inl (upd f i.toNat (Int32.ofInt x)))) = ws')
    (k : kJ p l e R s m args below meth c D A nL cells slots Q (pc + 1) L S ws') : kJ p l e R s m args below meth c D A nL cells slots Q pc L (vI x :: vI i :: .ref a :: S) ws := by
  intro ls H locs hl hP hD hS
  have hcl := e32_clamp (a := i) hi.1 (by omega)
  have hcl : (Int32.ofInt i).toNatClampNeg = i.toNat := by omega
  subst hw
  refine va_iast hC.1 hC.2.1 hC.2.2.2.2.2.1 hP hD hS q0 0 he rfl (e32_in (n := n) hi.1 (by omega) (by omega)) hd (fun H1 locs1 hP hD hS => ?_)
  rw [hcl] at hP hD
  exact k ls H1 locs1 hl hP hD hS
theorem kw_astq (hC : kC p s m args meth c D T fv A cc nL own) {a q0 n v qk : Nat} {vs : List Value} {f : Nat → Option Nat} {i : Int} (he : ws[q0]? = some (a, .inl (T 3, n, .inr (.inr (.inr (.inr f)))))) (hv : ws[qk]? = some (v, .inr (6, vs))) (hi : 0 ≤ i ∧ i < n ∧ n < 100) (hd : decode cc pc = .ok (.aastore, 1)) (hw : ws.set q0 (a, .inl (T 3, n, .inr (.inr (.inr (.inr (va_up f i.toNat (some v))))))) = ws')
    (k : kJ p l e R s m args below meth c D A nL cells slots Q (pc + 1) L S ws') : kJ p l e R s m args below meth c D A nL cells slots Q pc L (.ref v :: vI i :: .ref a :: S) ws := by
  intro ls H locs hl hP hD hS
  have hcl := e32_clamp (a := i) hi.1 (by omega)
  have hcl : (Int32.ofInt i).toNatClampNeg = i.toNat := by omega
  subst hw
  refine va_astq (r := vwCl[6]) hC.1 hC.2.1 hC.2.2.2.2.2.1 hP hD hS q0 3 qk 6 he rfl hv rfl (e32_in (n := n) hi.1 (by omega) (by omega)) hd (fun H1 locs1 hP hD hS => ?_)
  rw [hcl] at hP hD
  exact k ls H1 locs1 hl hP hD hS
/-- behind a call of a constructor -/
theorem kw_run (hC : kC p s m args meth c D T fv A cc nL own) {S0 : List Value} {ls : Array Slot} {H : Heap} {locs : List Loc} {a : Array Value} {q nc ns : Nat} {e0 : va_E} {B : va_W → Prop}
    (hl : lv_has ls nL L) (hP : va_P D vwCl (ws ++ [(q, e0)]) H) (hD : va_D A (ws ++ [(q, e0)])) (hS : va_S A s.heap H locs) (hr : va_Run p l e R s m args below meth c H locs cells slots nc ns (F0 m pc ls S0) S (kQ D B (k1 q H.size) a) (k1 q H.size))
    (k : ∀ ws1 : va_W, B ws1 → kJ p l e R s m args below meth c D A nL (cells + nc) (slots + ns) Q (pc + 3) L S (ws ++ ws1)) : W p l e R s m args below meth c H locs cells slots Q (F0 m pc ls S0) := by
  intro T9 hT X
  obtain ⟨v, st0, t, T', Lc, h0, X', hL, e1, e2, ⟨⟨ws1, hv, hB, hP1, hD1⟩, hz, hk⟩, st⟩ := hr T9 hT X
  cases hv
  rw [h0] at hz hk
  have hq : A q := hD.2 ws.length (q, e0) (by rw [List.getElem?_append_right (Nat.le_refl _)]; simp)
  have hAA : ∀ x : Nat, k1 q H.size x → A x := by
    rintro x (rfl | hx)
    · exact hq
    · exact hC.2.2.2.2.2.2.2.1 x (Nat.le_trans hS.1 hx)
  have hw : ∀ (i : Nat) (x : Nat × va_E), ws[i]? = some x → (ws ++ [(q, e0)])[i]? = some x := fun i x hx => by
    rw [List.getElem?_append_left (List.getElem?_eq_some_iff.mp hx).1]; exact hx
  have hne : ∀ (i : Nat) (x : Nat × va_E), ws[i]? = some x → x.1 < H.size ∧ x.1 ≠ q := fun i x hx => by
    refine ⟨kx_lt hP (hw i x hx), fun z => ?_⟩
    have h1 := hD.1 i ws.length x (q, e0) (hw i x hx) (by rw [List.getElem?_append_right (Nat.le_refl _)]; simp) z
    have h2 := (List.getElem?_eq_some_iff.mp hx).1
    omega
  have hP2 : va_P D vwCl ws T'.heap := va_P.kept (fun i x hx => hP i x (hw i x hx)) (fun i x hx => by
    rw [e1, hk x.1 (hne i x hx).1 (fun z => by
      rcases z with z | z
      · exact (hne i x hx).2 z
      · have := (hne i x hx).1
        omega)])
  have hP3 : va_P D vwCl (ws ++ ws1) T'.heap := va_P.app hP2 (by rw [e1]; exact hP1)
  have hD0 : va_D A ws := ⟨fun i j x y hx hy hxy => hD.1 i j x y (hw i x hx) (hw j y hy) hxy, fun i x hx => hD.2 i x (hw i x hx)⟩
  have hD3 : va_D A (ws ++ ws1) := va_D.app hD0 (hD1.weaken (fun _ _ _ h => hAA _ h)) (fun i j x y hx hy => by
    have h1 := hne i x hx
    rcases hD1.2 j y hy with z | z
    · rw [z]; exact h1.2
    · omega)
  have hS3 : va_S A s.heap T'.heap (locs ++ Lc) := ⟨by rw [e1]; exact Nat.le_trans hS.1 hz, fun x h1 h2 => by
      rw [e1, hk x (Nat.lt_of_lt_of_le h1 hS.1) (fun z => h2 (hAA x z))]
      exact hS.2.1 x h1 h2, fun x hx => by
      rcases List.mem_append.mp hx with h | h
      · exact hS.2.2 x h
      · exact hAA _ (hL x h)⟩
  obtain ⟨t2, a1, b1⟩ := k ws1 hB ls T'.heap (locs ++ Lc) hl hP3 hD3 hS3 T' rfl X'
  exact ⟨t2, st t2 a1, b1⟩
theorem kw_pre (hC : kC p s m args meth c D T fv A cc nL own) {H : Heap} {locs : List Loc} {q : Nat} {e0 : va_E} (hP : va_P D vwCl (ws ++ [(q, e0)]) H) (hD : va_D A (ws ++ [(q, e0)])) (hS : va_S A s.heap H locs) : ∀ U : State, U.heap = H → s.WarmedH U.vm → va_Pc [.ref q] (kB D T fv q e0 H.size) ([.ref q] : List Value).toArray U := by
  intro U hU hW
  have hlast : (ws ++ [(q, e0)])[ws.length]? = some (q, e0) := by rw [List.getElem?_append_right (Nat.le_refl _)]; simp
  refine ⟨rfl, by rw [hU], ⟨?_, kx_lt hP hlast⟩, va_K.moved hW.alike hC.2.2.2.2.2.1, hC.2.2.2.2.2.2.2.2.1.moved hW, ?_⟩
  · rw [hU]
    intro i x hx
    have hz : i < 1 := (List.getElem?_eq_some_iff.mp hx).1
    rw [show i = 0 by omega] at hx
    cases hx
    exact hP _ _ hlast
  · rw [hU]
    refine hC.2.2.2.2.2.2.2.2.2.mv hW.alike hS.2.1 (fun x hx => ?_)
    rcases hx with rfl | hx
    · exact hD.2 _ _ hlast
    · exact hC.2.2.2.2.2.2.2.1 x (Nat.le_trans hS.1 hx)
/-- what 'new' stands on -/
def ewNew (own : String) (idx ci : Nat) (fs : List Value) : Prop := ∃ (C : String) (T : u_T) (N : Nat) (tys : Nat → FieldType), ewK ci C T N tys ∧ Cond.classLink own idx C ∈ WW ∧ Cond.instantiable C N ∈ WW ∧ Cond.initialized C ∈ WW ∧ (∀ j, j < N → defaultValue (tys j) = vp_V fs j) ∧ fs.length = N
/-- new C(); a nest mate's constructor -/
theorem kw_makeN (hC : kC p s m args meth c D T fv A cc nL own) {ix ic ci d nc ns : Nat} {fs : List Value} {y : MethodName} {bytes : ByteArray} {B : Nat → va_W → Prop} (hN : ewNew own ix ci fs) (hM : ∀ h0 : Nat, Ck l D T fv y (.code y bytes 1 none) d nc ns h0 (.inr (ci, fs)) (B h0))
    (hlk : Cond.methodLinkNest own ic y "EmbossPress" ∈ NWL) (hy : Cond.code y bytes 1 none ∈ WW ∧ Cond.initialized y.cls ∈ WW ∧ Cond.instanceMethod y ∈ WW ∧ y.name = "<init>" ∧ (y.cls ≠ "java/lang/invoke/MethodHandle" ∧ y.cls ≠ "java/lang/invoke/VarHandle" ∧ (parseMethodDescriptor y.desc).map (fun d => d.parameters.length) = some 0))
    (hR : d + 1 ≤ R.frames ∧ 8 + (1 + 11) + 60 * d ≤ R.locals) (hcs : cells + 1 + nc ≤ R.cells ∧ slots + fs.length + ns ≤ R.slots) (hSS : (S.map fun v => v.category).sum ≤ 7)
    (d0 : decode cc pc = .ok (.new ix, 3)) (d3 : decode cc (pc + 3) = .ok (.dup, 1)) (d4 : decode cc (pc + 4) = .ok (.invokespecial ic, 3))
    (k : ∀ (q : Nat) (ws1 : va_W), B q ws1 → kJ p l e R s m args below meth c D A nL (cells + 1 + nc) (slots + fs.length + ns) Q (pc + 7) L (.ref q :: S) (ws ++ ws1)) : kJ p l e R s m args below meth c D A nL cells slots Q pc L S ws := by
  intro ls H locs hl hP hD hS
  obtain ⟨C, T0, N, tys, ⟨k1_, k2, k3, k4⟩, h1, h2, h3, h4, rfl⟩ := hN
  refine va_new hC.1 hC.2.1 hC.2.2.2.2.1 k2 tys k3 hC.2.2.2.1 (hC.2.2.2.2.1 _ h1) (hC.2.2.2.2.1 _ h2) (hC.2.2.2.2.1 _ h3) hC.2.2.2.2.2.1 hP hD hS hC.2.2.2.2.2.2.2.1 k1_ h4 (by omega) (by omega) d0 (fun q H1 hP hD hS => ?_)
  refine lv_dup hC.1 hC.2.1 d3 rfl ?_
  have hG : GoodIn WW (Cond.code y bytes 1 none :: WW) := by
    intro w hw
    have hm : w ∈ WW := by
      rcases List.mem_cons.mp hw with rfl | hw
      · exact hy.1
      · exact hw
    exact ⟨hm, ww_good hm⟩
  have cw := va_cnB (R := R) (rm := k_rm d nc ns) (mc := nc) (ms := ns) 0 hC.2.2.2.2.1 hG rfl rfl rfl (hC.2.2.2.2.2.2.2.2.1.1.1 _ hlk) (hC.2.2.2.2.1 _ hy.2.1) hy.2.2.2.2 hR
  exact kw_run hC hl hP hD hS (va_runIN (As := []) (rest := .ref q :: S) ⟨hC.1, hC.2.1, hC.2.2.1, hC.2.2.2.1, hC.2.2.2.2.1⟩ (hM q H1.size) ⟨cw, hy.2.2.2.1, hC.2.2.2.2.1 _ hy.2.2.1⟩ ⟨kB_blind, kw_pre hC hP hD hS⟩ rfl rfl hl.1 rfl (by show 2 * 0 + (1 + (S.map fun v => v.category).sum) ≤ 8; omega) d4 (by omega)) (fun ws1 hB => k q ws1 hB)
/-- .. a public one -/
theorem kw_makeP (hC : kC p s m args meth c D T fv A cc nL own) {ix ic ci d nc ns mL : Nat} {fs : List Value} {y : MethodName} {bytes : ByteArray} {B : Nat → va_W → Prop} (hN : ewNew own ix ci fs) (hM : ∀ h0 : Nat, Ck l D T fv y (.code y bytes mL none) d nc ns h0 (.inr (ci, fs)) (B h0))
    (hlk : Cond.methodLink own ic y ∈ WW) (hy : Cond.code y bytes mL none ∈ WW ∧ Cond.initialized y.cls ∈ WW ∧ Cond.instanceMethod y ∈ WW ∧ y.name = "<init>" ∧ (y.cls ≠ "java/lang/invoke/MethodHandle" ∧ y.cls ≠ "java/lang/invoke/VarHandle" ∧ (parseMethodDescriptor y.desc).map (fun d => d.parameters.length) = some 0))
    (hR : d + 1 ≤ R.frames ∧ 8 + (mL + 11) + 60 * d ≤ R.locals) (hcs : cells + 1 + nc ≤ R.cells ∧ slots + fs.length + ns ≤ R.slots) (hSS : (S.map fun v => v.category).sum ≤ 7)
    (d0 : decode cc pc = .ok (.new ix, 3)) (d3 : decode cc (pc + 3) = .ok (.dup, 1)) (d4 : decode cc (pc + 4) = .ok (.invokespecial ic, 3))
    (k : ∀ (q : Nat) (ws1 : va_W), B q ws1 → kJ p l e R s m args below meth c D A nL (cells + 1 + nc) (slots + fs.length + ns) Q (pc + 7) L (.ref q :: S) (ws ++ ws1)) : kJ p l e R s m args below meth c D A nL cells slots Q pc L S ws := by
  intro ls H locs hl hP hD hS
  obtain ⟨C, T0, N, tys, ⟨k1_, k2, k3, k4⟩, h1, h2, h3, h4, rfl⟩ := hN
  refine va_new hC.1 hC.2.1 hC.2.2.2.2.1 k2 tys k3 hC.2.2.2.1 (hC.2.2.2.2.1 _ h1) (hC.2.2.2.2.1 _ h2) (hC.2.2.2.2.1 _ h3) hC.2.2.2.2.2.1 hP hD hS hC.2.2.2.2.2.2.2.1 k1_ h4 (by omega) (by omega) d0 (fun q H1 hP hD hS => ?_)
  refine lv_dup hC.1 hC.2.1 d3 rfl ?_
  have hG : GoodIn WW (Cond.code y bytes mL none :: WW) := by
    intro w hw
    have hm : w ∈ WW := by
      rcases List.mem_cons.mp hw with rfl | hw
      · exact hy.1
      · exact hw
    exact ⟨hm, ww_good hm⟩
  have cw := cwI (R := R) (rm := k_rm d nc ns) (mc := nc) (ms := ns) 0 hC.2.2.2.2.1 hG rfl rfl rfl (hC.2.2.2.2.1 _ hy.2.1) (hC.2.2.2.2.1 _ hlk) (hC.2.2.2.2.1 _ hy.2.2.1) hy.2.2.2.1 hy.2.2.2.2 hR
  exact kw_run hC hl hP hD hS (va_runI (As := []) (rest := .ref q :: S) ⟨hC.1, hC.2.1, hC.2.2.1, hC.2.2.2.1, hC.2.2.2.2.1⟩ (hM q H1.size) cw ⟨kB_blind, kw_pre hC hP hD hS⟩ rfl rfl hl.1 rfl (by show 2 * 0 + (1 + (S.map fun v => v.category).sum) ≤ 8; omega) d4 (by omega)) (fun ws1 hB => k q ws1 hB)
theorem kw_vret (hC : kC p s m args meth c D T fv A cc nL own) (hr : meth.sig.returnType = none) {B : va_W → Prop} (hd : decode cc pc = .ok (.return_, 1)) (h : B ws) : kJ p l e R s m args below meth c D A nL cells slots (MQ below (kQ D B A) args s cells slots A) pc L [] ws := by
  intro ls H locs hl hP hD hS
  exact W.vret hC.1 hC.2.1 hr (fun t ht hW => ⟨⟨ws, rfl, h, by rw [ht]; exact hP, hD⟩, hS.F ht⟩) hS.2.2 hd hC.2.2.2.2.2.2.1
end KW
/-- a constructor's contract, by the walk of its body -/
theorem ck_of {l : Launch} {D : va_G} {T : Nat → ClassId} {fv : Nat} {y : MethodName} {cc : ByteArray} {mL d nc ns h0 : Nat} {e0 : va_E} {B : va_W → Prop} (hy : plainName y.cls = true) (hy2 : y.name = "<init>") (hlen : 1 ≤ mL)
    (body : ∀ (p : Program) (e : Env) (s : State) (m : MethodId) (args : Array Value) (below : List Frame) (meth : Method) (c : Code) (A : Nat → Prop), kC p s m args meth c D T fv A cc mL y.cls → meth.sig.returnType = none → meth.name = "<init>" → kJ p l e (k_rm d nc ns) s m args below meth c D A mL 0 0 (MQ below (kQ D B A) args s nc ns A) 0 [(0, .ref h0)] [] [(h0, e0)]) : Ck l D T fv y (.code y cc mL none) d nc ns h0 e0 B := by
  intro sz
  refine Met.ofW (cc := cc) (maxL := mL) (ret := none) hy rfl ?_
  intro p e s m args below meth c s₁ B9 hml hv
  obtain ⟨rfl, hsz, ⟨hP, hlt⟩, hK, hN, hZ⟩ := hv
  subst hsz
  have hts := atoms_spec (ws := Cond.code y cc mL none :: WW) B9.pre
  have hC : kC p s m ([.ref h0] : List Value).toArray meth c D T fv (k1 h0 s.heap.size) cc mL y.cls := ⟨B9.exec, B9.bytes, hml, findClass_of_methodNamed B9.named, fun w h => hts w (List.mem_cons_of_mem _ h), hK, B9.notSynchronized, fun q h => Or.inr h, hN, hZ⟩
  have hl := lv_entry ([.ref h0]) (n := mL) hlen
  rw [lg_entry_eq]
  refine body p e s m _ below meth c (k1 h0 s.heap.size) hC B9.returns ((name_of_methodNamed B9.named B9.method).1.trans hy2) _ s.heap [] hl hP ⟨fun i j x y hx hy _ => ?_, fun i x hx => ?_⟩ va_S.rf
  · have h1 : i < 1 := (List.getElem?_eq_some_iff.mp hx).1
    have h2 : j < 1 := (List.getElem?_eq_some_iff.mp hy).1
    omega
  · have h1 : i < 1 := (List.getElem?_eq_some_iff.mp hx).1
    rw [show i = 0 by omega] at hx
    cases hx
    exact Or.inl rfl
