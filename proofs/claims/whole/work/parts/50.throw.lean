/-! WHAT IS THROWN: contracts that return or throw (Cx); the law's own methods, which catch (Cl) -/
abbrev xNm : List String := ["java/lang/RuntimeException", "java/lang/Exception"]
abbrev xIO : String := "java/lang/IndexOutOfBoundsException"
abbrev xIA : String := "java/lang/IllegalArgumentException"
abbrev xIS : String := "java/lang/IllegalStateException"
theorem wx_a1 : ∀ w ∈ (vx_atS "EmbossPress" 64 xIO xNm).filter goodWord, w ∈ lw_tbl := by decide +kernel
theorem wx_a2 : ∀ w ∈ (vx_atS "EmbossPress" 71 xIA xNm).filter goodWord, w ∈ lw_tbl := by decide +kernel
theorem wx_a3 : ∀ w ∈ (vx_atS "EmbossPress" 205 xIS xNm).filter goodWord, w ∈ lw_tbl := by decide +kernel
theorem wx_b1 : ∀ w ∈ (vx_atS "EmbossPress" 64 xIO xNm).filter (fun w => !goodWord w), w ∈ NWL := by decide +kernel
theorem wx_b2 : ∀ w ∈ (vx_atS "EmbossPress" 71 xIA xNm).filter (fun w => !goodWord w), w ∈ NWL := by decide +kernel
theorem wx_b3 : ∀ w ∈ (vx_atS "EmbossPress" 205 xIS xNm).filter (fun w => !goodWord w), w ∈ NWL := by decide +kernel
theorem wx_g1 : ∀ w ∈ Cond.classLink "EmbossPress" 60 xIO :: Cond.initialized xIO :: vx_atS "EmbossPress" 64 xIO xNm, vx_ot w = true := by decide +kernel
theorem wx_g2 : ∀ w ∈ Cond.classLink "EmbossPress" 67 xIA :: Cond.initialized xIA :: vx_atS "EmbossPress" 71 xIA xNm, vx_ot w = true := by decide +kernel
theorem wx_g3 : ∀ w ∈ Cond.classLink "EmbossPress" 201 xIS :: Cond.initialized xIS :: vx_atS "EmbossPress" 205 xIS xNm, vx_ot w = true := by decide +kernel
theorem nwl_t : ∀ w ∈ NWL, w.onTables = true := by decide +kernel
/-- what a throw site stands on: its class by the pool entry ik, its constructor by ic -/
def xSite (ik ic : Nat) (cls : String) : Prop := (Bundle.fit cls = true ∧ Cond.classLink "EmbossPress" ik cls ∈ WW ∧ Cond.initialized cls ∈ WW) ∧ (∀ w ∈ (vx_atS "EmbossPress" ic cls xNm).filter goodWord, w ∈ lw_tbl) ∧ (∀ w ∈ (vx_atS "EmbossPress" ic cls xNm).filter (fun w => !goodWord w), w ∈ NWL) ∧ ∀ w ∈ Cond.classLink "EmbossPress" ik cls :: Cond.initialized cls :: vx_atS "EmbossPress" ic cls xNm, vx_ot w = true
theorem xs_IO : xSite 60 64 xIO := ⟨⟨by decide +kernel, w2_227, w1_10⟩, wx_a1, wx_b1, wx_g1⟩
theorem xs_IA : xSite 67 71 xIA := ⟨⟨by decide +kernel, w3_56, w1_11⟩, wx_a2, wx_b2, wx_g2⟩
theorem xs_IS : xSite 201 205 xIS := ⟨⟨by decide +kernel, w3_167, w1_15⟩, wx_a3, wx_b3, wx_g3⟩
abbrev cx_rm (d : Nat) : Room := { frames := d, cells := 1, slots := 6, locals := 40 * d }
def cx_X (E : ewE) (A : Nat → Prop) (M : ewM) (xp : String → Prop) : String → State → State → Prop := fun C st t => xp C ∧ va_P E.2.1 vwCl (ew_ws E M) t.heap ∧ va_F A st t
/-- a method that returns, with post, or throws a class of xp, and then has changed nothing -/
def Cx (l : Launch) (E : ewE) (y : MethodName) (cd : Cond) (d : Nat) (As : List Value) (M : ewM) (post : Option Value → ewM → Prop) (xp : String → Prop) : Prop :=
  ∀ sz : Nat, vx_Met l y (cd :: WW) (cx_rm d) (va_Pc As (fun U => U.heap.size = sz ∧ ew_B E M U)) (ct_Q E (ew_A E sz) post) (cx_X E (ew_A E sz) M xp) 1 6 (ew_A E sz)
section JX
variable {p : Program} {l : Launch} {e : Env} {R : Room} {s : State} {m : MethodId} {args : Array Value} {below : List Frame} {meth : Method} {c : Code} {E : ewE} {A : Nat → Prop} {cc : ByteArray} {nL : Nat} {own : String} {ret : Option FieldType} {cells slots : Nat} {Q : State → Prop} {pc : Nat} {L L' : List (Nat × Value)} {S : List Value} {M : ewM}
theorem jx_ret {Qc : Array Value → State → Outcome → State → Prop} {XC : String → State → State → Prop} (h1 : cells ≤ 1) (h2 : slots ≤ 6) (k : jJ p l e R s m args below meth c E A nL 1 6 (MQ below Qc args s 1 6 A) pc L S M) : jJ p l e R s m args below meth c E A nL cells slots (vx_MQ below Qc XC args s 1 6 A) pc L S M := by
  intro ls H locs hl hI
  exact W.widen h1 h2 (vx_ret (k ls H locs hl hI))
theorem jx_grown {H H1 : Heap} {locs : List Loc} (hI : ew_I E A s M H locs) (h1 : H.size ≤ H1.size) (h2 : ∀ q : Nat, q < H.size → H1[q]? = H[q]?) : va_P E.2.1 vwCl (ew_ws E M) H1 ∧ s.heap.size ≤ H1.size ∧ ∀ q : Nat, q < s.heap.size → ¬ A q → H1[q]? = s.heap[q]? :=
  ⟨hI.1.kept (fun k q hk => h2 q.1 (vx_lt hI.1 hk)), Nat.le_trans hI.2.2.1.1 h1, fun q hq hn => by rw [h2 q (Nat.lt_of_lt_of_le hq hI.2.2.1.1)]; exact hI.2.2.1.2.1 q hq hn⟩
theorem jx_throwS (hC : jC p e R s m args meth c E A cc nL "EmbossPress" ret) (hl : l.stackTraces = false) (hT : ∀ x ∈ c.exceptionTable.toList, False) {ik is ic : Nat} {cls text : String} {post : Option Value → ewM → Prop} {xp : String → Prop} (hs : xSite ik ic cls) (htx : (is, text) ∈ XTL)
    (d0 : decode cc pc = .ok (.new ik, 3)) (d3 : decode cc (pc + 3) = .ok (.dup, 1)) (d4 : decode cc (pc + 4) = .ok (.ldc is, 2)) (d6 : decode cc (pc + 6) = .ok (.invokespecial ic, 3)) (d9 : decode cc (pc + 9) = .ok (.athrow, 1))
    (hR : 6 ≤ R.frames ∧ 100 ≤ R.locals ∧ 1 ≤ R.cells ∧ 6 ≤ R.slots) (hS : (S.map fun v => v.category).sum ≤ 8) (hx : xp cls) :
    jJ p l e R s m args below meth c E A nL 0 0 (vx_MQ below (ct_Q E A post) (cx_X E A M xp) args s 1 6 A) pc L S M := by
  intro ls H locs hlv hI
  obtain ⟨⟨hcls, hk, hini⟩, ha, hb, hg⟩ := hs
  obtain ⟨sa, hstr⟩ := hC.2.2.2.2.2.2.2.2.2.2.1.2.1 (is, text) htx
  have hG := hC.2.2.2.2.2.2.2.2.2.2.2
  exact vx_throwS (names := xNm) (sa := sa) (text := text) (A := A) hC.1 hC.2.1 hl hC.2.2.2.1 hcls (by decide +kernel) (hC.2.2.2.2.1 _ hk) (hC.2.2.2.2.1 _ hini) hstr
    (vx_hat (B := NWL) (fun w hw => hC.2.2.2.2.1 w (ww_mem (ha w hw) (List.mem_filter.mp hw).2)) hb (fun w hw => va_Nw.use (nwl_t w hw) (hC.2.2.2.2.2.2.2.2.2.2.1.1 w hw))) hg hG.1.2.1 hG.1.2.2 hI.2.2.1 (hlv.1.trans hC.2.2.1.symm) d0 d3 d4 d6 d9 (fun x hx => (hT x hx).elim)
    (show 2 + 3 < R.frames by omega) (show _ + (13 * (2 + 1) + 43) ≤ R.locals by omega) (by omega) (by omega) hC.2.2.2.2.2.2.1
    (fun t _ h1 h2 => ⟨hx, jx_grown hI h1 h2⟩) hI.2.2.1.2.2 (Nat.le_refl 1) (Nat.le_refl 6)
theorem jx_throwSW (hC : jC p e R s m args meth c E A cc nL "EmbossPress" ret) (hl : l.stackTraces = false) (hT : ∀ x ∈ c.exceptionTable.toList, False) {ik is ic : Nat} {cls text : String} {post : Option Value → ewM → Prop} {xp : String → Prop} (hs : xSite ik ic cls) (htx : (is, text) ∈ XTL)
    (d0 : decode cc pc = .ok (.new ik, 3)) (d3 : decode cc (pc + 3) = .ok (.dup, 1)) (d4 : decode cc (pc + 4) = .ok (.ldc_w is, 3)) (d7 : decode cc (pc + 7) = .ok (.invokespecial ic, 3)) (d10 : decode cc (pc + 10) = .ok (.athrow, 1))
    (hR : 6 ≤ R.frames ∧ 100 ≤ R.locals ∧ 1 ≤ R.cells ∧ 6 ≤ R.slots) (hS : (S.map fun v => v.category).sum ≤ 8) (hx : xp cls) :
    jJ p l e R s m args below meth c E A nL 0 0 (vx_MQ below (ct_Q E A post) (cx_X E A M xp) args s 1 6 A) pc L S M := by
  intro ls H locs hlv hI
  obtain ⟨⟨hcls, hk, hini⟩, ha, hb, hg⟩ := hs
  obtain ⟨sa, hstr⟩ := hC.2.2.2.2.2.2.2.2.2.2.1.2.1 (is, text) htx
  have hG := hC.2.2.2.2.2.2.2.2.2.2.2
  exact vx_throwSW (names := xNm) (sa := sa) (text := text) (A := A) hC.1 hC.2.1 hl hC.2.2.2.1 hcls (by decide +kernel) (hC.2.2.2.2.1 _ hk) (hC.2.2.2.2.1 _ hini) hstr
    (vx_hat (B := NWL) (fun w hw => hC.2.2.2.2.1 w (ww_mem (ha w hw) (List.mem_filter.mp hw).2)) hb (fun w hw => va_Nw.use (nwl_t w hw) (hC.2.2.2.2.2.2.2.2.2.2.1.1 w hw))) hg hG.1.2.1 hG.1.2.2 hI.2.2.1 (hlv.1.trans hC.2.2.1.symm) d0 d3 d4 d7 d10 (fun x hx => (hT x hx).elim)
    (show 2 + 3 < R.frames by omega) (show _ + (13 * (2 + 1) + 43) ≤ R.locals by omega) (by omega) (by omega) hC.2.2.2.2.2.2.1
    (fun t _ h1 h2 => ⟨hx, jx_grown hI h1 h2⟩) hI.2.2.1.2.2 (Nat.le_refl 1) (Nat.le_refl 6)
/-- behind a call of a contract's method that may throw, or that makes cells -/
theorem jx_run (hC : jC p e R s m args meth c E A cc nL own ret) {S0 : List Value} {ls : Array Slot} {H : Heap} {locs : List Loc} {post : Option Value → ewM → Prop} {XC : String → State → State → Prop} {a : Array Value} {mc ms : Nat}
    (hl : lv_has ls nL L) (hI : ew_I E A s M H locs) (hr : vx_Run p l e R s m args below meth c H locs cells slots mc ms (F0 m pc ls S0) S (ct_Q E (ew_A E H.size) post a) XC (ew_A E H.size))
    (kx : ∀ (C1 : String) (ce : Cell) (q9 : Addr) (st0 t : State) (H1 : Heap) (locs1 : List Loc), XC C1 st0 t → st0.heap = H → t.heap = H1 → (va_P E.2.1 vwCl (ew_ws E M) H1 → va_F (ew_A E H.size) st0 t → ew_I E A s M H1 locs1) → H1[q9]? = some ce → ce.vm = .none → s.vm.findClass C1 = some ce.cls → vx_W p l e R s m args below meth c H1 locs1 (cells + mc) (slots + ms) Q (F0 m pc ls S) q9)
    (k : ∀ (v : Option Value) (M1 : ewM), post v M1 → jJ p l e R s m args below meth c E A nL (cells + mc) (slots + ms) Q (pc + 3) L (vpush v S) M1) : W p l e R s m args below meth c H locs cells slots Q (F0 m pc ls S0) := by
  intro T hT X
  obtain ⟨hP, hD, hS, hS4⟩ := hI
  have hAA : ∀ q : Nat, ew_A E H.size q → A q := by
    rintro q (⟨i, hi, rfl⟩ | hq)
    · exact hC.2.2.2.2.2.2.2.2.2.1 i hi
    · exact hC.2.2.2.2.2.2.2.2.1 q (Nat.le_trans hS.1 hq)
  rcases hr T hT X with ⟨v, st0, t, T', Lc, h0, X', hL, e1, e2, ⟨⟨v1, M1, hv, hp, hB⟩, hz, hk⟩, st⟩ | ⟨q, st0, t, T', Lc, C1, ce, h0, X', hL, e1, e2, hX, hce, hcv, hcl, st⟩
  · cases hv
    rw [h0] at hz hk
    have hI1 : ew_I E A s M1 T'.heap (locs ++ Lc) := by
      refine ⟨by rw [e1]; exact hB.1, ew_DA hB.2.2.1 hC.2.2.2.2.2.2.2.2.2.1, ⟨by rw [e1]; exact Nat.le_trans hS.1 hz, fun q h1 h2 => ?_, fun q hq => ?_⟩, hB.2.2.2.1⟩
      · rw [e1, hk q (Nat.lt_of_lt_of_le h1 hS.1) (fun z => h2 (hAA q z))]
        exact hS.2.1 q h1 h2
      · rcases List.mem_append.mp hq with h | h
        · exact hS.2.2 q h
        · exact hAA _ (hL q h)
    have k := k v M1 hp ls T'.heap (locs ++ Lc) hl hI1
    rw [← vpush_eq] at k
    obtain ⟨t2, a1, b1⟩ := k T' rfl X'
    exact ⟨t2, st t2 a1, b1⟩
  · obtain ⟨t2, a1, b1⟩ := kx C1 ce q st0 t T'.heap (locs ++ Lc) hX h0 e1.symm (fun hP1 hF => by
      obtain ⟨hz, hk⟩ := hF
      rw [h0, ← e1] at hz hk
      refine ⟨hP1, hD, ⟨Nat.le_trans hS.1 hz, fun q h1 h2 => ?_, fun q hq => ?_⟩, hS4⟩
      · rw [hk q (Nat.lt_of_lt_of_le h1 hS.1) (fun z => h2 (hAA q z))]
        exact hS.2.1 q h1 h2
      · rcases List.mem_append.mp hq with h | h
        · exact hS.2.2 q h
        · exact hAA _ (hL q h)) (by rw [e1]; exact hce) hcv hcl T' rfl X'
    exact ⟨t2, st.trans a1, b1⟩
/-- what goes on where the method called threw -/
def jx_K (p : Program) (l : Launch) (e : Env) (R : Room) (s : State) (m : MethodId) (args : Array Value) (below : List Frame) (meth : Method) (c : Code) (E : ewE) (A : Nat → Prop) (nL : Nat) (cells slots : Nat) (Q : State → Prop) (pc : Nat) (L : List (Nat × Value)) (S : List Value) (M : ewM) (C1 : String) : Prop :=
  ∀ (ls : Array Slot) (H : Heap) (locs : List Loc) (ce : Cell) (q9 : Addr), lv_has ls nL L → ew_I E A s M H locs → H[q9]? = some ce → ce.vm = .none → s.vm.findClass C1 = some ce.cls → vx_W p l e R s m args below meth c H locs cells slots Q (F0 m pc ls S) q9
theorem jx_callV (hC : jC p e R s m args meth c E A cc nL own ret) {S0 As : List Value} {idx o ci maxL d n : Nat} {C : String} {y : MethodName} {bytes : ByteArray} {rt : Option FieldType} {post : Option Value → ewM → Prop} {xp : String → Prop}
    (hM : Cx l E y (.code y bytes maxL rt) d (vR E o :: As) M post xp) (hV : ewV own idx C y bytes maxL rt n ci) (hO : ewO o ci) (hd : decode cc pc = .ok (.invokevirtual idx, 3)) (hst : S0 = As.reverse ++ vR E o :: S) (hn : As.length = n)
    (hR : d + 1 ≤ R.frames ∧ 8 + (maxL + 11) + 40 * d ≤ R.locals) (hcs : cells + 1 ≤ R.cells ∧ slots + 6 ≤ R.slots) (hS : (S.map fun v => v.category).sum ≤ 8)
    (kx : ∀ C1 : String, xp C1 → jx_K p l e R s m args below meth c E A nL (cells + 1) (slots + 6) Q pc L S M C1)
    (k : ∀ (v : Option Value) (M1 : ewM), post v M1 → jJ p l e R s m args below meth c E A nL (cells + 1) (slots + 6) Q (pc + 3) L (vpush v S) M1) : jJ p l e R s m args below meth c E A nL cells slots Q pc L S0 M := by
  intro ls H locs hl hI
  obtain ⟨w1, w2, w3, w4, w5, hd1, T, N, hcl⟩ := hV
  have hG : GoodIn WW (wsV own idx C y (Cond.code y bytes maxL rt :: WW)) := by
    intro w hw
    have hm : w ∈ WW := by
      simp only [wsV, List.cons_append, List.nil_append, List.mem_cons] at hw
      rcases hw with rfl | rfl | rfl | rfl | rfl | hw
      · exact w1
      · exact w2
      · exact w3
      · exact w4
      · exact w5
      · exact hw
    exact ⟨hm, ww_good hm⟩
  have cw := cwV (R := R) (rm := cx_rm d) (mc := 1) (ms := 6) n hC.2.2.2.2.1 hG rfl rfl rfl hd1 hR
  obtain ⟨ho, hs⟩ := hO
  obtain ⟨fs, f1⟩ := hs E (M o)
  have hrec : ∃ cell : Cell, H[E.1 o]? = some cell ∧ cell.vm.isStatics = false ∧ s.vm.findClass C = some cell.cls := va_recv hC.2.2.2.2.2.1 hI.1 hcl ((ew_get ho).trans (by rw [f1]))
  exact jx_run hC hl hI (vx_runV (As := As) (rest := S) ⟨hC.1, hC.2.1, hC.2.2.1, hC.2.2.2.1, hC.2.2.2.2.1⟩ (hM H.size) cw ⟨jw_blind, hrec, jw_pre hC hI⟩ rfl hn hl.1 hst (lv_room hS) hd hcs)
    (fun C1 ce q9 st0 t H1 locs1 hX h0 h1 hI1 a1 a2 a3 => kx C1 hX.1 ls H1 locs1 ce q9 hl (hI1 (by rw [← h1]; exact hX.2.1) hX.2.2) a1 a2 a3) k
theorem jx_catch1 (hC : jC p e R s m args meth c E A cc nL own ret) {hh : List (Nat × Nat × Nat × Nat)} {C1 : String} {a b h ct : Nat} (hT : c.exceptionTable.toList = tableOf ((a, b, h, ct) :: hh)) (hr : a ≤ pc ∧ pc < b ∧ ct ≠ 0) (hlink : Cond.classLink own ct C1 ∈ WW) (hcast : Cond.castable C1 C1 ∈ NWL)
    (k : ∀ q9 : Nat, jJ p l e R s m args below meth c E A nL cells slots Q h L [.ref q9] M) : jx_K p l e R s m args below meth c E A nL cells slots Q pc L S M C1 := by
  intro ls H locs ce q9 hl hI a1 a2 a3
  exact vx_catch hC.2.2.2.1 [] ⟨a, b, h, ct⟩ (tableOf hh) hT (fun z hz => nomatch hz) (by simp [covers, hr.1, hr.2.1]) hr.2.2 (hC.2.2.2.2.1 _ hlink) (va_Nw.use rfl (hC.2.2.2.2.2.2.2.2.2.2.1.1 _ hcast)) a1 a2 a3 (k q9 ls H locs hl hI)
theorem jx_catch2 (hC : jC p e R s m args meth c E A cc nL own ret) {hh : List (Nat × Nat × Nat × Nat)} {C0 C1 : String} {a b h ct a0 b0 h0 ct0 : Nat} (hT : c.exceptionTable.toList = tableOf ((a0, b0, h0, ct0) :: (a, b, h, ct) :: hh)) (hr : a ≤ pc ∧ pc < b ∧ ct ≠ 0) (hlink : Cond.classLink own ct C1 ∈ WW) (hcast : Cond.castable C1 C1 ∈ NWL)
    (hr0 : ct0 ≠ 0) (hlink0 : Cond.classLink own ct0 C0 ∈ WW) (hno : (C1, C0) ∈ XNL)
    (k : ∀ q9 : Nat, jJ p l e R s m args below meth c E A nL cells slots Q h L [.ref q9] M) : jx_K p l e R s m args below meth c E A nL cells slots Q pc L S M C1 := by
  intro ls H locs ce q9 hl hI a1 a2 a3
  exact vx_catch hC.2.2.2.1 [⟨a0, b0, h0, ct0⟩] ⟨a, b, h, ct⟩ (tableOf hh) hT (fun z hz => by
    cases List.mem_singleton.mp hz
    exact Or.inr ⟨hr0, C0, hC.2.2.2.2.1 _ hlink0, hC.2.2.2.2.2.2.2.2.2.2.1.2.2 (C1, C0) hno⟩) (by simp [covers, hr.1, hr.2.1]) hr.2.2 (hC.2.2.2.2.1 _ hlink) (va_Nw.use rfl (hC.2.2.2.2.2.2.2.2.2.2.1.1 _ hcast)) a1 a2 a3 (k q9 ls H locs hl hI)
/-- a handler: what was caught is stored, a small number is the answer -/
theorem jx_hand (hC : jC p e R s m args meth c E A cc nL own (some .int)) {post : Option Value → ewM → Prop} {XC : String → State → State → Prop} {i : Nat} {n : Int} {q9 : Nat} (h1 : cells ≤ 1) (h2 : slots ≤ 6) (d0 : decode cc pc = .ok (.astore i, 2)) (d2 : decode cc (pc + 2) = .ok (.iconst n, 1)) (d3 : decode cc (pc + 2 + 1) = .ok (.ireturn, 1)) (hn : i < nL)
    (h : post (some (vI n)) M) : jJ p l e R s m args below meth c E A nL cells slots (vx_MQ below (ct_Q E A post) XC args s 1 6 A) pc L [.ref q9] M := by
  intro ls H locs hl hI
  refine lv_astore hC.1 hC.2.1 d0 hl hn rfl (fun ls2 hl2 => ?_)
  exact jx_ret h1 h2 (jw_iconst hC d2 (jw_iret hC d3 h)) ls2 H locs hl2 hI
theorem jx_hand_n (hC : jC p e R s m args meth c E A cc nL own (some .int)) {post : Option Value → ewM → Prop} {XC : String → State → State → Prop} {i : Nat} {kk : Fin 4} {n : Int} {q9 : Nat} (h1 : cells ≤ 1) (h2 : slots ≤ 6) (d0 : decode cc pc = .ok (.astore_n kk, 1)) (hi : (kk : Nat) = i) (d2 : decode cc (pc + 1) = .ok (.iconst n, 1)) (d3 : decode cc (pc + 1 + 1) = .ok (.ireturn, 1)) (hn : i < nL)
    (h : post (some (vI n)) M) : jJ p l e R s m args below meth c E A nL cells slots (vx_MQ below (ct_Q E A post) XC args s 1 6 A) pc L [.ref q9] M := by
  intro ls H locs hl hI
  refine lv_astore_n hC.1 hC.2.1 d0 hi hl hn rfl (fun ls2 hl2 => ?_)
  exact jx_ret h1 h2 (jw_iconst hC d2 (jw_iret hC d3 h)) ls2 H locs hl2 hI
end JX
/-- a contract that may throw, by the walk of the method's body -/
theorem cx_of {l : Launch} {E : ewE} {y : MethodName} {cc : ByteArray} {nL d : Nat} {ret : Option FieldType} {As : List Value} {L0 : List (Nat × Value)} {M : ewM} {post : Option Value → ewM → Prop} {xp : String → Prop} (hy : plainName y.cls = true) (hL0 : lv_args 0 As = L0) (hlen : (lg_sl As).length ≤ nL)
    (body : ∀ (p : Program) (e : Env) (s : State) (m : MethodId) (args : Array Value) (below : List Frame) (meth : Method) (c : Code) (A : Nat → Prop), jC p e (cx_rm d) s m args meth c E A cc nL y.cls ret → (∀ x ∈ c.exceptionTable.toList, False) → jJ p l e (cx_rm d) s m args below meth c E A nL 0 0 (vx_MQ below (ct_Q E A post) (cx_X E A M xp) args s 1 6 A) 0 L0 [] M) : Cx l E y (.code y cc nL ret) d As M post xp := by
  intro sz
  refine vx_ofW (cc := cc) (maxL := nL) (ret := ret) (ws' := WW) hy rfl ?_
  intro p e s m args below meth c s₁ B hml hT hv
  obtain ⟨rfl, hsz, hP, hK, hD, hS, hN, hG⟩ := hv
  subst hsz
  have hts := atoms_spec (ws := Cond.code y cc nL ret :: WW) B.pre
  have hC : jC p e (cx_rm d) s m As.toArray meth c E (ew_A E s.heap.size) cc nL y.cls ret := ⟨B.exec, B.bytes, hml, findClass_of_methodNamed B.named, fun w h => hts w (List.mem_cons_of_mem _ h), hK, B.notSynchronized, B.returns, fun q h => Or.inr h, fun i hi => Or.inl ⟨i, hi, rfl⟩, hN, hG⟩
  have hl := lv_entry As (n := nL) hlen
  rw [lg_entry_eq]
  rw [hL0] at hl
  exact body p e s m As.toArray below meth c (ew_A E s.heap.size) hC hT _ s.heap [] hl ⟨hP, ew_DA hD (fun i hi => Or.inl ⟨i, hi, rfl⟩), va_S.rf, hS⟩
/-- a method with a table of handlers, which returns -/
def Cl (l : Launch) (E : ewE) (y : MethodName) (cd : Cond) (d : Nat) (As : List Value) (M : ewM) (post : Option Value → ewM → Prop) : Prop :=
  ∀ sz : Nat, vx_Met l y (cd :: WW) (cx_rm d) (va_Pc As (fun U => U.heap.size = sz ∧ ew_B E M U)) (ct_Q E (ew_A E sz) post) (fun _ _ _ => False) 1 6 (ew_A E sz)
theorem cl_of {l : Launch} {E : ewE} {y : MethodName} {cc : ByteArray} {nL d : Nat} {ret : Option FieldType} {hh : List (Nat × Nat × Nat × Nat)} {As : List Value} {L0 : List (Nat × Value)} {M : ewM} {post : Option Value → ewM → Prop} (hy : plainName y.cls = true) (hL0 : lv_args 0 As = L0) (hlen : (lg_sl As).length ≤ nL)
    (body : ∀ (p : Program) (e : Env) (s : State) (m : MethodId) (args : Array Value) (below : List Frame) (meth : Method) (c : Code) (A : Nat → Prop), jC p e (cx_rm d) s m args meth c E A cc nL y.cls ret → c.exceptionTable.toList = tableOf hh → jJ p l e (cx_rm d) s m args below meth c E A nL 0 0 (vx_MQ below (ct_Q E A post) (fun _ _ _ => False) args s 1 6 A) 0 L0 [] M) : Cl l E y (.codeWith y cc nL ret hh) d As M post := by
  intro sz
  refine vx_ofWH (cc := cc) (maxL := nL) (ret := ret) (ws' := WW) hy rfl ?_
  intro p e s m args below meth c s₁ B hml hv
  obtain ⟨rfl, hsz, hP, hK, hD, hS, hN, hG⟩ := hv
  subst hsz
  have hts := atoms_spec (ws := Cond.codeWith y cc nL ret hh :: WW) B.pre
  have hC : jC p e (cx_rm d) s m As.toArray meth c E (ew_A E s.heap.size) cc nL y.cls ret := ⟨B.exec, B.bytes, hml, findClass_of_methodNamed B.named, fun w h => hts w (List.mem_cons_of_mem _ h), hK, B.notSynchronized, B.returns, fun q h => Or.inr h, fun i hi => Or.inl ⟨i, hi, rfl⟩, hN, hG⟩
  have hl := lv_entry As (n := nL) hlen
  rw [lg_entry_eq]
  rw [hL0] at hl
  exact body p e s m As.toArray below meth c (ew_A E s.heap.size) hC (vx_table (x := y) B (hts _ List.mem_cons_self)) _ s.heap [] hl ⟨hP, ew_DA hD (fun i hi => Or.inl ⟨i, hi, rfl⟩), va_S.rf, hS⟩
