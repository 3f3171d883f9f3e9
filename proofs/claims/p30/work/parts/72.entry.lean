/-! THE LAW'S ENTRY -/
theorem lw_ev {args : Array Value} {s : State} {tm : Term} {z : Int32} (h : (Cond.eq tm (.int z)).before args s = true) : tm.eval args s none [] s = some (.int z) := by
  cases hv : tm.eval args s none [] s with
  | none => simp [Cond.before, Cond.holds, Cond.value, hv] at h
  | some w =>
    have hz : (Term.int z).eval args s none [] s = some (.int z) := rfl
    simp only [Cond.before, Cond.holds, Cond.value, hv, hz] at h
    cases w <;> simp_all
/-- a static array of four ints: what the start says of it -/
def lw_4 (n : String) (z : Nat → Int) : List Cond := [.arrayOf (.static "EmbossPress" n "[I") .int, .eq (.length (.static "EmbossPress" n "[I")) (.int 4), .eq (.elem (.static "EmbossPress" n "[I") (.int 0)) (.int (Int32.ofInt (z 0))), .eq (.elem (.static "EmbossPress" n "[I") (.int 1)) (.int (Int32.ofInt (z 1))), .eq (.elem (.static "EmbossPress" n "[I") (.int 2)) (.int (Int32.ofInt (z 2))), .eq (.elem (.static "EmbossPress" n "[I") (.int 3)) (.int (Int32.ofInt (z 3)))]
theorem lw_st4 {args : Array Value} {s : State} {n : String} {z : Nat → Int} {A : Nat → Prop} (h : ∀ w ∈ lw_4 n z, w.before args s = true) (hA : ∀ a : Nat, a < s.heap.size → ¬ A a) : ∃ t : Nat, (Term.static "EmbossPress" n "[I").eval args s none [] s = some (.ref t) ∧ va_T .int t 4 (fun k => vI (z k)) A s s.heap := by
  refine va_Tof (N := 4) (by decide) (h _ List.mem_cons_self) (lw_ev (h _ (List.mem_cons_of_mem _ List.mem_cons_self))) (fun j hj => ?_) hA
  rcases (show j = 0 ∨ j = 1 ∨ j = 2 ∨ j = 3 by omega) with rfl | rfl | rfl | rfl
  · exact lw_ev (h _ (by simp [lw_4]))
  · exact lw_ev (h _ (by simp [lw_4]))
  · exact lw_ev (h _ (by simp [lw_4]))
  · exact lw_ev (h _ (by simp [lw_4]))
theorem lw_kF {args : Array Value} {s : State} {T0 : Nat → ClassId} {t : Nat} {A : Nat → Prop} (h : ∀ w ∈ lw_4 "FIRST_VALUES" g_first, w.before args s = true) (hx : (Cond.exactly (.static "EmbossPress" "FIRST_VALUES" "[I") "[I").before args s = true) (hT : s.vm.findClass "[I" = some (T0 0)) (hev : (Term.static "EmbossPress" "FIRST_VALUES" "[I").eval args s none [] s = some (.ref t)) (ht : va_T .int t 4 (fun k => vI (g_first k)) A s s.heap) : kF t T0 A s.heap := by
  obtain ⟨cell, h1, h2, h3, h4, h5, h6, h7⟩ := ht
  obtain ⟨b, cell2, e1, e2, e3, e4⟩ := Jvm.Lib.length_spec (lw_ev (h _ (List.mem_cons_of_mem _ List.mem_cons_self)))
  cases hev.symm.trans e1
  obtain ⟨f1, f2, f3, -⟩ := State.arrayAt?_spec e2
  cases h1.symm.trans f1
  obtain ⟨a, c, cell3, k, g1, g2, g3, g4, g5, g6, -⟩ := Cond.exactly_spec hx
  cases hev.symm.trans g1
  cases h1.symm.trans g3
  cases hT.symm.trans g2
  have hz : cell.slots.size = 4 := by
    have e5 : cell.slots.size.toInt32 = 4 := (Value.int.inj e4).symm
    have e6 := congrArg Int32.toInt e5
    rw [show (cell.slots.size.toInt32).toInt = (cell.slots.size : Int) from Int32.toInt_ofNat_of_lt e3] at e6
    have e7 : (4 : Int32).toInt = 4 := rfl
    omega
  refine ⟨cell, h1, h2.1, h3, g6, ?_, h7⟩
  have hs : (vp_cell (T0 0) (4, .inl (fun k => Int32.ofInt (g_first k)))).slots.size = 4 := arrV_size _ _ _
  apply Array.ext_getElem?
  intro i
  by_cases hi : i < 4
  · rw [h6 i hi]
    exact (arrV_read (T0 0) (fun k => Value.int (Int32.ofInt (g_first k))) hi).symm
  · rw [Array.getElem?_eq_none (by omega), Array.getElem?_eq_none (by omega)]
theorem lw_K {args : Array Value} {s : State} (hts : ∀ w ∈ lw_tbl, w.before args s = true) : ∃ (D : va_G) (T : Nat → ClassId), va_K D vwCl (kty T) s ∧ s.vm.findClass "[I" = some (T 0) := by
  have hW : ∀ w ∈ WW, w.before args s = true := fun w hw => hts w (ww_in w hw)
  obtain ⟨c0, i0, k0⟩ := u_known (ws := lw_tbl) (C := RX0) (T := TX0) (N := 4) (n := 4) hts (by decide +kernel) (hts _ (show Cond.instantiable RX0 4 ∈ lw_tbl by decide +kernel))
  obtain ⟨c1, i1, k1⟩ := u_known (ws := lw_tbl) (C := RX0) (T := TX0) (N := 4) (n := 4) hts (by decide +kernel) (hts _ (show Cond.instantiable RX0 4 ∈ lw_tbl by decide +kernel))
  obtain ⟨c2, i2, k2⟩ := u_known (ws := lw_tbl) (C := RX0) (T := TX0) (N := 4) (n := 4) hts (by decide +kernel) (hts _ (show Cond.instantiable RX0 4 ∈ lw_tbl by decide +kernel))
  obtain ⟨c3, i3, k3⟩ := u_known (ws := lw_tbl) (C := RX0) (T := TX0) (N := 4) (n := 4) hts (by decide +kernel) (hts _ (show Cond.instantiable RX0 4 ∈ lw_tbl by decide +kernel))
  obtain ⟨c4, i4, k4⟩ := u_known (ws := lw_tbl) (C := RX1) (T := TX1) (N := 2) (n := 2) hts (by decide +kernel) (hts _ (show Cond.instantiable RX1 2 ∈ lw_tbl by decide +kernel))
  obtain ⟨c5, i5, k5⟩ := u_known (ws := lw_tbl) (C := RX2) (T := TX2) (N := 4) (n := 4) hts (by decide +kernel) (hts _ (show Cond.instantiable RX2 4 ∈ lw_tbl by decide +kernel))
  obtain ⟨c6, i6, k6⟩ := u_known (ws := lw_tbl) (C := RX3) (T := TX3) (N := 15) (n := 15) hts (by decide +kernel) (hts _ (show Cond.instantiable RX3 15 ∈ lw_tbl by decide +kernel))
  obtain ⟨c7, i7, k7⟩ := u_known (ws := lw_tbl) (C := RX4) (T := TX4) (N := 10) (n := 10) hts (by decide +kernel) (hts _ (show Cond.instantiable RX4 10 ∈ lw_tbl by decide +kernel))
  obtain ⟨t0, q0, p0, a0, b0, d0⟩ := Cond.arrayClass_spec (hts (Cond.arrayClass .int) (by decide +kernel))
  obtain ⟨t1, q1, p1, a1, b1, d1⟩ := Cond.arrayClass_spec (hts (Cond.arrayClass .boolean) (by decide +kernel))
  obtain ⟨t2, q2, p2, a2, b2, d2⟩ := Cond.arrayClass_spec (hts (Cond.arrayClass .int) (by decide +kernel))
  obtain ⟨p3, t3, q3, a3, f3, b3, d3, e3⟩ := Cond.arrayOver_spec (hts (Cond.arrayOver (.object "EmbossPress$State")) (by decide +kernel))
  refine ⟨(fun c => match c with | 0 => c0 | 1 => c1 | 2 => c2 | 3 => c3 | 4 => c4 | 5 => c5 | 6 => c6 | _ => c7, fun c => match c with | 0 => i0 | 1 => i1 | 2 => i2 | 3 => i3 | 4 => i4 | 5 => i5 | 6 => i6 | _ => i7), (fun t => match t with | 0 => t0 | 1 => t1 | 2 => t2 | _ => t3), ⟨fun c q hq => ?_, fun k q hk => ?_⟩, a0⟩
  · have hz : c < 8 := (List.getElem?_eq_some_iff.mp hq).1
    rcases (show c = 0 ∨ c = 1 ∨ c = 2 ∨ c = 3 ∨ c = 4 ∨ c = 5 ∨ c = 6 ∨ c = 7 by omega) with rfl | rfl | rfl | rfl | rfl | rfl | rfl | rfl <;> cases hq <;> assumption
  · have hz : k < 4 := (List.getElem?_eq_some_iff.mp hk).1
    rcases (show k = 0 ∨ k = 1 ∨ k = 2 ∨ k = 3 by omega) with rfl | rfl | rfl | rfl <;> cases hk
    · exact ⟨fun n z => ⟨(fun _ h9 => by cases h9), q0, b0, p0, d0⟩, a0⟩
    · exact ⟨fun n z => ⟨(fun _ h9 => by cases h9), q1, b1, p1, d1⟩, a1⟩
    · exact ⟨fun n z => ⟨(fun _ h9 => by cases h9), q2, b2, p2, d2⟩, a2⟩
    · exact ⟨fun n z => ⟨(fun _ h9 => by cases h9), q3, b3, p3, d3⟩, q3, p3, b3, d3, a3, e3⟩
theorem lw_n1 : ∀ w ∈ NWL, w ∈ lw_tbl := by decide +kernel
theorem lw_n2 : ∀ w ∈ NWL, w.onTables = true := by decide +kernel
theorem lw_g1 : ∀ w ∈ lw_4 "FIRST_VALUES" g_first, w ∈ flatC (Jvm.Cond.and given_1 narrow_1) := by decide +kernel
theorem lw_g2 : ∀ w ∈ lw_4 "LEAST_VALUES" g_least, w ∈ flatC (Jvm.Cond.and given_1 narrow_1) := by decide +kernel
theorem lw_g3 : ∀ w ∈ lw_4 "GREATEST_VALUES" g_great, w ∈ flatC (Jvm.Cond.and given_1 narrow_1) := by decide +kernel
theorem lw_g4 : Cond.exactly (.static "EmbossPress" "FIRST_VALUES" "[I") "[I" ∈ flatC (Jvm.Cond.and given_1 narrow_1) := by decide +kernel
theorem lw_N {args : Array Value} {s : State} (hts : ∀ w ∈ lw_tbl, w.before args s = true) : ew_N s := ⟨fun w hw => va_Nw.of (lw_n2 w hw) (hts w (lw_n1 w hw)), trivial, trivial⟩
