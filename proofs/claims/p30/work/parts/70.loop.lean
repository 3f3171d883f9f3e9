/-! THE LAW'S LOOP -/
set_option maxRecDepth 100000 in
set_option maxHeartbeats 4000000 in
theorem lw_285 {p : Program} {l : Launch} {e : Env} {s : State} {m : MethodId} {args : Array Value} {below : List Frame} {meth : Method} {c : Code} {E : ewE} {A : Nat → Prop} {Q : State → Prop} (hC : jC p e room_1 s m args meth c E A code 14 "EmbossPressLaw" (some .boolean)) {i : Int} (h0 : 0 ≤ i) (h1 : i < 26) (k301 : ∀ T : ewM, Lw (2 * (i + 1)) T → jJ p l e room_1 s m args below meth c E A 14 88 7169 Q 301 [(0, vR E 203), (1, vR E 77), (2, vI i)] [] T) {M : ewM} (hM : Lw (2 * (i + 1)) M) : jJ p l e room_1 s m args below meth c E A 14 88 7169 Q 285 [(0, vR E 203), (1, vR E 77), (2, vI i)] [] M := by
  have hh := Lw_holds hM
  refine jw_iload_n hC dL_law_285 2 rfl rfl ?_
  refine jw_iconst hC dL_law_286 ?_
  refine jw_irem hC dL_law_287 (by omega) (by omega) (by omega) (by omega) ?_
  refine jw_iconst hC dL_law_288 ?_
  refine jw_icmp_ne (tgt := 301) hC dL_law_289 (by decide) (by omega) (by omega) (by omega) (by omega) (fun h289 => ?_) (fun h289 => ?_)
  · skip
    exact k301 M hM
  · skip
    refine jw_aload_n hC dL_law_292 1 rfl rfl ?_
    refine jw_callS hC (c_L_holds l E M (Lw_st0 hM) hh.1 hh.2.1 hh.2.2) sS_L_87 dL_law_293 rfl rfl ⟨Nat.le_of_ble_eq_true rfl, Nat.le_of_ble_eq_true rfl⟩ ⟨Nat.le_of_ble_eq_true rfl, Nat.le_of_ble_eq_true rfl⟩ (Nat.le_of_ble_eq_true rfl) (fun v293 M293 g293 => ?_)
    obtain ⟨rfl, rfl⟩ := g293
    refine jw_if_ne (tgt := 301) hC dL_law_296 (by decide) (by omega) (by omega) (fun h296 => ?_) (fun h296 => ?_)
    · skip
      exact k301 M hM
    · skip
      exfalso; omega
set_option maxRecDepth 100000 in
set_option maxHeartbeats 4000000 in
theorem lw_233 {p : Program} {l : Launch} {e : Env} {s : State} {m : MethodId} {args : Array Value} {below : List Frame} {meth : Method} {c : Code} {E : ewE} {A : Nat → Prop} {Q : State → Prop} (hC : jC p e room_1 s m args meth c E A code 14 "EmbossPressLaw" (some .boolean)) {i : Int} (h0 : 0 ≤ i) (h1 : i < 26) (k285 : ∀ T : ewM, Lw (2 * (i + 1)) T → jJ p l e room_1 s m args below meth c E A 14 88 7169 Q 285 [(0, vR E 203), (1, vR E 77), (2, vI i)] [] T) (v w : Int) (hv : -2147483648 ≤ v ∧ v < 2147483648) {M N : ewM} (hM : Lw (2 * i) M) (h5 : M 77 5 ≤ 5) (hN : Lw (2 * i + 1) N) (eN : sj N 0 = (f_act (i_and v 15) v w (sj M 0)).2) (sN : svd M N) : jJ p l e room_1 s m args below meth c E A 14 88 7169 Q 233 [(0, vR E 203), (1, vR E 77), (2, vI i), (3, vI v), (4, vI w), (5, vI (M 77 5)), (7, vJ (f_told M)), (9, vI (f_act (i_and v 15) v w (sj M 0)).1), (10, vJ (f_told N))] [] N := by
  have hb := f_act_b (kd := i_and v 15) (v := v) (w := w) (K := 2 * i) (by omega) (hM.1 0 (by decide))
  have hN5 : N 77 5 = M 77 5 + 1 := by
    rw [sN.2.1]
    unfold rg_n
    rw [if_neg (by omega)]
  have hMb := hM.2
  refine jw_iload_n hC dL_law_233 3 rfl rfl ?_
  refine jw_bipush hC dL_law_234 (by decide) ?_
  refine jw_ishr hC dL_law_236 (fun b236 c236 => ?_)
  refine jw_iconst hC dL_law_237 ?_
  refine jw_iand hC dL_law_238 (fun b238 c238 => ?_)
  refine jw_if_ne (tgt := 285) hC dL_law_239 (by decide) (by omega) (by omega) (fun h239 => ?_) (fun h239 => ?_)
  · skip
    refine jw_loc (L' := [(0, _), (1, _), (2, _)]) [0, 1, 2] rfl ?_
    first
    | exact k285 M265 hT
    | exact k285 N (Lw_mono hN (by omega))
  · skip
    refine jw_aload_n hC dL_law_242 1 rfl rfl ?_
    refine jw_callV hC (c_X4_undo l E N hN.2.1 hN.2.2 (by omega)) sV_L_72 ewF_x4.o dL_law_243 rfl rfl ⟨Nat.le_of_ble_eq_true rfl, Nat.le_of_ble_eq_true rfl⟩ ⟨Nat.le_of_ble_eq_true rfl, Nat.le_of_ble_eq_true rfl⟩ (Nat.le_of_ble_eq_true rfl) (fun v243 M243 g243 => ?_)
    obtain ⟨-, rfl, gu⟩ := g243
    have hu := op_undo hN.2.1 hN.2.2 gu
    have hback := und_back hM h5 sN hu
    have hP := Lw_und hN (by omega) hu
    refine jw_iload hC dL_law_246 5 rfl ?_
    refine jw_icmp_ne (tgt := 283) hC dL_law_248 (by decide) (by omega) (by omega) (by omega) (by omega) (fun h248 => ?_) (fun h248 => ?_)
    · skip
      exfalso; omega
    · skip
      refine jw_aload_n hC dL_law_251 1 rfl rfl ?_
      refine jw_callS hC (c_L_told l E M243 (Lw_st0 hP)) sS_L_75 dL_law_252 rfl rfl ⟨Nat.le_of_ble_eq_true rfl, Nat.le_of_ble_eq_true rfl⟩ ⟨Nat.le_of_ble_eq_true rfl, Nat.le_of_ble_eq_true rfl⟩ (Nat.le_of_ble_eq_true rfl) (fun v252 M252 g252 => ?_)
      obtain ⟨rfl, rfl⟩ := g252
      refine jw_lload hC dL_law_255 6 rfl ?_
      refine jw_lcmpe hC (f_told_cg hback) dL_law_257 ?_
      refine jw_if_ne (tgt := 283) hC dL_law_258 (by decide) (by omega) (by omega) (fun h258 => ?_) (fun h258 => ?_)
      · skip
        exfalso; omega
      · skip
        refine jw_aload_n hC dL_law_261 1 rfl rfl ?_
        refine jw_iload_n hC dL_law_262 3 rfl rfl ?_
        refine jw_iload hC dL_law_263 4 rfl ?_
        refine jw_callS hC (c_L_act l E M243 (Lw_st0 hP) hP.2.1 hP.2.2 v w) sS_L_79 dL_law_265 rfl rfl ⟨Nat.le_of_ble_eq_true rfl, Nat.le_of_ble_eq_true rfl⟩ ⟨Nat.le_of_ble_eq_true rfl, Nat.le_of_ble_eq_true rfl⟩ (Nat.le_of_ble_eq_true rfl) (fun v265 M265 g265 => ?_)
        obtain ⟨rfl, e3, s3⟩ := g265
        rw [hback] at e3 ⊢
        have hT : Lw (2 * (i + 1)) M265 := by
          have z := Lw_act (r := f_act (i_and v 15) v w (sj M 0)) hP (f_act_SI (by omega) (SI_mono (hM.1 0 (by decide)) (by omega))) e3 s3
          rw [show 2 * (i + 1) = 2 * i + 1 + 1 by omega]
          exact z
        refine jw_iload hC dL_law_268 7 rfl ?_
        refine jw_icmp_ne (tgt := 283) hC dL_law_270 (by decide) (by omega) (by omega) (by omega) (by omega) (fun h270 => ?_) (fun h270 => ?_)
        · skip
          exfalso; omega
        · skip
          refine jw_aload_n hC dL_law_273 1 rfl rfl ?_
          refine jw_callS hC (c_L_told l E M265 (Lw_st0 hT)) sS_L_75 dL_law_274 rfl rfl ⟨Nat.le_of_ble_eq_true rfl, Nat.le_of_ble_eq_true rfl⟩ ⟨Nat.le_of_ble_eq_true rfl, Nat.le_of_ble_eq_true rfl⟩ (Nat.le_of_ble_eq_true rfl) (fun v274 M274 g274 => ?_)
          obtain ⟨rfl, rfl⟩ := g274
          refine jw_lload hC dL_law_277 8 rfl ?_
          refine jw_lcmpe hC (f_told_cg (e3.trans eN.symm)) dL_law_279 ?_
          refine jw_if_eq (tgt := 285) hC dL_law_280 (by decide) (by omega) (by omega) (fun h280 => ?_) (fun h280 => ?_)
          · skip
            refine jw_loc (L' := [(0, _), (1, _), (2, _)]) [0, 1, 2] rfl ?_
            first
            | exact k285 M265 hT
            | exact k285 N (Lw_mono hN (by omega))
          · skip
            exfalso; omega
set_option maxRecDepth 100000 in
set_option maxHeartbeats 4000000 in
theorem lw_77 {p : Program} {l : Launch} {e : Env} {s : State} {m : MethodId} {args : Array Value} {below : List Frame} {meth : Method} {c : Code} {E : ewE} {A : Nat → Prop} {Q : State → Prop} (hC : jC p e room_1 s m args meth c E A code 14 "EmbossPressLaw" (some .boolean)) {i : Int} (h0 : 0 ≤ i) (h1 : i < 26) (v w : Int) (hv : -2147483648 ≤ v ∧ v < 2147483648) {M : ewM} (hM : Lw (2 * i) M) (h5 : M 77 5 ≤ 5) (k233 : ∀ N : ewM, Lw (2 * i + 1) N → sj N 0 = (f_act (i_and v 15) v w (sj M 0)).2 → svd M N → jJ p l e room_1 s m args below meth c E A 14 88 7169 Q 233 [(0, vR E 203), (1, vR E 77), (2, vI i), (3, vI v), (4, vI w), (5, vI (M 77 5)), (7, vJ (f_told M)), (9, vI (f_act (i_and v 15) v w (sj M 0)).1), (10, vJ (f_told N))] [] N) : jJ p l e room_1 s m args below meth c E A 14 88 7169 Q 77 [(0, vR E 203), (1, vR E 77), (2, vI i), (3, vI v), (4, vI w)] [] M := by
  have hSI := f_act_SI (kd := i_and v 15) (v := v) (w := w) (K := 2 * i) (by omega) (hM.1 0 (by decide))
  have hrb := f_act_b (kd := i_and v 15) (v := v) (w := w) (K := 2 * i) (by omega) (hM.1 0 (by decide))
  have hpr := f_act_press (kd := i_and v 15) (v := v) (w := w) (K := 2 * i) (by omega) (hM.1 0 (by decide))
  have hfo : i_and v 15 = 3 → s_n (f_act (i_and v 15) v w (sj M 0)).2 7 = s_n (sj M 0) 7 + (f_act (i_and v 15) v w (sj M 0)).1 ∧ f_set (s_d (f_act (i_and v 15) v w (sj M 0)).2) (s_c (f_act (i_and v 15) v w (sj M 0)).2) (s_t (f_act (i_and v 15) v w (sj M 0)).2 0) (s_t (f_act (i_and v 15) v w (sj M 0)).2 1) := fun z => by
    rw [z]
    exact f_act_fold (K := 2 * i) (by omega) (hM.1 0 (by decide))
  have hk := i_and_b v (y := 15) (by decide) (by decide)
  have h7 := Lw_7 hM
  have n7 : s_n (sj M 0) 7 = M 50 7 := pn_in (M 50) (k := 7) (by decide) (by decide)
  rw [n7] at hpr hfo
  have hMb := hM.2
  refine jw_aload_n hC dL_law_77 1 rfl rfl ?_
  refine jw_bipush hC dL_law_78 (by decide) ?_
  refine jw_callV hC (c_X4_count l E M (Lw_st0 hM) _ (by decide) (by decide) ⟨by decide, by decide⟩) sV_L_12 ewF_x4.o dL_law_80 rfl rfl ⟨Nat.le_of_ble_eq_true rfl, Nat.le_of_ble_eq_true rfl⟩ ⟨Nat.le_of_ble_eq_true rfl, Nat.le_of_ble_eq_true rfl⟩ (Nat.le_of_ble_eq_true rfl) (fun v80 M80 g80 => ?_)
  obtain ⟨-, rfl, hb80, rfl⟩ := g80
  rw [show f_num M 13 = M 77 5 from rfl] at hb80 ⊢
  refine jw_istore (L' := [(5, _), (0, _), (1, _), (2, _), (3, _), (4, _)]) hC dL_law_83 (by decide) rfl ?_
  refine jw_aload_n hC dL_law_85 2 rfl rfl ?_
  refine jw_bipush hC dL_law_86 (by decide) ?_
  refine jw_callV hC (c_X4_count l E M (Lw_st0 hM) _ (by decide) (by decide) ⟨by decide, by decide⟩) sV_L_12 ewF_x4.o dL_law_88 rfl rfl ⟨Nat.le_of_ble_eq_true rfl, Nat.le_of_ble_eq_true rfl⟩ ⟨Nat.le_of_ble_eq_true rfl, Nat.le_of_ble_eq_true rfl⟩ (Nat.le_of_ble_eq_true rfl) (fun v88 M88 g88 => ?_)
  obtain ⟨-, rfl, hb88, rfl⟩ := g88
  rw [show f_num M 10 = M 50 7 from rfl] at hb88 ⊢
  refine jw_istore (L' := [(6, _), (5, _), (0, _), (1, _), (2, _), (3, _), (4, _)]) hC dL_law_91 (by decide) rfl ?_
  refine jw_aload_n hC dL_law_93 3 rfl rfl ?_
  refine jw_callS hC (c_L_told l E M (Lw_st0 hM)) sS_L_75 dL_law_94 rfl rfl ⟨Nat.le_of_ble_eq_true rfl, Nat.le_of_ble_eq_true rfl⟩ ⟨Nat.le_of_ble_eq_true rfl, Nat.le_of_ble_eq_true rfl⟩ (Nat.le_of_ble_eq_true rfl) (fun v94 M94 g94 => ?_)
  obtain ⟨rfl, rfl⟩ := g94
  refine jw_lstore (L' := [(7, _), (6, _), (5, _), (0, _), (1, _), (2, _), (3, _), (4, _)]) hC dL_law_97 (by decide) rfl ?_
  refine jw_aload_n hC dL_law_99 4 rfl rfl ?_
  refine jw_iload_n hC dL_law_100 6 rfl rfl ?_
  refine jw_iload hC dL_law_101 7 rfl ?_
  refine jw_callS hC (c_L_act l E M (Lw_st0 hM) hM.2.1 hM.2.2 v w) sS_L_79 dL_law_103 rfl rfl ⟨Nat.le_of_ble_eq_true rfl, Nat.le_of_ble_eq_true rfl⟩ ⟨Nat.le_of_ble_eq_true rfl, Nat.le_of_ble_eq_true rfl⟩ (Nat.le_of_ble_eq_true rfl) (fun v103 M103 g103 => ?_)
  obtain ⟨rfl, eN, sN⟩ := g103
  have hM103 : Lw (2 * i + 1) M103 := Lw_act (r := (f_act (i_and v 15) v w (sj M 0))) hM (f_act_SI (by omega) (hM.1 0 (by decide))) eN sN
  have hN5 : M103 77 5 = M 77 5 + 1 := by
    rw [sN.2.1]
    unfold rg_n
    rw [if_neg (by omega)]
  have m7 : s_n (f_act (i_and v 15) v w (sj M 0)).2 7 = M103 50 7 := by rw [← eN]; exact pn_in (M103 50) (k := 7) (by decide) (by decide)
  have m10 : s_n (f_act (i_and v 15) v w (sj M 0)).2 10 = M103 50 10 := by rw [← eN]; exact pn_in (M103 50) (k := 10) (by decide) (by decide)
  have ms : f_set (s_d (f_act (i_and v 15) v w (sj M 0)).2) (s_c (f_act (i_and v 15) v w (sj M 0)).2) (s_t (f_act (i_and v 15) v w (sj M 0)).2 0) (s_t (f_act (i_and v 15) v w (sj M 0)).2 1) → f_set (M103 1) (M103 3) (M103 52 0) (M103 52 1) := fun z => by rw [← eN] at z; exact z
  rw [m7, m10] at hpr
  rw [m7] at hfo
  have k9 := k233 M103 hM103 eN sN
  refine jw_istore (L' := [(9, _), (7, _), (6, _), (5, _), (0, _), (1, _), (2, _), (3, _), (4, _)]) hC dL_law_106 (by decide) rfl ?_
  refine jw_aload_n hC dL_law_108 5 rfl rfl ?_
  refine jw_callS hC (c_L_told l E M103 (Lw_st0 hM103)) sS_L_75 dL_law_109 rfl rfl ⟨Nat.le_of_ble_eq_true rfl, Nat.le_of_ble_eq_true rfl⟩ ⟨Nat.le_of_ble_eq_true rfl, Nat.le_of_ble_eq_true rfl⟩ (Nat.le_of_ble_eq_true rfl) (fun v109 M109 g109 => ?_)
  obtain ⟨rfl, rfl⟩ := g109
  refine jw_lstore (L' := [(10, _), (9, _), (7, _), (6, _), (5, _), (0, _), (1, _), (2, _), (3, _), (4, _)]) hC dL_law_112 (by decide) rfl ?_
  refine jw_aload_n hC dL_law_114 6 rfl rfl ?_
  refine jw_bipush hC dL_law_115 (by decide) ?_
  refine jw_callV hC (c_X4_count l E M103 (Lw_st0 hM103) _ (by decide) (by decide) ⟨by decide, by decide⟩) sV_L_12 ewF_x4.o dL_law_117 rfl rfl ⟨Nat.le_of_ble_eq_true rfl, Nat.le_of_ble_eq_true rfl⟩ ⟨Nat.le_of_ble_eq_true rfl, Nat.le_of_ble_eq_true rfl⟩ (Nat.le_of_ble_eq_true rfl) (fun v117 M117 g117 => ?_)
  obtain ⟨-, rfl, hb117, rfl⟩ := g117
  rw [show f_num M103 13 = M103 77 5 from rfl] at hb117 ⊢
  refine jw_iload hC dL_law_120 4 rfl ?_
  refine jw_iconst hC dL_law_122 ?_
  refine jw_iadd hC dL_law_123 ?_
  refine jw_icmp_eq (tgt := 129) hC dL_law_124 (by decide) (by omega) (by omega) (by omega) (by omega) (fun h124 => ?_) (fun h124 => ?_)
  · skip
    refine jw_iload_n hC dL_law_129 8 rfl rfl ?_
    refine jw_bipush hC dL_law_130 (by decide) ?_
    refine jw_iand hC dL_law_132 (fun b132 c132 => ?_)
    refine jw_istore (L' := [(12, _), (10, _), (9, _), (7, _), (6, _), (5, _), (0, _), (1, _), (2, _), (3, _), (4, _)]) hC dL_law_133 (by decide) rfl ?_
    refine jw_iload hC dL_law_135 0 rfl ?_
    refine jw_iconst hC dL_law_137 ?_
    refine jw_icmp_le (tgt := 159) hC dL_law_138 (by decide) (by omega) (by omega) (by omega) (by omega) (fun h138 => ?_) (fun h138 => ?_)
    · skip
      refine jw_iconst hC dL_law_159 ?_
      refine jw_istore (L' := [(13, _), (12, _), (10, _), (9, _), (7, _), (6, _), (5, _), (0, _), (1, _), (2, _), (3, _), (4, _)]) hC dL_law_160 (by decide) rfl ?_
      refine jw_iload hC dL_law_162 0 rfl ?_
      refine jw_if_eq (tgt := 193) hC dL_law_164 (by decide) (by omega) (by omega) (fun h164 => ?_) (fun h164 => ?_)
      · skip
        refine jw_iload hC dL_law_193 1 rfl ?_
        refine jw_iconst hC dL_law_195 ?_
        refine jw_icmp_ne (tgt := 213) hC dL_law_196 (by decide) (by omega) (by omega) (by omega) (by omega) (fun h196 => ?_) (fun h196 => ?_)
        · skip
          refine jw_iload hC dL_law_213 0 rfl ?_
          refine jw_if_ne (tgt := 224) hC dL_law_215 (by decide) (by omega) (by omega) (fun h215 => ?_) (fun h215 => ?_)
          · skip
            exfalso; omega
          · skip
            refine jw_iload hC dL_law_218 1 rfl ?_
            refine jw_iconst hC dL_law_220 ?_
            refine jw_icmp_ne (tgt := 233) hC dL_law_221 (by decide) (by omega) (by omega) (by omega) (by omega) (fun h221 => ?_) (fun h221 => ?_)
            · skip
              refine jw_loc (L' := [(0, _), (1, _), (2, _), (3, _), (4, _), (5, _), (7, _), (9, _), (10, _)]) [7, 8, 9, 10, 11, 6, 4, 3, 2] rfl ?_
              exact k9
            · skip
              exfalso; omega
        · skip
          have hz := hfo (by omega)
          have hset := ms hz.2
          refine jw_aload_n hC dL_law_199 8 rfl rfl ?_
          refine jw_bipush hC dL_law_200 (by decide) ?_
          refine jw_callV hC (c_X4_count l E M103 (Lw_st0 hM103) _ (by decide) (by decide) ⟨by decide, by decide⟩) sV_L_12 ewF_x4.o dL_law_202 rfl rfl ⟨Nat.le_of_ble_eq_true rfl, Nat.le_of_ble_eq_true rfl⟩ ⟨Nat.le_of_ble_eq_true rfl, Nat.le_of_ble_eq_true rfl⟩ (Nat.le_of_ble_eq_true rfl) (fun v202 M202 g202 => ?_)
          obtain ⟨-, rfl, hb202, rfl⟩ := g202
          rw [show f_num M103 10 = M103 50 7 from rfl] at hb202 ⊢
          refine jw_iload hC dL_law_205 5 rfl ?_
          refine jw_iload hC dL_law_207 3 rfl ?_
          refine jw_iadd hC dL_law_209 ?_
          refine jw_icmp_ne (tgt := 231) hC dL_law_210 (by decide) (by omega) (by omega) (by omega) (by omega) (fun h210 => ?_) (fun h210 => ?_)
          · skip
            exfalso; omega
          · skip
            refine jw_iload hC dL_law_213 0 rfl ?_
            refine jw_if_ne (tgt := 224) hC dL_law_215 (by decide) (by omega) (by omega) (fun h215 => ?_) (fun h215 => ?_)
            · skip
              exfalso; omega
            · skip
              refine jw_iload hC dL_law_218 1 rfl ?_
              refine jw_iconst hC dL_law_220 ?_
              refine jw_icmp_ne (tgt := 233) hC dL_law_221 (by decide) (by omega) (by omega) (by omega) (by omega) (fun h221 => ?_) (fun h221 => ?_)
              · skip
                exfalso; omega
              · skip
                refine jw_aload_n hC dL_law_224 8 rfl rfl ?_
                refine jw_callS hC (c_L_isSettled l E M103 (Lw_st0 hM103) hset) sS_L_83 dL_law_225 rfl rfl ⟨Nat.le_of_ble_eq_true rfl, Nat.le_of_ble_eq_true rfl⟩ ⟨Nat.le_of_ble_eq_true rfl, Nat.le_of_ble_eq_true rfl⟩ (Nat.le_of_ble_eq_true rfl) (fun v225 M225 g225 => ?_)
                obtain ⟨rfl, rfl⟩ := g225
                refine jw_if_ne (tgt := 233) hC dL_law_228 (by decide) (by omega) (by omega) (fun h228 => ?_) (fun h228 => ?_)
                · skip
                  refine jw_loc (L' := [(0, _), (1, _), (2, _), (3, _), (4, _), (5, _), (7, _), (9, _), (10, _)]) [7, 8, 9, 10, 11, 6, 4, 3, 2] rfl ?_
                  exact k9
                · skip
                  exfalso; omega
      · skip
        exfalso; omega
    · skip
      refine jw_iload hC dL_law_141 0 rfl ?_
      refine jw_bipush hC dL_law_143 (by decide) ?_
      refine jw_icmp_ge (tgt := 159) hC dL_law_145 (by decide) (by omega) (by omega) (by omega) (by omega) (fun h145 => ?_) (fun h145 => ?_)
      · skip
        refine jw_iconst hC dL_law_159 ?_
        refine jw_istore (L' := [(13, _), (12, _), (10, _), (9, _), (7, _), (6, _), (5, _), (0, _), (1, _), (2, _), (3, _), (4, _)]) hC dL_law_160 (by decide) rfl ?_
        refine jw_iload hC dL_law_162 0 rfl ?_
        refine jw_if_eq (tgt := 193) hC dL_law_164 (by decide) (by omega) (by omega) (fun h164 => ?_) (fun h164 => ?_)
        · skip
          refine jw_iload hC dL_law_193 1 rfl ?_
          refine jw_iconst hC dL_law_195 ?_
          refine jw_icmp_ne (tgt := 213) hC dL_law_196 (by decide) (by omega) (by omega) (by omega) (by omega) (fun h196 => ?_) (fun h196 => ?_)
          · skip
            refine jw_iload hC dL_law_213 0 rfl ?_
            refine jw_if_ne (tgt := 224) hC dL_law_215 (by decide) (by omega) (by omega) (fun h215 => ?_) (fun h215 => ?_)
            · skip
              exfalso; omega
            · skip
              refine jw_iload hC dL_law_218 1 rfl ?_
              refine jw_iconst hC dL_law_220 ?_
              refine jw_icmp_ne (tgt := 233) hC dL_law_221 (by decide) (by omega) (by omega) (by omega) (by omega) (fun h221 => ?_) (fun h221 => ?_)
              · skip
                refine jw_loc (L' := [(0, _), (1, _), (2, _), (3, _), (4, _), (5, _), (7, _), (9, _), (10, _)]) [7, 8, 9, 10, 11, 6, 4, 3, 2] rfl ?_
                exact k9
              · skip
                exfalso; omega
          · skip
            exfalso; omega
        · skip
          exfalso; omega
      · skip
        refine jw_iload hC dL_law_148 2 rfl ?_
        refine jw_bipush hC dL_law_150 (by decide) ?_
        refine jw_icmp_lt (tgt := 159) hC dL_law_152 (by decide) (by omega) (by omega) (by omega) (by omega) (fun h152 => ?_) (fun h152 => ?_)
        · skip
          refine jw_iconst hC dL_law_159 ?_
          refine jw_istore (L' := [(13, _), (12, _), (10, _), (9, _), (7, _), (6, _), (5, _), (0, _), (1, _), (2, _), (3, _), (4, _)]) hC dL_law_160 (by decide) rfl ?_
          refine jw_iload hC dL_law_162 0 rfl ?_
          refine jw_if_eq (tgt := 193) hC dL_law_164 (by decide) (by omega) (by omega) (fun h164 => ?_) (fun h164 => ?_)
          · skip
            refine jw_iload hC dL_law_193 1 rfl ?_
            refine jw_iconst hC dL_law_195 ?_
            refine jw_icmp_ne (tgt := 213) hC dL_law_196 (by decide) (by omega) (by omega) (by omega) (by omega) (fun h196 => ?_) (fun h196 => ?_)
            · skip
              refine jw_iload hC dL_law_213 0 rfl ?_
              refine jw_if_ne (tgt := 224) hC dL_law_215 (by decide) (by omega) (by omega) (fun h215 => ?_) (fun h215 => ?_)
              · skip
                exfalso; omega
              · skip
                refine jw_iload hC dL_law_218 1 rfl ?_
                refine jw_iconst hC dL_law_220 ?_
                refine jw_icmp_ne (tgt := 233) hC dL_law_221 (by decide) (by omega) (by omega) (by omega) (by omega) (fun h221 => ?_) (fun h221 => ?_)
                · skip
                  refine jw_loc (L' := [(0, _), (1, _), (2, _), (3, _), (4, _), (5, _), (7, _), (9, _), (10, _)]) [7, 8, 9, 10, 11, 6, 4, 3, 2] rfl ?_
                  exact k9
                · skip
                  exfalso; omega
            · skip
              exfalso; omega
          · skip
            exfalso; omega
        · skip
          refine jw_iconst hC dL_law_155 ?_
          refine jw_goto (tgt := 160) hC dL_law_156 (by decide) ?_
          refine jw_istore (L' := [(13, _), (12, _), (10, _), (9, _), (7, _), (6, _), (5, _), (0, _), (1, _), (2, _), (3, _), (4, _)]) hC dL_law_160 (by decide) rfl ?_
          refine jw_iload hC dL_law_162 0 rfl ?_
          refine jw_if_eq (tgt := 193) hC dL_law_164 (by decide) (by omega) (by omega) (fun h164 => ?_) (fun h164 => ?_)
          · skip
            exfalso; omega
          · skip
            have hz := hpr (by omega) (by omega)
            have hset := ms hz.2.2
            refine jw_aload_n hC dL_law_167 8 rfl rfl ?_
            refine jw_bipush hC dL_law_168 (by decide) ?_
            refine jw_callV hC (c_X4_count l E M103 (Lw_st0 hM103) _ (by decide) (by decide) ⟨by decide, by decide⟩) sV_L_12 ewF_x4.o dL_law_170 rfl rfl ⟨Nat.le_of_ble_eq_true rfl, Nat.le_of_ble_eq_true rfl⟩ ⟨Nat.le_of_ble_eq_true rfl, Nat.le_of_ble_eq_true rfl⟩ (Nat.le_of_ble_eq_true rfl) (fun v170 M170 g170 => ?_)
            obtain ⟨-, rfl, hb170, rfl⟩ := g170
            rw [show f_num M103 10 = M103 50 7 from rfl] at hb170 ⊢
            refine jw_iload hC dL_law_173 5 rfl ?_
            refine jw_iload hC dL_law_175 3 rfl ?_
            refine jw_iadd hC dL_law_177 ?_
            refine jw_bipush hC dL_law_178 (by decide) ?_
            refine jw_isub hC dL_law_180 ?_
            refine jw_icmp_ne (tgt := 231) hC dL_law_181 (by decide) (by omega) (by omega) (by omega) (by omega) (fun h181 => ?_) (fun h181 => ?_)
            · skip
              exfalso; omega
            · skip
              refine jw_aload_n hC dL_law_184 8 rfl rfl ?_
              refine jw_bipush hC dL_law_185 (by decide) ?_
              refine jw_callV hC (c_X4_count l E M103 (Lw_st0 hM103) _ (by decide) (by decide) ⟨by decide, by decide⟩) sV_L_12 ewF_x4.o dL_law_187 rfl rfl ⟨Nat.le_of_ble_eq_true rfl, Nat.le_of_ble_eq_true rfl⟩ ⟨Nat.le_of_ble_eq_true rfl, Nat.le_of_ble_eq_true rfl⟩ (Nat.le_of_ble_eq_true rfl) (fun v187 M187 g187 => ?_)
              obtain ⟨-, rfl, hb187, rfl⟩ := g187
              rw [show f_num M103 9 = M103 50 10 from rfl] at hb187 ⊢
              refine jw_if_ne (tgt := 231) hC dL_law_190 (by decide) (by omega) (by omega) (fun h190 => ?_) (fun h190 => ?_)
              · skip
                exfalso; omega
              · skip
                refine jw_iload hC dL_law_193 1 rfl ?_
                refine jw_iconst hC dL_law_195 ?_
                refine jw_icmp_ne (tgt := 213) hC dL_law_196 (by decide) (by omega) (by omega) (by omega) (by omega) (fun h196 => ?_) (fun h196 => ?_)
                · skip
                  refine jw_iload hC dL_law_213 0 rfl ?_
                  refine jw_if_ne (tgt := 224) hC dL_law_215 (by decide) (by omega) (by omega) (fun h215 => ?_) (fun h215 => ?_)
                  · skip
                    refine jw_aload_n hC dL_law_224 8 rfl rfl ?_
                    refine jw_callS hC (c_L_isSettled l E M103 (Lw_st0 hM103) hset) sS_L_83 dL_law_225 rfl rfl ⟨Nat.le_of_ble_eq_true rfl, Nat.le_of_ble_eq_true rfl⟩ ⟨Nat.le_of_ble_eq_true rfl, Nat.le_of_ble_eq_true rfl⟩ (Nat.le_of_ble_eq_true rfl) (fun v225 M225 g225 => ?_)
                    obtain ⟨rfl, rfl⟩ := g225
                    refine jw_if_ne (tgt := 233) hC dL_law_228 (by decide) (by omega) (by omega) (fun h228 => ?_) (fun h228 => ?_)
                    · skip
                      refine jw_loc (L' := [(0, _), (1, _), (2, _), (3, _), (4, _), (5, _), (7, _), (9, _), (10, _)]) [7, 8, 9, 10, 11, 6, 4, 3, 2] rfl ?_
                      exact k9
                    · skip
                      exfalso; omega
                  · skip
                    exfalso; omega
                · skip
                  exfalso; omega
  · skip
    exfalso; omega
set_option maxRecDepth 100000 in
set_option maxHeartbeats 4000000 in
theorem lw_301 {p : Program} {l : Launch} {e : Env} {s : State} {m : MethodId} {args : Array Value} {below : List Frame} {meth : Method} {c : Code} {E : ewE} {A : Nat → Prop} {Q : State → Prop} (hC : jC p e room_1 s m args meth c E A code 14 "EmbossPressLaw" (some .boolean)) {i : Int} (h0 : 0 ≤ i) (h1 : i < 26) {M : ewM} (k10 : jJ p l e room_1 s m args below meth c E A 14 88 7169 Q 10 [(0, vR E 203), (1, vR E 77), (2, vI (i + 1))] [] M) : jJ p l e room_1 s m args below meth c E A 14 88 7169 Q 301 [(0, vR E 203), (1, vR E 77), (2, vI i)] [] M := by
  skip
  refine jw_iinc (L' := [(2, _), (0, _), (1, _)]) hC dL_law_301 2 rfl (by decide) rfl ?_
  refine jw_goto (tgt := 10) hC dL_law_304 (by decide) ?_
  refine jw_loc (L' := [(0, _), (1, _), (2, _)]) [1, 2, 0] rfl ?_
  exact k10
set_option maxRecDepth 100000 in
set_option maxHeartbeats 4000000 in
theorem lw_iter {p : Program} {l : Launch} {e : Env} {s : State} {m : MethodId} {args : Array Value} {below : List Frame} {meth : Method} {c : Code} {E : ewE} {A : Nat → Prop} {Q : State → Prop} (hC : jC p e room_1 s m args meth c E A code 14 "EmbossPressLaw" (some .boolean)) (kend : ∀ M : ewM, jJ p l e room_1 s m args below meth c E A 14 88 7169 Q 307 [(0, vR E 203), (1, vR E 77), (2, vI 26)] [] M) {i : Int} {M : ewM} (h0 : 0 ≤ i) (h1 : i ≤ 26) (hM : Lw (2 * i) M) (kn : i < 26 → ∀ T : ewM, Lw (2 * (i + 1)) T → jJ p l e room_1 s m args below meth c E A 14 88 7169 Q 10 [(0, vR E 203), (1, vR E 77), (2, vI (i + 1))] [] T) : jJ p l e room_1 s m args below meth c E A 14 88 7169 Q 10 [(0, vR E 203), (1, vR E 77), (2, vI i)] [] M := by
  have k77 : ∀ (v w : Int) (hv : -2147483648 ≤ v ∧ v < 2147483648) (M : ewM), i < 26 → Lw (2 * i) M → M 77 5 ≤ 5 → jJ p l e room_1 s m args below meth c E A 14 88 7169 Q 77 [(0, vR E 203), (1, vR E 77), (2, vI i), (3, vI v), (4, vI w)] [] M := fun v w hv M hi hM h5 =>
    lw_77 hC h0 hi v w hv hM h5 (fun N hN eN sN => lw_233 hC h0 hi (fun T hT => lw_285 hC h0 hi (fun T hT => lw_301 hC h0 hi (kn hi T hT)) hT) v w hv hM h5 hN eN sN)
  have hMb := hM.2
  refine jw_iload_n hC dL_law_10 2 rfl rfl ?_
  refine jw_bipush hC dL_law_11 (by decide) ?_
  refine jw_icmp_ge (tgt := 307) hC dL_law_13 (by decide) (by omega) (by omega) (by omega) (by omega) (fun h13 => ?_) (fun h13 => ?_)
  · skip
    have e9 : i = 26 := by omega
    subst e9
    exact kend M
  · skip
    refine jw_iload_n hC dL_law_16 2 rfl rfl ?_
    refine jw_iconst hC dL_law_17 ?_
    refine jw_icmp_ge (tgt := 37) hC dL_law_18 (by decide) (by omega) (by omega) (by omega) (by omega) (fun h18 => ?_) (fun h18 => ?_)
    · skip
      refine jw_aload_n hC dL_law_37 0 rfl rfl ?_
      refine jw_iconst hC dL_law_38 ?_
      refine jw_iload_n hC dL_law_39 2 rfl rfl ?_
      refine jw_imul hC dL_law_40 ?_
      refine jw_callS hC (c_L_cell l E _ _ (by omega)) sS_L_68 dL_law_41 rfl rfl ⟨Nat.le_of_ble_eq_true rfl, Nat.le_of_ble_eq_true rfl⟩ ⟨Nat.le_of_ble_eq_true rfl, Nat.le_of_ble_eq_true rfl⟩ (Nat.le_of_ble_eq_true rfl) (fun v41 M41 g41 => ?_)
      obtain ⟨x41, hx41, rfl, rfl⟩ := g41
      refine jw_istore_n (L' := [(3, _), (0, _), (1, _), (2, _)]) hC dL_law_44 rfl (by decide) rfl ?_
      refine jw_aload_n hC dL_law_45 1 rfl rfl ?_
      refine jw_iconst hC dL_law_46 ?_
      refine jw_iload_n hC dL_law_47 3 rfl rfl ?_
      refine jw_imul hC dL_law_48 ?_
      refine jw_iconst hC dL_law_49 ?_
      refine jw_iadd hC dL_law_50 ?_
      refine jw_callS hC (c_L_cell l E _ _ (by omega)) sS_L_68 dL_law_51 rfl rfl ⟨Nat.le_of_ble_eq_true rfl, Nat.le_of_ble_eq_true rfl⟩ ⟨Nat.le_of_ble_eq_true rfl, Nat.le_of_ble_eq_true rfl⟩ (Nat.le_of_ble_eq_true rfl) (fun v51 M51 g51 => ?_)
      obtain ⟨x51, hx51, rfl, rfl⟩ := g51
      refine jw_istore (L' := [(4, _), (3, _), (0, _), (1, _), (2, _)]) hC dL_law_54 (by decide) rfl ?_
      refine jw_aload_n hC dL_law_56 3 rfl rfl ?_
      refine jw_bipush hC dL_law_57 (by decide) ?_
      refine jw_callV hC (c_X4_count l E M (Lw_st0 hM) _ (by decide) (by decide) ⟨by decide, by decide⟩) sV_L_12 ewF_x4.o dL_law_59 rfl rfl ⟨Nat.le_of_ble_eq_true rfl, Nat.le_of_ble_eq_true rfl⟩ ⟨Nat.le_of_ble_eq_true rfl, Nat.le_of_ble_eq_true rfl⟩ (Nat.le_of_ble_eq_true rfl) (fun v59 M59 g59 => ?_)
      obtain ⟨-, rfl, hb59, rfl⟩ := g59
      rw [show f_num M 13 = M 77 5 from rfl] at hb59 ⊢
      refine jw_bipush hC dL_law_62 (by decide) ?_
      refine jw_icmp_ne (tgt := 77) hC dL_law_64 (by decide) (by omega) (by omega) (by omega) (by omega) (fun h64 => ?_) (fun h64 => ?_)
      · skip
        refine jw_loc (L' := [(0, _), (1, _), (2, _), (3, _), (4, _)]) [2, 3, 4, 1, 0] rfl ?_
        first
        | exact k77 _ _ (by omega) M73 (by omega) hM73 (by omega)
        | exact k77 _ _ (by omega) M (by omega) hM (by omega)
      · skip
        refine jw_aload_n hC dL_law_67 3 rfl rfl ?_
        refine jw_callV hC (c_X4_undo l E M hM.2.1 hM.2.2 (by omega)) sV_L_72 ewF_x4.o dL_law_68 rfl rfl ⟨Nat.le_of_ble_eq_true rfl, Nat.le_of_ble_eq_true rfl⟩ ⟨Nat.le_of_ble_eq_true rfl, Nat.le_of_ble_eq_true rfl⟩ (Nat.le_of_ble_eq_true rfl) (fun v68 M68 g68 => ?_)
        obtain ⟨-, rfl, gu⟩ := g68
        have hu := op_undo hM.2.1 hM.2.2 gu
        have hM68 := Lw_und hM (by omega) hu
        have hu5 := hu.2.1
        refine jw_pop hC dL_law_71 ?_
        refine jw_aload_n hC dL_law_72 3 rfl rfl ?_
        refine jw_callV hC (c_X4_undo l E M68 hM68.2.1 hM68.2.2 (by omega)) sV_L_72 ewF_x4.o dL_law_73 rfl rfl ⟨Nat.le_of_ble_eq_true rfl, Nat.le_of_ble_eq_true rfl⟩ ⟨Nat.le_of_ble_eq_true rfl, Nat.le_of_ble_eq_true rfl⟩ (Nat.le_of_ble_eq_true rfl) (fun v73 M73 g73 => ?_)
        obtain ⟨-, rfl, gu2⟩ := g73
        have hu2 := op_undo hM68.2.1 hM68.2.2 gu2
        have hM73 := Lw_und hM68 (by omega) hu2
        have hu25 := hu2.2.1
        refine jw_pop hC dL_law_76 ?_
        refine jw_loc (L' := [(0, _), (1, _), (2, _), (3, _), (4, _)]) [2, 3, 4, 1, 0] rfl ?_
        first
        | exact k77 _ _ (by omega) M73 (by omega) hM73 (by omega)
        | exact k77 _ _ (by omega) M (by omega) hM (by omega)
    · skip
      refine jw_bipush hC dL_law_21 (by decide) ?_
      refine jw_aload_n hC dL_law_23 0 rfl rfl ?_
      refine jw_iconst hC dL_law_24 ?_
      refine jw_iload_n hC dL_law_25 2 rfl rfl ?_
      refine jw_imul hC dL_law_26 ?_
      refine jw_callS hC (c_L_cell l E _ _ (by omega)) sS_L_68 dL_law_27 rfl rfl ⟨Nat.le_of_ble_eq_true rfl, Nat.le_of_ble_eq_true rfl⟩ ⟨Nat.le_of_ble_eq_true rfl, Nat.le_of_ble_eq_true rfl⟩ (Nat.le_of_ble_eq_true rfl) (fun v27 M27 g27 => ?_)
      obtain ⟨x27, hx27, rfl, rfl⟩ := g27
      refine jw_bipush hC dL_law_30 (by decide) ?_
      refine jw_iand hC dL_law_32 (fun b32 c32 => ?_)
      have hb32 := i_and_b x27 (y := 48) (by decide) (by decide)
      refine jw_iadd hC dL_law_33 ?_
      refine jw_goto (tgt := 44) hC dL_law_34 (by decide) ?_
      refine jw_istore_n (L' := [(3, _), (0, _), (1, _), (2, _)]) hC dL_law_44 rfl (by decide) rfl ?_
      refine jw_aload_n hC dL_law_45 1 rfl rfl ?_
      refine jw_iconst hC dL_law_46 ?_
      refine jw_iload_n hC dL_law_47 3 rfl rfl ?_
      refine jw_imul hC dL_law_48 ?_
      refine jw_iconst hC dL_law_49 ?_
      refine jw_iadd hC dL_law_50 ?_
      refine jw_callS hC (c_L_cell l E _ _ (by omega)) sS_L_68 dL_law_51 rfl rfl ⟨Nat.le_of_ble_eq_true rfl, Nat.le_of_ble_eq_true rfl⟩ ⟨Nat.le_of_ble_eq_true rfl, Nat.le_of_ble_eq_true rfl⟩ (Nat.le_of_ble_eq_true rfl) (fun v51 M51 g51 => ?_)
      obtain ⟨x51, hx51, rfl, rfl⟩ := g51
      refine jw_istore (L' := [(4, _), (3, _), (0, _), (1, _), (2, _)]) hC dL_law_54 (by decide) rfl ?_
      refine jw_aload_n hC dL_law_56 3 rfl rfl ?_
      refine jw_bipush hC dL_law_57 (by decide) ?_
      refine jw_callV hC (c_X4_count l E M (Lw_st0 hM) _ (by decide) (by decide) ⟨by decide, by decide⟩) sV_L_12 ewF_x4.o dL_law_59 rfl rfl ⟨Nat.le_of_ble_eq_true rfl, Nat.le_of_ble_eq_true rfl⟩ ⟨Nat.le_of_ble_eq_true rfl, Nat.le_of_ble_eq_true rfl⟩ (Nat.le_of_ble_eq_true rfl) (fun v59 M59 g59 => ?_)
      obtain ⟨-, rfl, hb59, rfl⟩ := g59
      rw [show f_num M 13 = M 77 5 from rfl] at hb59 ⊢
      refine jw_bipush hC dL_law_62 (by decide) ?_
      refine jw_icmp_ne (tgt := 77) hC dL_law_64 (by decide) (by omega) (by omega) (by omega) (by omega) (fun h64 => ?_) (fun h64 => ?_)
      · skip
        refine jw_loc (L' := [(0, _), (1, _), (2, _), (3, _), (4, _)]) [2, 3, 4, 1, 0] rfl ?_
        first
        | exact k77 _ _ (by omega) M73 (by omega) hM73 (by omega)
        | exact k77 _ _ (by omega) M (by omega) hM (by omega)
      · skip
        refine jw_aload_n hC dL_law_67 3 rfl rfl ?_
        refine jw_callV hC (c_X4_undo l E M hM.2.1 hM.2.2 (by omega)) sV_L_72 ewF_x4.o dL_law_68 rfl rfl ⟨Nat.le_of_ble_eq_true rfl, Nat.le_of_ble_eq_true rfl⟩ ⟨Nat.le_of_ble_eq_true rfl, Nat.le_of_ble_eq_true rfl⟩ (Nat.le_of_ble_eq_true rfl) (fun v68 M68 g68 => ?_)
        obtain ⟨-, rfl, gu⟩ := g68
        have hu := op_undo hM.2.1 hM.2.2 gu
        have hM68 := Lw_und hM (by omega) hu
        have hu5 := hu.2.1
        refine jw_pop hC dL_law_71 ?_
        refine jw_aload_n hC dL_law_72 3 rfl rfl ?_
        refine jw_callV hC (c_X4_undo l E M68 hM68.2.1 hM68.2.2 (by omega)) sV_L_72 ewF_x4.o dL_law_73 rfl rfl ⟨Nat.le_of_ble_eq_true rfl, Nat.le_of_ble_eq_true rfl⟩ ⟨Nat.le_of_ble_eq_true rfl, Nat.le_of_ble_eq_true rfl⟩ (Nat.le_of_ble_eq_true rfl) (fun v73 M73 g73 => ?_)
        obtain ⟨-, rfl, gu2⟩ := g73
        have hu2 := op_undo hM68.2.1 hM68.2.2 gu2
        have hM73 := Lw_und hM68 (by omega) hu2
        have hu25 := hu2.2.1
        refine jw_pop hC dL_law_76 ?_
        refine jw_loc (L' := [(0, _), (1, _), (2, _), (3, _), (4, _)]) [2, 3, 4, 1, 0] rfl ?_
        first
        | exact k77 _ _ (by omega) M73 (by omega) hM73 (by omega)
        | exact k77 _ _ (by omega) M (by omega) hM (by omega)
theorem lw_loop {p : Program} {l : Launch} {e : Env} {s : State} {m : MethodId} {args : Array Value} {below : List Frame} {meth : Method} {c : Code} {E : ewE} {A : Nat → Prop} {Q : State → Prop} (hC : jC p e room_1 s m args meth c E A code 14 "EmbossPressLaw" (some .boolean)) (kend : ∀ M : ewM, jJ p l e room_1 s m args below meth c E A 14 88 7169 Q 307 [(0, vR E 203), (1, vR E 77), (2, vI 26)] [] M) : ∀ (n : Nat) (i : Int) (M : ewM), 0 ≤ i → i ≤ 26 → 26 - i ≤ n → Lw (2 * i) M → jJ p l e room_1 s m args below meth c E A 14 88 7169 Q 10 [(0, vR E 203), (1, vR E 77), (2, vI i)] [] M := by
  intro n
  induction n with
  | zero => exact fun i M h0 h1 h2 h => lw_iter hC kend h0 h1 h (fun h6 => by omega)
  | succ n ih => exact fun i M h0 h1 h2 h => lw_iter hC kend h0 h1 h (fun h6 T hT => ih (i + 1) T (by omega) (by omega) (by omega) hT)
