/-! WHAT A CALL DOES on both sides: the looks -/
theorem vS_3 (f : Int → Int) : vS f 3 = f 4 := rfl
def hp_dieOf (M : ewM) (a x y t : Int) : Option Value → ewM → Prop := fun v M1 => (v = some (vI 0) ∧ ∃ (z9 : Int) (M0 : ewM), cp_dieOf M a x y t (some (vI z9)) M0 ∧ M1 = mu M0 97 0 (wr z9)) ∨ (v = some (vI 1) ∧ (¬ ((0 ≤ a ∧ a < 3) ∧ (0 ≤ x ∧ x < 5 ∧ 0 ≤ y ∧ y < 5))) ∧ M1 = M) ∨ (v = some (vI 2) ∧ (((0 ≤ a ∧ a < 3) ∧ (0 ≤ x ∧ x < 5 ∧ 0 ≤ y ∧ y < 5)) ∧ ¬ (0 ≤ t ∧ t < 8)) ∧ M1 = M)
theorem m_dieOf (l : Launch) (E : ewE) {M : ewM} (a : Int) (a1 : -2147483648 ≤ a) (a2 : a < 2147483648) (x : Int) (x1 : -2147483648 ≤ x) (x2 : x < 2147483648) (y : Int) (y1 : -2147483648 ≤ y) (y2 : y < 2147483648) (t : Int) (t1 : -2147483648 ≤ t) (t2 : t < 2147483648) (h : Rl M) {v1 : Option Value} {M1 : ewM} (hH : hp_dieOf M a x y t v1 M1) : ∃ kk : Int, v1 = some (vI kk) ∧ (0 ≤ kk ∧ kk ≤ 2) ∧ Ct l E yX5_dieOf (.code yX5_dieOf cX5_dieOf 5 (some .int)) 9 [vR E 88, vI a, vI x, vI y, vI t] M1 (okT kk) := by
  rcases hH with ⟨rfl, z9, M0, ⟨hok, hv, k⟩, rfl⟩ | ⟨rfl, hn, rfl⟩ | ⟨rfl, hn, rfl⟩
  · refine ⟨0, rfl, by omega, ct_mono (c_X5_dieOf l E _ a a1 a2 x x1 x2 y y1 y2 t t1 t2) (fun v T hT => ?_)⟩
    obtain ⟨rfl, q⟩ := hT
    have y0 : 0 ≤ a ∧ a ≤ 2 := by omega
    have y1 : (0 ≤ x ∧ x ≤ 4) ∧ (0 ≤ y ∧ y ≤ 4) := by omega
    have y2 : 0 ≤ t ∧ t ≤ 7 := by omega
    rw [if_pos y0, if_pos y1, if_pos y2] at q
    rw [if_pos y0, if_pos y1, if_pos y2, look_89 k]
    have e := vI_in hv
    obtain ⟨⟨e1, e2, e3, e4⟩, e51, -, -⟩ := Rl_now h
    rw [e51] at e
    exact look_T h k q e
  · refine ⟨1, rfl, by omega, ct_mono (c_X5_dieOf l E _ a a1 a2 x x1 x2 y y1 y2 t t1 t2) (fun v T hT => ?_)⟩
    obtain ⟨rfl, q⟩ := hT
    rw [show (if 0 ≤ a ∧ a ≤ 2 then if (0 ≤ x ∧ x ≤ 4) ∧ (0 ≤ y ∧ y ≤ 4) then if 0 ≤ t ∧ t ≤ 7 then (0 : Int) else 2 else 1 else 1) = 1 from by split <;> (try split) <;> (try split) <;> omega] at q
    exact okT_q h q (by decide)
  · refine ⟨2, rfl, by omega, ct_mono (c_X5_dieOf l E _ a a1 a2 x x1 x2 y y1 y2 t t1 t2) (fun v T hT => ?_)⟩
    obtain ⟨rfl, q⟩ := hT
    rw [show (if 0 ≤ a ∧ a ≤ 2 then if (0 ≤ x ∧ x ≤ 4) ∧ (0 ≤ y ∧ y ≤ 4) then if 0 ≤ t ∧ t ≤ 7 then (0 : Int) else 2 else 1 else 1) = 2 from by split <;> (try split) <;> (try split) <;> omega] at q
    exact okT_q h q (by decide)
def hp_place (M : ewM) (x y w : Int) : Option Value → ewM → Prop := fun v M1 => (v = some (vI 0) ∧ ∃ (z9 : Int) (M0 : ewM), cp_place M x y w (some (vI z9)) M0 ∧ M1 = mu M0 97 0 (wr z9)) ∨ (v = some (vI 1) ∧ (¬ (0 ≤ x ∧ x < 12 ∧ 0 ≤ y ∧ y < 12)) ∧ M1 = M) ∨ (v = some (vI 2) ∧ ((0 ≤ x ∧ x < 12 ∧ 0 ≤ y ∧ y < 12) ∧ ¬ (0 ≤ w ∧ w < 7)) ∧ M1 = M)
theorem m_place (l : Launch) (E : ewE) {M : ewM} (x : Int) (x1 : -2147483648 ≤ x) (x2 : x < 2147483648) (y : Int) (y1 : -2147483648 ≤ y) (y2 : y < 2147483648) (w : Int) (w1 : -2147483648 ≤ w) (w2 : w < 2147483648) (h : Rl M) {v1 : Option Value} {M1 : ewM} (hH : hp_place M x y w v1 M1) : ∃ kk : Int, v1 = some (vI kk) ∧ (0 ≤ kk ∧ kk ≤ 2) ∧ Ct l E yX5_place (.code yX5_place cX5_place 4 (some .int)) 9 [vR E 88, vI x, vI y, vI w] M1 (okT kk) := by
  rcases hH with ⟨rfl, z9, M0, ⟨hok, hv, k⟩, rfl⟩ | ⟨rfl, hn, rfl⟩ | ⟨rfl, hn, rfl⟩
  · refine ⟨0, rfl, by omega, ct_mono (c_X5_place l E _ (by rw [look_89 k]; exact Rl_svI h) x x1 x2 y y1 y2 w w1 w2) (fun v T hT => ?_)⟩
    obtain ⟨rfl, q⟩ := hT
    have y0 : (0 ≤ x ∧ x ≤ 11) ∧ (0 ≤ y ∧ y ≤ 11) := by omega
    have y1 : 0 ≤ w ∧ w ≤ 6 := by omega
    rw [if_pos y0, if_pos y1] at q
    rw [if_pos y0, if_pos y1, look_89 k]
    have e := vI_in hv
    obtain ⟨⟨e1, e2, e3, e4⟩, e51, -, -⟩ := Rl_now h
    rw [prop_eq h, f_pl_3 hok.1, show y * 12 + x = 12 * y + x by omega] at e
    exact look_T h k q e
  · refine ⟨1, rfl, by omega, ct_mono (c_X5_place l E _ (Rl_svI h) x x1 x2 y y1 y2 w w1 w2) (fun v T hT => ?_)⟩
    obtain ⟨rfl, q⟩ := hT
    rw [show (if (0 ≤ x ∧ x ≤ 11) ∧ (0 ≤ y ∧ y ≤ 11) then if 0 ≤ w ∧ w ≤ 6 then (0 : Int) else 2 else 1) = 1 from by split <;> (try split) <;> omega] at q
    exact okT_q h q (by decide)
  · refine ⟨2, rfl, by omega, ct_mono (c_X5_place l E _ (Rl_svI h) x x1 x2 y y1 y2 w w1 w2) (fun v T hT => ?_)⟩
    obtain ⟨rfl, q⟩ := hT
    rw [show (if (0 ≤ x ∧ x ≤ 11) ∧ (0 ≤ y ∧ y ≤ 11) then if 0 ≤ w ∧ w ≤ 6 then (0 : Int) else 2 else 1) = 2 from by split <;> (try split) <;> omega] at q
    exact okT_q h q (by decide)
def hp_count (M : ewM) (w : Int) : Option Value → ewM → Prop := fun v M1 => (v = some (vI 0) ∧ ∃ (z9 : Int) (M0 : ewM), cp_count M w (some (vI z9)) M0 ∧ M1 = mu M0 97 0 (wr z9)) ∨ (v = some (vI 1) ∧ (¬ (0 ≤ w ∧ w < 14)) ∧ M1 = M)
theorem m_count (l : Launch) (E : ewE) {M : ewM} (w : Int) (w1 : -2147483648 ≤ w) (w2 : w < 2147483648) (h : Rl M) {v1 : Option Value} {M1 : ewM} (hH : hp_count M w v1 M1) : ∃ kk : Int, v1 = some (vI kk) ∧ (0 ≤ kk ∧ kk ≤ 2) ∧ Ct l E yX5_count (.code yX5_count cX5_count 2 (some .int)) 9 [vR E 88, vI w] M1 (okT kk) := by
  rcases hH with ⟨rfl, z9, M0, ⟨hok, hv, k⟩, rfl⟩ | ⟨rfl, hn, rfl⟩
  · refine ⟨0, rfl, by omega, ct_mono (c_X5_count l E _ (by rw [look_89 k]; exact Rl_svI h) w w1 w2) (fun v T hT => ?_)⟩
    obtain ⟨rfl, q⟩ := hT
    have y0 : 0 ≤ w ∧ w ≤ 13 := by omega
    rw [if_pos y0] at q
    rw [if_pos y0, look_89 k]
    rw [look_88 k]
    have e := vI_in hv
    obtain ⟨⟨e1, e2, e3, e4⟩, e51, -, -⟩ := Rl_now h
    rw [num_eq h] at e
    exact look_T h k q e
  · refine ⟨1, rfl, by omega, ct_mono (c_X5_count l E _ (Rl_svI h) w w1 w2) (fun v T hT => ?_)⟩
    obtain ⟨rfl, q⟩ := hT
    rw [show (if 0 ≤ w ∧ w ≤ 13 then (0 : Int) else 1) = 1 from by split <;> omega] at q
    exact okT_q h q (by decide)
def hp_setting (M : ewM) (w : Int) : Option Value → ewM → Prop := fun v M1 => (v = some (vI 0) ∧ ∃ (z9 : Int) (M0 : ewM), cp_setting M w (some (vI z9)) M0 ∧ M1 = mu M0 97 0 (wr z9)) ∨ (v = some (vI 1) ∧ (¬ (0 ≤ w ∧ w < 4)) ∧ M1 = M)
theorem m_setting (l : Launch) (E : ewE) {M : ewM} (w : Int) (w1 : -2147483648 ≤ w) (w2 : w < 2147483648) (h : Rl M) {v1 : Option Value} {M1 : ewM} (hH : hp_setting M w v1 M1) : ∃ kk : Int, v1 = some (vI kk) ∧ (0 ≤ kk ∧ kk ≤ 2) ∧ Ct l E yX5_setting (.code yX5_setting cX5_setting 2 (some .int)) 9 [vR E 88, vI w] M1 (okT kk) := by
  rcases hH with ⟨rfl, z9, M0, ⟨hok, hv, k⟩, rfl⟩ | ⟨rfl, hn, rfl⟩
  · refine ⟨0, rfl, by omega, ct_mono (c_X5_setting l E _ w w1 w2) (fun v T hT => ?_)⟩
    obtain ⟨rfl, q⟩ := hT
    have y0 : 0 ≤ w ∧ w ≤ 3 := by omega
    rw [if_pos y0] at q
    rw [if_pos y0, look_89 k]
    have e := vI_in hv
    obtain ⟨⟨e1, e2, e3, e4⟩, e51, -, -⟩ := Rl_now h
    rw [Rl_52 h (by omega) (by omega)] at e
    exact look_T h k q e
  · refine ⟨1, rfl, by omega, ct_mono (c_X5_setting l E _ w w1 w2) (fun v T hT => ?_)⟩
    obtain ⟨rfl, q⟩ := hT
    rw [show (if 0 ≤ w ∧ w ≤ 3 then (0 : Int) else 1) = 1 from by split <;> omega] at q
    exact okT_q h q (by decide)
def hp_ifPressed (M : ewM) (a x y t : Int) : Option Value → ewM → Prop := fun v M1 => (v = some (vI 0) ∧ ∃ (z9 : Int) (M0 : ewM), cp_ifPressed M a x y t (some (vI z9)) M0 ∧ M1 = mu M0 97 0 (wr z9)) ∨ (v = some (vI 1) ∧ (¬ (0 ≤ a ∧ a < 3)) ∧ M1 = M) ∨ (v = some (vI 2) ∧ ((0 ≤ a ∧ a < 3) ∧ ¬ (0 ≤ t ∧ t < 8)) ∧ M1 = M)
theorem m_ifPressed (l : Launch) (E : ewE) {M : ewM} (a : Int) (a1 : -2147483648 ≤ a) (a2 : a < 2147483648) (x : Int) (x1 : -2147483648 ≤ x) (x2 : x < 2147483648) (y : Int) (y1 : -2147483648 ≤ y) (y2 : y < 2147483648) (t : Int) (t1 : -2147483648 ≤ t) (t2 : t < 2147483648) (h : Rl M) {v1 : Option Value} {M1 : ewM} (hH : hp_ifPressed M a x y t v1 M1) : ∃ kk : Int, v1 = some (vI kk) ∧ (0 ≤ kk ∧ kk ≤ 2) ∧ Ct l E yX5_ifPressed (.code yX5_ifPressed cX5_ifPressed 5 (some .int)) 9 [vR E 88, vI a, vI x, vI y, vI t] M1 (okT kk) := by
  rcases hH with ⟨rfl, z9, M0, ⟨hok, hv, k⟩, rfl⟩ | ⟨rfl, hn, rfl⟩ | ⟨rfl, hn, rfl⟩
  · refine ⟨0, rfl, by omega, ct_mono (c_X5_ifPressed l E _ (by rw [look_89 k]; exact Rl_svI h) a a1 a2 x x1 x2 y y1 y2 t t1 t2) (fun v T hT => ?_)⟩
    obtain ⟨rfl, q⟩ := hT
    have y0 : 0 ≤ a ∧ a ≤ 2 := by omega
    have y1 : 0 ≤ t ∧ t ≤ 7 := by omega
    rw [if_pos y0, if_pos y1] at q
    rw [if_pos y0, if_pos y1, look_89 k]
    have e := vI_in hv
    obtain ⟨⟨e1, e2, e3, e4⟩, e51, -, -⟩ := Rl_now h
    rw [e51, ans_eq h] at e
    exact look_T h k q e
  · refine ⟨1, rfl, by omega, ct_mono (c_X5_ifPressed l E _ (Rl_svI h) a a1 a2 x x1 x2 y y1 y2 t t1 t2) (fun v T hT => ?_)⟩
    obtain ⟨rfl, q⟩ := hT
    rw [show (if 0 ≤ a ∧ a ≤ 2 then if 0 ≤ t ∧ t ≤ 7 then (0 : Int) else 2 else 1) = 1 from by split <;> (try split) <;> omega] at q
    exact okT_q h q (by decide)
  · refine ⟨2, rfl, by omega, ct_mono (c_X5_ifPressed l E _ (Rl_svI h) a a1 a2 x x1 x2 y y1 y2 t t1 t2) (fun v T hT => ?_)⟩
    obtain ⟨rfl, q⟩ := hT
    rw [show (if 0 ≤ a ∧ a ≤ 2 then if 0 ≤ t ∧ t ≤ 7 then (0 : Int) else 2 else 1) = 2 from by split <;> (try split) <;> omega] at q
    exact okT_q h q (by decide)
def hp_gentlest (M : ewM) (a t : Int) : Option Value → ewM → Prop := fun v M1 => (v = some (vI 0) ∧ ∃ (z9 : Int) (M0 : ewM), cp_gentlest M a t (some (vI z9)) M0 ∧ M1 = mu M0 97 0 (wr z9)) ∨ (v = some (vI 1) ∧ (¬ (0 ≤ a ∧ a < 3)) ∧ M1 = M) ∨ (v = some (vI 2) ∧ ((0 ≤ a ∧ a < 3) ∧ ¬ (0 ≤ t ∧ t < 8)) ∧ M1 = M)
theorem m_gentlest (l : Launch) (E : ewE) {M : ewM} (a : Int) (a1 : -2147483648 ≤ a) (a2 : a < 2147483648) (t : Int) (t1 : -2147483648 ≤ t) (t2 : t < 2147483648) (h : Rl M) {v1 : Option Value} {M1 : ewM} (hH : hp_gentlest M a t v1 M1) : ∃ kk : Int, v1 = some (vI kk) ∧ (0 ≤ kk ∧ kk ≤ 2) ∧ Ct l E yX5_gentlest (.code yX5_gentlest cX5_gentlest 3 (some .int)) 9 [vR E 88, vI a, vI t] M1 (okT kk) := by
  rcases hH with ⟨rfl, z9, M0, ⟨hok, hv, k⟩, rfl⟩ | ⟨rfl, hn, rfl⟩ | ⟨rfl, hn, rfl⟩
  · refine ⟨0, rfl, by omega, ct_mono (c_X5_gentlest l E _ (by rw [look_89 k]; exact Rl_svI h) a a1 a2 t t1 t2) (fun v T hT => ?_)⟩
    obtain ⟨rfl, q⟩ := hT
    have y0 : 0 ≤ a ∧ a ≤ 2 := by omega
    have y1 : 0 ≤ t ∧ t ≤ 7 := by omega
    rw [if_pos y0, if_pos y1] at q
    rw [if_pos y0, if_pos y1, look_89 k]
    have e := vI_in hv
    obtain ⟨⟨e1, e2, e3, e4⟩, e51, -, -⟩ := Rl_now h
    simp only [e51, ans_eq h] at e
    exact look_T h k q e
  · refine ⟨1, rfl, by omega, ct_mono (c_X5_gentlest l E _ (Rl_svI h) a a1 a2 t t1 t2) (fun v T hT => ?_)⟩
    obtain ⟨rfl, q⟩ := hT
    rw [show (if 0 ≤ a ∧ a ≤ 2 then if 0 ≤ t ∧ t ≤ 7 then (0 : Int) else 2 else 1) = 1 from by split <;> (try split) <;> omega] at q
    exact okT_q h q (by decide)
  · refine ⟨2, rfl, by omega, ct_mono (c_X5_gentlest l E _ (Rl_svI h) a a1 a2 t t1 t2) (fun v T hT => ?_)⟩
    obtain ⟨rfl, q⟩ := hT
    rw [show (if 0 ≤ a ∧ a ≤ 2 then if 0 ≤ t ∧ t ≤ 7 then (0 : Int) else 2 else 1) = 2 from by split <;> (try split) <;> omega] at q
    exact okT_q h q (by decide)
def hp_ifFolded (M : ewM) (r : Int) : Option Value → ewM → Prop := fun v M1 => (v = some (vI 0) ∧ ∃ (z9 : Int) (M0 : ewM), cp_ifFolded M r (some (vI z9)) M0 ∧ M1 = mu M0 97 0 (wr z9)) ∨ (v = some (vI 1) ∧ (¬ (1 ≤ r ∧ r < 12)) ∧ M1 = M)
theorem m_ifFolded (l : Launch) (E : ewE) {M : ewM} (r : Int) (r1 : -2147483648 ≤ r) (r2 : r < 2147483648) (h : Rl M) {v1 : Option Value} {M1 : ewM} (hH : hp_ifFolded M r v1 M1) : ∃ kk : Int, v1 = some (vI kk) ∧ (0 ≤ kk ∧ kk ≤ 2) ∧ Ct l E yX5_ifFolded (.code yX5_ifFolded cX5_ifFolded 2 (some .int)) 9 [vR E 88, vI r] M1 (okT kk) := by
  rcases hH with ⟨rfl, z9, M0, ⟨hok, hv, k⟩, rfl⟩ | ⟨rfl, hn, rfl⟩
  · refine ⟨0, rfl, by omega, ct_mono (c_X5_ifFolded l E _ (by rw [look_89 k]; exact Rl_svI h) r r1 r2) (fun v T hT => ?_)⟩
    obtain ⟨rfl, q⟩ := hT
    have y0 : 1 ≤ r ∧ r ≤ 11 := by omega
    rw [if_pos y0] at q
    rw [if_pos y0, look_89 k]
    have e := vI_in hv
    obtain ⟨⟨e1, e2, e3, e4⟩, e51, -, -⟩ := Rl_now h
    rw [e1, e3, Rl_52 h (by decide) (by decide), Rl_52 h (by decide) (by decide)] at e
    exact look_T h k q e
  · refine ⟨1, rfl, by omega, ct_mono (c_X5_ifFolded l E _ (Rl_svI h) r r1 r2) (fun v T hT => ?_)⟩
    obtain ⟨rfl, q⟩ := hT
    rw [show (if 1 ≤ r ∧ r ≤ 11 then (0 : Int) else 1) = 1 from by split <;> omega] at q
    exact okT_q h q (by decide)
def hp_alike (M : ewM) (a b : Int) : Option Value → ewM → Prop := fun v M1 => (v = some (vI 0) ∧ ∃ (z9 : Int) (M0 : ewM), cp_alike M a b (some (vI z9)) M0 ∧ M1 = mu M0 97 0 (wr z9)) ∨ (v = some (vI 1) ∧ (¬ ((0 ≤ a ∧ a < 3) ∧ (0 ≤ b ∧ b < 3))) ∧ M1 = M)
theorem m_alike (l : Launch) (E : ewE) {M : ewM} (a : Int) (a1 : -2147483648 ≤ a) (a2 : a < 2147483648) (b : Int) (b1 : -2147483648 ≤ b) (b2 : b < 2147483648) (h : Rl M) {v1 : Option Value} {M1 : ewM} (hH : hp_alike M a b v1 M1) : ∃ kk : Int, v1 = some (vI kk) ∧ (0 ≤ kk ∧ kk ≤ 2) ∧ Ct l E yX5_alike (.code yX5_alike cX5_alike 3 (some .int)) 9 [vR E 88, vI a, vI b] M1 (okT kk) := by
  rcases hH with ⟨rfl, z9, M0, ⟨hok, hv, k⟩, rfl⟩ | ⟨rfl, hn, rfl⟩
  · refine ⟨0, rfl, by omega, ct_mono (c_X5_alike l E _ (by rw [look_89 k]; exact Rl_svI h) a a1 a2 b b1 b2) (fun v T hT => ?_)⟩
    obtain ⟨rfl, q⟩ := hT
    have y0 : 0 ≤ a ∧ a ≤ 2 := by omega
    have y1 : 0 ≤ b ∧ b ≤ 2 := by omega
    rw [if_pos y0, if_pos y1] at q
    rw [if_pos y0, if_pos y1, look_89 k]
    have e := vI_in hv
    obtain ⟨⟨e1, e2, e3, e4⟩, e51, -, -⟩ := Rl_now h
    rw [e51] at e
    exact look_T h k q e
  · refine ⟨1, rfl, by omega, ct_mono (c_X5_alike l E _ (Rl_svI h) a a1 a2 b b1 b2) (fun v T hT => ?_)⟩
    obtain ⟨rfl, q⟩ := hT
    rw [show (if 0 ≤ a ∧ a ≤ 2 then if 0 ≤ b ∧ b ≤ 2 then (0 : Int) else 1 else 1) = 1 from by split <;> (try split) <;> omega] at q
    exact okT_q h q (by decide)
def hp_needed (M : ewM) (a x y t : Int) : Option Value → ewM → Prop := fun v M1 => (v = some (vI 0) ∧ ∃ (z9 : Int) (M0 : ewM), cp_needed M a x y t (some (vI z9)) M0 ∧ M1 = mu M0 97 0 (wr z9)) ∨ (v = some (vI 1) ∧ (¬ (0 ≤ a ∧ a < 3)) ∧ M1 = M) ∨ (v = some (vI 2) ∧ ((0 ≤ a ∧ a < 3) ∧ ¬ (0 ≤ t ∧ t < 8)) ∧ M1 = M)
theorem m_needed (l : Launch) (E : ewE) {M : ewM} (a : Int) (a1 : -2147483648 ≤ a) (a2 : a < 2147483648) (x : Int) (x1 : -2147483648 ≤ x) (x2 : x < 2147483648) (y : Int) (y1 : -2147483648 ≤ y) (y2 : y < 2147483648) (t : Int) (t1 : -2147483648 ≤ t) (t2 : t < 2147483648) (h : Rl M) {v1 : Option Value} {M1 : ewM} (hH : hp_needed M a x y t v1 M1) : ∃ kk : Int, v1 = some (vI kk) ∧ (0 ≤ kk ∧ kk ≤ 2) ∧ Ct l E yX5_needed (.code yX5_needed cX5_needed 5 (some .int)) 9 [vR E 88, vI a, vI x, vI y, vI t] M1 (okT kk) := by
  rcases hH with ⟨rfl, z9, M0, ⟨hok, hv, k⟩, rfl⟩ | ⟨rfl, hn, rfl⟩ | ⟨rfl, hn, rfl⟩
  · refine ⟨0, rfl, by omega, ct_mono (c_X5_needed l E _ (by rw [look_89 k]; exact Rl_svI h) a a1 a2 x x1 x2 y y1 y2 t t1 t2) (fun v T hT => ?_)⟩
    obtain ⟨rfl, q⟩ := hT
    have y0 : 0 ≤ a ∧ a ≤ 2 := by omega
    have y1 : 0 ≤ t ∧ t ≤ 7 := by omega
    rw [if_pos y0, if_pos y1] at q
    rw [if_pos y0, if_pos y1, look_89 k]
    have e := vI_in hv
    obtain ⟨⟨e1, e2, e3, e4⟩, e51, -, -⟩ := Rl_now h
    rw [e51, e1, e3, Rl_50 h (by decide) (by decide), Rl_52 h (by decide) (by decide), Rl_52 h (by decide) (by decide), vS_3] at e
    exact look_T h k q e
  · refine ⟨1, rfl, by omega, ct_mono (c_X5_needed l E _ (Rl_svI h) a a1 a2 x x1 x2 y y1 y2 t t1 t2) (fun v T hT => ?_)⟩
    obtain ⟨rfl, q⟩ := hT
    rw [show (if 0 ≤ a ∧ a ≤ 2 then if 0 ≤ t ∧ t ≤ 7 then (0 : Int) else 2 else 1) = 1 from by split <;> (try split) <;> omega] at q
    exact okT_q h q (by decide)
  · refine ⟨2, rfl, by omega, ct_mono (c_X5_needed l E _ (Rl_svI h) a a1 a2 x x1 x2 y y1 y2 t t1 t2) (fun v T hT => ?_)⟩
    obtain ⟨rfl, q⟩ := hT
    rw [show (if 0 ≤ a ∧ a ≤ 2 then if 0 ≤ t ∧ t ≤ 7 then (0 : Int) else 2 else 1) = 2 from by split <;> (try split) <;> omega] at q
    exact okT_q h q (by decide)
