/-! ===== the law: one step, both sides (queries, set, setOrder, conjugate) ===== -/
theorem zI8 {r s : Nat} (hr : r < 1000000) (hs : s < 1000000) (h : nI r = nI s) : r = s := by
  have := congrArg Int32.toInt h
  rw [nI_toInt (by omega), nI_toInt (by omega)] at this
  omega
theorem q_io_ia : q_io ≠ q_ia := by unfold q_io q_ia; decide
theorem q_io_ae : q_io ≠ q_ae := by unfold q_io q_ae; decide
theorem q_io_ist : q_io ≠ q_ist := by unfold q_io q_ist; decide
theorem q_ia_ae : q_ia ≠ q_ae := by unfold q_ia q_ae; decide
theorem q_ia_ist : q_ia ≠ q_ist := by unfold q_ia q_ist; decide
theorem q_ist_ae : q_ist ≠ q_ae := by unfold q_ist q_ae; decide
theorem zinnE {f f2 g g2 : Nat → Int64} (h : zE f f2) (k : zE g g2) : ∀ n, n ≤ 8 → q_inner f g n = q_inner f2 g2 n
  | 0, _ => rfl
  | n + 1, hn => by
    show q_inner f g n + f n * g n = q_inner f2 g2 n + f2 n * g2 n
    rw [zinnE h k n (by omega), h n (by omega), k n (by omega)]
theorem cp.row {D : q_D} {M : q_M} (c : cp D M) {r : Nat} (hr : r < 8) : zE (d_R D r) (m_R M r) := c.1.row hr
theorem cp.at {D : q_D} {M : q_M} (c : cp D M) {r i : Nat} (hr : r < 8) (hi : i < 8) : m_s M (8 * r + i) = (d_R D r i).toInt32 := (c.1.1 r hr i hi).1
theorem cp.o {D : q_D} {M : q_M} (c : cp D M) : m_s M 64 = nI (d_o D) ∧ d_o D < 8 := ⟨c.1.2.1, c.1.2.2.1⟩
theorem rf_save (M : q_M) (s : Nat → Int32) : m_rf (m_wS (m_save (m_wRf M 0)) s) = 0 := by
  show m_rf (m_save (m_wRf M 0)) = 0
  unfold m_save
  split <;> rfl
theorem upd_at {α : Type} (f : Nat → α) (i : Nat) (x : α) : (fun j => if j = i then x else f j) i = x := if_pos rfl
theorem hvs_b {x : Int32} (h : q_hvs x) : x.toInt64.toInt32 = x ∧ -2000 ≤ x.toInt64.toInt ∧ x.toInt64.toInt ≤ 2000 := by
  have h1 := Int32.le_iff_toInt_le.mp h.1
  have h2 := Int32.le_iff_toInt_le.mp h.2
  rw [show (-2000 : Int32).toInt = -2000 from rfl] at h1
  rw [show (2000 : Int32).toInt = 2000 from rfl] at h2
  refine ⟨?_, ?_, ?_⟩
  · simp
  · rw [Int32.toInt_toInt64]; exact h1
  · rw [Int32.toInt_toInt64]; exact h2
theorem cs_set {st : og_SD} {s : Nat → Int32} (h : cs st s) {r i : Nat} (hr : r < 8) (hi : i < 8) {t : Int32} (ht : q_hvs t) : cs (q_upR st.1 r (vp_updL (st.1 r) i t.toInt64), st.2.1, st.2.2.1, st.2.2.2) (upd s (8 * r + i) t) := by
  refine cs_put h hr (fun j hj => ?_) (fun j hj hn => ?_) ?_ ?_
  · show (if 8 * r + j = 8 * r + i then t else s (8 * r + j)) = (if j = i then t.toInt64 else st.1 r j).toInt32 ∧ -2000 ≤ (if j = i then t.toInt64 else st.1 r j).toInt ∧ (if j = i then t.toInt64 else st.1 r j).toInt ≤ 2000
    by_cases z : j = i
    · rw [if_pos (by omega), if_pos z]
      exact ⟨(hvs_b ht).1.symm, (hvs_b ht).2⟩
    · rw [if_neg (by omega), if_neg z]
      exact h.1 r hr j hj
  · exact if_neg (by omega)
  · exact (if_neg (by omega)).trans h.2.2.2.1
  · exact (if_neg (by omega)).trans h.2.2.2.2
theorem cs_conj {st : og_SD} {s : Nat → Int32} (h : cs st s) {r : Nat} (hr : r < 8) : cs (q_upR st.1 r (q_mirror (st.1 r)), st.2.1, st.2.2.1, st.2.2.2) (q_ngi s r 8) := by
  refine cs_put h hr (fun j hj => ?_) (fun j hj hn => if_neg (by omega)) ((if_neg (by omega)).trans h.2.2.2.1) ((if_neg (by omega)).trans h.2.2.2.2)
  obtain ⟨a, b, c⟩ := h.1 r hr j hj
  unfold q_ngi q_mirror
  by_cases z : j = 0
  · rw [if_neg (by omega), if_pos z]
    exact ⟨a, b, c⟩
  · rw [if_pos (by omega), if_neg z, a]
    have e : (-(st.1 r j)).toInt = -(st.1 r j).toInt := by
      rw [Int64.toInt_neg]
      exact Int.bmod_eq_of_le (by omega) (by omega)
    refine ⟨?_, by omega, by omega⟩
    rw [Int64.toInt32_neg]
set_option maxRecDepth 4000 in
theorem P_set (E : og_E) (d n : Nat) (h : og_H) (x y t : Int32) {D : q_D} {M : q_M} {f : Nat → Int64} (W : zW n h D M) (h123 : h 123 = some (row1 f)) :
    og_M E yL_set (.codeWith yL_set cL_set 6 (some .int) [(0, 12, 15, 13), (0, 12, 19, 15)]) (d + 3 + 1) [.ref 3, .int x, .int y, .int t, .ref 123] n h 3 18 (zLo n h (zMi E yX8_set (.code yX8_set cX8_set 5 (some .int)) 2 [.ref 101, .int x, .int y, .int t])) no_x := by
  refine og_M.mono (c_L_set E (d + 3) n h x y t W.1.d3 (c_X7_set E d n h x y t W.1) (fun v n1 h1 z => ?_) (fun En n1 h1 z => ?_)) (fun v n1 h1 z => ?_) (fun _ _ _ z => z)
  · obtain ⟨r, i, hr, hi, ex, ey, ht, hv, w⟩ := z
    exact ⟨⟨_, hv⟩, f, (zW_ex W w).2.2.2.1.trans h123⟩
  · have z := z.2
    exact z.elim (fun q => Or.inl q.1) (fun q => Or.inr q.1)
  · rcases z with ⟨r0, h2, f2, ⟨r, i, hr, hi, ex, ey, ht, hv, w⟩, h2f, rfl, rfl⟩ | ⟨z, rfl⟩ | ⟨z, rfl⟩
    · cases hv
      obtain ⟨w1, w2, w3, w4⟩ := zW_ok W w (row1 (vp_updL f2 0 _))
      refine ⟨0, _, rfl, w4, og_set_eq _ _ _, w3, ⟨_, w2.m⟩, fun d2 => og_M.mono (c_X8_set E d2 n1 _ x y t w2) (fun v nn h3 z => ?_) (fun _ _ _ z => z)⟩
      obtain ⟨rfl, z⟩ := z
      refine ⟨rfl, ?_⟩
      rcases z with ⟨a, -, -⟩ | ⟨-, -, a, -, -⟩ | ⟨r9, i9, hr9, hi9, ex9, ey9, -, hv9, w9⟩
      · exact absurd ⟨⟨r, hr, ex⟩, ⟨i, hi, ey⟩⟩ a
      · exact absurd ht a
      · obtain rfl := zI8 (by omega) (by omega) (ex.symm.trans ex9)
        obtain rfl := zI8 (by omega) (by omega) (ey.symm.trans ey9)
        refine ⟨_, _, _, hv9, zW_fin w1 w9 (cp_reg W.2.2 (cs_set W.2.2.1 hr hi ht)), rf_save _ _, fun _ => ?_⟩
        rw [W.2.2.at hr hi]
        exact if_pos rfl
    · obtain ⟨w, hn⟩ : og_DK h n n1 h1 D ∧ ¬ (q_in8 x ∧ q_in8 y) := ⟨z.1, z.2.elim (fun q => q.2) (fun q => absurd q.1 q_io_ia)⟩
      clear z
      obtain ⟨w1, w2, w3, w4, w5⟩ := zW_ex W w
      refine ⟨1, f, rfl, w5, w4.trans h123, w3, ⟨_, w2.m⟩, fun d2 => og_M.mono (c_X8_set E d2 n1 _ x y t w2) (fun v nn h3 z => ?_) (fun _ _ _ z => z)⟩
      obtain ⟨rfl, z⟩ := z
      refine ⟨rfl, ?_⟩
      rcases z with ⟨a, hv9, w9⟩ | ⟨a, b, -⟩ | ⟨r9, i9, hr9, hi9, ex9, ey9, -⟩
      · exact ⟨_, _, _, hv9, zW_fin w1 w9 W.2.2, rfl, fun q => absurd q (by decide)⟩
      · exact absurd ⟨a, b⟩ hn
      · exact absurd ⟨⟨r9, hr9, ex9⟩, ⟨i9, hi9, ey9⟩⟩ hn
    · obtain ⟨w, ha, hb, hn⟩ : og_DK h n n1 h1 D ∧ q_in8 x ∧ q_in8 y ∧ ¬ q_hvs t := ⟨z.1, z.2.elim (fun q => absurd q.1.symm q_io_ia) (fun q => q.2)⟩
      clear z
      obtain ⟨w1, w2, w3, w4, w5⟩ := zW_ex W w
      refine ⟨2, f, rfl, w5, w4.trans h123, w3, ⟨_, w2.m⟩, fun d2 => og_M.mono (c_X8_set E d2 n1 _ x y t w2) (fun v nn h3 z => ?_) (fun _ _ _ z => z)⟩
      obtain ⟨rfl, z⟩ := z
      refine ⟨rfl, ?_⟩
      rcases z with ⟨a, -⟩ | ⟨-, -, -, hv9, w9⟩ | ⟨r9, i9, hr9, hi9, ex9, ey9, a, -⟩
      · exact absurd ⟨ha, hb⟩ a
      · exact ⟨_, _, _, hv9, zW_fin w1 w9 W.2.2, rfl, fun q => absurd q (by decide)⟩
      · exact absurd a hn

set_option maxRecDepth 4000 in
theorem P_conjugate (E : og_E) (d n : Nat) (h : og_H) (x : Int32) {D : q_D} {M : q_M} {f : Nat → Int64} (W : zW n h D M) (h123 : h 123 = some (row1 f)) :
    og_M E yL_conjugate (.codeWith yL_conjugate cL_conjugate 4 (some .int) [(0, 9, 12, 13)]) (d + 3 + 1) [.ref 3, .int x, .ref 123] n h 1 6 (zLo n h (zMi E yX8_conjugate (.code yX8_conjugate cX8_conjugate 3 (some .int)) 2 [.ref 101, .int x])) no_x := by
  refine og_M.mono (c_L_conjugate E (d + 3) n h x W.1.d3 (c_X7_conjugate E d n h x W.1) (fun v n1 h1 z => ?_) (fun En n1 h1 z => ?_)) (fun v n1 h1 z => ?_) (fun _ _ _ z => z)
  · obtain ⟨r, hr, ex, hv, w⟩ := z
    exact ⟨⟨_, hv⟩, f, (zW_ex W w).2.2.2.1.trans h123⟩
  · exact z.2.1
  · rcases z with ⟨r0, h2, f2, ⟨r, hr, ex, hv, w⟩, h2f, rfl, rfl⟩ | ⟨z, rfl⟩
    · cases hv
      obtain ⟨w1, w2, w3, w4⟩ := zW_ok W w (row1 (vp_updL f2 0 _))
      refine ⟨0, _, rfl, w4, og_set_eq _ _ _, w3, ⟨_, w2.m⟩, fun d2 => og_M.mono (c_X8_conjugate E d2 n1 _ x w2) (fun v nn h3 z => ?_) (fun _ _ _ z => z)⟩
      obtain ⟨rfl, z⟩ := z
      refine ⟨rfl, ?_⟩
      rcases z with ⟨a, -, -⟩ | ⟨r9, hr9, ex9, hv9, w9⟩
      · exact absurd ⟨r, hr, ex⟩ a
      · obtain rfl := zI8 (by omega) (by omega) (ex.symm.trans ex9)
        refine ⟨_, _, _, hv9, zW_fin w1 w9 (cp_reg W.2.2 (cs_conj W.2.2.1 hr)), rf_save _ _, fun _ => ?_⟩
        have e := W.2.2.at hr (show 0 < 8 by omega)
        rw [Nat.add_zero] at e
        rw [e]
        exact if_pos rfl
    · obtain ⟨w, -, hn⟩ := z
      obtain ⟨w1, w2, w3, w4, w5⟩ := zW_ex W w
      refine ⟨1, f, rfl, w5, w4.trans h123, w3, ⟨_, w2.m⟩, fun d2 => og_M.mono (c_X8_conjugate E d2 n1 _ x w2) (fun v nn h3 z => ?_) (fun _ _ _ z => z)⟩
      obtain ⟨rfl, z⟩ := z
      refine ⟨rfl, ?_⟩
      rcases z with ⟨a, hv9, w9⟩ | ⟨r9, hr9, ex9, -⟩
      · exact ⟨_, _, _, hv9, zW_fin w1 w9 W.2.2, rfl, fun q => absurd q (by decide)⟩
      · exact absurd ⟨r9, hr9, ex9⟩ hn

set_option maxRecDepth 4000 in
theorem P_coordinate (E : og_E) (d n : Nat) (h : og_H) (x y : Int32) {D : q_D} {M : q_M} {f : Nat → Int64} (W : zW n h D M) (h123 : h 123 = some (row1 f)) :
    og_M E yL_coordinate (.codeWith yL_coordinate cL_coordinate 5 (some .int) [(0, 10, 13, 13)]) (d + 1 + 1) [.ref 3, .int x, .int y, .ref 123] n h 2 12 (zLo n h (zMi E yX8_coordinate (.code yX8_coordinate cX8_coordinate 3 (some .int)) 2 [.ref 101, .int x, .int y])) no_x := by
  refine og_M.mono (c_L_coordinate E (d + 1) n h x y W.1.d3 (c_X7_coordinate E d n h x y W.1) (fun v n1 h1 z => ?_) (fun En n1 h1 z => ?_)) (fun v n1 h1 z => ?_) (fun _ _ _ z => z)
  · obtain ⟨w, r, i, hr, hi, ex, ey, hv⟩ := z
    exact ⟨⟨_, hv⟩, f, (zW_ex W w).2.2.2.1.trans h123⟩
  · exact z.2.1
  · rcases z with ⟨r0, h2, f2, ⟨w, r, i, hr, hi, ex, ey, hv⟩, h2f, rfl, rfl⟩ | ⟨z, rfl⟩
    · cases hv
      obtain ⟨w1, w2, w3, w4⟩ := zW_ok W w (row1 (vp_updL f2 0 _))
      refine ⟨0, _, rfl, w4, og_set_eq _ _ _, w3, ⟨_, w2.m⟩, fun d2 => og_M.mono (c_X8_coordinate E d2 n1 _ x y w2) (fun v nn h3 z => ?_) (fun _ _ _ z => z)⟩
      obtain ⟨rfl, z⟩ := z
      refine ⟨rfl, ?_⟩
      rcases z with ⟨a, -, -⟩ | ⟨r9, i9, hr9, hi9, ex9, ey9, hv9, w9⟩
      · exact absurd ⟨⟨r, hr, ex⟩, ⟨i, hi, ey⟩⟩ a
      · obtain rfl := zI8 (by omega) (by omega) (ex.symm.trans ex9)
        obtain rfl := zI8 (by omega) (by omega) (ey.symm.trans ey9)
        refine ⟨_, _, _, hv9, zW_fin w1 w9 W.2.2, rfl, fun _ => ?_⟩
        rw [W.2.2.at hr hi]
        exact if_pos rfl
    · obtain ⟨w, -, hn⟩ := z
      obtain ⟨w1, w2, w3, w4, w5⟩ := zW_ex W w
      refine ⟨1, f, rfl, w5, w4.trans h123, w3, ⟨_, w2.m⟩, fun d2 => og_M.mono (c_X8_coordinate E d2 n1 _ x y w2) (fun v nn h3 z => ?_) (fun _ _ _ z => z)⟩
      obtain ⟨rfl, z⟩ := z
      refine ⟨rfl, ?_⟩
      rcases z with ⟨a, hv9, w9⟩ | ⟨r9, i9, hr9, hi9, ex9, ey9, hv9, w9⟩
      · exact ⟨_, _, _, hv9, zW_fin w1 w9 W.2.2, rfl, fun q => absurd q (by decide)⟩
      · exact absurd ⟨⟨r9, hr9, ex9⟩, ⟨i9, hi9, ey9⟩⟩ hn

set_option maxRecDepth 4000 in
theorem P_norm (E : og_E) (d n : Nat) (h : og_H) (x : Int32) {D : q_D} {M : q_M} {f : Nat → Int64} (W : zW n h D M) (h123 : h 123 = some (row1 f)) :
    og_M E yL_norm (.codeWith yL_norm cL_norm 4 (some .int) [(0, 8, 11, 13)]) (d + 2 + 1) [.ref 3, .int x, .ref 123] n h 1 6 (zLo n h (zMl E yX8_norm (.code yX8_norm cX8_norm 2 (some .long)) 2 [.ref 101, .int x])) no_x := by
  refine og_M.mono (c_L_norm E (d + 2) n h x W.1.d3 (c_X7_norm E d n h x W.1) (fun v n1 h1 z => ?_) (fun En n1 h1 z => ?_)) (fun v n1 h1 z => ?_) (fun _ _ _ z => z)
  · obtain ⟨w, r, hr, ex, hv⟩ := z
    exact ⟨⟨_, hv⟩, f, (zW_ex W w).2.2.2.1.trans h123⟩
  · exact z.2.1
  · rcases z with ⟨r0, h2, f2, ⟨w, r, hr, ex, hv⟩, h2f, rfl, rfl⟩ | ⟨z, rfl⟩
    · cases hv
      obtain ⟨w1, w2, w3, w4⟩ := zW_ok W w (row1 (vp_updL f2 0 _))
      refine ⟨0, _, rfl, w4, og_set_eq _ _ _, w3, ⟨_, w2.m⟩, fun d2 => og_M.mono (c_X8_norm E d2 n1 _ x w2) (fun v nn h3 z => ?_) (fun _ _ _ z => z)⟩
      obtain ⟨rfl, z⟩ := z
      refine ⟨rfl, ?_⟩
      rcases z with ⟨a, -, -⟩ | ⟨r9, hr9, ex9, hv9, w9⟩
      · exact absurd ⟨r, hr, ex⟩ a
      · obtain rfl := zI8 (by omega) (by omega) (ex.symm.trans ex9)
        refine ⟨_, _, _, hv9, zW_fin w1 w9 W.2.2, rfl, fun _ => ?_⟩
        rw [← zinnE (W.2.2.row hr) (W.2.2.row hr) 8 (Nat.le_refl 8)]
        exact if_pos rfl
    · obtain ⟨w, -, hn⟩ := z
      obtain ⟨w1, w2, w3, w4, w5⟩ := zW_ex W w
      refine ⟨1, f, rfl, w5, w4.trans h123, w3, ⟨_, w2.m⟩, fun d2 => og_M.mono (c_X8_norm E d2 n1 _ x w2) (fun v nn h3 z => ?_) (fun _ _ _ z => z)⟩
      obtain ⟨rfl, z⟩ := z
      refine ⟨rfl, ?_⟩
      rcases z with ⟨a, hv9, w9⟩ | ⟨r9, hr9, ex9, hv9, w9⟩
      · exact ⟨_, _, _, hv9, zW_fin w1 w9 W.2.2, rfl, fun q => absurd q (by decide)⟩
      · exact absurd ⟨r9, hr9, ex9⟩ hn

set_option maxRecDepth 4000 in
theorem P_dot (E : og_E) (d n : Nat) (h : og_H) (x y : Int32) {D : q_D} {M : q_M} {f : Nat → Int64} (W : zW n h D M) (h123 : h 123 = some (row1 f)) :
    og_M E yL_dot (.codeWith yL_dot cL_dot 5 (some .int) [(0, 9, 12, 13)]) (d + 1 + 1) [.ref 3, .int x, .int y, .ref 123] n h 2 12 (zLo n h (zMl E yX8_dot (.code yX8_dot cX8_dot 6 (some .long)) 2 [.ref 101, .int x, .int y])) no_x := by
  refine og_M.mono (c_L_dot E (d + 1) n h x y W.1.d3 (c_X7_dot E d n h x y W.1) (fun v n1 h1 z => ?_) (fun En n1 h1 z => ?_)) (fun v n1 h1 z => ?_) (fun _ _ _ z => z)
  · obtain ⟨w, r, i, hr, hi, ex, ey, hv⟩ := z
    exact ⟨⟨_, hv⟩, f, (zW_ex W w).2.2.2.1.trans h123⟩
  · exact z.2.1
  · rcases z with ⟨r0, h2, f2, ⟨w, r, i, hr, hi, ex, ey, hv⟩, h2f, rfl, rfl⟩ | ⟨z, rfl⟩
    · cases hv
      obtain ⟨w1, w2, w3, w4⟩ := zW_ok W w (row1 (vp_updL f2 0 _))
      refine ⟨0, _, rfl, w4, og_set_eq _ _ _, w3, ⟨_, w2.m⟩, fun d2 => og_M.mono (c_X8_dot E d2 n1 _ x y w2) (fun v nn h3 z => ?_) (fun _ _ _ z => z)⟩
      obtain ⟨rfl, z⟩ := z
      refine ⟨rfl, ?_⟩
      rcases z with ⟨a, -, -⟩ | ⟨r9, i9, hr9, hi9, ex9, ey9, hv9, w9⟩
      · exact absurd ⟨⟨r, hr, ex⟩, ⟨i, hi, ey⟩⟩ a
      · obtain rfl := zI8 (by omega) (by omega) (ex.symm.trans ex9)
        obtain rfl := zI8 (by omega) (by omega) (ey.symm.trans ey9)
        refine ⟨_, _, _, hv9, zW_fin w1 w9 W.2.2, rfl, fun _ => ?_⟩
        rw [← zinnE (W.2.2.row hr) (W.2.2.row hi) 8 (Nat.le_refl 8)]
        exact if_pos rfl
    · obtain ⟨w, -, hn⟩ := z
      obtain ⟨w1, w2, w3, w4, w5⟩ := zW_ex W w
      refine ⟨1, f, rfl, w5, w4.trans h123, w3, ⟨_, w2.m⟩, fun d2 => og_M.mono (c_X8_dot E d2 n1 _ x y w2) (fun v nn h3 z => ?_) (fun _ _ _ z => z)⟩
      obtain ⟨rfl, z⟩ := z
      refine ⟨rfl, ?_⟩
      rcases z with ⟨a, hv9, w9⟩ | ⟨r9, i9, hr9, hi9, ex9, ey9, hv9, w9⟩
      · exact ⟨_, _, _, hv9, zW_fin w1 w9 W.2.2, rfl, fun q => absurd q (by decide)⟩
      · exact absurd ⟨⟨r9, hr9, ex9⟩, ⟨i9, hi9, ey9⟩⟩ hn

set_option maxRecDepth 4000 in
theorem P_ordersOf (E : og_E) (d n : Nat) (h : og_H) (x : Int32) {D : q_D} {M : q_M} {f : Nat → Int64} (W : zW n h D M) (h123 : h 123 = some (row1 f)) :
    og_M E yL_ordersOf (.codeWith yL_ordersOf cL_ordersOf 4 (some .int) [(0, 9, 12, 13)]) (d + 3 + 1) [.ref 3, .int x, .ref 123] n h 1 6 (zLo n h (zMi E yX8_ordersOf (.code yX8_ordersOf cX8_ordersOf 2 (some .int)) 3 [.ref 101, .int x])) no_x := by
  refine og_M.mono (c_L_ordersOf E (d + 3) n h x W.1.d3 (c_X7_ordersOf E d n h x W.1) (fun v n1 h1 z => ?_) (fun En n1 h1 z => ?_)) (fun v n1 h1 z => ?_) (fun _ _ _ z => z)
  · obtain ⟨w, r, hr, ex, hv⟩ := z
    exact ⟨⟨_, hv⟩, f, (zW_ex W w).2.2.2.1.trans h123⟩
  · exact z.2.1
  · rcases z with ⟨r0, h2, f2, ⟨w, r, hr, ex, hv⟩, h2f, rfl, rfl⟩ | ⟨z, rfl⟩
    · cases hv
      obtain ⟨w1, w2, w3, w4⟩ := zW_ok W w (row1 (vp_updL f2 0 _))
      refine ⟨0, _, rfl, w4, og_set_eq _ _ _, w3, ⟨_, w2.m⟩, fun d2 => og_M.mono (c_X8_ordersOf E d2 n1 _ x w2) (fun v nn h3 z => ?_) (fun _ _ _ z => z)⟩
      obtain ⟨rfl, z⟩ := z
      refine ⟨rfl, ?_⟩
      rcases z with ⟨a, -, -⟩ | ⟨r9, hr9, ex9, hv9, w9⟩
      · exact absurd ⟨r, hr, ex⟩ a
      · obtain rfl := zI8 (by omega) (by omega) (ex.symm.trans ex9)
        refine ⟨_, _, _, hv9, zW_fin w1 w9 W.2.2, rfl, fun _ => ?_⟩
        rw [← zord (W.2.2.row hr) 8 (Nat.le_refl 8)]
        exact if_pos rfl
    · obtain ⟨w, -, hn⟩ := z
      obtain ⟨w1, w2, w3, w4, w5⟩ := zW_ex W w
      refine ⟨1, f, rfl, w5, w4.trans h123, w3, ⟨_, w2.m⟩, fun d2 => og_M.mono (c_X8_ordersOf E d2 n1 _ x w2) (fun v nn h3 z => ?_) (fun _ _ _ z => z)⟩
      obtain ⟨rfl, z⟩ := z
      refine ⟨rfl, ?_⟩
      rcases z with ⟨a, hv9, w9⟩ | ⟨r9, hr9, ex9, hv9, w9⟩
      · exact ⟨_, _, _, hv9, zW_fin w1 w9 W.2.2, rfl, fun q => absurd q (by decide)⟩
      · exact absurd ⟨r9, hr9, ex9⟩ hn
