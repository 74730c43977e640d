/-! ===== the law: one step, both sides (setOrder, elements, add, multiply, commutator, associator) ===== -/
theorem cs_ord {st : og_SD} {s : Nat → Int32} (h : cs st s) {o : Nat} (ho : o < 8) : cs (st.1, o, st.2.2) (upd s 64 (nI o)) := by
  refine ⟨fun r hr k hk => ?_, if_pos rfl, ho, (if_neg (by decide)).trans h.2.2.2.1, (if_neg (by decide)).trans h.2.2.2.2⟩
  have e : upd s 64 (nI o) (8 * r + k) = s (8 * r + k) := if_neg (by omega)
  rw [e]
  exact h.1 r hr k hk
theorem cs_65 {st : og_SD} {s : Nat → Int32} (h : cs st s) (x : Int32) : cs (st.1, st.2.1, st.2.2.1 + x, st.2.2.2) (upd s 65 (s 65 + x)) := by
  refine ⟨fun r hr k hk => ?_, (if_neg (by decide)).trans h.2.1, h.2.2.1, ?_, (if_neg (by decide)).trans h.2.2.2.2⟩
  · have e : upd s 65 (s 65 + x) (8 * r + k) = s (8 * r + k) := if_neg (by omega)
    rw [e]
    exact h.1 r hr k hk
  · have e : upd s 65 (s 65 + x) 65 = s 65 + x := if_pos rfl
    rw [e, h.2.2.2.1]
theorem cs_66 {st : og_SD} {s : Nat → Int32} (h : cs st s) (x : Int32) : cs (st.1, st.2.1, st.2.2.1, st.2.2.2 + x) (upd s 66 (s 66 + x)) := by
  refine ⟨fun r hr k hk => ?_, (if_neg (by decide)).trans h.2.1, h.2.2.1, (if_neg (by decide)).trans h.2.2.2.1, ?_⟩
  · have e : upd s 66 (s 66 + x) (8 * r + k) = s (8 * r + k) := if_neg (by omega)
    rw [e]
    exact h.1 r hr k hk
  · have e : upd s 66 (s 66 + x) 66 = s 66 + x := if_pos rfl
    rw [e, h.2.2.2.2]
theorem hall_b {p : Int64} {f : Nat → Int64} (h : q_hall p f) : ∀ j, j < 8 → -2000 ≤ (f j / p).toInt ∧ (f j / p).toInt ≤ 2000 := fun j hj => by
  obtain ⟨-, a, b⟩ := h j hj
  have a : ¬ (f j / p).toInt < -2000 := fun q => a (Int64.lt_iff_toInt_lt.mpr q)
  have b : ¬ 2000 < (f j / p).toInt := fun q => b (Int64.lt_iff_toInt_lt.mpr q)
  exact ⟨by omega, by omega⟩
theorem cs_pt {st : og_SD} {s : Nat → Int32} (h : cs st s) {k : Nat} (hk : k < 8) {f g : Nat → Int64} {p : Int64} (e : zE f (q_dv p g)) (hg : q_hall p g) : cs (q_upR st.1 k f, st.2.1, st.2.2.1, st.2.2.2) (q_pt s (q_dv p g) k) := by
  refine cs_put h hk (fun j hj => ?_) (fun j hj hn => if_neg (by omega)) ((if_neg (by omega)).trans h.2.2.2.1) ((if_neg (by omega)).trans h.2.2.2.2)
  have e1 : q_pt s (q_dv p g) k (8 * k + j) = (q_dv p g j).toInt32 := by
    unfold q_pt
    rw [if_pos (by omega), show 8 * k + j - 8 * k = j by omega]
  rw [e1, e j hj]
  exact ⟨rfl, hall_b hg j hj⟩
theorem zmaE {D : q_D} {M : q_M} (c : cp D M) {i j : Nat} (hi : i < 8) (hj : j < 8) (t : Int32) : zE (q_total (d_R D i) (d_R D j) t) (q_ma (m_s M) i j t) := fun k hk => by
  obtain ⟨a1, a2, a3⟩ := c.1.1 i hi k hk
  obtain ⟨b1, b2, b3⟩ := c.1.1 j hj k hk
  have a5 : -2000 ≤ (d_R D i k).toInt ∧ (d_R D i k).toInt ≤ 2000 := ⟨a2, a3⟩
  have b5 : -2000 ≤ (d_R D j k).toInt ∧ (d_R D j k).toInt ≤ 2000 := ⟨b2, b3⟩
  have a4 := zt32 (x := d_R D i k) (by omega) (by omega)
  have b4 := zt32 (x := d_R D j k) (by omega) (by omega)
  unfold q_total q_ma
  rw [a1, b1, zeq, Int32.toInt_toInt64, Int32.toInt_add]
  by_cases z : t = 0
  · rw [if_pos z, if_pos z, Int64.toInt_add, a4, b4]
    exact (Int.bmod_eq_of_le (by omega) (by omega)).trans (Int.bmod_eq_of_le (by omega) (by omega)).symm
  · rw [if_neg z, if_neg z, Int64.toInt_sub, Int32.toInt_neg, a4, b4, Int.bmod_eq_of_le (n := -(d_R D j k).toInt) (by omega) (by omega)]
    exact (Int.bmod_eq_of_le (by omega) (by omega)).trans ((Int.bmod_eq_of_le (by omega) (by omega)).trans (by omega)).symm
theorem ztotE {f f2 g g2 : Nat → Int64} (h : zE f f2) (k : zE g g2) (t : Int32) : zE (q_total f g t) (q_total f2 g2 t) := fun j hj => by
  unfold q_total
  rw [h j hj, k j hj]
theorem zascE {f f2 g g2 k k2 : Nat → Int64} (h : zE f f2) (i : zE g g2) (j : zE k k2) : zE (q_asc f g k) (q_asc f2 g2 k2) := ztotE (zprodE (zprodE h i) j) (zprodE h (zprodE i j)) 1
theorem rf_s65 (M : q_M) (s : Nat → Int32) : m_rf (m_wS (m_save (m_wRf M 0)) s) = 0 := rf_save M s
set_option maxRecDepth 4000 in
theorem P_setOrder (E : og_E) (d n : Nat) (h : og_H) (x : Int32) {D : q_D} {M : q_M} {f : Nat → Int64} (W : zW n h D M) (h123 : h 123 = some (row1 f)) :
    og_M E yL_setOrder (.codeWith yL_setOrder cL_setOrder 4 (some .int) [(0, 9, 12, 15)]) (d + 3 + 1) [.ref 3, .int x, .ref 123] n h 1 6 (zLo n h (zMi E yX8_setOrder (.code yX8_setOrder cX8_setOrder 3 (some .int)) 2 [.ref 101, .int x])) no_x := by
  refine og_M.mono (c_L_setOrder E (d + 3) n h x W.1.d3 (c_X7_setOrder E d n h x W.1) (fun v n1 h1 z => ?_) (fun En n1 h1 z => ?_)) (fun v n1 h1 z => ?_) (fun _ _ _ z => z)
  · obtain ⟨r, hr, ex, hv, w⟩ := z
    exact ⟨⟨_, hv⟩, f, (zW_ex W w).2.2.2.1.trans h123⟩
  · exact z.2.1
  · rcases z with ⟨r0, h2, f2, ⟨r, hr, ex, hv, w⟩, h2f, rfl, rfl⟩ | ⟨z, rfl⟩
    · cases hv
      obtain ⟨w1, w2, w3, w4⟩ := zW_ok W w (row1 (vp_updL f2 0 _))
      refine ⟨0, _, rfl, w4, og_set_eq _ _ _, w3, ⟨_, w2.m⟩, fun d2 => og_M.mono (c_X8_setOrder E d2 n1 _ x w2) (fun v nn h3 z => ?_) (fun _ _ _ z => z)⟩
      obtain ⟨rfl, z⟩ := z
      refine ⟨rfl, ?_⟩
      rcases z with ⟨a, -, -⟩ | ⟨r9, hr9, ex9, hv9, w9⟩
      · exact absurd ⟨r, hr, ex⟩ a
      · obtain rfl := zI8 (by omega) (by omega) (ex.symm.trans ex9)
        refine ⟨_, _, _, hv9, zW_fin w1 w9 (cp_to W.2.2 (cs_ord W.2.2.1 hr)), rf_save _ _, fun _ => ?_⟩
        rw [W.2.2.o.1]
        exact if_pos rfl
    · obtain ⟨w, -, hn⟩ := z
      obtain ⟨w1, w2, w3, w4, w5⟩ := zW_ex W w
      refine ⟨1, f, rfl, w5, w4.trans h123, w3, ⟨_, w2.m⟩, fun d2 => og_M.mono (c_X8_setOrder E d2 n1 _ x w2) (fun v nn h3 z => ?_) (fun _ _ _ z => z)⟩
      obtain ⟨rfl, z⟩ := z
      refine ⟨rfl, ?_⟩
      rcases z with ⟨a, hv9, w9⟩ | ⟨r9, hr9, ex9, -⟩
      · exact ⟨_, _, _, hv9, zW_fin w1 w9 W.2.2, rfl, fun q => absurd q (by decide)⟩
      · exact absurd ⟨r9, hr9, ex9⟩ hn

set_option maxRecDepth 4000 in
theorem P_elements (E : og_E) (d n : Nat) (h : og_H) (x : Int32) {D : q_D} {M : q_M} {f : Nat → Int64} (W : zW n h D M) (h123 : h 123 = some (row1 f)) :
    og_M E yL_elements (.codeWith yL_elements cL_elements 4 (some .int) [(0, 8, 11, 15)]) (d + 1 + 1) [.ref 3, .int x, .ref 123] n h 1 6 (zLo n h (zMl E yX8_elements (.code yX8_elements cX8_elements 7 (some .long)) 1 [.ref 101, .int x])) no_x := by
  refine og_M.mono (c_L_elements E (d + 1) n h x W.1.d3 (c_X7_elements E d n h x W.1) (fun v n1 h1 z => ?_) (fun En n1 h1 z => ?_)) (fun v n1 h1 z => ?_) (fun _ _ _ z => z)
  · obtain ⟨w, r, hr, ex, hv⟩ := z
    exact ⟨⟨_, hv⟩, f, (zW_ex W w).2.2.2.1.trans h123⟩
  · exact z.2.1
  · rcases z with ⟨r0, h2, f2, ⟨w, r, hr, ex, hv⟩, h2f, rfl, rfl⟩ | ⟨z, rfl⟩
    · cases hv
      obtain ⟨w1, w2, w3, w4⟩ := zW_ok W w (row1 (vp_updL f2 0 _))
      refine ⟨0, _, rfl, w4, og_set_eq _ _ _, w3, ⟨_, w2.m⟩, fun d2 => og_M.mono (c_X8_elements E d2 n1 _ x w2 W.2.2.o.1 W.2.2.o.2) (fun v nn h3 z => ?_) (fun _ _ _ z => z)⟩
      obtain ⟨rfl, z⟩ := z
      refine ⟨rfl, ?_⟩
      rcases z with ⟨a, -, -⟩ | ⟨r9, hr9, ex9, hv9, w9⟩
      · exact absurd ⟨r, hr, ex⟩ a
      · obtain rfl := zI8 (by omega) (by omega) (ex.symm.trans ex9)
        exact ⟨_, _, _, hv9, zW_fin w1 w9 W.2.2, rfl, fun _ => if_pos rfl⟩
    · obtain ⟨w, -, hn⟩ := z
      obtain ⟨w1, w2, w3, w4, w5⟩ := zW_ex W w
      refine ⟨1, f, rfl, w5, w4.trans h123, w3, ⟨_, w2.m⟩, fun d2 => og_M.mono (c_X8_elements E d2 n1 _ x w2 W.2.2.o.1 W.2.2.o.2) (fun v nn h3 z => ?_) (fun _ _ _ z => z)⟩
      obtain ⟨rfl, z⟩ := z
      refine ⟨rfl, ?_⟩
      rcases z with ⟨a, hv9, w9⟩ | ⟨r9, hr9, ex9, -⟩
      · exact ⟨_, _, _, hv9, zW_fin w1 w9 W.2.2, rfl, fun q => absurd q (by decide)⟩
      · exact absurd ⟨r9, hr9, ex9⟩ hn

set_option maxRecDepth 4000 in
theorem P_add (E : og_E) (d n : Nat) (h : og_H) (x y t s : Int32) {D : q_D} {M : q_M} {f : Nat → Int64} (W : zW n h D M) (h123 : h 123 = some (row1 f)) :
    og_M E yL_add (.codeWith yL_add cL_add 7 (some .int) [(0, 13, 16, 13), (0, 13, 20, 33)]) (d + 3 + 1) [.ref 3, .int x, .int y, .int t, .int s, .ref 123] n h 4 24 (zLo n h (zMl E yX8_add (.code yX8_add cX8_add 6 (some .long)) 2 [.ref 101, .int x, .int y, .int t, .int s])) no_x := by
  refine og_M.mono (c_L_add E (d + 3) n h x y t s W.1.d3 (c_X7_add E d n h x y t s W.1) (fun v n1 h1 z => ?_) (fun En n1 h1 z => ?_)) (fun v n1 h1 z => ?_) (fun _ _ _ z => z)
  · obtain ⟨i, j, k, hi, hj, hk, ex, ey, et, hq, hv, w⟩ := z
    exact ⟨⟨_, hv⟩, f, (zW_ex W w).2.2.2.1.trans h123⟩
  · have z := z.2
    exact z.elim (fun q => Or.inl q.1) (fun q => Or.inr q.1)
  · rcases z with ⟨r0, h2, f2, ⟨i, j, k, hi, hj, hk, ex, ey, et, hq, hv, w⟩, h2f, rfl, rfl⟩ | ⟨z, rfl⟩ | ⟨z, rfl⟩
    · cases hv
      obtain ⟨w1, w2, w3, w4⟩ := zW_ok W w (row1 (vp_updL f2 0 _))
      refine ⟨0, _, rfl, w4, og_set_eq _ _ _, w3, ⟨_, w2.m⟩, fun d2 => og_M.mono (c_X8_add E d2 n1 _ x y t s w2) (fun v nn h3 z => ?_) (fun _ _ _ z => z)⟩
      obtain ⟨rfl, z⟩ := z
      refine ⟨rfl, ?_⟩
      rcases z with ⟨a, -, -⟩ | ⟨i9, j9, k9, hi9, hj9, hk9, ex9, ey9, et9, z⟩
      · exact absurd ⟨⟨i, hi, ex⟩, ⟨j, hj, ey⟩, ⟨k, hk, et⟩⟩ a
      · obtain rfl := zI8 (by omega) (by omega) (ex.symm.trans ex9)
        obtain rfl := zI8 (by omega) (by omega) (ey.symm.trans ey9)
        obtain rfl := zI8 (by omega) (by omega) (et.symm.trans et9)
        obtain ⟨z1, z2⟩ := zfit 0 (by omega) 1 rfl (zmaE W.2.2 hi hj s)
        rcases z with ⟨a, -⟩ | ⟨-, hv9, w9⟩
        · exact absurd (z1.mp hq) a
        · refine ⟨_, _, _, hv9, zW_fin w1 w9 (cp_reg W.2.2 (cs_pt W.2.2.1 hk (z2 hq) (z1.mp hq))), rf_save _ _, fun _ => ?_⟩
          rw [← zinnE (z2 hq) (z2 hq) 8 (Nat.le_refl 8)]
          exact if_pos rfl
    · have hn := z.2.elim (fun q => q.2) (fun q => absurd q.1 q_io_ae)
      have w := z.1
      clear z
      obtain ⟨w1, w2, w3, w4, w5⟩ := zW_ex W w
      refine ⟨1, f, rfl, w5, w4.trans h123, w3, ⟨_, w2.m⟩, fun d2 => og_M.mono (c_X8_add E d2 n1 _ x y t s w2) (fun v nn h3 z => ?_) (fun _ _ _ z => z)⟩
      obtain ⟨rfl, z⟩ := z
      refine ⟨rfl, ?_⟩
      rcases z with ⟨a, hv9, w9⟩ | ⟨i9, j9, k9, hi9, hj9, hk9, ex9, ey9, et9, -⟩
      · exact ⟨_, _, _, hv9, zW_fin w1 w9 W.2.2, rfl, fun q => absurd q (by decide)⟩
      · exact absurd ⟨⟨i9, hi9, ex9⟩, ⟨j9, hj9, ey9⟩, ⟨k9, hk9, et9⟩⟩ hn
    · have hn := z.2.elim (fun q => absurd q.1.symm q_io_ae) (fun q => q.2)
      have w := z.1
      clear z
      obtain ⟨i, j, k, hi, hj, hk, ex, ey, et, hq⟩ := hn
      obtain ⟨w1, w2, w3, w4, w5⟩ := zW_ex W w
      refine ⟨2, f, rfl, w5, w4.trans h123, w3, ⟨_, w2.m⟩, fun d2 => og_M.mono (c_X8_add E d2 n1 _ x y t s w2) (fun v nn h3 z => ?_) (fun _ _ _ z => z)⟩
      obtain ⟨rfl, z⟩ := z
      refine ⟨rfl, ?_⟩
      rcases z with ⟨a, -⟩ | ⟨i9, j9, k9, hi9, hj9, hk9, ex9, ey9, et9, z⟩
      · exact absurd ⟨⟨i, hi, ex⟩, ⟨j, hj, ey⟩, ⟨k, hk, et⟩⟩ a
      · obtain rfl := zI8 (by omega) (by omega) (ex.symm.trans ex9)
        obtain rfl := zI8 (by omega) (by omega) (ey.symm.trans ey9)
        obtain rfl := zI8 (by omega) (by omega) (et.symm.trans et9)
        obtain ⟨z1, z2⟩ := zfit 0 (by omega) 1 rfl (zmaE W.2.2 hi hj s)
        rcases z with ⟨-, hv9, w9⟩ | ⟨a, -⟩
        · exact ⟨_, _, _, hv9, zW_fin w1 w9 W.2.2, rfl, fun q => absurd q (by decide)⟩
        · exact absurd (z1.mpr a) hq

set_option maxRecDepth 4000 in
theorem P_multiply (E : og_E) (d n : Nat) (h : og_H) (x y t : Int32) {D : q_D} {M : q_M} {f : Nat → Int64} (W : zW n h D M) (h123 : h 123 = some (row1 f)) :
    og_M E yL_multiply (.codeWith yL_multiply cL_multiply 6 (some .int) [(0, 11, 14, 13), (0, 11, 18, 33)]) (d + 3 + 1) [.ref 3, .int x, .int y, .int t, .ref 123] n h 4 24 (zLo n h (zMl E yX8_multiply (.code yX8_multiply cX8_multiply 6 (some .long)) 2 [.ref 101, .int x, .int y, .int t])) no_x := by
  refine og_M.mono (c_L_multiply E (d + 3) n h x y t W.1.d3 (c_X7_multiply E d n h x y t W.1) (fun v n1 h1 z => ?_) (fun En n1 h1 z => ?_)) (fun v n1 h1 z => ?_) (fun _ _ _ z => z)
  · obtain ⟨i, j, k, hi, hj, hk, ex, ey, et, hq, hv, w⟩ := z
    exact ⟨⟨_, hv⟩, f, (zW_ex W w).2.2.2.1.trans h123⟩
  · have z := z.2
    exact z.elim (fun q => Or.inl q.1) (fun q => Or.inr q.1)
  · rcases z with ⟨r0, h2, f2, ⟨i, j, k, hi, hj, hk, ex, ey, et, hq, hv, w⟩, h2f, rfl, rfl⟩ | ⟨z, rfl⟩ | ⟨z, rfl⟩
    · cases hv
      obtain ⟨w1, w2, w3, w4⟩ := zW_ok W w (row1 (vp_updL f2 0 _))
      refine ⟨0, _, rfl, w4, og_set_eq _ _ _, w3, ⟨_, w2.m⟩, fun d2 => og_M.mono (c_X8_multiply E d2 n1 _ x y t w2) (fun v nn h3 z => ?_) (fun _ _ _ z => z)⟩
      obtain ⟨rfl, z⟩ := z
      refine ⟨rfl, ?_⟩
      rcases z with ⟨a, -, -⟩ | ⟨i9, j9, k9, hi9, hj9, hk9, ex9, ey9, et9, z⟩
      · exact absurd ⟨⟨i, hi, ex⟩, ⟨j, hj, ey⟩, ⟨k, hk, et⟩⟩ a
      · obtain rfl := zI8 (by omega) (by omega) (ex.symm.trans ex9)
        obtain rfl := zI8 (by omega) (by omega) (ey.symm.trans ey9)
        obtain rfl := zI8 (by omega) (by omega) (et.symm.trans et9)
        obtain ⟨z1, z2⟩ := zfit 1 (by omega) 2 rfl (zprodE (W.2.2.row hi) (W.2.2.row hj))
        rcases z with ⟨a, -⟩ | ⟨-, hv9, w9⟩
        · exact absurd (z1.mp hq) a
        · refine ⟨_, _, _, hv9, zW_fin w1 w9 (cp_to W.2.2 (cs_65 (cs_pt W.2.2.1 hk (z2 hq) (z1.mp hq)) 1)), rf_save _ _, fun _ => ?_⟩
          rw [← zinnE (z2 hq) (z2 hq) 8 (Nat.le_refl 8)]
          exact if_pos rfl
    · have hn := z.2.elim (fun q => q.2) (fun q => absurd q.1 q_io_ae)
      have w := z.1
      clear z
      obtain ⟨w1, w2, w3, w4, w5⟩ := zW_ex W w
      refine ⟨1, f, rfl, w5, w4.trans h123, w3, ⟨_, w2.m⟩, fun d2 => og_M.mono (c_X8_multiply E d2 n1 _ x y t w2) (fun v nn h3 z => ?_) (fun _ _ _ z => z)⟩
      obtain ⟨rfl, z⟩ := z
      refine ⟨rfl, ?_⟩
      rcases z with ⟨a, hv9, w9⟩ | ⟨i9, j9, k9, hi9, hj9, hk9, ex9, ey9, et9, -⟩
      · exact ⟨_, _, _, hv9, zW_fin w1 w9 W.2.2, rfl, fun q => absurd q (by decide)⟩
      · exact absurd ⟨⟨i9, hi9, ex9⟩, ⟨j9, hj9, ey9⟩, ⟨k9, hk9, et9⟩⟩ hn
    · have hn := z.2.elim (fun q => absurd q.1.symm q_io_ae) (fun q => q.2)
      have w := z.1
      clear z
      obtain ⟨i, j, k, hi, hj, hk, ex, ey, et, hq⟩ := hn
      obtain ⟨w1, w2, w3, w4, w5⟩ := zW_ex W w
      refine ⟨2, f, rfl, w5, w4.trans h123, w3, ⟨_, w2.m⟩, fun d2 => og_M.mono (c_X8_multiply E d2 n1 _ x y t w2) (fun v nn h3 z => ?_) (fun _ _ _ z => z)⟩
      obtain ⟨rfl, z⟩ := z
      refine ⟨rfl, ?_⟩
      rcases z with ⟨a, -⟩ | ⟨i9, j9, k9, hi9, hj9, hk9, ex9, ey9, et9, z⟩
      · exact absurd ⟨⟨i, hi, ex⟩, ⟨j, hj, ey⟩, ⟨k, hk, et⟩⟩ a
      · obtain rfl := zI8 (by omega) (by omega) (ex.symm.trans ex9)
        obtain rfl := zI8 (by omega) (by omega) (ey.symm.trans ey9)
        obtain rfl := zI8 (by omega) (by omega) (et.symm.trans et9)
        obtain ⟨z1, z2⟩ := zfit 1 (by omega) 2 rfl (zprodE (W.2.2.row hi) (W.2.2.row hj))
        rcases z with ⟨-, hv9, w9⟩ | ⟨a, -⟩
        · exact ⟨_, _, _, hv9, zW_fin w1 w9 W.2.2, rfl, fun q => absurd q (by decide)⟩
        · exact absurd (z1.mpr a) hq

set_option maxRecDepth 4000 in
theorem P_commutator (E : og_E) (d n : Nat) (h : og_H) (x y t : Int32) {D : q_D} {M : q_M} {f : Nat → Int64} (W : zW n h D M) (h123 : h 123 = some (row1 f)) :
    og_M E yL_commutator (.codeWith yL_commutator cL_commutator 6 (some .int) [(0, 11, 14, 13), (0, 11, 18, 33)]) (d + 3 + 1) [.ref 3, .int x, .int y, .int t, .ref 123] n h 4 24 (zLo n h (zMl E yX8_commutator (.code yX8_commutator cX8_commutator 4 (some .long)) 2 [.ref 101, .int x, .int y, .int t])) no_x := by
  refine og_M.mono (c_L_commutator E (d + 3) n h x y t W.1.d3 (c_X7_commutator E d n h x y t W.1) (fun v n1 h1 z => ?_) (fun En n1 h1 z => ?_)) (fun v n1 h1 z => ?_) (fun _ _ _ z => z)
  · obtain ⟨i, j, k, hi, hj, hk, ex, ey, et, hq, hv, w⟩ := z
    exact ⟨⟨_, hv⟩, f, (zW_ex W w).2.2.2.1.trans h123⟩
  · have z := z.2
    exact z.elim (fun q => Or.inl q.1) (fun q => Or.inr q.1)
  · rcases z with ⟨r0, h2, f2, ⟨i, j, k, hi, hj, hk, ex, ey, et, hq, hv, w⟩, h2f, rfl, rfl⟩ | ⟨z, rfl⟩ | ⟨z, rfl⟩
    · cases hv
      obtain ⟨w1, w2, w3, w4⟩ := zW_ok W w (row1 (vp_updL f2 0 _))
      refine ⟨0, _, rfl, w4, og_set_eq _ _ _, w3, ⟨_, w2.m⟩, fun d2 => og_M.mono (c_X8_commutator E d2 n1 _ x y t w2) (fun v nn h3 z => ?_) (fun _ _ _ z => z)⟩
      obtain ⟨rfl, z⟩ := z
      refine ⟨rfl, ?_⟩
      rcases z with ⟨a, -, -⟩ | ⟨i9, j9, k9, hi9, hj9, hk9, ex9, ey9, et9, z⟩
      · exact absurd ⟨⟨i, hi, ex⟩, ⟨j, hj, ey⟩, ⟨k, hk, et⟩⟩ a
      · obtain rfl := zI8 (by omega) (by omega) (ex.symm.trans ex9)
        obtain rfl := zI8 (by omega) (by omega) (ey.symm.trans ey9)
        obtain rfl := zI8 (by omega) (by omega) (et.symm.trans et9)
        obtain ⟨z1, z2⟩ := zfit 1 (by omega) 2 rfl (ztotE (zprodE (W.2.2.row hi) (W.2.2.row hj)) (zprodE (W.2.2.row hj) (W.2.2.row hi)) 1)
        rcases z with ⟨a, -⟩ | ⟨-, hv9, w9⟩
        · exact absurd (z1.mp hq) a
        · refine ⟨_, _, _, hv9, zW_fin w1 w9 (cp_reg W.2.2 (cs_pt W.2.2.1 hk (z2 hq) (z1.mp hq))), rf_save _ _, fun _ => ?_⟩
          rw [← zinnE (z2 hq) (z2 hq) 8 (Nat.le_refl 8)]
          exact if_pos rfl
    · have hn := z.2.elim (fun q => q.2) (fun q => absurd q.1 q_io_ae)
      have w := z.1
      clear z
      obtain ⟨w1, w2, w3, w4, w5⟩ := zW_ex W w
      refine ⟨1, f, rfl, w5, w4.trans h123, w3, ⟨_, w2.m⟩, fun d2 => og_M.mono (c_X8_commutator E d2 n1 _ x y t w2) (fun v nn h3 z => ?_) (fun _ _ _ z => z)⟩
      obtain ⟨rfl, z⟩ := z
      refine ⟨rfl, ?_⟩
      rcases z with ⟨a, hv9, w9⟩ | ⟨i9, j9, k9, hi9, hj9, hk9, ex9, ey9, et9, -⟩
      · exact ⟨_, _, _, hv9, zW_fin w1 w9 W.2.2, rfl, fun q => absurd q (by decide)⟩
      · exact absurd ⟨⟨i9, hi9, ex9⟩, ⟨j9, hj9, ey9⟩, ⟨k9, hk9, et9⟩⟩ hn
    · have hn := z.2.elim (fun q => absurd q.1.symm q_io_ae) (fun q => q.2)
      have w := z.1
      clear z
      obtain ⟨i, j, k, hi, hj, hk, ex, ey, et, hq⟩ := hn
      obtain ⟨w1, w2, w3, w4, w5⟩ := zW_ex W w
      refine ⟨2, f, rfl, w5, w4.trans h123, w3, ⟨_, w2.m⟩, fun d2 => og_M.mono (c_X8_commutator E d2 n1 _ x y t w2) (fun v nn h3 z => ?_) (fun _ _ _ z => z)⟩
      obtain ⟨rfl, z⟩ := z
      refine ⟨rfl, ?_⟩
      rcases z with ⟨a, -⟩ | ⟨i9, j9, k9, hi9, hj9, hk9, ex9, ey9, et9, z⟩
      · exact absurd ⟨⟨i, hi, ex⟩, ⟨j, hj, ey⟩, ⟨k, hk, et⟩⟩ a
      · obtain rfl := zI8 (by omega) (by omega) (ex.symm.trans ex9)
        obtain rfl := zI8 (by omega) (by omega) (ey.symm.trans ey9)
        obtain rfl := zI8 (by omega) (by omega) (et.symm.trans et9)
        obtain ⟨z1, z2⟩ := zfit 1 (by omega) 2 rfl (ztotE (zprodE (W.2.2.row hi) (W.2.2.row hj)) (zprodE (W.2.2.row hj) (W.2.2.row hi)) 1)
        rcases z with ⟨-, hv9, w9⟩ | ⟨a, -⟩
        · exact ⟨_, _, _, hv9, zW_fin w1 w9 W.2.2, rfl, fun q => absurd q (by decide)⟩
        · exact absurd (z1.mpr a) hq

set_option maxRecDepth 4000 in
theorem P_associator (E : og_E) (d n : Nat) (h : og_H) (x y u t : Int32) {D : q_D} {M : q_M} {f : Nat → Int64} (W : zW n h D M) (h123 : h 123 = some (row1 f)) :
    og_M E yL_associator (.codeWith yL_associator cL_associator 7 (some .int) [(0, 13, 16, 13), (0, 13, 20, 33)]) (d + 3 + 1) [.ref 3, .int x, .int y, .int u, .int t, .ref 123] n h 5 30 (zLo n h (zMl E yX8_associator (.code yX8_associator cX8_associator 5 (some .long)) 2 [.ref 101, .int x, .int y, .int u, .int t])) no_x := by
  refine og_M.mono (c_L_associator E (d + 3) n h x y u t W.1.d3 (c_X7_associator E d n h x y u t W.1) (fun v n1 h1 z => ?_) (fun En n1 h1 z => ?_)) (fun v n1 h1 z => ?_) (fun _ _ _ z => z)
  · obtain ⟨i, j, k, l, hi, hj, hk, hl, ex, ey, eu, et, hq, hv, w⟩ := z
    exact ⟨⟨_, hv⟩, f, (zW_ex W w).2.2.2.1.trans h123⟩
  · have z := z.2
    exact z.elim (fun q => Or.inl q.1) (fun q => Or.inr q.1)
  · rcases z with ⟨r0, h2, f2, ⟨i, j, k, l, hi, hj, hk, hl, ex, ey, eu, et, hq, hv, w⟩, h2f, rfl, rfl⟩ | ⟨z, rfl⟩ | ⟨z, rfl⟩
    · cases hv
      obtain ⟨w1, w2, w3, w4⟩ := zW_ok W w (row1 (vp_updL f2 0 _))
      refine ⟨0, _, rfl, w4, og_set_eq _ _ _, w3, ⟨_, w2.m⟩, fun d2 => og_M.mono (c_X8_associator E d2 n1 _ x y u t w2) (fun v nn h3 z => ?_) (fun _ _ _ z => z)⟩
      obtain ⟨rfl, z⟩ := z
      refine ⟨rfl, ?_⟩
      rcases z with ⟨a, -, -⟩ | ⟨i9, j9, k9, l9, hi9, hj9, hk9, hl9, ex9, ey9, eu9, et9, z⟩
      · exact absurd ⟨⟨i, hi, ex⟩, ⟨j, hj, ey⟩, ⟨k, hk, eu⟩, ⟨l, hl, et⟩⟩ a
      · obtain rfl := zI8 (by omega) (by omega) (ex.symm.trans ex9)
        obtain rfl := zI8 (by omega) (by omega) (ey.symm.trans ey9)
        obtain rfl := zI8 (by omega) (by omega) (eu.symm.trans eu9)
        obtain rfl := zI8 (by omega) (by omega) (et.symm.trans et9)
        obtain ⟨z1, z2⟩ := zfit 2 (by omega) 4 rfl (zascE (W.2.2.row hi) (W.2.2.row hj) (W.2.2.row hk))
        rcases z with ⟨a, -⟩ | ⟨-, hv9, w9⟩
        · exact absurd (z1.mp hq) a
        · refine ⟨_, _, _, hv9, zW_fin w1 w9 (cp_reg W.2.2 (cs_pt W.2.2.1 hl (z2 hq) (z1.mp hq))), rf_save _ _, fun _ => ?_⟩
          rw [← zinnE (z2 hq) (z2 hq) 8 (Nat.le_refl 8)]
          exact if_pos rfl
    · have hn := z.2.elim (fun q => q.2) (fun q => absurd q.1 q_io_ae)
      have w := z.1
      clear z
      obtain ⟨w1, w2, w3, w4, w5⟩ := zW_ex W w
      refine ⟨1, f, rfl, w5, w4.trans h123, w3, ⟨_, w2.m⟩, fun d2 => og_M.mono (c_X8_associator E d2 n1 _ x y u t w2) (fun v nn h3 z => ?_) (fun _ _ _ z => z)⟩
      obtain ⟨rfl, z⟩ := z
      refine ⟨rfl, ?_⟩
      rcases z with ⟨a, hv9, w9⟩ | ⟨i9, j9, k9, l9, hi9, hj9, hk9, hl9, ex9, ey9, eu9, et9, -⟩
      · exact ⟨_, _, _, hv9, zW_fin w1 w9 W.2.2, rfl, fun q => absurd q (by decide)⟩
      · exact absurd ⟨⟨i9, hi9, ex9⟩, ⟨j9, hj9, ey9⟩, ⟨k9, hk9, eu9⟩, ⟨l9, hl9, et9⟩⟩ hn
    · have hn := z.2.elim (fun q => absurd q.1.symm q_io_ae) (fun q => q.2)
      have w := z.1
      clear z
      obtain ⟨i, j, k, l, hi, hj, hk, hl, ex, ey, eu, et, hq⟩ := hn
      obtain ⟨w1, w2, w3, w4, w5⟩ := zW_ex W w
      refine ⟨2, f, rfl, w5, w4.trans h123, w3, ⟨_, w2.m⟩, fun d2 => og_M.mono (c_X8_associator E d2 n1 _ x y u t w2) (fun v nn h3 z => ?_) (fun _ _ _ z => z)⟩
      obtain ⟨rfl, z⟩ := z
      refine ⟨rfl, ?_⟩
      rcases z with ⟨a, -⟩ | ⟨i9, j9, k9, l9, hi9, hj9, hk9, hl9, ex9, ey9, eu9, et9, z⟩
      · exact absurd ⟨⟨i, hi, ex⟩, ⟨j, hj, ey⟩, ⟨k, hk, eu⟩, ⟨l, hl, et⟩⟩ a
      · obtain rfl := zI8 (by omega) (by omega) (ex.symm.trans ex9)
        obtain rfl := zI8 (by omega) (by omega) (ey.symm.trans ey9)
        obtain rfl := zI8 (by omega) (by omega) (eu.symm.trans eu9)
        obtain rfl := zI8 (by omega) (by omega) (et.symm.trans et9)
        obtain ⟨z1, z2⟩ := zfit 2 (by omega) 4 rfl (zascE (W.2.2.row hi) (W.2.2.row hj) (W.2.2.row hk))
        rcases z with ⟨-, hv9, w9⟩ | ⟨a, -⟩
        · exact ⟨_, _, _, hv9, zW_fin w1 w9 W.2.2, rfl, fun q => absurd q (by decide)⟩
        · exact absurd (z1.mpr a) hq
