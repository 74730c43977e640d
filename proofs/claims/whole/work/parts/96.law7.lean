/-! ===== the law: one step, both sides (divide, steps, lastNorm) ===== -/
theorem z_div {D : q_D} {M : q_M} (c : cp D M) {a b : Nat} (ha : a < 8) (hb : b < 8) : q_div D a b ↔ (q_inP (m_R M a) (d_o D) ∧ q_inP (m_R M b) (d_o D) ∧ q_inner (m_R M b) (m_R M b) 8 ≠ 0) := by
  unfold q_div
  rw [zalin c.o.2 (c.row ha), zalin c.o.2 (c.row hb), (zzrE (c.row hb)).trans (zzr (c.1.ok hb))]
theorem z_lat {M : q_M} {o : Nat} (ho : o < 8) {a : Nat} (h : q_inP (m_R M a) o) : zlat o (zi (m_R M a)) := (zlat_ok ho).mp ((zin ho).mp h)
theorem z_qr {D : q_D} {M : q_M} (c : cp D M) {a b : Nat} (ha : a < 8) (hb : b < 8) (h : q_inP (m_R M a) (d_o D) ∧ q_inP (m_R M b) (d_o D) ∧ q_inner (m_R M b) (m_R M b) 8 ≠ 0) : zE (d_quo D a b) (m_quo (m_R M a) (m_R M b) (d_o D)) ∧ zE (d_rem D a b) (m_rem (m_R M a) (m_R M b) (d_o D)) := by
  obtain ⟨x, y, -⟩ := zdv c.o.2 (c.row ha) (c.row hb) (c.1.ok ha) (c.1.ok hb) h.2.2 (z_lat c.o.2 h.1) (z_lat c.o.2 h.2.1)
  exact ⟨x, y⟩
theorem z_eok {D : q_D} {M : q_M} (c : cp D M) : q_eok D := fun a b ha hb hd k hk h => by
  have hm := (z_div c ha hb).mp hd
  have l1 := z_lat c.o.2 hm.1
  have l2 := z_lat c.o.2 hm.2.1
  obtain ⟨n1, -⟩ := zer c.o.2 (c.row ha) (c.row hb) (c.1.ok ha) (c.1.ok hb) l1 l2 hm.2.2 k h
  obtain ⟨-, e2, -, o2, -⟩ := zeu c.o.2 (c.row ha) (c.row hb) (c.1.ok ha) (c.1.ok hb) l1 l2 k (fun j h1 h2 => by
    obtain ⟨i, rfl⟩ : ∃ i, j = i + 1 := ⟨j - 1, by omega⟩
    exact n1 i (by omega))
  rw [zinnE e2 e2 8 (Nat.le_refl 8)]
  exact zpos o2 (n1 k (by omega))
/-- where the class's steps end, the model's end -/
theorem z_end {D : q_D} {M : q_M} (c : cp D M) {a b k : Nat} (ha : a < 8) (hb : b < 8) (hd : q_div D a b) (h : q_eend D a b k) {v : Option Value} {ls : Int64} (e : m_euq (fun k => m_eu (m_R M a) (m_R M b) (d_o D) (k + 1)) v ls) : v = some (.int (nI (k + 1))) ∧ ls = q_inner (q_eu (d_R D a) (d_R D b) (d_o D) k).2 (q_eu (d_R D a) (d_R D b) (d_o D) k).2 8 := by
  have hm := (z_div c ha hb).mp hd
  have l1 := z_lat c.o.2 hm.1
  have l2 := z_lat c.o.2 hm.2.1
  obtain ⟨h1, h2, h3⟩ := h
  obtain ⟨n1, n2⟩ := zer c.o.2 (c.row ha) (c.row hb) (c.1.ok ha) (c.1.ok hb) l1 l2 hm.2.2 k h2
  rw [n2] at h3
  obtain ⟨-, e2, -⟩ := zeu c.o.2 (c.row ha) (c.row hb) (c.1.ok ha) (c.1.ok hb) l1 l2 k (fun j h1 h2 => by
    obtain ⟨i, rfl⟩ : ∃ i, j = i + 1 := ⟨j - 1, by omega⟩
    exact n1 i (by omega))
  rcases e with ⟨K, k1, k2, k3, k4, k5⟩ | ⟨k1, k2⟩
  · have hK : K = k + 1 := by
      rcases Nat.lt_trichotomy K (k + 1) with q | q | q
      · exact absurd k3 (n1 K (by omega))
      · exact q
      · exact absurd h3 (k2 (k + 1) q)
    refine ⟨by rw [k4, hK], ?_⟩
    rw [k5 k hK, zinnE e2 e2 8 (Nat.le_refl 8)]
    rfl
  · exact absurd h3 (k1 (k + 1) (by omega))
theorem z_not {D : q_D} {M : q_M} (c : cp D M) {a b : Nat} (ha : a < 8) (hb : b < 8) (hd : q_div D a b) (h : q_enot D a b) {v : Option Value} {ls : Int64} (e : m_euq (fun k => m_eu (m_R M a) (m_R M b) (d_o D) (k + 1)) v ls) : v = some (.int (-1)) := by
  have hm := (z_div c ha hb).mp hd
  have l1 := z_lat c.o.2 hm.1
  have l2 := z_lat c.o.2 hm.2.1
  obtain ⟨n1, n2⟩ := zer c.o.2 (c.row ha) (c.row hb) (c.1.ok ha) (c.1.ok hb) l1 l2 hm.2.2 39 (fun j hj => h j (by omega))
  have h3 := h 39 (by omega)
  rw [n2] at h3
  rcases e with ⟨K, k1, k2, k3, k4, k5⟩ | ⟨k1, k2⟩
  · rcases Nat.lt_or_ge K 40 with q | q
    · exact absurd k3 (n1 K (by omega))
    · rw [show K = 40 by omega] at k3
      exact absurd k3 h3
  · exact k2
theorem nI_ne1 {k : Nat} (hk : k < 1000) : nI k ≠ -1 := fun h => by
  have := congrArg Int32.toInt h
  rw [nI_toInt (by omega), show (-1 : Int32).toInt = -1 from rfl] at this
  omega
set_option maxRecDepth 4000 in
theorem P_divide (E : og_E) (d n : Nat) (h : og_H) (x y t u : Int32) {D : q_D} {M : q_M} {f : Nat → Int64} (W : zW n h D M) (h123 : h 123 = some (row1 f)) :
    og_M E yL_divide (.codeWith yL_divide cL_divide 7 (some .int) [(0, 13, 16, 13), (0, 13, 20, 15), (0, 13, 24, 52), (0, 13, 28, 33)]) (d + 5 + 1) [.ref 3, .int x, .int y, .int t, .int u, .ref 123] n h 7 42 (zLo n h (zMl E yX8_divide (.code yX8_divide cX8_divide 6 (some .long)) 3 [.ref 101, .int x, .int y, .int t, .int u])) no_x := by
  refine og_M.mono (c_L_divide E (d + 5) n h x y t u W.1.d3 (c_X7_divide E d n h x y t u W.1 (fun r hr q => zpos (W.2.2.1.okd hr) (fun y => q ((zzr (W.2.2.1.okd hr)).mpr y)))) (fun v n1 h1 z => ?_) (fun En n1 h1 z => ?_)) (fun v n1 h1 z => ?_) (fun _ _ _ z => z)
  · obtain ⟨a, b, k, l, ha, hb, hk, hl, ex, ey, et, eu, hkl, hd, hq1, hq2, hv, w⟩ := z
    exact ⟨⟨_, hv⟩, f, (zW_ex W w).2.2.2.1.trans h123⟩
  · have z := z.2
    exact (by
      rcases z with ⟨e, -⟩ | ⟨_, _, _, _, _, _, _, _, _, _, _, _, ⟨e, -⟩ | ⟨e, -⟩ | ⟨e, -⟩⟩
      · exact Or.inl e
      · exact Or.inr (Or.inl e)
      · exact Or.inr (Or.inr (Or.inl e))
      · exact Or.inr (Or.inr (Or.inr e)))
  · rcases z with ⟨r0, h2, f2, ⟨a, b, k, l, ha, hb, hk, hl, ex, ey, et, eu, hkl, hd, hq1, hq2, hv, w⟩, h2f, rfl, rfl⟩ | ⟨z, rfl⟩ | ⟨z, rfl⟩ | ⟨z, rfl⟩ | ⟨z, rfl⟩
    · cases hv
      obtain ⟨w1, w2, w3, w4⟩ := zW_ok W w (row1 (vp_updL f2 0 _))
      refine ⟨0, _, rfl, w4, og_set_eq _ _ _, w3, ⟨_, w2.m⟩, fun d2 => og_M.mono (c_X8_divide E d2 n1 _ x y t u w2 W.2.2.o.1 W.2.2.o.2) (fun v nn h3 z => ?_) (fun _ _ _ z => z)⟩
      obtain ⟨rfl, z⟩ := z
      refine ⟨rfl, ?_⟩
      rcases z with ⟨q, -⟩ | ⟨a9, b9, k9, l9, ha9, hb9, hk9, hl9, ex9, ey9, et9, eu9, z⟩
      · exact absurd ⟨⟨a, ha, ex⟩, ⟨b, hb, ey⟩, ⟨k, hk, et⟩, ⟨l, hl, eu⟩⟩ q
      · obtain rfl := zI8 (by omega) (by omega) (ex.symm.trans ex9)
        obtain rfl := zI8 (by omega) (by omega) (ey.symm.trans ey9)
        obtain rfl := zI8 (by omega) (by omega) (et.symm.trans et9)
        obtain rfl := zI8 (by omega) (by omega) (eu.symm.trans eu9)
        have hm := (z_div W.2.2 ha hb).mp hd
        obtain ⟨p1, p2⟩ := zfit 0 (by omega) 1 rfl (z_qr W.2.2 ha hb hm).1
        obtain ⟨r1, r2⟩ := zfit 0 (by omega) 1 rfl (z_qr W.2.2 ha hb hm).2
        rcases z with ⟨q, -⟩ | ⟨-, q, -⟩ | ⟨-, -, q, -⟩ | ⟨-, -, -, -, hv9, w9⟩
        · exact absurd q hkl
        · exact absurd hm q
        · exact absurd ⟨p1.mp hq1, r1.mp hq2⟩ q
        · refine ⟨_, _, _, hv9, zW_fin w1 w9 (cp_to W.2.2 (cs_66 (cs_pt (cs_pt W.2.2.1 hk (p2 hq1) (p1.mp hq1)) hl (r2 hq2) (r1.mp hq2)) 1)), rf_save _ _, fun _ => ?_⟩
          rw [← zinnE (r2 hq2) (r2 hq2) 8 (Nat.le_refl 8)]
          exact if_pos rfl
    · have w := z.1
      have z2 := z.2
      clear z
      have hn := z2.elim (fun q => q.2) (fun q => by
        obtain ⟨_, _, _, _, _, _, _, _, _, _, _, _, ⟨e, -⟩ | ⟨e, -⟩ | ⟨e, -⟩⟩ := q
        · exact absurd e q_io_ia
        · exact absurd e q_io_ist
        · exact absurd e q_io_ae)
      obtain ⟨w1, w2, w3, w4, w5⟩ := zW_ex W w
      refine ⟨1, f, rfl, w5, w4.trans h123, w3, ⟨_, w2.m⟩, fun d2 => og_M.mono (c_X8_divide E d2 n1 _ x y t u w2 W.2.2.o.1 W.2.2.o.2) (fun v nn h3 z => ?_) (fun _ _ _ z => z)⟩
      obtain ⟨rfl, z⟩ := z
      refine ⟨rfl, ?_⟩
      rcases z with ⟨q, hv9, w9⟩ | ⟨a9, b9, k9, l9, ha9, hb9, hk9, hl9, ex9, ey9, et9, eu9, -⟩
      · exact ⟨_, _, _, hv9, zW_fin w1 w9 W.2.2, rfl, fun q => absurd q (by decide)⟩
      · exact absurd ⟨⟨a9, ha9, ex9⟩, ⟨b9, hb9, ey9⟩, ⟨k9, hk9, et9⟩, ⟨l9, hl9, eu9⟩⟩ hn
    · have w := z.1
      have z2 := z.2
      clear z
      rcases z2 with ⟨e, -⟩ | ⟨a, b, k, l, ha, hb, hk, hl, ex, ey, et, eu, z2⟩
      · exact absurd e q_io_ia.symm
      have hn := z2
      obtain ⟨w1, w2, w3, w4, w5⟩ := zW_ex W w
      refine ⟨2, f, rfl, w5, w4.trans h123, w3, ⟨_, w2.m⟩, fun d2 => og_M.mono (c_X8_divide E d2 n1 _ x y t u w2 W.2.2.o.1 W.2.2.o.2) (fun v nn h3 z => ?_) (fun _ _ _ z => z)⟩
      obtain ⟨rfl, z⟩ := z
      refine ⟨rfl, ?_⟩
      rcases z with ⟨q, -⟩ | ⟨a9, b9, k9, l9, ha9, hb9, hk9, hl9, ex9, ey9, et9, eu9, z⟩
      · exact absurd ⟨⟨a, ha, ex⟩, ⟨b, hb, ey⟩, ⟨k, hk, et⟩, ⟨l, hl, eu⟩⟩ q
      · obtain rfl := zI8 (by omega) (by omega) (ex.symm.trans ex9)
        obtain rfl := zI8 (by omega) (by omega) (ey.symm.trans ey9)
        obtain rfl := zI8 (by omega) (by omega) (et.symm.trans et9)
        obtain rfl := zI8 (by omega) (by omega) (eu.symm.trans eu9)
        have hn : k = l := by
          rcases hn with ⟨-, q⟩ | ⟨e, -⟩ | ⟨e, -⟩
          · exact q
          · exact absurd e q_ia_ist
          · exact absurd e q_ia_ae
        rcases z with ⟨-, hv9, w9⟩ | ⟨q, -⟩ | ⟨q, -⟩ | ⟨q, -⟩
        · exact ⟨_, _, _, hv9, zW_fin w1 w9 W.2.2, rfl, fun q => absurd q (by decide)⟩
        · exact absurd hn q
        · exact absurd hn q
        · exact absurd hn q
    · have w := z.1
      have z2 := z.2
      clear z
      rcases z2 with ⟨e, -⟩ | ⟨a, b, k, l, ha, hb, hk, hl, ex, ey, et, eu, z2⟩
      · exact absurd e q_io_ist.symm
      have hn := z2
      obtain ⟨w1, w2, w3, w4, w5⟩ := zW_ex W w
      refine ⟨3, f, rfl, w5, w4.trans h123, w3, ⟨_, w2.m⟩, fun d2 => og_M.mono (c_X8_divide E d2 n1 _ x y t u w2 W.2.2.o.1 W.2.2.o.2) (fun v nn h3 z => ?_) (fun _ _ _ z => z)⟩
      obtain ⟨rfl, z⟩ := z
      refine ⟨rfl, ?_⟩
      rcases z with ⟨q, -⟩ | ⟨a9, b9, k9, l9, ha9, hb9, hk9, hl9, ex9, ey9, et9, eu9, z⟩
      · exact absurd ⟨⟨a, ha, ex⟩, ⟨b, hb, ey⟩, ⟨k, hk, et⟩, ⟨l, hl, eu⟩⟩ q
      · obtain rfl := zI8 (by omega) (by omega) (ex.symm.trans ex9)
        obtain rfl := zI8 (by omega) (by omega) (ey.symm.trans ey9)
        obtain rfl := zI8 (by omega) (by omega) (et.symm.trans et9)
        obtain rfl := zI8 (by omega) (by omega) (eu.symm.trans eu9)
        have hn : k ≠ l ∧ ¬ q_div D a b := by
          rcases hn with ⟨e, -⟩ | ⟨-, q⟩ | ⟨e, -⟩
          · exact absurd e q_ia_ist.symm
          · exact q
          · exact absurd e q_ist_ae
        rcases z with ⟨q, -⟩ | ⟨-, -, hv9, w9⟩ | ⟨-, q, -⟩ | ⟨-, q, -⟩
        · exact absurd q hn.1
        · exact ⟨_, _, _, hv9, zW_fin w1 w9 W.2.2, rfl, fun q => absurd q (by decide)⟩
        · exact absurd ((z_div W.2.2 ha hb).mpr q) hn.2
        · exact absurd ((z_div W.2.2 ha hb).mpr q) hn.2
    · have w := z.1
      have z2 := z.2
      clear z
      rcases z2 with ⟨e, -⟩ | ⟨a, b, k, l, ha, hb, hk, hl, ex, ey, et, eu, z2⟩
      · exact absurd e q_io_ae.symm
      have hn := z2
      obtain ⟨w1, w2, w3, w4, w5⟩ := zW_ex W w
      refine ⟨4, f, rfl, w5, w4.trans h123, w3, ⟨_, w2.m⟩, fun d2 => og_M.mono (c_X8_divide E d2 n1 _ x y t u w2 W.2.2.o.1 W.2.2.o.2) (fun v nn h3 z => ?_) (fun _ _ _ z => z)⟩
      obtain ⟨rfl, z⟩ := z
      refine ⟨rfl, ?_⟩
      rcases z with ⟨q, -⟩ | ⟨a9, b9, k9, l9, ha9, hb9, hk9, hl9, ex9, ey9, et9, eu9, z⟩
      · exact absurd ⟨⟨a, ha, ex⟩, ⟨b, hb, ey⟩, ⟨k, hk, et⟩, ⟨l, hl, eu⟩⟩ q
      · obtain rfl := zI8 (by omega) (by omega) (ex.symm.trans ex9)
        obtain rfl := zI8 (by omega) (by omega) (ey.symm.trans ey9)
        obtain rfl := zI8 (by omega) (by omega) (et.symm.trans et9)
        obtain rfl := zI8 (by omega) (by omega) (eu.symm.trans eu9)
        have hn : k ≠ l ∧ q_div D a b ∧ ¬ (q_fitx 0 (d_quo D a b) ∧ q_fitx 0 (d_rem D a b)) := by
          rcases hn with ⟨e, -⟩ | ⟨e, -⟩ | ⟨-, q⟩
          · exact absurd e q_ia_ae.symm
          · exact absurd e q_ist_ae.symm
          · exact q
        have hm := (z_div W.2.2 ha hb).mp hn.2.1
        obtain ⟨p1, p2⟩ := zfit 0 (by omega) 1 rfl (z_qr W.2.2 ha hb hm).1
        obtain ⟨r1, r2⟩ := zfit 0 (by omega) 1 rfl (z_qr W.2.2 ha hb hm).2
        rcases z with ⟨q, -⟩ | ⟨-, q, -⟩ | ⟨-, -, -, hv9, w9⟩ | ⟨-, -, q1, q2, -⟩
        · exact absurd q hn.1
        · exact absurd hm q
        · exact ⟨_, _, _, hv9, zW_fin w1 w9 W.2.2, rfl, fun q => absurd q (by decide)⟩
        · exact absurd ⟨p1.mpr q1, r1.mpr q2⟩ hn.2.2

set_option maxRecDepth 4000 in
theorem P_steps (E : og_E) (d n : Nat) (h : og_H) (x y : Int32) {D : q_D} {M : q_M} {f : Nat → Int64} (W : zW n h D M) (h123 : h 123 = some (row1 f)) :
    og_M E yL_steps (.codeWith yL_steps cL_steps 5 (some .int) [(0, 10, 13, 13), (0, 10, 17, 52)]) (d + 6 + 1) [.ref 3, .int x, .int y, .ref 123] n h 3 18 (zLo n h (zMi E yX8_steps (.code yX8_steps cX8_steps 3 (some .int)) 4 [.ref 101, .int x, .int y])) no_x := by
  refine og_M.mono (c_L_steps E (d + 6) n h x y W.1.d3 (c_X7_steps E d n h x y W.1 (z_eok W.2.2)) (fun v n1 h1 z => ?_) (fun En n1 h1 z => ?_)) (fun v n1 h1 z => ?_) (fun _ _ _ z => z)
  · obtain ⟨a, b, ha, hb, ex, ey, hd, w, hv⟩ := z
    exact ⟨hv.elim (fun q => q.elim fun k q => ⟨_, q.2⟩) (fun q => ⟨_, q.2⟩), f, (zW_ex W w).2.2.2.1.trans h123⟩
  · have z := z.2
    exact z.elim (fun q => Or.inl q.1) (fun q => Or.inr q.1)
  · rcases z with ⟨r0, h2, f2, ⟨a, b, ha, hb, ex, ey, hd, w, hv⟩, h2f, rfl, rfl⟩ | ⟨z, rfl⟩ | ⟨z, rfl⟩
    · skip
      obtain ⟨w1, w2, w3, w4⟩ := zW_ok W w (row1 (vp_updL f2 0 _))
      refine ⟨0, _, rfl, w4, og_set_eq _ _ _, w3, ⟨_, w2.m⟩, fun d2 => og_M.mono (c_X8_steps E d2 n1 _ x y w2 W.2.2.o.1 W.2.2.o.2) (fun v nn h3 z => ?_) (fun _ _ _ z => z)⟩
      obtain ⟨rfl, z⟩ := z
      refine ⟨rfl, ?_⟩
      rcases z with ⟨q, -⟩ | ⟨a9, b9, ha9, hb9, ex9, ey9, z⟩
      · exact absurd ⟨⟨a, ha, ex⟩, ⟨b, hb, ey⟩⟩ q
      · obtain rfl := zI8 (by omega) (by omega) (ex.symm.trans ex9)
        obtain rfl := zI8 (by omega) (by omega) (ey.symm.trans ey9)
        have hm := (z_div W.2.2 ha hb).mp hd
        rcases z with ⟨q, -⟩ | ⟨-, ls, w9, hv9⟩
        · exact absurd hm q
        · rcases hv with ⟨k, hk, e⟩ | ⟨hk, e⟩
          · cases e
            exact ⟨_, _, _, (z_end W.2.2 ha hb hd hk hv9).1, zW_fin w1 w9 W.2.2, rfl, fun _ => if_pos rfl⟩
          · cases e
            exact ⟨_, _, _, z_not W.2.2 ha hb hd hk hv9, zW_fin w1 w9 W.2.2, rfl, fun _ => if_pos rfl⟩
    · have hn := z.2.elim (fun q => q.2) (fun q => absurd q.1 q_io_ist)
      have w := z.1
      clear z
      obtain ⟨w1, w2, w3, w4, w5⟩ := zW_ex W w
      refine ⟨1, f, rfl, w5, w4.trans h123, w3, ⟨_, w2.m⟩, fun d2 => og_M.mono (c_X8_steps E d2 n1 _ x y w2 W.2.2.o.1 W.2.2.o.2) (fun v nn h3 z => ?_) (fun _ _ _ z => z)⟩
      obtain ⟨rfl, z⟩ := z
      refine ⟨rfl, ?_⟩
      rcases z with ⟨a, hv9, w9⟩ | ⟨a9, b9, ha9, hb9, ex9, ey9, -⟩
      · exact ⟨_, _, _, hv9, zW_fin w1 w9 W.2.2, rfl, fun q => absurd q (by decide)⟩
      · exact absurd ⟨⟨a9, ha9, ex9⟩, ⟨b9, hb9, ey9⟩⟩ hn
    · have hn := z.2.elim (fun q => absurd q.1.symm q_io_ist) (fun q => q.2)
      have w := z.1
      clear z
      obtain ⟨a, b, ha, hb, ex, ey, hd⟩ := hn
      obtain ⟨w1, w2, w3, w4, w5⟩ := zW_ex W w
      refine ⟨2, f, rfl, w5, w4.trans h123, w3, ⟨_, w2.m⟩, fun d2 => og_M.mono (c_X8_steps E d2 n1 _ x y w2 W.2.2.o.1 W.2.2.o.2) (fun v nn h3 z => ?_) (fun _ _ _ z => z)⟩
      obtain ⟨rfl, z⟩ := z
      refine ⟨rfl, ?_⟩
      rcases z with ⟨q, -⟩ | ⟨a9, b9, ha9, hb9, ex9, ey9, z⟩
      · exact absurd ⟨⟨a, ha, ex⟩, ⟨b, hb, ey⟩⟩ q
      · obtain rfl := zI8 (by omega) (by omega) (ex.symm.trans ex9)
        obtain rfl := zI8 (by omega) (by omega) (ey.symm.trans ey9)
        rcases z with ⟨-, hv9, w9⟩ | ⟨q, -⟩
        · exact ⟨_, _, _, hv9, zW_fin w1 w9 W.2.2, rfl, fun q => absurd q (by decide)⟩
        · exact absurd ((z_div W.2.2 ha hb).mpr q) hd

set_option maxRecDepth 4000 in
theorem P_lastNorm (E : og_E) (d n : Nat) (h : og_H) (x y : Int32) {D : q_D} {M : q_M} {f : Nat → Int64} (W : zW n h D M) (h123 : h 123 = some (row1 f)) :
    og_M E yL_lastNorm (.codeWith yL_lastNorm cL_lastNorm 5 (some .int) [(0, 9, 12, 13), (0, 9, 16, 52)]) (d + 6 + 1) [.ref 3, .int x, .int y, .ref 123] n h 3 18 (zLo n h (zMl E yX8_lastNorm (.code yX8_lastNorm cX8_lastNorm 3 (some .long)) 4 [.ref 101, .int x, .int y])) no_x := by
  refine og_M.mono (c_L_lastNorm E (d + 6) n h x y W.1.d3 (c_X7_lastNorm E d n h x y W.1 (z_eok W.2.2)) (fun v n1 h1 z => ?_) (fun En n1 h1 z => ?_)) (fun v n1 h1 z => ?_) (fun _ _ _ z => z)
  · obtain ⟨a, b, ha, hb, ex, ey, hd, w, hv⟩ := z
    exact ⟨hv.elim (fun q => q.elim fun k q => ⟨_, q.2⟩) (fun q => ⟨_, q.2⟩), f, (zW_ex W w).2.2.2.1.trans h123⟩
  · have z := z.2
    exact z.elim (fun q => Or.inl q.1) (fun q => Or.inr q.1)
  · rcases z with ⟨r0, h2, f2, ⟨a, b, ha, hb, ex, ey, hd, w, hv⟩, h2f, rfl, rfl⟩ | ⟨z, rfl⟩ | ⟨z, rfl⟩
    · skip
      obtain ⟨w1, w2, w3, w4⟩ := zW_ok W w (row1 (vp_updL f2 0 _))
      refine ⟨0, _, rfl, w4, og_set_eq _ _ _, w3, ⟨_, w2.m⟩, fun d2 => og_M.mono (c_X8_lastNorm E d2 n1 _ x y w2 W.2.2.o.1 W.2.2.o.2) (fun v nn h3 z => ?_) (fun _ _ _ z => z)⟩
      obtain ⟨rfl, z⟩ := z
      refine ⟨rfl, ?_⟩
      rcases z with ⟨q, -⟩ | ⟨a9, b9, ha9, hb9, ex9, ey9, z⟩
      · exact absurd ⟨⟨a, ha, ex⟩, ⟨b, hb, ey⟩⟩ q
      · obtain rfl := zI8 (by omega) (by omega) (ex.symm.trans ex9)
        obtain rfl := zI8 (by omega) (by omega) (ey.symm.trans ey9)
        have hm := (z_div W.2.2 ha hb).mp hd
        rcases z with ⟨q, -⟩ | ⟨-, vv, ls, w9, he, hv9⟩
        · exact absurd hm q
        · rcases hv with ⟨k, hk, e⟩ | ⟨hk, e⟩
          · cases e
            obtain ⟨e1, e2⟩ := z_end W.2.2 ha hb hd hk he
            rcases hv9 with ⟨q, -⟩ | ⟨-, hv9⟩
            · rw [e1] at q
              have q2 : nI (k + 1) = -1 := by injection q with q; injection q
              have := hk.1
              exact absurd q2 (nI_ne1 (by omega))
            · refine ⟨_, _, _, hv9, zW_fin w1 w9 W.2.2, rfl, fun _ => ?_⟩
              rw [e2]
              exact if_pos rfl
          · cases e
            have e1 := z_not W.2.2 ha hb hd hk he
            rcases hv9 with ⟨-, hv9⟩ | ⟨q, -⟩
            · exact ⟨_, _, _, hv9, zW_fin w1 w9 W.2.2, rfl, fun _ => if_pos rfl⟩
            · exact absurd e1 q
    · have hn := z.2.elim (fun q => q.2) (fun q => absurd q.1 q_io_ist)
      have w := z.1
      clear z
      obtain ⟨w1, w2, w3, w4, w5⟩ := zW_ex W w
      refine ⟨1, f, rfl, w5, w4.trans h123, w3, ⟨_, w2.m⟩, fun d2 => og_M.mono (c_X8_lastNorm E d2 n1 _ x y w2 W.2.2.o.1 W.2.2.o.2) (fun v nn h3 z => ?_) (fun _ _ _ z => z)⟩
      obtain ⟨rfl, z⟩ := z
      refine ⟨rfl, ?_⟩
      rcases z with ⟨a, hv9, w9⟩ | ⟨a9, b9, ha9, hb9, ex9, ey9, -⟩
      · exact ⟨_, _, _, hv9, zW_fin w1 w9 W.2.2, rfl, fun q => absurd q (by decide)⟩
      · exact absurd ⟨⟨a9, ha9, ex9⟩, ⟨b9, hb9, ey9⟩⟩ hn
    · have hn := z.2.elim (fun q => absurd q.1.symm q_io_ist) (fun q => q.2)
      have w := z.1
      clear z
      obtain ⟨a, b, ha, hb, ex, ey, hd⟩ := hn
      obtain ⟨w1, w2, w3, w4, w5⟩ := zW_ex W w
      refine ⟨2, f, rfl, w5, w4.trans h123, w3, ⟨_, w2.m⟩, fun d2 => og_M.mono (c_X8_lastNorm E d2 n1 _ x y w2 W.2.2.o.1 W.2.2.o.2) (fun v nn h3 z => ?_) (fun _ _ _ z => z)⟩
      obtain ⟨rfl, z⟩ := z
      refine ⟨rfl, ?_⟩
      rcases z with ⟨q, -⟩ | ⟨a9, b9, ha9, hb9, ex9, ey9, z⟩
      · exact absurd ⟨⟨a, ha, ex⟩, ⟨b, hb, ey⟩⟩ q
      · obtain rfl := zI8 (by omega) (by omega) (ex.symm.trans ex9)
        obtain rfl := zI8 (by omega) (by omega) (ey.symm.trans ey9)
        rcases z with ⟨-, hv9, w9⟩ | ⟨q, -⟩
        · exact ⟨_, _, _, hv9, zW_fin w1 w9 W.2.2, rfl, fun q => absurd q (by decide)⟩
        · exact absurd ((z_div W.2.2 ha hb).mpr q) hd
