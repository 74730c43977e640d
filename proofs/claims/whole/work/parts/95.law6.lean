/-! ===== the law: one step, both sides (setFour, commute, append, undo, value) ===== -/
theorem upR_id (R : Nat → Nat → Int64) (r : Nat) : q_upR R r (R r) = R := by
  funext k
  unfold q_upR
  by_cases z : k = r
  · rw [if_pos z, z]
  · rw [if_neg z]
theorem upR_up (R : Nat → Nat → Int64) (r : Nat) (f g : Nat → Int64) : q_upR (q_upR R r f) r g = q_upR R r g := by
  funext k
  unfold q_upR
  by_cases z : k = r
  · rw [if_pos z, if_pos z]
  · rw [if_neg z, if_neg z, if_neg z]
theorem upR_at (R : Nat → Nat → Int64) (r : Nat) (f : Nat → Int64) : q_upR R r f r = f := if_pos rfl
theorem cs_set2 {R : Nat → Nat → Int64} {q : Nat × Int32 × Int32} {r : Nat} {f : Nat → Int64} {s : Nat → Int32} (h : cs (q_upR R r f, q) s) {i : Nat} (hr : r < 8) (hi : i < 8) {t : Int32} (ht : q_hvs t) : cs (q_upR R r (vp_updL f i t.toInt64), q) (upd s (8 * r + i) t) := by
  have : cs (q_upR (q_upR R r f) r (vp_updL (q_upR R r f r) i t.toInt64), q) (upd s (8 * r + i) t) := cs_set h hr hi ht
  rw [upR_up, upR_at] at this
  exact this
theorem cs_four {st : og_SD} {s : Nat → Int32} (h : cs st s) {r K : Nat} (hr : r < 8) (hK : K < 5) {a b c e : Int32} (ha : q_hvs a) (hb : q_hvs b) (hc : q_hvs c) (he : q_hvs e) : cs (q_upR st.1 r (q_four4 (st.1 r) K a b c e), st.2) (m_f4 s (8 * r + K) a b c e) := by
  have h0 : cs (q_upR st.1 r (st.1 r), st.2) s := by
    rw [upR_id]
    exact h
  exact cs_set2 (i := K + 3) (cs_set2 (i := K + 2) (cs_set2 (i := K + 1) (cs_set2 (i := K) h0 hr (by omega) ha) hr (by omega) hb) hr (by omega) hc) hr (by omega) he
theorem cs_undo {D : q_D} {M : q_M} (c : cp D M) {k : Nat} (h : d_sc D = k + 1) : cp (d_wSt (d_wSc D k) (d_S D ((k + d_rot D) % 4))) (m_wS (m_wO M k (m_ty M) 0 (m_la M) (m_un M) (m_ls M) (m_dp M) (m_wl M) (m_ct M)) (q_bk (m_s M) (m_p M) k 67)) := by
  obtain ⟨c1, c2, c3, c4, c5, c6, c7, c8, c9⟩ := c
  refine ⟨cs_congr (c4 k (by omega)) fun i hi => if_pos hi, rfl, by show k ≤ 4; omega, fun j hj => ?_, c5, c6, c7, c8, c9⟩
  have hj : j < k := hj
  exact c4 j (by omega)
theorem nar_nI : ∀ k, k < 128 → vp_nar .byte (nI k).toInt8.toInt32 = nI k := by decide +kernel
theorem cp_app {D : q_D} {M : q_M} (c : cp D M) {k : Nat} (hk : k < 128) (hL : d_tl D < 100) : cp (d_wTx (d_wTb D (upd (d_tb D) (d_tl D) (vp_nar .byte (nI k).toInt8.toInt32))) (d_tl D + 1) (d_td D)) (m_wO (m_wT M (upd (m_t M) (m_ty M) (nI k))) (m_ps M) (m_ty M + 1) 0 (m_la M) (m_un M) (m_ls M) (m_dp M) (m_wl M) (m_ct M)) := by
  obtain ⟨c1, c2, c3, c4, c5, c6, c7, c8, c9⟩ := c
  refine ⟨c1, c2, c3, c4, fun i hi => ?_, congrArg (· + 1) c6, by show d_tl D + 1 ≤ 100; omega, c8, c9⟩
  have hi : i < d_tl D + 1 := hi
  show (if i = m_ty M then nI k else m_t M i) = (if i = d_tl D then vp_nar .byte (nI k).toInt8.toInt32 else d_tb D i)
  rw [nar_nI k hk, c6]
  by_cases z : i = d_tl D
  · rw [if_pos z, if_pos z]
  · rw [if_neg z, if_neg z, c5 i (by omega)]
theorem many_c {P Q : Nat → Prop} : ∀ n, (∀ k, k < n → (P k ↔ Q k)) → q_many P n = q_many Q n
  | 0, _ => rfl
  | n + 1, h => by
    have ih := many_c n (fun k hk => h k (by omega))
    by_cases z : P n
    · rw [q_many_t P z, q_many_t Q ((h n (by omega)).mp z), ih]
    · rw [q_many_f P z, q_many_f Q (fun y => z ((h n (by omega)).mpr y)), ih]
theorem cp.u {D : q_D} {M : q_M} (c : cp D M) : m_uok M := c.2.2.2.2.2.2.2.1
theorem cp_lay {D : q_D} {M : q_M} (c : cp D M) {o : Nat} {un : Int32} {U : Nat → Int32} (ho : o < 8) (l : m_lay o (m_wUn (m_wRf M 0) (nI o) un U)) : cp D (m_wUn (m_wRf M 0) (nI o) un U) := by
  obtain ⟨c1, c2, c3, c4, c5, c6, c7, c8, c9⟩ := c
  exact ⟨c1, c2, c3, c4, c5, c6, c7, Or.inr ⟨o, ho, l⟩, c9⟩
theorem z_val {D : q_D} {M : q_M} (c : cp D M) : ∀ k, k < 6 → q_val D k = m_val M (d_o D) k := by
  intro k hk
  rcases (show k = 0 ∨ k = 1 ∨ k = 2 ∨ k = 3 ∨ k = 4 ∨ k = 5 by omega) with rfl | rfl | rfl | rfl | rfl | rfl
  · rfl
  · rfl
  · exact c.1.2.2.2.1.symm
  · exact c.1.2.2.2.2.symm
  · show nI (q_many (fun r => q_al (d_o D) (d_R D r)) 8) = nI (q_many (fun r => q_inP (m_R M r) (d_o D)) 8)
    rw [many_c 8 fun r hr => zalin c.o.2 (c.row hr)]
  · show nI (q_many (fun r => q_zr (d_R D r)) 8) = nI (q_many (fun r => q_inner (m_R M r) (m_R M r) 8 = 0) 8)
    rw [many_c 8 fun r hr => (zzrE (c.row hr)).trans (zzr (c.1.ok hr))]
set_option maxRecDepth 4000 in
theorem P_setFour (E : og_E) (d n : Nat) (h : og_H) (x u a b c e : Int32) {D : q_D} {M : q_M} {f : Nat → Int64} (W : zW n h D M) (h123 : h 123 = some (row1 f)) :
    og_M E yL_setFour (.codeWith yL_setFour cL_setFour 9 (some .int) [(0, 17, 20, 13), (0, 17, 24, 15)]) (d + 3 + 1) [.ref 3, .int x, .int u, .int a, .int b, .int c, .int e, .ref 123] n h 5 30 (zLo n h (zMl E yX8_setFour (.code yX8_setFour cX8_setFour 9 (some .long)) 2 [.ref 101, .int x, .int u, .int a, .int b, .int c, .int e])) no_x := by
  refine og_M.mono (c_L_setFour E (d + 3) n h x u a b c e W.1.d3 (c_X7_setFour E d n h x u a b c e W.1) (fun v n1 h1 z => ?_) (fun En n1 h1 z => ?_)) (fun v n1 h1 z => ?_) (fun _ _ _ z => z)
  · obtain ⟨r, hr, ex, ha, hb, hc, he, hv, w⟩ := z
    exact ⟨⟨_, hv⟩, f, (zW_ex W w).2.2.2.1.trans h123⟩
  · have z := z.2
    exact z.elim (fun q => Or.inl q.1) (fun q => Or.inr q.1)
  · rcases z with ⟨r0, h2, f2, ⟨r, hr, ex, ha, hb, hc, he, hv, w⟩, h2f, rfl, rfl⟩ | ⟨z, rfl⟩ | ⟨z, rfl⟩
    · cases hv
      obtain ⟨w1, w2, w3, w4⟩ := zW_ok W w (row1 (vp_updL f2 0 _))
      refine ⟨0, _, rfl, w4, og_set_eq _ _ _, w3, ⟨_, w2.m⟩, fun d2 => og_M.mono (c_X8_setFour E d2 n1 _ x u a b c e w2) (fun v nn h3 z => ?_) (fun _ _ _ z => z)⟩
      obtain ⟨rfl, z⟩ := z
      refine ⟨rfl, ?_⟩
      rcases z with ⟨q, -⟩ | ⟨-, q, -⟩ | ⟨r9, hr9, ex9, -, -, -, -, hv9, w9⟩
      · exact absurd ⟨r, hr, ex⟩ q
      · exact absurd ⟨ha, hb, hc, he⟩ q
      · obtain rfl := zI8 (by omega) (by omega) (ex.symm.trans ex9)
        have hcs := cs_four W.2.2.1 hr (show (if u = 0 then 0 else 4) < 5 by split <;> omega) ha hb hc he
        refine ⟨_, _, _, hv9, zW_fin w1 w9 (cp_reg W.2.2 hcs), rf_save _ _, fun _ => ?_⟩
        have e1 : zE (q_upR (d_st D).1 r (q_four4 (d_R D r) (if u = 0 then 0 else 4) a b c e) r) _ := hcs.row hr
        rw [upR_at] at e1
        rw [← zinnE e1 e1 8 (Nat.le_refl 8)]
        exact if_pos rfl
    · have hn := z.2.elim (fun q => q.2) (fun q => absurd q.1 q_io_ia)
      have w := z.1
      clear z
      obtain ⟨w1, w2, w3, w4, w5⟩ := zW_ex W w
      refine ⟨1, f, rfl, w5, w4.trans h123, w3, ⟨_, w2.m⟩, fun d2 => og_M.mono (c_X8_setFour E d2 n1 _ x u a b c e w2) (fun v nn h3 z => ?_) (fun _ _ _ z => z)⟩
      obtain ⟨rfl, z⟩ := z
      refine ⟨rfl, ?_⟩
      rcases z with ⟨-, hv9, w9⟩ | ⟨q, -⟩ | ⟨r9, hr9, ex9, -⟩
      · exact ⟨_, _, _, hv9, zW_fin w1 w9 W.2.2, rfl, fun q => absurd q (by decide)⟩
      · exact absurd q hn
      · exact absurd ⟨r9, hr9, ex9⟩ hn
    · have hn := z.2.elim (fun q => absurd q.1.symm q_io_ia) (fun q => q.2)
      have w := z.1
      clear z
      obtain ⟨w1, w2, w3, w4, w5⟩ := zW_ex W w
      refine ⟨2, f, rfl, w5, w4.trans h123, w3, ⟨_, w2.m⟩, fun d2 => og_M.mono (c_X8_setFour E d2 n1 _ x u a b c e w2) (fun v nn h3 z => ?_) (fun _ _ _ z => z)⟩
      obtain ⟨rfl, z⟩ := z
      refine ⟨rfl, ?_⟩
      rcases z with ⟨q, -⟩ | ⟨-, -, hv9, w9⟩ | ⟨r9, hr9, ex9, ha, hb, hc, he, -⟩
      · exact absurd hn.1 q
      · exact ⟨_, _, _, hv9, zW_fin w1 w9 W.2.2, rfl, fun q => absurd q (by decide)⟩
      · exact absurd ⟨ha, hb, hc, he⟩ hn.2

set_option maxRecDepth 4000 in
theorem P_append (E : og_E) (d n : Nat) (h : og_H) (x : Int32) {D : q_D} {M : q_M} {f : Nat → Int64} (W : zW n h D M) (h123 : h 123 = some (row1 f)) :
    og_M E yL_append (.codeWith yL_append cL_append 4 (some .int) [(0, 9, 12, 15), (0, 9, 15, 52)]) (d + 1 + 1) [.ref 3, .int x, .ref 123] n h 1 6 (zLo n h (zMi E yX8_append (.code yX8_append cX8_append 2 (some .int)) 1 [.ref 101, .int x])) no_x := by
  refine og_M.mono (c_L_append E (d + 1) n h x W.1.d3 (c_X7_append E d n h x W.1) (fun v n1 h1 z => ?_) (fun En n1 h1 z => ?_)) (fun v n1 h1 z => ?_) (fun _ _ _ z => z)
  · obtain ⟨k, hk, ex, hL, hv, w⟩ := z
    exact ⟨⟨_, hv⟩, f, (zW_ex W w).2.2.2.1.trans h123⟩
  · have z := z.2
    exact z.elim (fun q => Or.inl q.1) (fun q => Or.inr q.1)
  · rcases z with ⟨r0, h2, f2, ⟨k, hk, ex, hL, hv, w⟩, h2f, rfl, rfl⟩ | ⟨z, rfl⟩ | ⟨z, rfl⟩
    · cases hv
      obtain ⟨w1, w2, w3, w4⟩ := zW_ok W w (row1 (vp_updL f2 0 _))
      refine ⟨0, _, rfl, w4, og_set_eq _ _ _, w3, ⟨_, w2.m⟩, fun d2 => og_M.mono (c_X8_append E d2 n1 _ x w2) (fun v nn h3 z => ?_) (fun _ _ _ z => z)⟩
      obtain ⟨rfl, z⟩ := z
      refine ⟨rfl, ?_⟩
      rcases z with ⟨q, -⟩ | ⟨-, q, -⟩ | ⟨k9, hk9, ex9, -, hv9, w9⟩
      · exact absurd ⟨k, hk, ex⟩ q
      · exact absurd (q.symm.trans W.2.2.2.2.2.2.2.1) (by omega)
      · obtain rfl := zI8 (by omega) (by omega) (ex.symm.trans ex9)
        refine ⟨_, _, _, hv9, zW_fin w1 w9 (cp_app W.2.2 hk hL), rfl, fun _ => ?_⟩
        rw [W.2.2.2.2.2.2.2.1]
        exact if_pos rfl
    · have hn := z.2.elim (fun q => q.2) (fun q => absurd q.1 q_ia_ist)
      have w := z.1
      clear z
      obtain ⟨w1, w2, w3, w4, w5⟩ := zW_ex W w
      refine ⟨1, f, rfl, w5, w4.trans h123, w3, ⟨_, w2.m⟩, fun d2 => og_M.mono (c_X8_append E d2 n1 _ x w2) (fun v nn h3 z => ?_) (fun _ _ _ z => z)⟩
      obtain ⟨rfl, z⟩ := z
      refine ⟨rfl, ?_⟩
      rcases z with ⟨-, hv9, w9⟩ | ⟨q, -⟩ | ⟨k9, hk9, ex9, -⟩
      · exact ⟨_, _, _, hv9, zW_fin w1 w9 W.2.2, rfl, fun q => absurd q (by decide)⟩
      · exact absurd q hn
      · exact absurd ⟨k9, hk9, ex9⟩ hn
    · have hn := z.2.elim (fun q => absurd q.1.symm q_ia_ist) (fun q => q.2)
      have w := z.1
      clear z
      obtain ⟨w1, w2, w3, w4, w5⟩ := zW_ex W w
      refine ⟨2, f, rfl, w5, w4.trans h123, w3, ⟨_, w2.m⟩, fun d2 => og_M.mono (c_X8_append E d2 n1 _ x w2) (fun v nn h3 z => ?_) (fun _ _ _ z => z)⟩
      obtain ⟨rfl, z⟩ := z
      refine ⟨rfl, ?_⟩
      rcases z with ⟨q, -⟩ | ⟨-, -, hv9, w9⟩ | ⟨k9, hk9, ex9, q, -⟩
      · exact absurd hn.1 q
      · exact ⟨_, _, _, hv9, zW_fin w1 w9 W.2.2, rfl, fun q => absurd q (by decide)⟩
      · rw [W.2.2.2.2.2.2.2.1, hn.2] at q
        omega

set_option maxRecDepth 4000 in
theorem P_undo (E : og_E) (d n : Nat) (h : og_H) {D : q_D} {M : q_M} {f : Nat → Int64} (W : zW n h D M) (h123 : h 123 = some (row1 f)) :
    og_M E yL_undo (.codeWith yL_undo cL_undo 3 (some .int) [(0, 8, 11, 52)]) (d + 2 + 1) [.ref 3, .ref 123] n h 1 6 (zLo n h (zMi E yX8_undo (.code yX8_undo cX8_undo 2 (some .int)) 1 [.ref 101])) no_x := by
  refine og_M.mono (c_L_undo E (d + 2) n h  W.1.d3 (c_X7_undo E d n h  W.1 W.2.2.2.2.2.2.2.2.2.2) (fun v n1 h1 z => ?_) (fun En n1 h1 z => ?_)) (fun v n1 h1 z => ?_) (fun _ _ _ z => z)
  · obtain ⟨k, hk, hv, w⟩ := z
    exact ⟨⟨_, hv⟩, f, (zW_ex W w).2.2.2.1.trans h123⟩
  · exact z.2.1
  · rcases z with ⟨r0, h2, f2, ⟨k, hk, hv, w⟩, h2f, rfl, rfl⟩ | ⟨z, rfl⟩
    · cases hv
      obtain ⟨w1, w2, w3, w4⟩ := zW_ok W w (row1 (vp_updL f2 0 _))
      refine ⟨0, _, rfl, w4, og_set_eq _ _ _, w3, ⟨_, w2.m⟩, fun d2 => og_M.mono (c_X8_undo E d2 n1 _  w2) (fun v nn h3 z => ?_) (fun _ _ _ z => z)⟩
      obtain ⟨rfl, z⟩ := z
      refine ⟨rfl, ?_⟩
      rcases z with ⟨q, -⟩ | ⟨k9, ek, hv9, w9⟩
      · rw [W.2.2.2.1, hk] at q
        omega
      · rw [W.2.2.2.1, hk] at ek
        obtain rfl : k = k9 := by omega
        exact ⟨_, _, _, hv9, zW_fin w1 w9 (cs_undo W.2.2 hk), rfl, fun _ => if_pos rfl⟩
    · obtain ⟨w, -, hn⟩ := z
      obtain ⟨w1, w2, w3, w4, w5⟩ := zW_ex W w
      refine ⟨1, f, rfl, w5, w4.trans h123, w3, ⟨_, w2.m⟩, fun d2 => og_M.mono (c_X8_undo E d2 n1 _  w2) (fun v nn h3 z => ?_) (fun _ _ _ z => z)⟩
      obtain ⟨rfl, z⟩ := z
      refine ⟨rfl, ?_⟩
      rcases z with ⟨-, hv9, w9⟩ | ⟨k9, ek, -⟩
      · exact ⟨_, _, _, hv9, zW_fin w1 w9 W.2.2, rfl, fun q => absurd q (by decide)⟩
      · rw [W.2.2.2.1, hn] at ek
        omega

set_option maxRecDepth 4000 in
theorem P_value (E : og_E) (d n : Nat) (h : og_H) (x : Int32) {D : q_D} {M : q_M} {f : Nat → Int64} (W : zW n h D M) (h123 : h 123 = some (row1 f)) :
    og_M E yL_value (.codeWith yL_value cL_value 4 (some .int) [(0, 9, 12, 15)]) (d + 5 + 1) [.ref 3, .int x, .ref 123] n h 1 6 (zLo n h (zMi E yX8_value (.code yX8_value cX8_value 2 (some .int)) 4 [.ref 101, .int x])) no_x := by
  refine og_M.mono (c_L_value E (d + 5) n h x W.1.d3 (c_X7_value E d n h x W.1) (fun v n1 h1 z => ?_) (fun En n1 h1 z => ?_)) (fun v n1 h1 z => ?_) (fun _ _ _ z => z)
  · obtain ⟨rfl, rfl, k, hk, ex, hv⟩ := z
    exact ⟨⟨_, hv⟩, f, h123⟩
  · exact z.2.1
  · rcases z with ⟨r0, h2, f2, ⟨rfl, rfl, k, hk, ex, hv⟩, h2f, rfl, rfl⟩ | ⟨z, rfl⟩
    · cases hv
      have w := W.1
      obtain ⟨w1, w2, w3, w4⟩ := zW_ok W w (row1 (vp_updL f2 0 _))
      refine ⟨0, _, rfl, w4, og_set_eq _ _ _, w3, ⟨_, w2.m⟩, fun d2 => og_M.mono (c_X8_value E d2 _ _ x w2 zHL W.2.2.u W.2.2.o.1 W.2.2.o.2) (fun v nn h3 z => ?_) (fun _ _ _ z => z)⟩
      obtain ⟨rfl, z⟩ := z
      refine ⟨rfl, ?_⟩
      rcases z with ⟨q, -⟩ | ⟨k9, un, U, hk9, ex9, w9, l9, hv9⟩
      · exact absurd ⟨k, hk, ex⟩ q
      · obtain rfl := zI8 (by omega) (by omega) (ex.symm.trans ex9)
        refine ⟨_, _, _, hv9, zW_fin w1 w9 (cp_lay W.2.2 W.2.2.o.2 l9), rfl, fun _ => ?_⟩
        rw [← z_val W.2.2 k hk]
        exact if_pos rfl
    · obtain ⟨w, -, hn⟩ := z
      obtain ⟨w1, w2, w3, w4, w5⟩ := zW_ex W w
      refine ⟨1, f, rfl, w5, w4.trans h123, w3, ⟨_, w2.m⟩, fun d2 => og_M.mono (c_X8_value E d2 _ _ x w2 zHL W.2.2.u W.2.2.o.1 W.2.2.o.2) (fun v nn h3 z => ?_) (fun _ _ _ z => z)⟩
      obtain ⟨rfl, z⟩ := z
      refine ⟨rfl, ?_⟩
      rcases z with ⟨-, hv9, w9⟩ | ⟨k9, un, U, hk9, ex9, -⟩
      · exact ⟨_, _, _, hv9, zW_fin w1 w9 W.2.2, rfl, fun q => absurd q (by decide)⟩
      · exact absurd ⟨k9, hk9, ex9⟩ hn

set_option maxRecDepth 4000 in
theorem P_commute (E : og_E) (d n : Nat) (h : og_H) (x y : Int32) {D : q_D} {M : q_M} {f : Nat → Int64} (W : zW n h D M) (h123 : h 123 = some (row1 f)) :
    og_M E yL_commute (.codeWith yL_commute cL_commute 5 (some .int) [(0, 17, 20, 13)]) (d + 1 + 1) [.ref 3, .int x, .int y, .ref 123] n h 2 12 (zLo n h (zMz E yX8_commute (.code yX8_commute cX8_commute 3 (some .boolean)) 3 [.ref 101, .int x, .int y])) no_x := by
  refine og_M.mono (c_L_commute E (d + 1) n h x y W.1.d3 (c_X7_commute E d n h x y W.1) (fun v n1 h1 z => ?_) (fun En n1 h1 z => ?_)) (fun v n1 h1 z => ?_) (fun _ _ _ z => z)
  · obtain ⟨w, i, j, hi, hj, ex, ey, hv⟩ := z
    exact ⟨hv.elim (fun q => ⟨_, q.1⟩) (fun q => ⟨_, q.1⟩), f, (zW_ex W w).2.2.2.1.trans h123⟩
  · exact z.2.1
  · rcases z with ⟨r0, h2, f2, ⟨w, i, j, hi, hj, ex, ey, hv⟩, h2f, rfl, rfl⟩ | ⟨z, rfl⟩
    · skip
      obtain ⟨w1, w2, w3, w4⟩ := zW_ok W w (row1 (vp_updL f2 0 _))
      refine ⟨0, _, rfl, w4, og_set_eq _ _ _, w3, ⟨_, w2.m⟩, fun d2 => og_M.mono (c_X8_commute E d2 n1 _ x y w2) (fun v nn h3 z => ?_) (fun _ _ _ z => z)⟩
      obtain ⟨rfl, z⟩ := z
      refine ⟨rfl, ?_⟩
      rcases z with ⟨a, -, -⟩ | ⟨i9, j9, hi9, hj9, ex9, ey9, w9, hv9⟩
      · exact absurd ⟨⟨i, hi, ex⟩, ⟨j, hj, ey⟩⟩ a
      · obtain rfl := zI8 (by omega) (by omega) (ex.symm.trans ex9)
        obtain rfl := zI8 (by omega) (by omega) (ey.symm.trans ey9)
        have hq := (zpar_congr (W.2.2.row hi) (W.2.2.row hj)).trans (zpar_c (W.2.2.1.ok hi) (W.2.2.1.ok hj))
        rcases hv with ⟨e, hp⟩ | ⟨e, hp⟩
        · rcases hv9 with ⟨hv9, -⟩ | ⟨hv9, hn⟩
          · cases e
            exact ⟨_, _, _, hv9, zW_fin w1 w9 W.2.2, rfl, fun _ => if_pos rfl⟩
          · exact absurd (hq.mp hp) hn
        · rcases hv9 with ⟨hv9, hn⟩ | ⟨hv9, -⟩
          · exact absurd (hq.mpr hn) hp
          · cases e
            exact ⟨_, _, _, hv9, zW_fin w1 w9 W.2.2, rfl, fun _ => if_pos rfl⟩
    · obtain ⟨w, -, hn⟩ := z
      obtain ⟨w1, w2, w3, w4, w5⟩ := zW_ex W w
      refine ⟨1, f, rfl, w5, w4.trans h123, w3, ⟨_, w2.m⟩, fun d2 => og_M.mono (c_X8_commute E d2 n1 _ x y w2) (fun v nn h3 z => ?_) (fun _ _ _ z => z)⟩
      obtain ⟨rfl, z⟩ := z
      refine ⟨rfl, ?_⟩
      rcases z with ⟨a, hv9, w9⟩ | ⟨i9, j9, hi9, hj9, ex9, ey9, -⟩
      · exact ⟨_, _, _, hv9, zW_fin w1 w9 W.2.2, rfl, fun q => absurd q (by decide)⟩
      · exact absurd ⟨⟨i9, hi9, ex9⟩, ⟨j9, hj9, ey9⟩⟩ hn
