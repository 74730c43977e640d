/-! ===== the law: one step, both sides (load, unitOf, commuting, left) ===== -/
theorem and7 (y : Int32) : 0 ≤ (y &&& 7).toInt ∧ (y &&& 7).toInt ≤ 7 := by
  have h : (y &&& 7).toBitVec.toNat ≤ 7 := by
    rw [Int32.toBitVec_and, BitVec.toNat_and]
    exact Nat.and_le_right
  have e : (y &&& 7).toInt = (y &&& 7).toBitVec.toInt := rfl
  rw [e, BitVec.toInt_eq_toNat_of_lt (by omega)]
  omega
theorem rd_b (x : Int32) (k : Nat) : -2 ≤ (q_read x k).toInt ∧ (q_read x k).toInt ≤ 5 := by
  unfold q_read
  rw [Int32.toInt_toInt64, Int32.toInt_sub, show (2 : Int32).toInt = 2 from rfl]
  obtain ⟨h1, h2⟩ := and7 (x >>> (((3 : Int32) * ((7 : Int32) - nI k)) &&& 31))
  rw [Int.bmod_eq_of_le (by omega) (by omega)]
  omega
theorem zok_of {f : Nat → Int64} (h : ∀ k, k < 8 → -2000 ≤ zi f k ∧ zi f k ≤ 2000) : zok f := by
  have b := fun k hk => (zsq (h k hk).1 (h k hk).2).2
  unfold zok zn
  have := b 0 (by omega); have := b 1 (by omega); have := b 2 (by omega); have := b 3 (by omega); have := b 4 (by omega); have := b 5 (by omega); have := b 6 (by omega); have := b 7 (by omega)
  omega
theorem zok_rd (x : Int32) : zok (q_read x) := zok_of fun k _ => by
  have := rd_b x k
  unfold zi
  omega
theorem cs_pt0 {st : og_SD} {s : Nat → Int32} (h : cs st s) {k : Nat} (hk : k < 8) {f : Nat → Int64} (hf : ∀ j, j < 8 → -2000 ≤ (f j).toInt ∧ (f j).toInt ≤ 2000) : cs (q_upR st.1 k f, st.2.1, st.2.2.1, st.2.2.2) (q_pt s f k) := by
  refine cs_put h hk (fun j hj => ?_) (fun j hj hn => if_neg (by omega)) ((if_neg (by omega)).trans h.2.2.2.1) ((if_neg (by omega)).trans h.2.2.2.2)
  have e1 : q_pt s f k (8 * k + j) = (f j).toInt32 := by
    unfold q_pt
    rw [if_pos (by omega), show 8 * k + j - 8 * k = j by omega]
  rw [e1]
  exact ⟨rfl, hf j hj⟩
theorem cp_wUn {D : q_D} {M : q_M} (c : cp D M) (g : Nat → Option Nat) : cp (d_wUn D g) M := c
theorem cp_lay0 {D : q_D} {M : q_M} (c : cp D M) {o : Nat} {un : Int32} {U : Nat → Int32} (ho : o < 8) (l : m_lay o (m_wUn M (nI o) un U)) : cp D (m_wUn M (nI o) un U) := by
  obtain ⟨c1, c2, c3, c4, c5, c6, c7, c8, c9⟩ := c
  exact ⟨c1, c2, c3, c4, c5, c6, c7, Or.inr ⟨o, ho, l⟩, c9⟩
theorem z_eqU {D : q_D} {M : q_M} (c : cp D M) {r u : Nat} (hr : r < 8) (hu : u < q_cnt (d_o D)) : q_eqU (d_o D) (m_s M) r u ↔ (q_inner (d_R D r) (d_R D r) 8 = 4 ∧ q_uc (d_o D) u = q_code (d_R D r) 8) := by
  rw [zun_iff c.o.2 hu (c.1.okd hr)]
  constructor
  · intro h k hk
    have e := congrArg Int32.toInt64 (h k hk)
    rw [q_read_i] at e
    rw [e]
    exact (c.row hr k hk).symm
  · intro h k hk
    rw [h k hk]
    exact (c.at hr hk).symm
theorem z_uat {D : q_D} {M : q_M} (c : cp D M) {r : Nat} (hr : r < 8) {v : Option Value} (h : q_uat (d_o D) (m_s M) r v) : v = some (.int (q_uno (d_o D) (d_R D r))) := by
  rcases h with ⟨u, h1, h2, h3, h4⟩ | ⟨h1, h2⟩
  · have e := (z_eqU c hr h1).mp h2
    rw [q_uno_1 e.1 h1 e.2 (fun j hj q => h3 j hj ((z_eqU c hr (by omega)).mpr ⟨e.1, q⟩))]
    exact h4
  · rw [q_uno_0]
    · exact h2
    · by_cases z : q_inner (d_R D r) (d_R D r) 8 = 4
      · exact Or.inr fun j hj q => h1 j hj ((z_eqU c hr hj).mpr ⟨z, q⟩)
      · exact Or.inl z
theorem cnt_lt (o : Nat) : q_cnt o < 1000000 := by
  have := q_cnt_le o
  omega
set_option maxRecDepth 4000 in
theorem P_unitOf (E : og_E) (d n : Nat) (h : og_H) (x : Int32) {D : q_D} {M : q_M} {f : Nat → Int64} (W : zW n h D M) (h123 : h 123 = some (row1 f)) :
    og_M E yL_unitOf (.codeWith yL_unitOf cL_unitOf 4 (some .int) [(0, 9, 12, 13)]) (d + 5 + 1) [.ref 3, .int x, .ref 123] n h 4 256 (zLo n h (zMi E yX8_unitOf (.code yX8_unitOf cX8_unitOf 2 (some .int)) 4 [.ref 101, .int x])) no_x := by
  refine og_M.mono (c_L_unitOf E (d + 5) n h x W.1.d3 (c_X7_unitOf E d n h x W.1) (fun v n1 h1 z => ?_) (fun En n1 h1 z => ?_)) (fun v n1 h1 z => ?_) (fun _ _ _ z => z)
  · obtain ⟨r, g, hr, ex, hv, -, w⟩ := z
    exact ⟨⟨_, hv⟩, f, (zW_ex W w).2.2.2.1.trans h123⟩
  · exact z.2.1
  · rcases z with ⟨r0, h2, f2, ⟨r, g, hr, ex, hv, -, w⟩, h2f, rfl, rfl⟩ | ⟨z, rfl⟩
    · cases hv
      obtain ⟨w1, w2, w3, w4⟩ := zW_ok W w (row1 (vp_updL f2 0 _))
      refine ⟨0, _, rfl, w4, og_set_eq _ _ _, w3, ⟨_, w2.m⟩, fun d2 => og_M.mono (c_X8_unitOf E d2 n1 _ x w2 zHL W.2.2.u W.2.2.o.1 W.2.2.o.2) (fun v nn h3 z => ?_) (fun _ _ _ z => z)⟩
      obtain ⟨rfl, z⟩ := z
      refine ⟨rfl, ?_⟩
      rcases z with ⟨q, -⟩ | ⟨r9, hr9, ex9, un, U, w9, l9, hv9⟩
      · exact absurd ⟨r, hr, ex⟩ q
      · obtain rfl := zI8 (by omega) (by omega) (ex.symm.trans ex9)
        exact ⟨_, _, _, z_uat W.2.2 hr hv9, zW_fin w1 w9 (cp_wUn (cp_lay W.2.2 W.2.2.o.2 l9) g), rfl, fun _ => if_pos rfl⟩
    · obtain ⟨w, -, hn⟩ := z
      obtain ⟨w1, w2, w3, w4, w5⟩ := zW_ex W w
      refine ⟨1, f, rfl, w5, w4.trans h123, w3, ⟨_, w2.m⟩, fun d2 => og_M.mono (c_X8_unitOf E d2 n1 _ x w2 zHL W.2.2.u W.2.2.o.1 W.2.2.o.2) (fun v nn h3 z => ?_) (fun _ _ _ z => z)⟩
      obtain ⟨rfl, z⟩ := z
      refine ⟨rfl, ?_⟩
      rcases z with ⟨-, hv9, w9⟩ | ⟨r9, hr9, ex9, -⟩
      · exact ⟨_, _, _, hv9, zW_fin w1 w9 W.2.2, rfl, fun q => absurd q (by decide)⟩
      · exact absurd ⟨r9, hr9, ex9⟩ hn

set_option maxRecDepth 4000 in
theorem P_commuting (E : og_E) (d n : Nat) (h : og_H) (x : Int32) {D : q_D} {M : q_M} {f : Nat → Int64} (W : zW n h D M) (h123 : h 123 = some (row1 f)) :
    og_M E yL_commuting (.codeWith yL_commuting cL_commuting 4 (some .int) [(0, 9, 12, 13)]) (d + 5 + 1) [.ref 3, .int x, .ref 123] n h 4 256 (zLo n h (zMi E yX8_commuting (.code yX8_commuting cX8_commuting 6 (some .int)) 3 [.ref 101, .int x])) no_x := by
  refine og_M.mono (c_L_commuting E (d + 5) n h x W.1.d3 (c_X7_commuting E d n h x W.1) (fun v n1 h1 z => ?_) (fun En n1 h1 z => ?_)) (fun v n1 h1 z => ?_) (fun _ _ _ z => z)
  · obtain ⟨r, g, hr, ex, hv, w⟩ := z
    exact ⟨⟨_, hv⟩, f, (zW_ex W w).2.2.2.1.trans h123⟩
  · exact z.2.1
  · rcases z with ⟨r0, h2, f2, ⟨r, g, hr, ex, hv, w⟩, h2f, rfl, rfl⟩ | ⟨z, rfl⟩
    · cases hv
      obtain ⟨w1, w2, w3, w4⟩ := zW_ok W w (row1 (vp_updL f2 0 _))
      refine ⟨0, _, rfl, w4, og_set_eq _ _ _, w3, ⟨_, w2.m⟩, fun d2 => og_M.mono (c_X8_commuting E d2 n1 _ x w2 zHL W.2.2.u W.2.2.o.1 W.2.2.o.2) (fun v nn h3 z => ?_) (fun _ _ _ z => z)⟩
      obtain ⟨rfl, z⟩ := z
      refine ⟨rfl, ?_⟩
      rcases z with ⟨q, -⟩ | ⟨r9, hr9, ex9, un, U, w9, l9, hv9⟩
      · exact absurd ⟨r, hr, ex⟩ q
      · obtain rfl := zI8 (by omega) (by omega) (ex.symm.trans ex9)
        refine ⟨_, _, _, hv9, zW_fin w1 w9 (cp_wUn (cp_lay W.2.2 W.2.2.o.2 l9) g), rfl, fun _ => ?_⟩
        rw [← many_c (q_cnt (d_o D)) (P := fun k => q_par (q_read (q_uc (d_o D) k)) (d_R D r)) fun u hu => (zpar_congr (fun _ _ => rfl) (W.2.2.row hr)).trans ((zpar_m (zok_rd _) (W.2.2.1.ok hr)).trans ⟨fun q k hk => (q k hk).symm, fun q k hk => (q k hk).symm⟩)]
        exact if_pos rfl
    · obtain ⟨w, -, hn⟩ := z
      obtain ⟨w1, w2, w3, w4, w5⟩ := zW_ex W w
      refine ⟨1, f, rfl, w5, w4.trans h123, w3, ⟨_, w2.m⟩, fun d2 => og_M.mono (c_X8_commuting E d2 n1 _ x w2 zHL W.2.2.u W.2.2.o.1 W.2.2.o.2) (fun v nn h3 z => ?_) (fun _ _ _ z => z)⟩
      obtain ⟨rfl, z⟩ := z
      refine ⟨rfl, ?_⟩
      rcases z with ⟨-, hv9, w9⟩ | ⟨r9, hr9, ex9, -⟩
      · exact ⟨_, _, _, hv9, zW_fin w1 w9 W.2.2, rfl, fun q => absurd q (by decide)⟩
      · exact absurd ⟨r9, hr9, ex9⟩ hn

set_option maxRecDepth 4000 in
theorem P_load (E : og_E) (d n : Nat) (h : og_H) (x y : Int32) {D : q_D} {M : q_M} {f : Nat → Int64} (W : zW n h D M) (h123 : h 123 = some (row1 f)) :
    og_M E yL_load (.codeWith yL_load cL_load 5 (some .int) [(0, 10, 13, 13)]) (d + 5 + 1) [.ref 3, .int x, .int y, .ref 123] n h 4 256 (zLo n h (zMi E yX8_load (.code yX8_load cX8_load 4 (some .int)) 3 [.ref 101, .int x, .int y])) no_x := by
  refine og_M.mono (c_L_load E (d + 5) n h x y W.1.d3 (c_X7_load E d n h x y W.1) (fun v n1 h1 z => ?_) (fun En n1 h1 z => ?_)) (fun v n1 h1 z => ?_) (fun _ _ _ z => z)
  · obtain ⟨k, r, g, hk, hr, ex, ey, hv, w⟩ := z
    exact ⟨⟨_, hv⟩, f, (zW_ex W w).2.2.2.1.trans h123⟩
  · exact z.2.1
  · rcases z with ⟨r0, h2, f2, ⟨k, r, g, hk, hr, ex, ey, hv, w⟩, h2f, rfl, rfl⟩ | ⟨z, rfl⟩
    · cases hv
      obtain ⟨w1, w2, w3, w4⟩ := zW_ok W w (row1 (vp_updL f2 0 _))
      refine ⟨0, _, rfl, w4, og_set_eq _ _ _, w3, ⟨_, w2.m⟩, fun d2 => og_M.mono (c_X8_load E d2 n1 _ x y w2 zHL W.2.2.u W.2.2.o.1 W.2.2.o.2) (fun v nn h3 z => ?_) (fun _ _ _ z => z)⟩
      obtain ⟨rfl, z⟩ := z
      refine ⟨rfl, ?_⟩
      obtain ⟨un, U, l9, z⟩ := z
      have c9 := cp_lay0 W.2.2 W.2.2.o.2 l9
      rcases z with ⟨q, -⟩ | ⟨k9, r9, hk9, hr9, ex9, ey9, hv9, w9⟩
      · exact absurd ⟨⟨k, hk, ex⟩, ⟨r, hr, ey⟩⟩ q
      · have hc := cnt_lt (d_o D)
        obtain rfl := zI8 (by omega) (by omega) (ex.symm.trans ex9)
        obtain rfl := zI8 (by omega) (by omega) (ey.symm.trans ey9)
        have hcs := cs_pt0 W.2.2.1 hr (f := q_read (q_uc (d_o D) k)) (fun j _ => by
          have := rd_b (q_uc (d_o D) k) j
          omega)
        exact ⟨_, _, _, hv9, zW_fin w1 w9 (cp_reg c9 hcs), rf_save _ _, fun _ => if_pos rfl⟩
    · obtain ⟨w, -, hn⟩ := z
      obtain ⟨w1, w2, w3, w4, w5⟩ := zW_ex W w
      refine ⟨1, f, rfl, w5, w4.trans h123, w3, ⟨_, w2.m⟩, fun d2 => og_M.mono (c_X8_load E d2 n1 _ x y w2 zHL W.2.2.u W.2.2.o.1 W.2.2.o.2) (fun v nn h3 z => ?_) (fun _ _ _ z => z)⟩
      obtain ⟨rfl, z⟩ := z
      refine ⟨rfl, ?_⟩
      obtain ⟨un, U, l9, z⟩ := z
      rcases z with ⟨-, hv9, w9⟩ | ⟨k9, r9, hk9, hr9, ex9, ey9, -⟩
      · exact ⟨_, _, _, hv9, zW_fin w1 w9 (cp_lay0 W.2.2 W.2.2.o.2 l9), rfl, fun q => absurd q (by decide)⟩
      · exact absurd ⟨⟨k9, hk9, ex9⟩, ⟨r9, hr9, ey9⟩⟩ hn
