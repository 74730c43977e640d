/-! ===== the law: what the calls that change the desk do ===== -/
def y_wm (L : Nat) (xs : Nat → Int32) (n : Nat) (h : og_H) (D : q_D) (R g : Nat → Int32) : Prop := og_DK h n n h D ∧ h 101 = some (rowI 64 y_T) ∧ h 102 = some (rowI 3 g) ∧ h 103 = some (rowI 64 R) ∧ h 0 = some (rowI L xs)
section WM
variable {L : Nat} {xs : Nat → Int32} {n n1 : Nat} {h h1 : og_H} {D D1 : q_D} {R g R1 g1 : Nat → Int32}
theorem y_wl.m (w : y_wl L xs n h D R g) : y_wm L xs n h D R g := ⟨w.1, w.2.1, w.2.2.1, w.2.2.2.1, w.2.2.2.2.1⟩
theorem y_wm.l (w : y_wm L xs n h D R g) (c : y_cp D R g) : y_wl L xs n h D R g := ⟨w.1, w.2.1, w.2.2.1, w.2.2.2.1, w.2.2.2.2, c⟩
theorem y_wm.nn (w : y_wm L xs n h D R g) : 104 ≤ n := w.1.nn.1
theorem y_wm.ext (w : y_wm L xs n h D R g) (hn : n ≤ n1) (hk : ∀ a, a < n → h1 a = h a) : y_wm L xs n1 h1 D R g := by
  have h104 := w.nn
  exact ⟨((w.1.mod fun a a1 _ _ => hk a a1).more hn).mod fun _ _ _ _ => rfl, (hk _ (by omega)).trans w.2.1, (hk _ (by omega)).trans w.2.2.1, (hk _ (by omega)).trans w.2.2.2.1, (hk _ (by omega)).trans w.2.2.2.2⟩
theorem y_wm.call (w : y_wm L xs n h D R g) (k : og_DK h n n1 h1 D1) : y_wm L xs n1 h1 D1 R g := by
  have h104 := w.nn
  exact ⟨k.mod fun _ _ _ _ => rfl, (k.fr _ (by omega) (by omega)).trans w.2.1, (k.fr _ (by omega) (by omega)).trans w.2.2.1, (k.fr _ (by omega) (by omega)).trans w.2.2.2.1, (k.fr _ (by omega) (by omega)).trans w.2.2.2.2⟩
theorem y_wm.wR (w : y_wm L xs n h D R g) (R1 : Nat → Int32) : y_wm L xs n (og_set h 103 (rowI 64 R1)) D R1 g :=
  ⟨w.1.mod fun a _ _ ha => og_set_ne _ _ (by omega), (og_set_ne _ _ (by omega)).trans w.2.1, (og_set_ne _ _ (by omega)).trans w.2.2.1, og_set_eq _ _ _, (og_set_ne _ _ (by omega)).trans w.2.2.2.2⟩
theorem y_wm.wg (w : y_wm L xs n h D R g) (g1 : Nat → Int32) : y_wm L xs n (og_set h 102 (rowI 3 g1)) D R g1 :=
  ⟨w.1.mod fun a _ _ ha => og_set_ne _ _ (by omega), (og_set_ne _ _ (by omega)).trans w.2.1, og_set_eq _ _ _, (og_set_ne _ _ (by omega)).trans w.2.2.2.1, (og_set_ne _ _ (by omega)).trans w.2.2.2.2⟩
theorem y_cp.put {r : Nat} {f : Nat → Int64} (w : y_cp D R g) (hD : (d_st D1).1 = q_upR (d_st D).1 r f) (h0 : g1 0 = nI (d_o D1)) (h1 : g1 1 = (d_st D1).2.2.1) (h2 : g1 2 = (d_st D1).2.2.2) (hR : ∀ i k, i < 8 → k < 8 → i ≠ r → R1 (8 * i + k) = R (8 * i + k)) (hf : ∀ k, k < 8 → R1 (8 * r + k) = (f k).toInt32 ∧ -2000 ≤ (f k).toInt ∧ (f k).toInt ≤ 2000) : y_cp D1 R1 g1 := by
  refine ⟨fun i hi k hk => ?_, h0, h1, h2⟩
  have e : d_R D1 i = q_upR (d_st D).1 r f i := congrFun hD i
  rw [e]
  unfold q_upR
  by_cases q : i = r
  · rw [if_pos q, q]
    exact hf k hk
  · rw [if_neg q, hR i k hi hk q]
    exact w.1 i hi k hk
theorem y_hall {p : Int64} {f : Nat → Int64} : (∀ j, j < 8 → y_okp p (f j)) ↔ q_hall p f := ⟨fun q j hj => ⟨(q j hj).1, (q j hj).2.2, (q j hj).2.1⟩, fun q j hj => ⟨(q j hj).1, (q j hj).2.2, (q j hj).2.1⟩⟩
theorem y_hall_b {p : Int64} {f : Nat → Int64} (q : q_hall p f) : ∀ j, j < 8 → -2000 ≤ (q_dv p f j).toInt ∧ (q_dv p f j).toInt ≤ 2000 := fun j hj => by
  obtain ⟨_, a, b⟩ := q j hj
  have a1 : ¬ (f j / p).toInt < -2000 := fun z => a (zlt.mpr z)
  have b1 : ¬ 2000 < (f j / p).toInt := fun z => b (zlt.mpr z)
  show -2000 ≤ (f j / p).toInt ∧ (f j / p).toInt ≤ 2000
  omega
/-- what fits is put into the law's row and into the desk's register alike -/
theorem y_cp.fit {r : Nat} {F G : Nat → Int64} {t : Nat} {p : Int64} (w : y_cp D R g) (ht : t < 3) (hp : p.toInt = 2 ^ t) (hr : r < 8) (hFG : zE F G) (hfit : q_fitx (nI t) F) (hD : (d_st D1).1 = q_upR (d_st D).1 r (q_fv (nI t) F)) (h0 : g1 0 = nI (d_o D1)) (h1 : g1 1 = (d_st D1).2.2.1) (h2 : g1 2 = (d_st D1).2.2.2) : y_cp D1 (y_pt R r G p 8) g1 := by
  obtain ⟨f1, f2⟩ := zfit t ht p hp hFG
  have hb := y_hall_b (f1.mp hfit)
  refine w.put hD h0 h1 h2 (fun i k hi hk q => ?_) (fun k hk => ?_)
  · exact if_neg (by omega)
  · rw [f2 hfit k hk]
    refine ⟨?_, hb k hk⟩
    show (if 8 * r ≤ 8 * r + k ∧ 8 * r + k < 8 * r + 8 then (G (8 * r + k - 8 * r) / p).toInt32 else R (8 * r + k)) = _
    rw [if_pos (by omega), Nat.add_sub_cancel_left]
    rfl
theorem y_row_pt {r : Nat} {F G : Nat → Int64} {t : Nat} {p : Int64} (ht : t < 3) (hp : p.toInt = 2 ^ t) (hFG : zE F G) (hfit : q_fitx (nI t) F) : zE (y_row (y_pt R r G p 8) r) (q_fv (nI t) F) := fun k hk => by
  obtain ⟨f1, f2⟩ := zfit t ht p hp hFG
  have hb := y_hall_b (f1.mp hfit) k hk
  rw [f2 hfit k hk]
  unfold y_row
  show (if 8 * r ≤ 8 * r + k ∧ 8 * r + k < 8 * r + 8 then (G (8 * r + k - 8 * r) / p).toInt32 else R (8 * r + k)).toInt64 = _
  rw [if_pos (by omega), Nat.add_sub_cancel_left]
  exact zt3264 (x := q_dv p G k) (by omega) (by omega)
end WM
section WR
variable {E : og_E} {d n L : Nat} {xs : Nat → Int32} {h : og_H} {D : q_D} {R g : Nat → Int32}
theorem l_row (W : y_wm L xs n h D R g) {r : Nat} (hr : r < 8) : og_M E yL_row (.code yL_row cL_row 4 (some (.array .long))) d [.ref 103, .int (nI r)] n h 1 8 (fun v n1 h1 => v = some (.ref n) ∧ n1 = n + 1 ∧ y_wm L xs (n + 1) h1 D R g ∧ (∀ a, a < n → h1 a = h a) ∧ h1 n = some (rowL (y_row R r))) no_x := by
  have h104 := W.nn
  refine og_M.mono (c_L_row E d n 103 r h R W.2.2.2.1 (by omega) (by omega) hr) (fun v n1 h1 q => ?_) (fun _ _ _ z => z)
  obtain ⟨q1, q2, q3⟩ := q
  have k : ∀ a, a < n → h1 a = h a := fun a ha => by rw [q3]; exact og_set_ne _ _ (by omega)
  exact ⟨q1, q2, W.ext (Nat.le_succ _) k, k, by rw [q3]; exact og_set_eq _ _ _⟩
theorem l_less (W : y_wm L xs n h D R g) {a b : Nat} {f k : Nat → Int64} (ha : h a = some (rowL f)) (hb : h b = some (rowL k)) (h3a : 3 ≤ a) (h3b : 3 ≤ b) (han : a < n) (hbn : b < n) : og_M E yL_less (.code yL_less cL_less 4 (some (.array .long))) d [.ref a, .ref b] n h 1 8 (fun v n1 h1 => v = some (.ref n) ∧ n1 = n + 1 ∧ y_wm L xs (n + 1) h1 D R g ∧ (∀ a, a < n → h1 a = h a) ∧ h1 n = some (rowL (y_less f k))) no_x := by
  refine og_M.mono (c_L_less E d n a b h f k ha hb h3a h3b han hbn) (fun v n1 h1 q => ?_) (fun _ _ _ z => z)
  obtain ⟨q1, q2, q3⟩ := q
  have k : ∀ a, a < n → h1 a = h a := fun a ha => by rw [q3]; exact og_set_ne _ _ (by omega)
  exact ⟨q1, q2, W.ext (Nat.le_succ _) k, k, by rw [q3]; exact og_set_eq _ _ _⟩
theorem l_product (W : y_wm L xs n h D R g) {a b : Nat} {f k : Nat → Int64} (ha : h a = some (rowL f)) (hb : h b = some (rowL k)) (h3a : 3 ≤ a) (h3b : 3 ≤ b) (han : a < n) (hbn : b < n) : og_M E yL_product (.code yL_product cL_product 6 (some (.array .long))) d [.ref 101, .ref a, .ref b] n h 1 8 (fun v n1 h1 => v = some (.ref n) ∧ n1 = n + 1 ∧ y_wm L xs (n + 1) h1 D R g ∧ (∀ a, a < n → h1 a = h a) ∧ h1 n = some (rowL (q_prod f k))) no_x := by
  have h104 := W.nn
  refine og_M.mono (c_L_product E d n 101 a b h f k W.2.1 ha hb (by omega) h3a h3b (by omega) han hbn) (fun v n1 h1 q => ?_) (fun _ _ _ z => z)
  obtain ⟨q1, q2, q3⟩ := q
  have k : ∀ a, a < n → h1 a = h a := fun a ha => by rw [q3]; exact og_set_ne _ _ (by omega)
  exact ⟨q1, q2, W.ext (Nat.le_succ _) k, k, by rw [q3]; exact og_set_eq _ _ _⟩
/-- puts into the law's registers -/
theorem l_puts (W : y_wm L xs n h D R g) {r b : Nat} {f : Nat → Int64} {p : Int64} (hr : r < 8) (hb : h b = some (rowL f)) (hbn : 104 ≤ b) (hp : ¬ p = 0) : og_M E yL_puts (.code yL_puts cL_puts 7 (some .boolean)) d [.ref 103, .int (nI r), .ref b, .long p] n h 0 0 (fun v n1 h1 => n1 = n ∧ (∀ a, a ≠ 103 → h1 a = h a) ∧ ((v = some (.int 1) ∧ q_hall p f ∧ y_wm L xs n h1 D (y_pt R r f p 8) g) ∨ (v = some (.int 0) ∧ ¬ q_hall p f ∧ h1 = h))) no_x := by
  refine og_M.mono (c_L_puts E d n 103 b r h R f p W.2.2.2.1 hb (by omega) (by omega) (by omega) hr hp) (fun v n1 h1 q => ?_) (fun _ _ _ z => z)
  obtain ⟨q1, q2⟩ := q
  rw [y_hall] at q2
  rcases q2 with ⟨a, b, c⟩ | ⟨a, b, c⟩
  · exact ⟨q1, fun x hx => by rw [c]; exact og_set_ne _ _ hx, Or.inl ⟨a, b, by rw [c]; exact W.wR _⟩⟩
  · exact ⟨q1, fun x hx => by rw [c], Or.inr ⟨a, b, c⟩⟩
end WR
section WD
variable {E : og_E} {d n : Nat} {h : og_H} {D : q_D}
theorem l_sets (w : og_DK h n n h D) {a b : Nat} {y : Int32} (ha : a < 8) (hb : b < 8) (hy : q_hvs y) : og_M E yL_sets (.codeWith yL_sets cL_sets 5 (some .int) [(0, 7, 8, 53), (0, 7, 13, 56)]) (d + 4) [.ref 3, .int (nI a), .int (nI b), .int y] n h 3 18 (fun v n1 h1 => v = some (.int (d_R D a b).toInt32) ∧ og_DK h n n1 h1 (d_reg (q_save D) a (vp_updL (d_R D a) b y.toInt64))) no_x := by
  refine og_M.mono (c_L_sets E (d + 3) n h _ _ _ w.d3 (c_X7_set E d n h (nI a) (nI b) y w) (fun v n1 h1 q => ?_) (fun En n1 h1 q => q.2.imp (fun z => z.1) (fun z => z.1))) (fun v n1 h1 q => ?_) (fun _ _ _ z => z)
  · obtain ⟨r2, i2, _, _, _, _, _, e, _⟩ := q
    exact ⟨_, e⟩
  · rcases q with ⟨r2, i2, a1, a2, a3, a4, _, e, q⟩ | ⟨q, _⟩ | ⟨q, _⟩
    · rw [y_eq8 ha a1 a3, y_eq8 hb a2 a4] at e q
      exact ⟨e, q⟩
    · rcases q.2 with ⟨_, z⟩ | ⟨z, _⟩
      · exact absurd ⟨y_in8 ha, y_in8 hb⟩ z
      · exact absurd z (by decide)
    · rcases q.2 with ⟨z, _⟩ | ⟨_, _, _, z⟩
      · exact absurd z (by decide)
      · exact absurd hy z
theorem l_fours (w : og_DK h n n h D) {a : Nat} {u y1 y2 y3 y4 : Int32} (ha : a < 8) (hy1 : q_hvs y1) (hy2 : q_hvs y2) (hy3 : q_hvs y3) (hy4 : q_hvs y4) : og_M E yL_fours (.codeWith yL_fours cL_fours 8 (some .long) [(0, 13, 14, 53), (0, 13, 20, 56)]) (d + 4) [.ref 3, .int (nI a), .int u, .int y1, .int y2, .int y3, .int y4] n h 5 30 (fun v n1 h1 => v = some (.long (q_inner (q_four4 (d_R D a) (if u = 0 then 0 else 4) y1 y2 y3 y4) (q_four4 (d_R D a) (if u = 0 then 0 else 4) y1 y2 y3 y4) 8)) ∧ og_DK h n n1 h1 (d_reg (q_save D) a (q_four4 (d_R D a) (if u = 0 then 0 else 4) y1 y2 y3 y4))) no_x := by
  refine og_M.mono (c_L_fours E (d + 3) n h _ _ _ _ _ _ w.d3 (c_X7_setFour E d n h (nI a) u y1 y2 y3 y4 w) (fun v n1 h1 q => ?_) (fun En n1 h1 q => q.2.imp (fun z => z.1) (fun z => z.1))) (fun v n1 h1 q => ?_) (fun _ _ _ z => z)
  · obtain ⟨r2, _, _, _, _, _, _, e, _⟩ := q
    exact ⟨_, e⟩
  · rcases q with ⟨r2, a1, a3, _, _, _, _, e, q⟩ | ⟨q, _⟩ | ⟨q, _⟩
    · rw [y_eq8 ha a1 a3] at e q
      exact ⟨e, q⟩
    · rcases q.2 with ⟨_, z⟩ | ⟨z, _⟩
      · exact absurd (y_in8 ha) z
      · exact absurd z (by decide)
    · rcases q.2 with ⟨z, _⟩ | ⟨_, _, z⟩
      · exact absurd z (by decide)
      · exact absurd ⟨hy1, hy2, hy3, hy4⟩ z
theorem l_ordered (w : og_DK h n n h D) {a : Nat} (ha : a < 8) : og_M E yL_ordered (.codeWith yL_ordered cL_ordered 3 (some .int) [(0, 5, 6, 56)]) (d + 4) [.ref 3, .int (nI a)] n h 1 6 (fun v n1 h1 => v = some (.int (nI (d_o D))) ∧ og_DK h n n1 h1 (d_wSt (q_save D) ((d_st D).1, a, (d_st D).2.2))) no_x := by
  refine og_M.mono (c_L_ordered E (d + 3) n h _ w.d3 (c_X7_setOrder E d n h (nI a) w) (fun v n1 h1 q => ?_) (fun En n1 h1 q => q.2.1)) (fun v n1 h1 q => ?_) (fun _ _ _ z => z)
  · obtain ⟨o2, _, _, e, _⟩ := q
    exact ⟨_, e⟩
  · rcases q with ⟨o2, a1, a3, e, q⟩ | ⟨q, _⟩
    · rw [y_eq8 ha a1 a3] at q
      exact ⟨e, q⟩
    · exact absurd (y_in8 ha) q.2.2
theorem l_conjugates (w : og_DK h n n h D) {a : Nat} (ha : a < 8) : og_M E yL_conjugates (.codeWith yL_conjugates cL_conjugates 3 (some .int) [(0, 5, 6, 53)]) (d + 4) [.ref 3, .int (nI a)] n h 1 6 (fun v n1 h1 => v = some (.int (d_R D a 0).toInt32) ∧ og_DK h n n1 h1 (d_reg (q_save D) a (q_mirror (d_R D a)))) no_x := by
  refine og_M.mono (c_L_conjugates E (d + 3) n h _ w.d3 (c_X7_conjugate E d n h (nI a) w) (fun v n1 h1 q => ?_) (fun En n1 h1 q => q.2.1)) (fun v n1 h1 q => ?_) (fun _ _ _ z => z)
  · obtain ⟨r2, _, _, e, _⟩ := q
    exact ⟨_, e⟩
  · rcases q with ⟨r2, a1, a3, e, q⟩ | ⟨q, _⟩
    · rw [y_eq8 ha a1 a3] at e q
      exact ⟨e, q⟩
    · exact absurd (y_in8 ha) q.2.2
theorem l_loads (w : og_DK h n n h D) {u a : Nat} (hu : u < q_cnt (d_o D)) (ha : a < 8) : og_M E yL_loads (.codeWith yL_loads cL_loads 4 (some .int) [(0, 6, 7, 53)]) (d + 6) [.ref 3, .int (nI u), .int (nI a)] n h 4 256 (fun v n1 h1 => v = some (.int (q_read (q_uc (d_o D) u) 0).toInt32) ∧ ∃ f, og_DK h n n1 h1 (d_reg (d_wUn (q_save D) f) a (q_read (q_uc (d_o D) u)))) no_x := by
  have hc := q_cnt_le (d_o D)
  refine og_M.mono (c_L_loads E (d + 5) n h _ _ w.d3 (c_X7_load E d n h (nI u) (nI a) w) (fun v n1 h1 q => ?_) (fun En n1 h1 q => q.2.1)) (fun v n1 h1 q => ?_) (fun _ _ _ z => z)
  · obtain ⟨k, r2, f, _, _, _, _, e, _⟩ := q
    exact ⟨_, e⟩
  · rcases q with ⟨k, r2, f, a1, a2, a3, a4, e, q⟩ | ⟨q, _⟩
    · rw [((nI_eq (by omega) (by omega)).mp a3).symm] at e q
      rw [y_eq8 ha a2 a4] at q
      exact ⟨e, f, q⟩
    · exact absurd ⟨⟨u, hu, rfl⟩, y_in8 ha⟩ q.2.2
theorem l_loads_no (w : og_DK h n n h D) {u a : Nat} (hu : ¬ u < q_cnt (d_o D)) (h260 : u < 260) : og_M E yL_loads (.codeWith yL_loads cL_loads 4 (some .int) [(0, 6, 7, 53)]) (d + 6) [.ref 3, .int (nI u), .int (nI a)] n h 4 256 (fun v n1 h1 => v = some (.int (-2000001)) ∧ og_DK h n n1 h1 D) no_x := by
  have hc := q_cnt_le (d_o D)
  refine og_M.mono (c_L_loads E (d + 5) n h _ _ w.d3 (c_X7_load E d n h (nI u) (nI a) w) (fun v n1 h1 q => ?_) (fun En n1 h1 q => q.2.1)) (fun v n1 h1 q => ?_) (fun _ _ _ z => z)
  · obtain ⟨k, r2, f, _, _, _, _, e, _⟩ := q
    exact ⟨_, e⟩
  · rcases q with ⟨k, r2, f, a1, a2, a3, a4, e, q⟩ | ⟨q, e⟩
    · have := (nI_eq (by omega) (by omega)).mp a3
      omega
    · exact ⟨e, q.1⟩
theorem l_adds (w : og_DK h n n h D) {a b r : Nat} {s : Int32} (ha : a < 8) (hb : b < 8) (hr : r < 8) : og_M E yL_adds (.codeWith yL_adds cL_adds 6 (some .long) [(0, 9, 10, 53), (0, 9, 16, 79)]) (d + 4) [.ref 3, .int (nI a), .int (nI b), .int (nI r), .int s] n h 4 24 (fun v n1 h1 => (q_fitx 0 (q_total (d_R D a) (d_R D b) s) ∧ v = some (.long (q_inner (q_fv 0 (q_total (d_R D a) (d_R D b) s)) (q_fv 0 (q_total (d_R D a) (d_R D b) s)) 8)) ∧ og_DK h n n1 h1 (d_reg (q_save D) r (q_fv 0 (q_total (d_R D a) (d_R D b) s)))) ∨ (¬ q_fitx 0 (q_total (d_R D a) (d_R D b) s) ∧ v = some (.long (-2000004)) ∧ og_DK h n n1 h1 D)) no_x := by
  refine og_M.mono (c_L_adds E (d + 3) n h _ _ _ _ w.d3 (c_X7_add E d n h (nI a) (nI b) (nI r) s w) (fun v n1 h1 q => ?_) (fun En n1 h1 q => q.2.imp (fun z => z.1) (fun z => z.1))) (fun v n1 h1 q => ?_) (fun _ _ _ z => z)
  · obtain ⟨a2, b2, r2, p0, p1, p2, e0, e1, e2, _, e, _⟩ := q
    exact ⟨_, e⟩
  · rcases q with ⟨a2, b2, r2, p0, p1, p2, e0, e1, e2, fit, e, q⟩ | ⟨q, _⟩ | ⟨q, ev⟩
    · obtain rfl := y_eq8 ha p0 e0
      obtain rfl := y_eq8 hb p1 e1
      obtain rfl := y_eq8 hr p2 e2
      exact Or.inl ⟨fit, e, q⟩
    · rcases q.2 with ⟨_, z⟩ | ⟨z, _⟩
      · exact absurd ⟨y_in8 ha, y_in8 hb, y_in8 hr⟩ z
      · exact absurd z (by decide)
    · rcases q.2 with ⟨z, _⟩ | ⟨_, a2, b2, r2, p0, p1, p2, e0, e1, e2, z⟩
      · exact absurd z (by decide)
      · obtain rfl := y_eq8 ha p0 e0
        obtain rfl := y_eq8 hb p1 e1
        obtain rfl := y_eq8 hr p2 e2
        exact Or.inr ⟨z, ev, q.1⟩
theorem l_multiplies (w : og_DK h n n h D) {a b r : Nat} (ha : a < 8) (hb : b < 8) (hr : r < 8) : og_M E yL_multiplies (.codeWith yL_multiplies cL_multiplies 5 (some .long) [(0, 7, 8, 53), (0, 7, 14, 79)]) (d + 4) [.ref 3, .int (nI a), .int (nI b), .int (nI r)] n h 4 24 (fun v n1 h1 => (q_fitx 1 (q_prod (d_R D a) (d_R D b)) ∧ v = some (.long (q_inner (q_fv 1 (q_prod (d_R D a) (d_R D b))) (q_fv 1 (q_prod (d_R D a) (d_R D b))) 8)) ∧ og_DK h n n1 h1 (d_reg (d_wSt (q_save D) ((d_st D).1, (d_st D).2.1, (d_st D).2.2.1 + 1, (d_st D).2.2.2)) r (q_fv 1 (q_prod (d_R D a) (d_R D b))))) ∨ (¬ q_fitx 1 (q_prod (d_R D a) (d_R D b)) ∧ v = some (.long (-2000004)) ∧ og_DK h n n1 h1 D)) no_x := by
  refine og_M.mono (c_L_multiplies E (d + 3) n h _ _ _ w.d3 (c_X7_multiply E d n h (nI a) (nI b) (nI r) w) (fun v n1 h1 q => ?_) (fun En n1 h1 q => q.2.imp (fun z => z.1) (fun z => z.1))) (fun v n1 h1 q => ?_) (fun _ _ _ z => z)
  · obtain ⟨a2, b2, r2, p0, p1, p2, e0, e1, e2, _, e, _⟩ := q
    exact ⟨_, e⟩
  · rcases q with ⟨a2, b2, r2, p0, p1, p2, e0, e1, e2, fit, e, q⟩ | ⟨q, _⟩ | ⟨q, ev⟩
    · obtain rfl := y_eq8 ha p0 e0
      obtain rfl := y_eq8 hb p1 e1
      obtain rfl := y_eq8 hr p2 e2
      exact Or.inl ⟨fit, e, q⟩
    · rcases q.2 with ⟨_, z⟩ | ⟨z, _⟩
      · exact absurd ⟨y_in8 ha, y_in8 hb, y_in8 hr⟩ z
      · exact absurd z (by decide)
    · rcases q.2 with ⟨z, _⟩ | ⟨_, a2, b2, r2, p0, p1, p2, e0, e1, e2, z⟩
      · exact absurd z (by decide)
      · obtain rfl := y_eq8 ha p0 e0
        obtain rfl := y_eq8 hb p1 e1
        obtain rfl := y_eq8 hr p2 e2
        exact Or.inr ⟨z, ev, q.1⟩
theorem l_commutes (w : og_DK h n n h D) {a b r : Nat} (ha : a < 8) (hb : b < 8) (hr : r < 8) : og_M E yL_commutes (.codeWith yL_commutes cL_commutes 5 (some .long) [(0, 7, 8, 53), (0, 7, 14, 79)]) (d + 4) [.ref 3, .int (nI a), .int (nI b), .int (nI r)] n h 4 24 (fun v n1 h1 => (q_fitx 1 (q_total (q_prod (d_R D a) (d_R D b)) (q_prod (d_R D b) (d_R D a)) 1) ∧ v = some (.long (q_inner (q_fv 1 (q_total (q_prod (d_R D a) (d_R D b)) (q_prod (d_R D b) (d_R D a)) 1)) (q_fv 1 (q_total (q_prod (d_R D a) (d_R D b)) (q_prod (d_R D b) (d_R D a)) 1)) 8)) ∧ og_DK h n n1 h1 (d_reg (q_save D) r (q_fv 1 (q_total (q_prod (d_R D a) (d_R D b)) (q_prod (d_R D b) (d_R D a)) 1)))) ∨ (¬ q_fitx 1 (q_total (q_prod (d_R D a) (d_R D b)) (q_prod (d_R D b) (d_R D a)) 1) ∧ v = some (.long (-2000004)) ∧ og_DK h n n1 h1 D)) no_x := by
  refine og_M.mono (c_L_commutes E (d + 3) n h _ _ _ w.d3 (c_X7_commutator E d n h (nI a) (nI b) (nI r) w) (fun v n1 h1 q => ?_) (fun En n1 h1 q => q.2.imp (fun z => z.1) (fun z => z.1))) (fun v n1 h1 q => ?_) (fun _ _ _ z => z)
  · obtain ⟨a2, b2, r2, p0, p1, p2, e0, e1, e2, _, e, _⟩ := q
    exact ⟨_, e⟩
  · rcases q with ⟨a2, b2, r2, p0, p1, p2, e0, e1, e2, fit, e, q⟩ | ⟨q, _⟩ | ⟨q, ev⟩
    · obtain rfl := y_eq8 ha p0 e0
      obtain rfl := y_eq8 hb p1 e1
      obtain rfl := y_eq8 hr p2 e2
      exact Or.inl ⟨fit, e, q⟩
    · rcases q.2 with ⟨_, z⟩ | ⟨z, _⟩
      · exact absurd ⟨y_in8 ha, y_in8 hb, y_in8 hr⟩ z
      · exact absurd z (by decide)
    · rcases q.2 with ⟨z, _⟩ | ⟨_, a2, b2, r2, p0, p1, p2, e0, e1, e2, z⟩
      · exact absurd z (by decide)
      · obtain rfl := y_eq8 ha p0 e0
        obtain rfl := y_eq8 hb p1 e1
        obtain rfl := y_eq8 hr p2 e2
        exact Or.inr ⟨z, ev, q.1⟩
theorem l_associates (w : og_DK h n n h D) {a b c r : Nat} (ha : a < 8) (hb : b < 8) (hc : c < 8) (hr : r < 8) : og_M E yL_associates (.codeWith yL_associates cL_associates 6 (some .long) [(0, 9, 10, 53), (0, 9, 16, 79)]) (d + 4) [.ref 3, .int (nI a), .int (nI b), .int (nI c), .int (nI r)] n h 5 30 (fun v n1 h1 => (q_fitx 2 (q_asc (d_R D a) (d_R D b) (d_R D c)) ∧ v = some (.long (q_inner (q_fv 2 (q_asc (d_R D a) (d_R D b) (d_R D c))) (q_fv 2 (q_asc (d_R D a) (d_R D b) (d_R D c))) 8)) ∧ og_DK h n n1 h1 (d_reg (q_save D) r (q_fv 2 (q_asc (d_R D a) (d_R D b) (d_R D c))))) ∨ (¬ q_fitx 2 (q_asc (d_R D a) (d_R D b) (d_R D c)) ∧ v = some (.long (-2000004)) ∧ og_DK h n n1 h1 D)) no_x := by
  refine og_M.mono (c_L_associates E (d + 3) n h _ _ _ _ w.d3 (c_X7_associator E d n h (nI a) (nI b) (nI c) (nI r) w) (fun v n1 h1 q => ?_) (fun En n1 h1 q => q.2.imp (fun z => z.1) (fun z => z.1))) (fun v n1 h1 q => ?_) (fun _ _ _ z => z)
  · obtain ⟨a2, b2, c2, r2, p0, p1, p2, p3, e0, e1, e2, e3, _, e, _⟩ := q
    exact ⟨_, e⟩
  · rcases q with ⟨a2, b2, c2, r2, p0, p1, p2, p3, e0, e1, e2, e3, fit, e, q⟩ | ⟨q, _⟩ | ⟨q, ev⟩
    · obtain rfl := y_eq8 ha p0 e0
      obtain rfl := y_eq8 hb p1 e1
      obtain rfl := y_eq8 hc p2 e2
      obtain rfl := y_eq8 hr p3 e3
      exact Or.inl ⟨fit, e, q⟩
    · rcases q.2 with ⟨_, z⟩ | ⟨z, _⟩
      · exact absurd ⟨y_in8 ha, y_in8 hb, y_in8 hc, y_in8 hr⟩ z
      · exact absurd z (by decide)
    · rcases q.2 with ⟨z, _⟩ | ⟨_, a2, b2, c2, r2, p0, p1, p2, p3, e0, e1, e2, e3, z⟩
      · exact absurd z (by decide)
      · obtain rfl := y_eq8 ha p0 e0
        obtain rfl := y_eq8 hb p1 e1
        obtain rfl := y_eq8 hc p2 e2
        obtain rfl := y_eq8 hr p3 e3
        exact Or.inr ⟨z, ev, q.1⟩
/-- divide: the four ends -/
def l_divP (n : Nat) (h : og_H) (D : q_D) (a b q r : Nat) (v : Option Value) (n1 : Nat) (h1 : og_H) : Prop :=
  (q ≠ r ∧ q_div D a b ∧ q_fitx 0 (d_quo D a b) ∧ q_fitx 0 (d_rem D a b) ∧ v = some (.long (q_inner (q_fv 0 (d_rem D a b)) (q_fv 0 (d_rem D a b)) 8)) ∧ og_DK h n n1 h1 (d_reg (d_reg (d_wSt (q_save D) ((d_st D).1, (d_st D).2.1, (d_st D).2.2.1, (d_st D).2.2.2 + 1)) q (q_fv 0 (d_quo D a b))) r (q_fv 0 (d_rem D a b)))) ∨ (q = r ∧ v = some (.long (-2000002)) ∧ og_DK h n n1 h1 D) ∨ (q ≠ r ∧ ¬ q_div D a b ∧ v = some (.long (-2000003)) ∧ og_DK h n n1 h1 D) ∨ (q ≠ r ∧ q_div D a b ∧ ¬ (q_fitx 0 (d_quo D a b) ∧ q_fitx 0 (d_rem D a b)) ∧ v = some (.long (-2000004)) ∧ og_DK h n n1 h1 D)
theorem l_divides (w : og_DK h n n h D) {a b q r : Nat} (ha : a < 8) (hb : b < 8) (hq : q < 8) (hr : r < 8) (hpos : ∀ r, r < 8 → ¬ q_zr (d_R D r) → 0 < q_inner (d_R D r) (d_R D r) 8) : og_M E yL_divides (.codeWith yL_divides cL_divides 6 (some .long) [(0, 9, 10, 53), (0, 9, 16, 56), (0, 9, 22, 100), (0, 9, 28, 79)]) (d + 6) [.ref 3, .int (nI a), .int (nI b), .int (nI q), .int (nI r)] n h 7 42 (l_divP n h D a b q r) no_x := by
  refine og_M.mono (c_L_divides E (d + 5) n h _ _ _ _ w.d3 (c_X7_divide E d n h (nI a) (nI b) (nI q) (nI r) w hpos) (fun v n1 h1 z => ?_) (fun En n1 h1 z => ?_)) (fun v n1 h1 z => ?_) (fun _ _ _ z => z)
  · obtain ⟨a2, b2, k2, l2, _, _, _, _, _, _, _, _, _, _, _, _, e, _⟩ := z
    exact ⟨_, e⟩
  · rcases z.2 with ⟨e, _⟩ | ⟨_, _, _, _, _, _, _, _, _, _, _, _, ⟨e, _⟩ | ⟨e, _⟩ | ⟨e, _⟩⟩
    · exact Or.inl e
    · exact Or.inr (Or.inl e)
    · exact Or.inr (Or.inr (Or.inl e))
    · exact Or.inr (Or.inr (Or.inr e))
  · rcases z with ⟨a2, b2, k2, l2, p1, p2, p3, p4, e1, e2, e3, e4, ne, dv, f1, f2, e, z⟩ | ⟨z, ev⟩ | ⟨z, ev⟩ | ⟨z, ev⟩ | ⟨z, ev⟩
    · rw [y_eq8 ha p1 e1, y_eq8 hb p2 e2] at dv f1 f2 e z
      rw [y_eq8 hq p3 e3, y_eq8 hr p4 e4] at ne z
      exact Or.inl ⟨ne, dv, f1, f2, e, z⟩
    · rcases z.2 with ⟨_, y⟩ | ⟨_, _, _, _, _, _, _, _, _, _, _, _, ⟨e, _⟩ | ⟨e, _⟩ | ⟨e, _⟩⟩
      · exact absurd ⟨y_in8 ha, y_in8 hb, y_in8 hq, y_in8 hr⟩ y
      · exact absurd e (by decide)
      · exact absurd e (by decide)
      · exact absurd e (by decide)
    · rcases z.2 with ⟨e, _⟩ | ⟨a2, b2, k2, l2, p1, p2, p3, p4, e1, e2, e3, e4, ⟨e, y⟩ | ⟨e, _⟩ | ⟨e, _⟩⟩
      · exact absurd e (by decide)
      · rw [y_eq8 hq p3 e3, y_eq8 hr p4 e4] at y
        exact Or.inr (Or.inl ⟨y, ev, z.1⟩)
      · exact absurd e (by decide)
      · exact absurd e (by decide)
    · rcases z.2 with ⟨e, _⟩ | ⟨a2, b2, k2, l2, p1, p2, p3, p4, e1, e2, e3, e4, ⟨e, _⟩ | ⟨e, ne, y⟩ | ⟨e, _⟩⟩
      · exact absurd e (by decide)
      · exact absurd e (by decide)
      · rw [y_eq8 hq p3 e3, y_eq8 hr p4 e4] at ne
        rw [y_eq8 ha p1 e1, y_eq8 hb p2 e2] at y
        exact Or.inr (Or.inr (Or.inl ⟨ne, y, ev, z.1⟩))
      · exact absurd e (by decide)
    · rcases z.2 with ⟨e, _⟩ | ⟨a2, b2, k2, l2, p1, p2, p3, p4, e1, e2, e3, e4, ⟨e, _⟩ | ⟨e, _⟩ | ⟨e, ne, dv, y⟩⟩
      · exact absurd e (by decide)
      · exact absurd e (by decide)
      · exact absurd e (by decide)
      · rw [y_eq8 hq p3 e3, y_eq8 hr p4 e4] at ne
        rw [y_eq8 ha p1 e1, y_eq8 hb p2 e2] at y dv
        exact Or.inr (Or.inr (Or.inr ⟨ne, dv, y, ev, z.1⟩))
end WD
