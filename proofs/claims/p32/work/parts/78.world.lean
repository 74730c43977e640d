/-! ===== the law: the desk beside the law's own cells ===== -/
theorem og_DK.mod {h0 : og_H} {n0 n : Nat} {h : og_H} {D : q_D} (w : og_DK h0 n0 n h D) {h1 : og_H} (hk : ∀ a, a < n → 1 ≤ a → ¬ (101 ≤ a ∧ a < 104) → h1 a = h a) : og_DK h1 n n h1 D := by
  have h104 : 104 ≤ n := Nat.le_trans w.nn.1 w.nn.2
  refine ⟨(hk _ (by omega) (by omega) (by omega)).trans w.d3, w.now.kept (fun k k1 k2 => hk k (by omega) (by omega) (by omega)), (hk _ (by omega) (by omega) (by omega)).trans w.s14, fun j hj => (w.sv j hj).kept fun k k1 k2 => hk k (by omega) (by omega) (by omega), (hk _ (by omega) (by omega) (by omega)).trans w.u55, ?_, (hk _ (by omega) (by omega) (by omega)).trans w.d56, (hk _ (by omega) (by omega) (by omega)).trans w.g64, (hk _ (by omega) (by omega) (by omega)).trans w.g67, (hk _ (by omega) (by omega) (by omega)).trans w.t70, (hk _ (by omega) (by omega) (by omega)).trans w.t71, (hk _ (by omega) (by omega) (by omega)).trans w.c72, (hk _ (by omega) (by omega) (by omega)).trans w.g73, (hk _ (by omega) (by omega) (by omega)).trans w.g81, (hk _ (by omega) (by omega) (by omega)).trans w.g89, ?_, (hk _ (by omega) (by omega) (by omega)).trans w.tr, (hk _ (by omega) (by omega) (by omega)).trans w.se, fun a _ _ => rfl, ⟨h104, Nat.le_refl n⟩, w.ok⟩
  · intro o u hu
    obtain ⟨a1, a2, a3, a4, a5⟩ := w.un o u hu
    exact ⟨a1, a2, a3, (hk _ (by omega) (by omega) (by omega)).trans a4, (hk _ (by omega) (by omega) (by omega)).trans a5⟩
  · intro a ha
    rw [hk a (by unfold q_scr at ha; omega) (by unfold q_scr at ha; omega) (by unfold q_scr at ha; omega)]
    exact w.scr a ha
def y_cp (D : q_D) (R g : Nat → Int32) : Prop := (∀ r, r < 8 → ∀ k, k < 8 → R (8 * r + k) = (d_R D r k).toInt32 ∧ -2000 ≤ (d_R D r k).toInt ∧ (d_R D r k).toInt ≤ 2000) ∧ g 0 = nI (d_o D) ∧ g 1 = (d_st D).2.2.1 ∧ g 2 = (d_st D).2.2.2
theorem y_cp.v {D : q_D} {R g : Nat → Int32} (w : y_cp D R g) {r k : Nat} (hr : r < 8) (hk : k < 8) : (R (8 * r + k)).toInt64 = d_R D r k := by
  obtain ⟨a, b, c⟩ := w.1 r hr k hk
  rw [a, zt3264 (by omega) (by omega)]
theorem y_cp.ok {D : q_D} {R g : Nat → Int32} (w : y_cp D R g) {r : Nat} (hr : r < 8) : zok (d_R D r) := by
  have b := fun k hk => (zsq (x := zi (d_R D r) k) (b := 2000) (w.1 r hr k hk).2.1 (w.1 r hr k hk).2.2).2
  unfold zok zn
  have := b 0 (by omega); have := b 1 (by omega); have := b 2 (by omega); have := b 3 (by omega); have := b 4 (by omega); have := b 5 (by omega); have := b 6 (by omega); have := b 7 (by omega)
  omega
theorem y_cp.st {D D1 : q_D} {R g : Nat → Int32} (w : y_cp D R g) (e : d_st D1 = d_st D) : y_cp D1 R g := by
  unfold y_cp d_R d_o at *
  rw [e]
  exact w
def y_wl (L : Nat) (xs : Nat → Int32) (n : Nat) (h : og_H) (D : q_D) (R g : Nat → Int32) : Prop := og_DK h n n h D ∧ h 101 = some (rowI 64 y_T) ∧ h 102 = some (rowI 3 g) ∧ h 103 = some (rowI 64 R) ∧ h 0 = some (rowI L xs) ∧ y_cp D R g
section WL
variable {L : Nat} {xs : Nat → Int32} {n n1 : Nat} {h h1 : og_H} {D D1 : q_D} {R g R1 g1 : Nat → Int32}
theorem y_wl.nn (w : y_wl L xs n h D R g) : 104 ≤ n := w.1.nn.1
theorem y_wl.o8 (w : y_wl L xs n h D R g) : d_o D < 8 := w.1.ok.1
theorem y_wl.ext (w : y_wl L xs n h D R g) (hn : n ≤ n1) (hk : ∀ a, a < n → h1 a = h a) : y_wl L xs n1 h1 D R g := by
  have h104 := w.nn
  exact ⟨((w.1.mod fun a a1 _ _ => hk a a1).more hn).mod fun _ _ _ _ => rfl, (hk _ (by omega)).trans w.2.1, (hk _ (by omega)).trans w.2.2.1, (hk _ (by omega)).trans w.2.2.2.1, (hk _ (by omega)).trans w.2.2.2.2.1, w.2.2.2.2.2⟩
theorem y_wl.call (w : y_wl L xs n h D R g) (k : og_DK h n n1 h1 D1) (e : d_st D1 = d_st D) : y_wl L xs n1 h1 D1 R g := by
  have h104 := w.nn
  exact ⟨k.mod fun _ _ _ _ => rfl, (k.fr _ (by omega) (by omega)).trans w.2.1, (k.fr _ (by omega) (by omega)).trans w.2.2.1, (k.fr _ (by omega) (by omega)).trans w.2.2.2.1, (k.fr _ (by omega) (by omega)).trans w.2.2.2.2.1, w.2.2.2.2.2.st e⟩
/-- a call that may change the desk; the law's own cells hold R1 and g1 already -/
theorem y_wl.step (w : og_DK h n n h D) (h101 : h 101 = some (rowI 64 y_T)) (h102 : h 102 = some (rowI 3 g1)) (h103 : h 103 = some (rowI 64 R1)) (h0 : h 0 = some (rowI L xs)) (k : og_DK h n n1 h1 D1) (c : y_cp D1 R1 g1) : y_wl L xs n1 h1 D1 R1 g1 := by
  have h104 := w.nn.1
  exact ⟨k.mod fun _ _ _ _ => rfl, (k.fr _ (by omega) (by omega)).trans h101, (k.fr _ (by omega) (by omega)).trans h102, (k.fr _ (by omega) (by omega)).trans h103, (k.fr _ (by omega) (by omega)).trans h0, c⟩
end WL
theorem y_in8 {r : Nat} (hr : r < 8) : q_in8 (nI r) := ⟨r, hr, rfl⟩
theorem y_eq8 {r i : Nat} (hr : r < 8) (hi : i < 8) (e : nI r = nI i) : i = r := ((nI_eq (by omega) (by omega)).mp e).symm
theorem y_not8 : ¬ q_in8 (nI 8) := fun ⟨r, hr, e⟩ => by
  have := (nI_eq (a := 8) (by omega) (by omega)).mp e
  omega
theorem y_notm : ¬ q_in8 (-1) := fun ⟨r, hr, e⟩ => y_nm1 (by omega) e.symm
section WC
variable {E : og_E} {d n : Nat} {h : og_H} {D : q_D}
theorem l_coord (w : og_DK h n n h D) {r k : Nat} (hr : r < 8) (hk : k < 8) : og_M E yL_coordinateOf (.codeWith yL_coordinateOf cL_coordinateOf 4 (some .int) [(0, 6, 7, 53)]) (d + 2) [.ref 3, .int (nI r), .int (nI k)] n h 2 12 (fun v n1 h1 => v = some (.int (d_R D r k).toInt32) ∧ og_DK h n n1 h1 D) no_x := by
  refine og_M.mono (c_L_coordinateOf E (d + 1) n h _ _ w.d3 (c_X7_coordinate E d n h (nI r) (nI k) w) (fun v n1 h1 q => ?_) (fun En n1 h1 q => q.2.1)) (fun v n1 h1 q => ?_) (fun _ _ _ z => z)
  · obtain ⟨_, r2, k2, _, _, _, _, e⟩ := q
    exact ⟨_, e⟩
  · rcases q with ⟨q, r2, k2, a1, a2, a3, a4, e⟩ | ⟨q, _⟩
    · rw [y_eq8 hr a1 a3, y_eq8 hk a2 a4] at e
      exact ⟨e, q⟩
    · exact absurd ⟨y_in8 hr, y_in8 hk⟩ q.2.2
theorem l_norm (w : og_DK h n n h D) {r : Nat} (hr : r < 8) : og_M E yL_normOf (.codeWith yL_normOf cL_normOf 3 (some .long) [(0, 5, 6, 53)]) (d + 3) [.ref 3, .int (nI r)] n h 1 6 (fun v n1 h1 => v = some (.long (q_inner (d_R D r) (d_R D r) 8)) ∧ og_DK h n n1 h1 D) no_x := by
  refine og_M.mono (c_L_normOf E (d + 2) n h _ w.d3 (c_X7_norm E d n h (nI r) w) (fun v n1 h1 q => ?_) (fun En n1 h1 q => q.2.1)) (fun v n1 h1 q => ?_) (fun _ _ _ z => z)
  · obtain ⟨_, r2, _, _, e⟩ := q
    exact ⟨_, e⟩
  · rcases q with ⟨q, r2, a1, a3, e⟩ | ⟨q, _⟩
    · rw [y_eq8 hr a1 a3] at e
      exact ⟨e, q⟩
    · exact absurd (y_in8 hr) q.2.2
theorem l_dot (w : og_DK h n n h D) {r k : Nat} (hr : r < 8) (hk : k < 8) : og_M E yL_dotOf (.codeWith yL_dotOf cL_dotOf 4 (some .long) [(0, 6, 7, 53)]) (d + 2) [.ref 3, .int (nI r), .int (nI k)] n h 2 12 (fun v n1 h1 => v = some (.long (q_inner (d_R D r) (d_R D k) 8)) ∧ og_DK h n n1 h1 D) no_x := by
  refine og_M.mono (c_L_dotOf E (d + 1) n h _ _ w.d3 (c_X7_dot E d n h (nI r) (nI k) w) (fun v n1 h1 q => ?_) (fun En n1 h1 q => q.2.1)) (fun v n1 h1 q => ?_) (fun _ _ _ z => z)
  · obtain ⟨_, r2, k2, _, _, _, _, e⟩ := q
    exact ⟨_, e⟩
  · rcases q with ⟨q, r2, k2, a1, a2, a3, a4, e⟩ | ⟨q, _⟩
    · rw [y_eq8 hr a1 a3, y_eq8 hk a2 a4] at e
      exact ⟨e, q⟩
    · exact absurd ⟨y_in8 hr, y_in8 hk⟩ q.2.2
theorem l_orders (w : og_DK h n n h D) {r : Nat} (hr : r < 8) : og_M E yL_ordersOf (.codeWith yL_ordersOf cL_ordersOf 3 (some .int) [(0, 5, 6, 53)]) (d + 4) [.ref 3, .int (nI r)] n h 1 6 (fun v n1 h1 => v = some (.int (q_oset (d_R D r) 8)) ∧ og_DK h n n1 h1 D) no_x := by
  refine og_M.mono (c_L_ordersOf E (d + 3) n h _ w.d3 (c_X7_ordersOf E d n h (nI r) w) (fun v n1 h1 q => ?_) (fun En n1 h1 q => q.2.1)) (fun v n1 h1 q => ?_) (fun _ _ _ z => z)
  · obtain ⟨_, r2, _, _, e⟩ := q
    exact ⟨_, e⟩
  · rcases q with ⟨q, r2, a1, a3, e⟩ | ⟨q, _⟩
    · rw [y_eq8 hr a1 a3] at e
      exact ⟨e, q⟩
    · exact absurd (y_in8 hr) q.2.2
theorem l_left (w : og_DK h n n h D) {r i j : Nat} (hr : r < 8) (hi : i < 8) (hj : j < 8) : og_M E yL_leftOf (.codeWith yL_leftOf cL_leftOf 5 (some .int) [(0, 7, 8, 53)]) (d + 4) [.ref 3, .int (nI r), .int (nI i), .int (nI j)] n h 3 18 (fun v n1 h1 => v = some (.int (q_prod (d_R D r) (vp_updL (fun _ => 0) j 1) i).toInt32) ∧ og_DK h n n1 h1 D) no_x := by
  refine og_M.mono (c_L_leftOf E (d + 3) n h _ _ _ w.d3 (c_X7_left E d n h (nI r) (nI i) (nI j) w) (fun v n1 h1 q => ?_) (fun En n1 h1 q => q.2.1)) (fun v n1 h1 q => ?_) (fun _ _ _ z => z)
  · obtain ⟨_, r2, i2, j2, _, _, _, _, _, _, e⟩ := q
    exact ⟨_, e⟩
  · rcases q with ⟨q, r2, i2, j2, a1, a2, a3, a4, a5, a6, e⟩ | ⟨q, _⟩
    · rw [y_eq8 hr a1 a4, y_eq8 hi a2 a5, y_eq8 hj a3 a6] at e
      exact ⟨e, q⟩
    · exact absurd ⟨y_in8 hr, y_in8 hi, y_in8 hj⟩ q.2.2
theorem l_unit (w : og_DK h n n h D) {r : Nat} (hr : r < 8) : og_M E yL_unitOf (.codeWith yL_unitOf cL_unitOf 3 (some .int) [(0, 5, 6, 53)]) (d + 6) [.ref 3, .int (nI r)] n h 4 256 (fun v n1 h1 => v = some (.int (q_uno (d_o D) (d_R D r))) ∧ ∃ f, og_DK h n n1 h1 (d_wUn D f)) no_x := by
  refine og_M.mono (c_L_unitOf E (d + 5) n h _ w.d3 (c_X7_unitOf E d n h (nI r) w) (fun v n1 h1 q => ?_) (fun En n1 h1 q => q.2.1)) (fun v n1 h1 q => ?_) (fun _ _ _ z => z)
  · obtain ⟨r2, f, _, _, e, _⟩ := q
    exact ⟨_, e⟩
  · rcases q with ⟨r2, f, a1, a3, e, _, q⟩ | ⟨q, _⟩
    · rw [y_eq8 hr a1 a3] at e
      exact ⟨e, f, q⟩
    · exact absurd (y_in8 hr) q.2.2
theorem l_value (w : og_DK h n n h D) {k : Nat} (hk : k < 6) : og_M E yL_valueOf (.codeWith yL_valueOf cL_valueOf 3 (some .int) [(0, 5, 6, 56)]) (d + 6) [.ref 3, .int (nI k)] n h 1 6 (fun v n1 h1 => v = some (.int (q_val D k)) ∧ og_DK h n n1 h1 D) no_x := by
  refine og_M.mono (c_L_valueOf E (d + 5) n h _ w.d3 (c_X7_value E d n h (nI k) w) (fun v n1 h1 q => ?_) (fun En n1 h1 q => q.2.1)) (fun v n1 h1 q => ?_) (fun _ _ _ z => z)
  · obtain ⟨_, _, k2, _, _, e⟩ := q
    exact ⟨_, e⟩
  · rcases q with ⟨rfl, rfl, k2, a1, a3, e⟩ | ⟨q, _⟩
    · rw [((nI_eq (by omega) (by omega)).mp a3).symm] at e
      exact ⟨e, w⟩
    · exact absurd ⟨k, hk, rfl⟩ q.2.2
/-! what is refused -/
theorem l_value_no (w : og_DK h n n h D) {x : Int32} (hx : ¬ q_inN 6 x) : og_M E yL_valueOf (.codeWith yL_valueOf cL_valueOf 3 (some .int) [(0, 5, 6, 56)]) (d + 6) [.ref 3, .int x] n h 1 6 (fun v n1 h1 => v = some (.int (-2000002)) ∧ og_DK h n n1 h1 D) no_x := by
  refine og_M.mono (c_L_valueOf E (d + 5) n h _ w.d3 (c_X7_value E d n h x w) (fun v n1 h1 q => ?_) (fun En n1 h1 q => q.2.1)) (fun v n1 h1 q => ?_) (fun _ _ _ z => z)
  · obtain ⟨_, _, k2, _, _, e⟩ := q
    exact ⟨_, e⟩
  · rcases q with ⟨_, _, k2, a1, a3, e⟩ | ⟨q, e⟩
    · exact absurd ⟨k2, a1, a3⟩ hx
    · exact ⟨e, q.1⟩
theorem l_norm_no (w : og_DK h n n h D) {x : Int32} (hx : ¬ q_in8 x) : og_M E yL_normOf (.codeWith yL_normOf cL_normOf 3 (some .long) [(0, 5, 6, 53)]) (d + 3) [.ref 3, .int x] n h 1 6 (fun v n1 h1 => v = some (.long (-2000001)) ∧ og_DK h n n1 h1 D) no_x := by
  refine og_M.mono (c_L_normOf E (d + 2) n h _ w.d3 (c_X7_norm E d n h x w) (fun v n1 h1 q => ?_) (fun En n1 h1 q => q.2.1)) (fun v n1 h1 q => ?_) (fun _ _ _ z => z)
  · obtain ⟨_, r2, _, _, e⟩ := q
    exact ⟨_, e⟩
  · rcases q with ⟨q, r2, a1, a3, e⟩ | ⟨q, e⟩
    · exact absurd ⟨r2, a1, a3⟩ hx
    · exact ⟨e, q.1⟩
theorem l_unit_no (w : og_DK h n n h D) {x : Int32} (hx : ¬ q_in8 x) : og_M E yL_unitOf (.codeWith yL_unitOf cL_unitOf 3 (some .int) [(0, 5, 6, 53)]) (d + 6) [.ref 3, .int x] n h 4 256 (fun v n1 h1 => v = some (.int (-2000001)) ∧ og_DK h n n1 h1 D) no_x := by
  refine og_M.mono (c_L_unitOf E (d + 5) n h _ w.d3 (c_X7_unitOf E d n h x w) (fun v n1 h1 q => ?_) (fun En n1 h1 q => q.2.1)) (fun v n1 h1 q => ?_) (fun _ _ _ z => z)
  · obtain ⟨r2, f, _, _, e, _⟩ := q
    exact ⟨_, e⟩
  · rcases q with ⟨r2, f, a1, a3, e, _, q⟩ | ⟨q, e⟩
    · exact absurd ⟨r2, a1, a3⟩ hx
    · exact ⟨e, q.1⟩
theorem l_orders_no (w : og_DK h n n h D) {x : Int32} (hx : ¬ q_in8 x) : og_M E yL_ordersOf (.codeWith yL_ordersOf cL_ordersOf 3 (some .int) [(0, 5, 6, 53)]) (d + 4) [.ref 3, .int x] n h 1 6 (fun v n1 h1 => v = some (.int (-2000001)) ∧ og_DK h n n1 h1 D) no_x := by
  refine og_M.mono (c_L_ordersOf E (d + 3) n h _ w.d3 (c_X7_ordersOf E d n h x w) (fun v n1 h1 q => ?_) (fun En n1 h1 q => q.2.1)) (fun v n1 h1 q => ?_) (fun _ _ _ z => z)
  · obtain ⟨_, r2, _, _, e⟩ := q
    exact ⟨_, e⟩
  · rcases q with ⟨q, r2, a1, a3, e⟩ | ⟨q, e⟩
    · exact absurd ⟨r2, a1, a3⟩ hx
    · exact ⟨e, q.1⟩
theorem l_coord_no (w : og_DK h n n h D) {x y : Int32} (hx : ¬ (q_in8 x ∧ q_in8 y)) : og_M E yL_coordinateOf (.codeWith yL_coordinateOf cL_coordinateOf 4 (some .int) [(0, 6, 7, 53)]) (d + 2) [.ref 3, .int x, .int y] n h 2 12 (fun v n1 h1 => v = some (.int (-2000001)) ∧ og_DK h n n1 h1 D) no_x := by
  refine og_M.mono (c_L_coordinateOf E (d + 1) n h _ _ w.d3 (c_X7_coordinate E d n h x y w) (fun v n1 h1 q => ?_) (fun En n1 h1 q => q.2.1)) (fun v n1 h1 q => ?_) (fun _ _ _ z => z)
  · obtain ⟨_, r2, k2, _, _, _, _, e⟩ := q
    exact ⟨_, e⟩
  · rcases q with ⟨q, r2, k2, a1, a2, a3, a4, e⟩ | ⟨q, e⟩
    · exact absurd ⟨⟨r2, a1, a3⟩, ⟨k2, a2, a4⟩⟩ hx
    · exact ⟨e, q.1⟩
theorem l_dot_no (w : og_DK h n n h D) {x y : Int32} (hx : ¬ (q_in8 x ∧ q_in8 y)) : og_M E yL_dotOf (.codeWith yL_dotOf cL_dotOf 4 (some .long) [(0, 6, 7, 53)]) (d + 2) [.ref 3, .int x, .int y] n h 2 12 (fun v n1 h1 => v = some (.long (-2000001)) ∧ og_DK h n n1 h1 D) no_x := by
  refine og_M.mono (c_L_dotOf E (d + 1) n h _ _ w.d3 (c_X7_dot E d n h x y w) (fun v n1 h1 q => ?_) (fun En n1 h1 q => q.2.1)) (fun v n1 h1 q => ?_) (fun _ _ _ z => z)
  · obtain ⟨_, r2, k2, _, _, _, _, e⟩ := q
    exact ⟨_, e⟩
  · rcases q with ⟨q, r2, k2, a1, a2, a3, a4, e⟩ | ⟨q, e⟩
    · exact absurd ⟨⟨r2, a1, a3⟩, ⟨k2, a2, a4⟩⟩ hx
    · exact ⟨e, q.1⟩
theorem l_left_no (w : og_DK h n n h D) {x y z9 : Int32} (hx : ¬ (q_in8 x ∧ q_in8 y ∧ q_in8 z9)) : og_M E yL_leftOf (.codeWith yL_leftOf cL_leftOf 5 (some .int) [(0, 7, 8, 53)]) (d + 4) [.ref 3, .int x, .int y, .int z9] n h 3 18 (fun v n1 h1 => v = some (.int (-2000001)) ∧ og_DK h n n1 h1 D) no_x := by
  refine og_M.mono (c_L_leftOf E (d + 3) n h _ _ _ w.d3 (c_X7_left E d n h x y z9 w) (fun v n1 h1 q => ?_) (fun En n1 h1 q => q.2.1)) (fun v n1 h1 q => ?_) (fun _ _ _ z => z)
  · obtain ⟨_, r2, i2, j2, _, _, _, _, _, _, e⟩ := q
    exact ⟨_, e⟩
  · rcases q with ⟨q, r2, i2, j2, a1, a2, a3, a4, a5, a6, e⟩ | ⟨q, e⟩
    · exact absurd ⟨⟨r2, a1, a4⟩, ⟨i2, a2, a5⟩, ⟨j2, a3, a6⟩⟩ hx
    · exact ⟨e, q.1⟩
end WC
