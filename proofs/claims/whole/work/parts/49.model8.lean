/-! ===== the model: public calls over registers ===== -/
def q_ngi (s : Nat → Int32) (r i : Nat) : Nat → Int32 := fun j => if 8 * r + 1 ≤ j ∧ j < 8 * r + i then -s j else s j
theorem q_ngi_1 (s : Nat → Int32) (r : Nat) : q_ngi s r 1 = s := by
  funext j
  exact if_neg (by omega)
theorem q_ngi_up (s : Nat → Int32) (r i : Nat) (h1 : 1 ≤ i) (h8 : i < 8) : upd (q_ngi s r i) (8 * r + i) (-(q_ngi s r i (8 * r + i))) = q_ngi s r (i + 1) := by
  funext j
  by_cases e : j = 8 * r + i
  · subst e
    show (if _ = _ then _ else _) = _
    rw [if_pos rfl, q_ngi, if_neg (by omega), q_ngi, if_pos (by omega)]
  · show (if _ = _ then _ else _) = _
    rw [if_neg e]
    unfold q_ngi
    by_cases q : 8 * r + 1 ≤ j ∧ j < 8 * r + i
    · rw [if_pos q, if_pos (by omega)]
    · rw [if_neg q, if_neg (by omega)]
set_option maxRecDepth 4000 in
theorem c_X8_coordinate (E : og_E) (d n : Nat) (h : og_H) (x y : Int32) {h0 : og_H} {M : q_M} (w : og_MK h0 h M) :
    og_M E yX8_coordinate (.code yX8_coordinate cX8_coordinate 3 (some .int)) (d + 2) [.ref 101, .int x, .int y] n h 0 0 (fun v n1 h1 => n1 = n ∧ ((¬ (q_in8 x ∧ q_in8 y) ∧ v = some (.int 0) ∧ og_MK h0 h1 (m_wRf M 1)) ∨ (∃ r i, r < 8 ∧ i < 8 ∧ x = nI r ∧ y = nI i ∧ v = some (.int (m_s M (8 * r + i))) ∧ og_MK h0 h1 (m_wRf M 0)))) no_x := by
  refine og_start (lv := [some (.ref 101), some (.int x), some (.int y)]) (by decide) rfl rfl (Nat.le_of_ble_eq_true rfl) fun X hr hnm htb => ?_
  have rej : ¬ (q_in8 x ∧ q_in8 y) → og_G E yX8_coordinate.cls cX8_coordinate (d + 2) 0 0 3 X (og_Q E (fun v n1 h1 => n1 = n ∧ ((¬ (q_in8 x ∧ q_in8 y) ∧ v = some (.int 0) ∧ og_MK h0 h1 (m_wRf M 1)) ∨ (∃ r i, r < 8 ∧ i < 8 ∧ x = nI r ∧ y = nI i ∧ v = some (.int (m_s M (8 * r + i))) ∧ og_MK h0 h1 (m_wRf M 0)))) no_x 0 0 X) 0 0 n h 19 [some (.ref 101), some (.int x), some (.int y)] [.ref 101] := by
    intro hb
    have wm := w.m
    refine og_iconst (pc := 19) (v := 1) dX8_coordinate_19 (by decide) ?_
    refine og_callV (pc := 20) (As := [.int 1]) (rest := []) (c_X8_throwsAt E d n h 1 wm) Y_X8_throwsAt I_X8_throwsAt V_X8_throwsAt wm (by omega) rfl rfl K_X8_125 dX8_coordinate_20 rfl rfl (Nat.le_of_ble_eq_true rfl) (by omega) (by omega) (by omega) (fun _ _ _ z => z) (fun v n1 h1 z => ?_)
    obtain ⟨hn, hh, z⟩ := z
    subst hn
    have w2 := w.rf_ 1
    rcases z with ⟨rfl, z⟩ | ⟨rfl, z⟩
    · refine og_if_eq (pc := 23) (tgt := 30) dX8_coordinate_23 (by decide) (fun q => absurd q (by decide)) (fun _ => ?_)
      refine og_iconst (pc := 26) (v := 0) dX8_coordinate_26 (by decide) ?_
      refine og_goto (pc := 27) (tgt := 41) dX8_coordinate_27 (by decide) ?_
      exact og_iret (pc := 41) hr dX8_coordinate_41 (by omega) (by omega) ⟨rfl, Or.inl ⟨hb, rfl, by rw [hh]; exact w2⟩⟩
    · exact absurd (by decide) z
  refine og_aload_n (pc := 0) dX8_coordinate_0 rfl ?_
  refine og_iload_n (pc := 1) dX8_coordinate_1 rfl ?_
  refine og_callS (pc := 2) (As := [.int x]) (rest := [.ref 101]) (c_X8_isEight E d n h x) Y_X8_isEight S_X8_isEight K_X8_121 dX8_coordinate_2 rfl rfl (Nat.le_of_ble_eq_true rfl) (by omega) (by omega) (by omega) (fun _ _ _ z => z) (fun v n1 h1 z => ?_)
  obtain ⟨hn, hh, z⟩ := z
  subst hn hh
  rcases z with ⟨rfl, zx⟩ | ⟨rfl, zx⟩
  rotate_left
  · exact og_if_eq (pc := 5) (tgt := 19) dX8_coordinate_5 (by decide) (fun _ => rej (fun q => zx (q_in_e8 q.1))) (fun q => absurd rfl q)
  refine og_if_eq (pc := 5) (tgt := 19) dX8_coordinate_5 (by decide) (fun q => absurd q (by decide)) (fun _ => ?_)
  refine og_iload_n (pc := 8) dX8_coordinate_8 rfl ?_
  refine og_callS (pc := 9) (As := [.int y]) (rest := [.ref 101]) (c_X8_isEight E d n1 h1 y) Y_X8_isEight S_X8_isEight K_X8_121 dX8_coordinate_9 rfl rfl (Nat.le_of_ble_eq_true rfl) (by omega) (by omega) (by omega) (fun _ _ _ z => z) (fun v n2 h2 z => ?_)
  obtain ⟨hn, hh, z⟩ := z
  subst hn hh
  rcases z with ⟨rfl, zy⟩ | ⟨rfl, zy⟩
  rotate_left
  · exact og_if_eq (pc := 12) (tgt := 19) dX8_coordinate_12 (by decide) (fun _ => rej (fun q => zy (q_in_e8 q.2))) (fun q => absurd rfl q)
  refine og_if_eq (pc := 12) (tgt := 19) dX8_coordinate_12 (by decide) (fun q => absurd q (by decide)) (fun _ => ?_)
  refine og_iconst (pc := 15) (v := 0) dX8_coordinate_15 (by decide) ?_
  refine og_goto (pc := 16) (tgt := 20) dX8_coordinate_16 (by decide) ?_
  have wm := w.m
  refine og_callV (pc := 20) (As := [.int 0]) (rest := []) (c_X8_throwsAt E d n2 h2 0 wm) Y_X8_throwsAt I_X8_throwsAt V_X8_throwsAt wm (by omega) rfl rfl K_X8_125 dX8_coordinate_20 rfl rfl (Nat.le_of_ble_eq_true rfl) (by omega) (by omega) (by omega) (fun _ _ _ z => z) (fun v n3 h3 z => ?_)
  obtain ⟨hn, hh, z⟩ := z
  subst hn
  have w2 := w.rf_ 0
  rcases z with ⟨rfl, z⟩ | ⟨rfl, -⟩
  · exact absurd z (by decide)
  refine og_if_eq (pc := 23) (tgt := 30) dX8_coordinate_23 (by decide) (fun _ => ?_) (fun q => absurd rfl q)
  obtain ⟨r, hr8, rfl⟩ := q_e8_in zx
  obtain ⟨i, hi8, rfl⟩ := q_e8_in zy
  refine og_abs (P := fun g => og_MK h0 g (m_wRf M 0)) (by rw [hh]; exact w2) fun g w3 => ?_
  have wm := w3.m
  have ws := w3.s
  refine og_aload_n (pc := 30) dX8_coordinate_30 rfl ?_
  refine og_get (pc := 31) F_X8_7 dX8_coordinate_31 (by repeat (first | exact og_set_eq _ _ _ | assumption | refine (og_set_ne _ _ (by first | assumption | omega)).trans ?_)) (by omega) rfl ?_
  refine og_bipush (pc := 34) (v := 8) dX8_coordinate_34 (by decide) ?_
  refine og_iload_n (pc := 36) dX8_coordinate_36 rfl ?_
  refine og_imul (pc := 37) dX8_coordinate_37 ?_
  refine og_iload_n (pc := 38) dX8_coordinate_38 rfl ?_
  refine og_iadd (pc := 39) dX8_coordinate_39 ?_
  refine og_ialdN (pc := 40) (og_i8 r i) dX8_coordinate_40 ws (by omega) (by omega) (by first | decide | assumption | omega) ?_
  exact og_iret (pc := 41) hr dX8_coordinate_41 (by omega) (by omega) ⟨rfl, Or.inr ⟨r, i, hr8, hi8, rfl, rfl, rfl, w3⟩⟩
set_option maxRecDepth 4000 in
theorem c_X8_norm (E : og_E) (d n : Nat) (h : og_H) (x : Int32) {h0 : og_H} {M : q_M} (w : og_MK h0 h M) :
    og_M E yX8_norm (.code yX8_norm cX8_norm 2 (some .long)) (d + 2) [.ref 101, .int x] n h 0 0 (fun v n1 h1 => n1 = n ∧ ((¬ (q_in8 x) ∧ v = some (.long 0) ∧ og_MK h0 h1 (m_wRf M 1)) ∨ (∃ r, r < 8 ∧ x = nI r ∧ v = some (.long (q_inner (m_R M r) (m_R M r) 8)) ∧ og_MK h0 h1 (m_wRf M 0)))) no_x := by
  refine og_start (lv := [some (.ref 101), some (.int x)]) (by decide) rfl rfl (Nat.le_of_ble_eq_true rfl) fun X hr hnm htb => ?_
  have rej : ¬ (q_in8 x) → og_G E yX8_norm.cls cX8_norm (d + 2) 0 0 2 X (og_Q E (fun v n1 h1 => n1 = n ∧ ((¬ (q_in8 x) ∧ v = some (.long 0) ∧ og_MK h0 h1 (m_wRf M 1)) ∨ (∃ r, r < 8 ∧ x = nI r ∧ v = some (.long (q_inner (m_R M r) (m_R M r) 8)) ∧ og_MK h0 h1 (m_wRf M 0)))) no_x 0 0 X) 0 0 n h 12 [some (.ref 101), some (.int x)] [.ref 101] := by
    intro hb
    have wm := w.m
    refine og_iconst (pc := 12) (v := 1) dX8_norm_12 (by decide) ?_
    refine og_callV (pc := 13) (As := [.int 1]) (rest := []) (c_X8_throwsAt E d n h 1 wm) Y_X8_throwsAt I_X8_throwsAt V_X8_throwsAt wm (by omega) rfl rfl K_X8_125 dX8_norm_13 rfl rfl (Nat.le_of_ble_eq_true rfl) (by omega) (by omega) (by omega) (fun _ _ _ z => z) (fun v n1 h1 z => ?_)
    obtain ⟨hn, hh, z⟩ := z
    subst hn
    have w2 := w.rf_ 1
    rcases z with ⟨rfl, z⟩ | ⟨rfl, z⟩
    · refine og_if_eq (pc := 16) (tgt := 23) dX8_norm_16 (by decide) (fun q => absurd q (by decide)) (fun _ => ?_)
      refine og_lconst (pc := 19) (v := 0) dX8_norm_19 (by decide) ?_
      refine og_goto (pc := 20) (tgt := 28) dX8_norm_20 (by decide) ?_
      exact og_lret (pc := 28) hr dX8_norm_28 (by omega) (by omega) ⟨rfl, Or.inl ⟨hb, rfl, by rw [hh]; exact w2⟩⟩
    · exact absurd (by decide) z
  refine og_aload_n (pc := 0) dX8_norm_0 rfl ?_
  refine og_iload_n (pc := 1) dX8_norm_1 rfl ?_
  refine og_callS (pc := 2) (As := [.int x]) (rest := [.ref 101]) (c_X8_isEight E d n h x) Y_X8_isEight S_X8_isEight K_X8_121 dX8_norm_2 rfl rfl (Nat.le_of_ble_eq_true rfl) (by omega) (by omega) (by omega) (fun _ _ _ z => z) (fun v n1 h1 z => ?_)
  obtain ⟨hn, hh, z⟩ := z
  subst hn hh
  rcases z with ⟨rfl, zx⟩ | ⟨rfl, zx⟩
  rotate_left
  · exact og_if_eq (pc := 5) (tgt := 12) dX8_norm_5 (by decide) (fun _ => rej (fun q => zx (q_in_e8 q))) (fun q => absurd rfl q)
  refine og_if_eq (pc := 5) (tgt := 12) dX8_norm_5 (by decide) (fun q => absurd q (by decide)) (fun _ => ?_)
  refine og_iconst (pc := 8) (v := 0) dX8_norm_8 (by decide) ?_
  refine og_goto (pc := 9) (tgt := 13) dX8_norm_9 (by decide) ?_
  have wm := w.m
  refine og_callV (pc := 13) (As := [.int 0]) (rest := []) (c_X8_throwsAt E d n1 h1 0 wm) Y_X8_throwsAt I_X8_throwsAt V_X8_throwsAt wm (by omega) rfl rfl K_X8_125 dX8_norm_13 rfl rfl (Nat.le_of_ble_eq_true rfl) (by omega) (by omega) (by omega) (fun _ _ _ z => z) (fun v n2 h2 z => ?_)
  obtain ⟨hn, hh, z⟩ := z
  subst hn
  have w2 := w.rf_ 0
  rcases z with ⟨rfl, z⟩ | ⟨rfl, -⟩
  · exact absurd z (by decide)
  refine og_if_eq (pc := 16) (tgt := 23) dX8_norm_16 (by decide) (fun _ => ?_) (fun q => absurd rfl q)
  obtain ⟨r, hr8, rfl⟩ := q_e8_in zx
  refine og_abs (P := fun g => og_MK h0 g (m_wRf M 0)) (by rw [hh]; exact w2) fun g w3 => ?_
  have wm := w3.m
  refine og_aload_n (pc := 23) dX8_norm_23 rfl ?_
  refine og_iload_n (pc := 24) dX8_norm_24 rfl ?_
  refine og_callV (pc := 25) (As := [.int (nI r)]) (rest := []) (c_X8_normOf E d n2 r g w3 hr8) Y_X8_normOf I_X8_normOf V_X8_normOf wm (by omega) rfl rfl K_X8_135 dX8_norm_25 rfl rfl (Nat.le_of_ble_eq_true rfl) (by omega) (by omega) (by omega) (fun _ _ _ z => z) (fun v n3 h3 z => ?_)
  obtain ⟨hn, rfl, w4⟩ := z
  subst hn
  exact og_lret (pc := 28) hr dX8_norm_28 (by omega) (by omega) ⟨rfl, Or.inr ⟨r, hr8, rfl, rfl, w4⟩⟩
set_option maxRecDepth 4000 in
theorem c_X8_ordersOf (E : og_E) (d n : Nat) (h : og_H) (x : Int32) {h0 : og_H} {M : q_M} (w : og_MK h0 h M) :
    og_M E yX8_ordersOf (.code yX8_ordersOf cX8_ordersOf 2 (some .int)) (d + 3) [.ref 101, .int x] n h 0 0 (fun v n1 h1 => n1 = n ∧ ((¬ (q_in8 x) ∧ v = some (.int 0) ∧ og_MK h0 h1 (m_wRf M 1)) ∨ (∃ r, r < 8 ∧ x = nI r ∧ v = some (.int (q_ordS (m_R M r) 8)) ∧ og_MK h0 h1 (m_wRf M 0)))) no_x := by
  refine og_start (lv := [some (.ref 101), some (.int x)]) (by decide) rfl rfl (Nat.le_of_ble_eq_true rfl) fun X hr hnm htb => ?_
  have rej : ¬ (q_in8 x) → og_G E yX8_ordersOf.cls cX8_ordersOf (d + 3) 0 0 2 X (og_Q E (fun v n1 h1 => n1 = n ∧ ((¬ (q_in8 x) ∧ v = some (.int 0) ∧ og_MK h0 h1 (m_wRf M 1)) ∨ (∃ r, r < 8 ∧ x = nI r ∧ v = some (.int (q_ordS (m_R M r) 8)) ∧ og_MK h0 h1 (m_wRf M 0)))) no_x 0 0 X) 0 0 n h 12 [some (.ref 101), some (.int x)] [.ref 101] := by
    intro hb
    have wm := w.m
    refine og_iconst (pc := 12) (v := 1) dX8_ordersOf_12 (by decide) ?_
    refine og_callV (pc := 13) (As := [.int 1]) (rest := []) (c_X8_throwsAt E d n h 1 wm) Y_X8_throwsAt I_X8_throwsAt V_X8_throwsAt wm (by omega) rfl rfl K_X8_125 dX8_ordersOf_13 rfl rfl (Nat.le_of_ble_eq_true rfl) (by omega) (by omega) (by omega) (fun _ _ _ z => z) (fun v n1 h1 z => ?_)
    obtain ⟨hn, hh, z⟩ := z
    subst hn
    have w2 := w.rf_ 1
    rcases z with ⟨rfl, z⟩ | ⟨rfl, z⟩
    · refine og_if_eq (pc := 16) (tgt := 23) dX8_ordersOf_16 (by decide) (fun q => absurd q (by decide)) (fun _ => ?_)
      refine og_iconst (pc := 19) (v := 0) dX8_ordersOf_19 (by decide) ?_
      refine og_goto (pc := 20) (tgt := 28) dX8_ordersOf_20 (by decide) ?_
      exact og_iret (pc := 28) hr dX8_ordersOf_28 (by omega) (by omega) ⟨rfl, Or.inl ⟨hb, rfl, by rw [hh]; exact w2⟩⟩
    · exact absurd (by decide) z
  refine og_aload_n (pc := 0) dX8_ordersOf_0 rfl ?_
  refine og_iload_n (pc := 1) dX8_ordersOf_1 rfl ?_
  refine og_callS (pc := 2) (As := [.int x]) (rest := [.ref 101]) (c_X8_isEight E d n h x) Y_X8_isEight S_X8_isEight K_X8_121 dX8_ordersOf_2 rfl rfl (Nat.le_of_ble_eq_true rfl) (by omega) (by omega) (by omega) (fun _ _ _ z => z) (fun v n1 h1 z => ?_)
  obtain ⟨hn, hh, z⟩ := z
  subst hn hh
  rcases z with ⟨rfl, zx⟩ | ⟨rfl, zx⟩
  rotate_left
  · exact og_if_eq (pc := 5) (tgt := 12) dX8_ordersOf_5 (by decide) (fun _ => rej (fun q => zx (q_in_e8 q))) (fun q => absurd rfl q)
  refine og_if_eq (pc := 5) (tgt := 12) dX8_ordersOf_5 (by decide) (fun q => absurd q (by decide)) (fun _ => ?_)
  refine og_iconst (pc := 8) (v := 0) dX8_ordersOf_8 (by decide) ?_
  refine og_goto (pc := 9) (tgt := 13) dX8_ordersOf_9 (by decide) ?_
  have wm := w.m
  refine og_callV (pc := 13) (As := [.int 0]) (rest := []) (c_X8_throwsAt E d n1 h1 0 wm) Y_X8_throwsAt I_X8_throwsAt V_X8_throwsAt wm (by omega) rfl rfl K_X8_125 dX8_ordersOf_13 rfl rfl (Nat.le_of_ble_eq_true rfl) (by omega) (by omega) (by omega) (fun _ _ _ z => z) (fun v n2 h2 z => ?_)
  obtain ⟨hn, hh, z⟩ := z
  subst hn
  have w2 := w.rf_ 0
  rcases z with ⟨rfl, z⟩ | ⟨rfl, -⟩
  · exact absurd z (by decide)
  refine og_if_eq (pc := 16) (tgt := 23) dX8_ordersOf_16 (by decide) (fun _ => ?_) (fun q => absurd rfl q)
  obtain ⟨r, hr8, rfl⟩ := q_e8_in zx
  refine og_abs (P := fun g => og_MK h0 g (m_wRf M 0)) (by rw [hh]; exact w2) fun g w3 => ?_
  have wm := w3.m
  refine og_aload_n (pc := 23) dX8_ordersOf_23 rfl ?_
  refine og_iload_n (pc := 24) dX8_ordersOf_24 rfl ?_
  refine og_callV (pc := 25) (As := [.int (nI r)]) (rest := []) (c_X8_orders E d n2 r g w3 hr8) Y_X8_orders I_X8_orders V_X8_orders wm (by omega) rfl rfl K_X8_191 dX8_ordersOf_25 rfl rfl (Nat.le_of_ble_eq_true rfl) (by omega) (by omega) (by omega) (fun _ _ _ z => z) (fun v n3 h3 z => ?_)
  obtain ⟨hn, rfl, w4⟩ := z
  subst hn
  exact og_iret (pc := 28) hr dX8_ordersOf_28 (by omega) (by omega) ⟨rfl, Or.inr ⟨r, hr8, rfl, rfl, w4⟩⟩
set_option maxRecDepth 4000 in
theorem c_X8_commute (E : og_E) (d n : Nat) (h : og_H) (x y : Int32) {h0 : og_H} {M : q_M} (w : og_MK h0 h M) :
    og_M E yX8_commute (.code yX8_commute cX8_commute 3 (some .boolean)) (d + 3) [.ref 101, .int x, .int y] n h 0 0 (fun v n1 h1 => n1 = n ∧ ((¬ (q_in8 x ∧ q_in8 y) ∧ v = some (.int 0) ∧ og_MK h0 h1 (m_wRf M 1)) ∨ (∃ a b, a < 8 ∧ b < 8 ∧ x = nI a ∧ y = nI b ∧ og_MK h0 h1 (m_wRf M 0) ∧ ((v = some (.int 1) ∧ q_inner (q_total (q_prod (m_R M a) (m_R M b)) (q_prod (m_R M b) (m_R M a)) 1) (q_total (q_prod (m_R M a) (m_R M b)) (q_prod (m_R M b) (m_R M a)) 1) 8 = 0) ∨ (v = some (.int 0) ∧ q_inner (q_total (q_prod (m_R M a) (m_R M b)) (q_prod (m_R M b) (m_R M a)) 1) (q_total (q_prod (m_R M a) (m_R M b)) (q_prod (m_R M b) (m_R M a)) 1) 8 ≠ 0))))) no_x := by
  refine og_start (lv := [some (.ref 101), some (.int x), some (.int y)]) (by decide) rfl rfl (Nat.le_of_ble_eq_true rfl) fun X hr hnm htb => ?_
  have rej : ¬ (q_in8 x ∧ q_in8 y) → og_G E yX8_commute.cls cX8_commute (d + 3) 0 0 3 X (og_Q E (fun v n1 h1 => n1 = n ∧ ((¬ (q_in8 x ∧ q_in8 y) ∧ v = some (.int 0) ∧ og_MK h0 h1 (m_wRf M 1)) ∨ (∃ a b, a < 8 ∧ b < 8 ∧ x = nI a ∧ y = nI b ∧ og_MK h0 h1 (m_wRf M 0) ∧ ((v = some (.int 1) ∧ q_inner (q_total (q_prod (m_R M a) (m_R M b)) (q_prod (m_R M b) (m_R M a)) 1) (q_total (q_prod (m_R M a) (m_R M b)) (q_prod (m_R M b) (m_R M a)) 1) 8 = 0) ∨ (v = some (.int 0) ∧ q_inner (q_total (q_prod (m_R M a) (m_R M b)) (q_prod (m_R M b) (m_R M a)) 1) (q_total (q_prod (m_R M a) (m_R M b)) (q_prod (m_R M b) (m_R M a)) 1) 8 ≠ 0))))) no_x 0 0 X) 0 0 n h 19 [some (.ref 101), some (.int x), some (.int y)] [.ref 101] := by
    intro hb
    have wm := w.m
    refine og_iconst (pc := 19) (v := 1) dX8_commute_19 (by decide) ?_
    refine og_callV (pc := 20) (As := [.int 1]) (rest := []) (c_X8_throwsAt E d n h 1 wm) Y_X8_throwsAt I_X8_throwsAt V_X8_throwsAt wm (by omega) rfl rfl K_X8_125 dX8_commute_20 rfl rfl (Nat.le_of_ble_eq_true rfl) (by omega) (by omega) (by omega) (fun _ _ _ z => z) (fun v n1 h1 z => ?_)
    obtain ⟨hn, hh, z⟩ := z
    subst hn
    have w2 := w.rf_ 1
    rcases z with ⟨rfl, z⟩ | ⟨rfl, z⟩
    · refine og_if_eq (pc := 23) (tgt := 28) dX8_commute_23 (by decide) (fun q => absurd q (by decide)) (fun _ => ?_)
      refine og_iconst (pc := 26) (v := 0) dX8_commute_26 (by decide) ?_
      exact og_zret (pc := 27) hr rfl dX8_commute_27 (by omega) (by omega) ⟨rfl, Or.inl ⟨hb, rfl, by rw [hh]; exact w2⟩⟩
    · exact absurd (by decide) z
  refine og_aload_n (pc := 0) dX8_commute_0 rfl ?_
  refine og_iload_n (pc := 1) dX8_commute_1 rfl ?_
  refine og_callS (pc := 2) (As := [.int x]) (rest := [.ref 101]) (c_X8_isEight E d n h x) Y_X8_isEight S_X8_isEight K_X8_121 dX8_commute_2 rfl rfl (Nat.le_of_ble_eq_true rfl) (by omega) (by omega) (by omega) (fun _ _ _ z => z) (fun v n1 h1 z => ?_)
  obtain ⟨hn, hh, z⟩ := z
  subst hn hh
  rcases z with ⟨rfl, zx⟩ | ⟨rfl, zx⟩
  rotate_left
  · exact og_if_eq (pc := 5) (tgt := 19) dX8_commute_5 (by decide) (fun _ => rej (fun q => zx (q_in_e8 q.1))) (fun q => absurd rfl q)
  refine og_if_eq (pc := 5) (tgt := 19) dX8_commute_5 (by decide) (fun q => absurd q (by decide)) (fun _ => ?_)
  refine og_iload_n (pc := 8) dX8_commute_8 rfl ?_
  refine og_callS (pc := 9) (As := [.int y]) (rest := [.ref 101]) (c_X8_isEight E d n1 h1 y) Y_X8_isEight S_X8_isEight K_X8_121 dX8_commute_9 rfl rfl (Nat.le_of_ble_eq_true rfl) (by omega) (by omega) (by omega) (fun _ _ _ z => z) (fun v n2 h2 z => ?_)
  obtain ⟨hn, hh, z⟩ := z
  subst hn hh
  rcases z with ⟨rfl, zy⟩ | ⟨rfl, zy⟩
  rotate_left
  · exact og_if_eq (pc := 12) (tgt := 19) dX8_commute_12 (by decide) (fun _ => rej (fun q => zy (q_in_e8 q.2))) (fun q => absurd rfl q)
  refine og_if_eq (pc := 12) (tgt := 19) dX8_commute_12 (by decide) (fun q => absurd q (by decide)) (fun _ => ?_)
  refine og_iconst (pc := 15) (v := 0) dX8_commute_15 (by decide) ?_
  refine og_goto (pc := 16) (tgt := 20) dX8_commute_16 (by decide) ?_
  have wm := w.m
  refine og_callV (pc := 20) (As := [.int 0]) (rest := []) (c_X8_throwsAt E d n2 h2 0 wm) Y_X8_throwsAt I_X8_throwsAt V_X8_throwsAt wm (by omega) rfl rfl K_X8_125 dX8_commute_20 rfl rfl (Nat.le_of_ble_eq_true rfl) (by omega) (by omega) (by omega) (fun _ _ _ z => z) (fun v n3 h3 z => ?_)
  obtain ⟨hn, hh, z⟩ := z
  subst hn
  have w2 := w.rf_ 0
  rcases z with ⟨rfl, z⟩ | ⟨rfl, -⟩
  · exact absurd z (by decide)
  refine og_if_eq (pc := 23) (tgt := 28) dX8_commute_23 (by decide) (fun _ => ?_) (fun q => absurd rfl q)
  obtain ⟨a, ha8, rfl⟩ := q_e8_in zx
  obtain ⟨b, hb8, rfl⟩ := q_e8_in zy
  refine og_abs (P := fun g => og_MK h0 g (m_wRf M 0)) (by rw [hh]; exact w2) fun g w3 => ?_
  have wm := w3.m
  refine og_aload_n (pc := 28) dX8_commute_28 rfl ?_
  refine og_iload_n (pc := 29) dX8_commute_29 rfl ?_
  refine og_iload_n (pc := 30) dX8_commute_30 rfl ?_
  refine og_callV (pc := 31) (As := [.int (nI a), .int (nI b)]) (rest := []) (c_X8_doCommute E d n3 a b g w3 ha8 hb8) Y_X8_doCommute I_X8_doCommute V_X8_doCommute wm (by omega) rfl rfl K_X8_201 dX8_commute_31 rfl rfl (Nat.le_of_ble_eq_true rfl) (by omega) (by omega) (by omega) (fun _ _ _ z => z) (fun v n4 h4 z => ?_)
  obtain ⟨hn, w4, z⟩ := z
  subst hn
  rcases z with ⟨rfl, z⟩ | ⟨rfl, z⟩
  · exact og_zret (pc := 34) hr rfl dX8_commute_34 (by omega) (by omega) ⟨rfl, Or.inr ⟨a, b, ha8, hb8, rfl, rfl, w4, Or.inl ⟨rfl, z⟩⟩⟩
  · exact og_zret (pc := 34) hr rfl dX8_commute_34 (by omega) (by omega) ⟨rfl, Or.inr ⟨a, b, ha8, hb8, rfl, rfl, w4, Or.inr ⟨rfl, z⟩⟩⟩
set_option maxRecDepth 4000 in
theorem c_X8_associate (E : og_E) (d n : Nat) (h : og_H) (x y t : Int32) {h0 : og_H} {M : q_M} (w : og_MK h0 h M) :
    og_M E yX8_associate (.code yX8_associate cX8_associate 4 (some .boolean)) (d + 2) [.ref 101, .int x, .int y, .int t] n h 0 0 (fun v n1 h1 => n1 = n ∧ ((¬ (q_in8 x ∧ q_in8 y ∧ q_in8 t) ∧ v = some (.int 0) ∧ og_MK h0 h1 (m_wRf M 1)) ∨ (∃ a b c, a < 8 ∧ b < 8 ∧ c < 8 ∧ x = nI a ∧ y = nI b ∧ t = nI c ∧ og_MK h0 h1 (m_wRf M 0) ∧ ((v = some (.int 1) ∧ ∀ i, i < 8 → (q_asc (m_R M a) (m_R M b) (m_R M c)) i = 0) ∨ (v = some (.int 0) ∧ ¬ ∀ i, i < 8 → (q_asc (m_R M a) (m_R M b) (m_R M c)) i = 0))))) no_x := by
  refine og_start (lv := [some (.ref 101), some (.int x), some (.int y), some (.int t)]) (by decide) rfl rfl (Nat.le_of_ble_eq_true rfl) fun X hr hnm htb => ?_
  have rej : ¬ (q_in8 x ∧ q_in8 y ∧ q_in8 t) → og_G E yX8_associate.cls cX8_associate (d + 2) 0 0 4 X (og_Q E (fun v n1 h1 => n1 = n ∧ ((¬ (q_in8 x ∧ q_in8 y ∧ q_in8 t) ∧ v = some (.int 0) ∧ og_MK h0 h1 (m_wRf M 1)) ∨ (∃ a b c, a < 8 ∧ b < 8 ∧ c < 8 ∧ x = nI a ∧ y = nI b ∧ t = nI c ∧ og_MK h0 h1 (m_wRf M 0) ∧ ((v = some (.int 1) ∧ ∀ i, i < 8 → (q_asc (m_R M a) (m_R M b) (m_R M c)) i = 0) ∨ (v = some (.int 0) ∧ ¬ ∀ i, i < 8 → (q_asc (m_R M a) (m_R M b) (m_R M c)) i = 0))))) no_x 0 0 X) 0 0 n h 26 [some (.ref 101), some (.int x), some (.int y), some (.int t)] [.ref 101] := by
    intro hb
    have wm := w.m
    refine og_iconst (pc := 26) (v := 1) dX8_associate_26 (by decide) ?_
    refine og_callV (pc := 27) (As := [.int 1]) (rest := []) (c_X8_throwsAt E d n h 1 wm) Y_X8_throwsAt I_X8_throwsAt V_X8_throwsAt wm (by omega) rfl rfl K_X8_125 dX8_associate_27 rfl rfl (Nat.le_of_ble_eq_true rfl) (by omega) (by omega) (by omega) (fun _ _ _ z => z) (fun v n1 h1 z => ?_)
    obtain ⟨hn, hh, z⟩ := z
    subst hn
    have w2 := w.rf_ 1
    rcases z with ⟨rfl, z⟩ | ⟨rfl, z⟩
    · refine og_if_eq (pc := 30) (tgt := 35) dX8_associate_30 (by decide) (fun q => absurd q (by decide)) (fun _ => ?_)
      refine og_iconst (pc := 33) (v := 0) dX8_associate_33 (by decide) ?_
      exact og_zret (pc := 34) hr rfl dX8_associate_34 (by omega) (by omega) ⟨rfl, Or.inl ⟨hb, rfl, by rw [hh]; exact w2⟩⟩
    · exact absurd (by decide) z
  refine og_aload_n (pc := 0) dX8_associate_0 rfl ?_
  refine og_iload_n (pc := 1) dX8_associate_1 rfl ?_
  refine og_callS (pc := 2) (As := [.int x]) (rest := [.ref 101]) (c_X8_isEight E d n h x) Y_X8_isEight S_X8_isEight K_X8_121 dX8_associate_2 rfl rfl (Nat.le_of_ble_eq_true rfl) (by omega) (by omega) (by omega) (fun _ _ _ z => z) (fun v n1 h1 z => ?_)
  obtain ⟨hn, hh, z⟩ := z
  subst hn hh
  rcases z with ⟨rfl, zx⟩ | ⟨rfl, zx⟩
  rotate_left
  · exact og_if_eq (pc := 5) (tgt := 26) dX8_associate_5 (by decide) (fun _ => rej (fun q => zx (q_in_e8 q.1))) (fun q => absurd rfl q)
  refine og_if_eq (pc := 5) (tgt := 26) dX8_associate_5 (by decide) (fun q => absurd q (by decide)) (fun _ => ?_)
  refine og_iload_n (pc := 8) dX8_associate_8 rfl ?_
  refine og_callS (pc := 9) (As := [.int y]) (rest := [.ref 101]) (c_X8_isEight E d n1 h1 y) Y_X8_isEight S_X8_isEight K_X8_121 dX8_associate_9 rfl rfl (Nat.le_of_ble_eq_true rfl) (by omega) (by omega) (by omega) (fun _ _ _ z => z) (fun v n2 h2 z => ?_)
  obtain ⟨hn, hh, z⟩ := z
  subst hn hh
  rcases z with ⟨rfl, zy⟩ | ⟨rfl, zy⟩
  rotate_left
  · exact og_if_eq (pc := 12) (tgt := 26) dX8_associate_12 (by decide) (fun _ => rej (fun q => zy (q_in_e8 q.2.1))) (fun q => absurd rfl q)
  refine og_if_eq (pc := 12) (tgt := 26) dX8_associate_12 (by decide) (fun q => absurd q (by decide)) (fun _ => ?_)
  refine og_iload_n (pc := 15) dX8_associate_15 rfl ?_
  refine og_callS (pc := 16) (As := [.int t]) (rest := [.ref 101]) (c_X8_isEight E d n2 h2 t) Y_X8_isEight S_X8_isEight K_X8_121 dX8_associate_16 rfl rfl (Nat.le_of_ble_eq_true rfl) (by omega) (by omega) (by omega) (fun _ _ _ z => z) (fun v n3 h3 z => ?_)
  obtain ⟨hn, hh, z⟩ := z
  subst hn hh
  rcases z with ⟨rfl, zt⟩ | ⟨rfl, zt⟩
  rotate_left
  · exact og_if_eq (pc := 19) (tgt := 26) dX8_associate_19 (by decide) (fun _ => rej (fun q => zt (q_in_e8 q.2.2))) (fun q => absurd rfl q)
  refine og_if_eq (pc := 19) (tgt := 26) dX8_associate_19 (by decide) (fun q => absurd q (by decide)) (fun _ => ?_)
  refine og_iconst (pc := 22) (v := 0) dX8_associate_22 (by decide) ?_
  refine og_goto (pc := 23) (tgt := 27) dX8_associate_23 (by decide) ?_
  have wm := w.m
  refine og_callV (pc := 27) (As := [.int 0]) (rest := []) (c_X8_throwsAt E d n3 h3 0 wm) Y_X8_throwsAt I_X8_throwsAt V_X8_throwsAt wm (by omega) rfl rfl K_X8_125 dX8_associate_27 rfl rfl (Nat.le_of_ble_eq_true rfl) (by omega) (by omega) (by omega) (fun _ _ _ z => z) (fun v n4 h4 z => ?_)
  obtain ⟨hn, hh, z⟩ := z
  subst hn
  have w2 := w.rf_ 0
  rcases z with ⟨rfl, z⟩ | ⟨rfl, -⟩
  · exact absurd z (by decide)
  refine og_if_eq (pc := 30) (tgt := 35) dX8_associate_30 (by decide) (fun _ => ?_) (fun q => absurd rfl q)
  obtain ⟨a, ha8, rfl⟩ := q_e8_in zx
  obtain ⟨b, hb8, rfl⟩ := q_e8_in zy
  obtain ⟨c, hc8, rfl⟩ := q_e8_in zt
  refine og_abs (P := fun g => og_MK h0 g (m_wRf M 0)) (by rw [hh]; exact w2) fun g w3 => ?_
  have wm := w3.m
  refine og_aload_n (pc := 35) dX8_associate_35 rfl ?_
  refine og_iload_n (pc := 36) dX8_associate_36 rfl ?_
  refine og_iload_n (pc := 37) dX8_associate_37 rfl ?_
  refine og_iload_n (pc := 38) dX8_associate_38 rfl ?_
  refine og_callV (pc := 39) (As := [.int (nI a), .int (nI b), .int (nI c)]) (rest := []) (c_X8_associates E d n4 a b c g w3 ha8 hb8 hc8) Y_X8_associates I_X8_associates V_X8_associates wm (by omega) rfl rfl K_X8_156 dX8_associate_39 rfl rfl (Nat.le_of_ble_eq_true rfl) (by omega) (by omega) (by omega) (fun _ _ _ z => z) (fun v n5 h5 z => ?_)
  obtain ⟨hn, rfl, w4, e110⟩ := z
  subst hn
  have wm := w4.m
  refine og_aload_n (pc := 42) dX8_associate_42 rfl ?_
  refine og_callV (pc := 43) (As := []) (rest := []) (c_X8_isFlat E d n5 h5 w4 e110) Y_X8_isFlat I_X8_isFlat V_X8_isFlat wm (by omega) rfl rfl K_X8_204 dX8_associate_43 rfl rfl (Nat.le_of_ble_eq_true rfl) (by omega) (by omega) (by omega) (fun _ _ _ z => z) (fun v n6 h6 z => ?_)
  obtain ⟨hn, hh, z⟩ := z
  subst hn hh
  rcases z with ⟨rfl, z⟩ | ⟨rfl, z⟩
  · exact og_zret (pc := 46) hr rfl dX8_associate_46 (by omega) (by omega) ⟨rfl, Or.inr ⟨a, b, c, ha8, hb8, hc8, rfl, rfl, rfl, w4, Or.inl ⟨rfl, z⟩⟩⟩
  · exact og_zret (pc := 46) hr rfl dX8_associate_46 (by omega) (by omega) ⟨rfl, Or.inr ⟨a, b, c, ha8, hb8, hc8, rfl, rfl, rfl, w4, Or.inr ⟨rfl, z⟩⟩⟩
set_option maxRecDepth 4000 in
theorem c_X8_dot (E : og_E) (d n : Nat) (h : og_H) (x y : Int32) {h0 : og_H} {M : q_M} (w : og_MK h0 h M) :
    og_M E yX8_dot (.code yX8_dot cX8_dot 6 (some .long)) (d + 2) [.ref 101, .int x, .int y] n h 0 0 (fun v n1 h1 => n1 = n ∧ ((¬ (q_in8 x ∧ q_in8 y) ∧ v = some (.long 0) ∧ og_MK h0 h1 (m_wRf M 1)) ∨ (∃ a b, a < 8 ∧ b < 8 ∧ x = nI a ∧ y = nI b ∧ v = some (.long (q_inner (m_R M a) (m_R M b) 8)) ∧ og_MK h0 h1 (m_wRf M 0)))) no_x := by
  refine og_start (lv := [some (.ref 101), some (.int x), some (.int y), none, none, none]) (by decide) rfl rfl (Nat.le_of_ble_eq_true rfl) fun X hr hnm htb => ?_
  have rej : ¬ (q_in8 x ∧ q_in8 y) → og_G E yX8_dot.cls cX8_dot (d + 2) 0 0 6 X (og_Q E (fun v n1 h1 => n1 = n ∧ ((¬ (q_in8 x ∧ q_in8 y) ∧ v = some (.long 0) ∧ og_MK h0 h1 (m_wRf M 1)) ∨ (∃ a b, a < 8 ∧ b < 8 ∧ x = nI a ∧ y = nI b ∧ v = some (.long (q_inner (m_R M a) (m_R M b) 8)) ∧ og_MK h0 h1 (m_wRf M 0)))) no_x 0 0 X) 0 0 n h 19 [some (.ref 101), some (.int x), some (.int y), none, none, none] [.ref 101] := by
    intro hb
    have wm := w.m
    refine og_iconst (pc := 19) (v := 1) dX8_dot_19 (by decide) ?_
    refine og_callV (pc := 20) (As := [.int 1]) (rest := []) (c_X8_throwsAt E d n h 1 wm) Y_X8_throwsAt I_X8_throwsAt V_X8_throwsAt wm (by omega) rfl rfl K_X8_125 dX8_dot_20 rfl rfl (Nat.le_of_ble_eq_true rfl) (by omega) (by omega) (by omega) (fun _ _ _ z => z) (fun v n1 h1 z => ?_)
    obtain ⟨hn, hh, z⟩ := z
    subst hn
    have w2 := w.rf_ 1
    rcases z with ⟨rfl, z⟩ | ⟨rfl, z⟩
    · refine og_if_eq (pc := 23) (tgt := 28) dX8_dot_23 (by decide) (fun q => absurd q (by decide)) (fun _ => ?_)
      refine og_lconst (pc := 26) (v := 0) dX8_dot_26 (by decide) ?_
      exact og_lret (pc := 27) hr dX8_dot_27 (by omega) (by omega) ⟨rfl, Or.inl ⟨hb, rfl, by rw [hh]; exact w2⟩⟩
    · exact absurd (by decide) z
  refine og_aload_n (pc := 0) dX8_dot_0 rfl ?_
  refine og_iload_n (pc := 1) dX8_dot_1 rfl ?_
  refine og_callS (pc := 2) (As := [.int x]) (rest := [.ref 101]) (c_X8_isEight E d n h x) Y_X8_isEight S_X8_isEight K_X8_121 dX8_dot_2 rfl rfl (Nat.le_of_ble_eq_true rfl) (by omega) (by omega) (by omega) (fun _ _ _ z => z) (fun v n1 h1 z => ?_)
  obtain ⟨hn, hh, z⟩ := z
  subst hn hh
  rcases z with ⟨rfl, zx⟩ | ⟨rfl, zx⟩
  rotate_left
  · exact og_if_eq (pc := 5) (tgt := 19) dX8_dot_5 (by decide) (fun _ => rej (fun q => zx (q_in_e8 q.1))) (fun q => absurd rfl q)
  refine og_if_eq (pc := 5) (tgt := 19) dX8_dot_5 (by decide) (fun q => absurd q (by decide)) (fun _ => ?_)
  refine og_iload_n (pc := 8) dX8_dot_8 rfl ?_
  refine og_callS (pc := 9) (As := [.int y]) (rest := [.ref 101]) (c_X8_isEight E d n1 h1 y) Y_X8_isEight S_X8_isEight K_X8_121 dX8_dot_9 rfl rfl (Nat.le_of_ble_eq_true rfl) (by omega) (by omega) (by omega) (fun _ _ _ z => z) (fun v n2 h2 z => ?_)
  obtain ⟨hn, hh, z⟩ := z
  subst hn hh
  rcases z with ⟨rfl, zy⟩ | ⟨rfl, zy⟩
  rotate_left
  · exact og_if_eq (pc := 12) (tgt := 19) dX8_dot_12 (by decide) (fun _ => rej (fun q => zy (q_in_e8 q.2))) (fun q => absurd rfl q)
  refine og_if_eq (pc := 12) (tgt := 19) dX8_dot_12 (by decide) (fun q => absurd q (by decide)) (fun _ => ?_)
  refine og_iconst (pc := 15) (v := 0) dX8_dot_15 (by decide) ?_
  refine og_goto (pc := 16) (tgt := 20) dX8_dot_16 (by decide) ?_
  have wm := w.m
  refine og_callV (pc := 20) (As := [.int 0]) (rest := []) (c_X8_throwsAt E d n2 h2 0 wm) Y_X8_throwsAt I_X8_throwsAt V_X8_throwsAt wm (by omega) rfl rfl K_X8_125 dX8_dot_20 rfl rfl (Nat.le_of_ble_eq_true rfl) (by omega) (by omega) (by omega) (fun _ _ _ z => z) (fun v n3 h3 z => ?_)
  obtain ⟨hn, hh, z⟩ := z
  subst hn
  have w2 := w.rf_ 0
  rcases z with ⟨rfl, z⟩ | ⟨rfl, -⟩
  · exact absurd z (by decide)
  refine og_if_eq (pc := 23) (tgt := 28) dX8_dot_23 (by decide) (fun _ => ?_) (fun q => absurd rfl q)
  obtain ⟨a, ha8, rfl⟩ := q_e8_in zx
  obtain ⟨b, hb8, rfl⟩ := q_e8_in zy
  refine og_abs (P := fun g => og_MK h0 g (m_wRf M 0)) (by rw [hh]; exact w2) fun g w3 => ?_
  have wm := w3.m
  have ws := w3.s
  refine og_lconst (pc := 28) (v := 0) dX8_dot_28 (by decide) ?_
  refine og_lstore_n_3 (pc := 29) dX8_dot_29 rfl ?_
  refine og_iconst (pc := 30) (v := 0) dX8_dot_30 (by decide) ?_
  refine og_istore_5 (pc := 31) dX8_dot_31 rfl ?_
  refine og_for (i0 := 0) (N := 8) (by decide) (fun _ => g) (fun i => [some (.ref 101), some (.int (nI a)), some (.int (nI b)), some (.long (q_inner (m_R M a) (m_R M b) i)), none, some (.int (nI i))]) ?_ (fun i _ hi ih => ?_)
  · refine og_iload (pc := 33) dX8_dot_33 rfl ?_
    refine og_bipush (pc := 35) (v := 8) dX8_dot_35 (by decide) ?_
    refine og_geN (pc := 37) (tgt := 76) (i := 8) (N := 8) dX8_dot_37 (by decide) rfl rfl (by omega) (by omega) (fun c_37 => ?_) (fun c_37 => ?_)
    · refine og_lload_n (pc := 76) dX8_dot_76 rfl ?_
      exact og_lret (pc := 77) hr dX8_dot_77 (by omega) (by omega) ⟨rfl, Or.inr ⟨a, b, ha8, hb8, rfl, rfl, rfl, w3⟩⟩
    · omega
  · refine og_iload (pc := 33) dX8_dot_33 rfl ?_
    refine og_bipush (pc := 35) (v := 8) dX8_dot_35 (by decide) ?_
    refine og_geN (pc := 37) (tgt := 76) (i := i) (N := 8) dX8_dot_37 (by decide) rfl rfl (by omega) (by omega) (fun c_37 => ?_) (fun c_37 => ?_)
    · omega
    refine og_lload_n (pc := 40) dX8_dot_40 rfl ?_
    refine og_aload_n (pc := 41) dX8_dot_41 rfl ?_
    refine og_get (pc := 42) F_X8_7 dX8_dot_42 (by repeat (first | exact og_set_eq _ _ _ | assumption | refine (og_set_ne _ _ (by first | assumption | omega)).trans ?_)) (by omega) rfl ?_
    refine og_bipush (pc := 45) (v := 8) dX8_dot_45 (by decide) ?_
    refine og_iload_n (pc := 47) dX8_dot_47 rfl ?_
    refine og_imul (pc := 48) dX8_dot_48 ?_
    refine og_iload (pc := 49) dX8_dot_49 rfl ?_
    refine og_iadd (pc := 51) dX8_dot_51 ?_
    refine og_ialdN (pc := 52) (og_i8 a i) dX8_dot_52 ws (by omega) (by omega) (by first | decide | assumption | omega) ?_
    refine og_i2l (pc := 53) dX8_dot_53 rfl ?_
    refine og_aload_n (pc := 54) dX8_dot_54 rfl ?_
    refine og_get (pc := 55) F_X8_7 dX8_dot_55 (by repeat (first | exact og_set_eq _ _ _ | assumption | refine (og_set_ne _ _ (by first | assumption | omega)).trans ?_)) (by omega) rfl ?_
    refine og_bipush (pc := 58) (v := 8) dX8_dot_58 (by decide) ?_
    refine og_iload_n (pc := 60) dX8_dot_60 rfl ?_
    refine og_imul (pc := 61) dX8_dot_61 ?_
    refine og_iload (pc := 62) dX8_dot_62 rfl ?_
    refine og_iadd (pc := 64) dX8_dot_64 ?_
    refine og_ialdN (pc := 65) (og_i8 b i) dX8_dot_65 ws (by omega) (by omega) (by first | decide | assumption | omega) ?_
    refine og_i2l (pc := 66) dX8_dot_66 rfl ?_
    refine og_lmul (pc := 67) dX8_dot_67 ?_
    refine og_ladd (pc := 68) dX8_dot_68 ?_
    refine og_lstore_n_3 (pc := 69) dX8_dot_69 rfl ?_
    refine og_iinc_5 (pc := 70) dX8_dot_70 (og_inc i) rfl ?_
    refine og_goto (pc := 73) (tgt := 33) dX8_dot_73 (by decide) ?_
    exact ih
set_option maxRecDepth 4000 in
theorem c_X8_conjugate (E : og_E) (d n : Nat) (h : og_H) (x : Int32) {h0 : og_H} {M : q_M} (w : og_MK h0 h M) :
    og_M E yX8_conjugate (.code yX8_conjugate cX8_conjugate 3 (some .int)) (d + 2) [.ref 101, .int x] n h 0 0 (fun v n1 h1 => n1 = n ∧ ((¬ (q_in8 x) ∧ v = some (.int 0) ∧ og_MK h0 h1 (m_wRf M 1)) ∨ (∃ r, r < 8 ∧ x = nI r ∧ v = some (.int (m_s M (8 * r))) ∧ og_MK h0 h1 (m_wS (m_save (m_wRf M 0)) (q_ngi (m_s M) r 8))))) no_x := by
  refine og_start (lv := [some (.ref 101), some (.int x), none]) (by decide) rfl rfl (Nat.le_of_ble_eq_true rfl) fun X hr hnm htb => ?_
  have rej : ¬ (q_in8 x) → og_G E yX8_conjugate.cls cX8_conjugate (d + 2) 0 0 3 X (og_Q E (fun v n1 h1 => n1 = n ∧ ((¬ (q_in8 x) ∧ v = some (.int 0) ∧ og_MK h0 h1 (m_wRf M 1)) ∨ (∃ r, r < 8 ∧ x = nI r ∧ v = some (.int (m_s M (8 * r))) ∧ og_MK h0 h1 (m_wS (m_save (m_wRf M 0)) (q_ngi (m_s M) r 8))))) no_x 0 0 X) 0 0 n h 12 [some (.ref 101), some (.int x), none] [.ref 101] := by
    intro hb
    have wm := w.m
    refine og_iconst (pc := 12) (v := 1) dX8_conjugate_12 (by decide) ?_
    refine og_callV (pc := 13) (As := [.int 1]) (rest := []) (c_X8_throwsAt E d n h 1 wm) Y_X8_throwsAt I_X8_throwsAt V_X8_throwsAt wm (by omega) rfl rfl K_X8_125 dX8_conjugate_13 rfl rfl (Nat.le_of_ble_eq_true rfl) (by omega) (by omega) (by omega) (fun _ _ _ z => z) (fun v n1 h1 z => ?_)
    obtain ⟨hn, hh, z⟩ := z
    subst hn
    have w2 := w.rf_ 1
    rcases z with ⟨rfl, z⟩ | ⟨rfl, z⟩
    · refine og_if_eq (pc := 16) (tgt := 21) dX8_conjugate_16 (by decide) (fun q => absurd q (by decide)) (fun _ => ?_)
      refine og_iconst (pc := 19) (v := 0) dX8_conjugate_19 (by decide) ?_
      exact og_iret (pc := 20) hr dX8_conjugate_20 (by omega) (by omega) ⟨rfl, Or.inl ⟨hb, rfl, by rw [hh]; exact w2⟩⟩
    · exact absurd (by decide) z
  refine og_aload_n (pc := 0) dX8_conjugate_0 rfl ?_
  refine og_iload_n (pc := 1) dX8_conjugate_1 rfl ?_
  refine og_callS (pc := 2) (As := [.int x]) (rest := [.ref 101]) (c_X8_isEight E d n h x) Y_X8_isEight S_X8_isEight K_X8_121 dX8_conjugate_2 rfl rfl (Nat.le_of_ble_eq_true rfl) (by omega) (by omega) (by omega) (fun _ _ _ z => z) (fun v n1 h1 z => ?_)
  obtain ⟨hn, hh, z⟩ := z
  subst hn hh
  rcases z with ⟨rfl, zx⟩ | ⟨rfl, zx⟩
  rotate_left
  · exact og_if_eq (pc := 5) (tgt := 12) dX8_conjugate_5 (by decide) (fun _ => rej (fun q => zx (q_in_e8 q))) (fun q => absurd rfl q)
  refine og_if_eq (pc := 5) (tgt := 12) dX8_conjugate_5 (by decide) (fun q => absurd q (by decide)) (fun _ => ?_)
  refine og_iconst (pc := 8) (v := 0) dX8_conjugate_8 (by decide) ?_
  refine og_goto (pc := 9) (tgt := 13) dX8_conjugate_9 (by decide) ?_
  have wm := w.m
  refine og_callV (pc := 13) (As := [.int 0]) (rest := []) (c_X8_throwsAt E d n1 h1 0 wm) Y_X8_throwsAt I_X8_throwsAt V_X8_throwsAt wm (by omega) rfl rfl K_X8_125 dX8_conjugate_13 rfl rfl (Nat.le_of_ble_eq_true rfl) (by omega) (by omega) (by omega) (fun _ _ _ z => z) (fun v n2 h2 z => ?_)
  obtain ⟨hn, hh, z⟩ := z
  subst hn
  have w2 := w.rf_ 0
  rcases z with ⟨rfl, z⟩ | ⟨rfl, -⟩
  · exact absurd z (by decide)
  refine og_if_eq (pc := 16) (tgt := 21) dX8_conjugate_16 (by decide) (fun _ => ?_) (fun q => absurd rfl q)
  obtain ⟨r, hr8, rfl⟩ := q_e8_in zx
  refine og_abs (P := fun g => og_MK h0 g (m_wRf M 0)) (by rw [hh]; exact w2) fun g w3 => ?_
  have wm := w3.m
  refine og_aload_n (pc := 21) dX8_conjugate_21 rfl ?_
  refine og_callV (pc := 22) (As := []) (rest := []) (c_X8_saves E d n2 (m_ps M) g (m_p M) (m_s M) wm w3.s w3.p w3.ok.1) Y_X8_saves I_X8_saves V_X8_saves wm (by omega) rfl rfl K_X8_128 dX8_conjugate_22 rfl rfl (Nat.le_of_ble_eq_true rfl) (by omega) (by omega) (by omega) (fun _ _ _ z => z) (fun v n3 h3 z => ?_)
  obtain ⟨rfl, hn, z⟩ := z
  subst hn
  obtain ⟨w4, -⟩ := m_saved w3 z
  have ws : h3 102 = some (rowI 67 (m_s M)) := by
    have := w4.s
    rw [m_save_s] at this
    exact this
  refine og_iconst (pc := 25) (v := 1) dX8_conjugate_25 (by decide) ?_
  refine og_istore_n_2 (pc := 26) dX8_conjugate_26 rfl ?_
  refine og_heq (og_set h3 102 (rowI 67 (q_ngi (m_s M) r 1))) (by rw [q_ngi_1, og_set_same ws]) ?_
  refine og_for (i0 := 1) (N := 8) (by decide) (fun i => og_set h3 102 (rowI 67 (q_ngi (m_s M) r i))) (fun i => [some (.ref 101), some (.int (nI r)), some (.int (nI i))]) ?_ (fun i h1i hi ih => ?_)
  · have w5 := w4.sS (q_ngi (m_s M) r 8)
    have wm := w5.m
    have ws := w5.s
    have e8 : (8 : Int32) * nI r = nI (8 * r + 0) := by
      have := og_i8 r 0
      rw [← this, show nI 0 = 0 from rfl]
      exact (Int32.add_zero _).symm
    refine og_iload_n (pc := 27) dX8_conjugate_27 rfl ?_
    refine og_bipush (pc := 28) (v := 8) dX8_conjugate_28 (by decide) ?_
    refine og_geN (pc := 30) (tgt := 62) (i := 8) (N := 8) dX8_conjugate_30 (by decide) rfl rfl (by omega) (by omega) (fun c_30 => ?_) (fun c_30 => ?_)
    · refine og_aload_n (pc := 62) dX8_conjugate_62 rfl ?_
      refine og_get (pc := 63) F_X8_7 dX8_conjugate_63 (by repeat (first | exact og_set_eq _ _ _ | assumption | refine (og_set_ne _ _ (by first | assumption | omega)).trans ?_)) (by omega) rfl ?_
      refine og_bipush (pc := 66) (v := 8) dX8_conjugate_66 (by decide) ?_
      refine og_iload_n (pc := 68) dX8_conjugate_68 rfl ?_
      refine og_imul (pc := 69) dX8_conjugate_69 ?_
      refine og_ialdN (pc := 70) e8 dX8_conjugate_70 ws (by omega) (by omega) (by first | decide | assumption | omega) ?_
      exact og_iret (pc := 71) hr dX8_conjugate_71 (by omega) (by omega) ⟨rfl, Or.inr ⟨r, hr8, rfl, by show some (Value.int (q_ngi (m_s M) r 8 (8 * r + 0))) = _; rw [q_ngi, if_neg (by omega)]; rfl, w5⟩⟩
    · omega
  · have wm := (w4.sS (q_ngi (m_s M) r i)).m
    have ws : og_set h3 102 (rowI 67 (q_ngi (m_s M) r i)) 102 = some (rowI 67 (q_ngi (m_s M) r i)) := og_set_eq _ _ _
    refine og_iload_n (pc := 27) dX8_conjugate_27 rfl ?_
    refine og_bipush (pc := 28) (v := 8) dX8_conjugate_28 (by decide) ?_
    refine og_geN (pc := 30) (tgt := 62) (i := i) (N := 8) dX8_conjugate_30 (by decide) rfl rfl (by omega) (by omega) (fun c_30 => ?_) (fun c_30 => ?_)
    · omega
    refine og_aload_n (pc := 33) dX8_conjugate_33 rfl ?_
    refine og_get (pc := 34) F_X8_7 dX8_conjugate_34 (by repeat (first | exact og_set_eq _ _ _ | assumption | refine (og_set_ne _ _ (by first | assumption | omega)).trans ?_)) (by omega) rfl ?_
    refine og_bipush (pc := 37) (v := 8) dX8_conjugate_37 (by decide) ?_
    refine og_iload_n (pc := 39) dX8_conjugate_39 rfl ?_
    refine og_imul (pc := 40) dX8_conjugate_40 ?_
    refine og_iload_n (pc := 41) dX8_conjugate_41 rfl ?_
    refine og_iadd (pc := 42) dX8_conjugate_42 ?_
    refine og_aload_n (pc := 43) dX8_conjugate_43 rfl ?_
    refine og_get (pc := 44) F_X8_7 dX8_conjugate_44 (by repeat (first | exact og_set_eq _ _ _ | assumption | refine (og_set_ne _ _ (by first | assumption | omega)).trans ?_)) (by omega) rfl ?_
    refine og_bipush (pc := 47) (v := 8) dX8_conjugate_47 (by decide) ?_
    refine og_iload_n (pc := 49) dX8_conjugate_49 rfl ?_
    refine og_imul (pc := 50) dX8_conjugate_50 ?_
    refine og_iload_n (pc := 51) dX8_conjugate_51 rfl ?_
    refine og_iadd (pc := 52) dX8_conjugate_52 ?_
    refine og_ialdN (pc := 53) (og_i8 r i) dX8_conjugate_53 ws (by omega) (by omega) (by first | decide | assumption | omega) ?_
    refine og_ineg (pc := 54) dX8_conjugate_54 ?_
    refine og_iastN (pc := 55) (og_i8 r i) dX8_conjugate_55 ws (by omega) (by omega) (by first | decide | assumption | omega) ?_
    refine og_iinc_2 (pc := 56) dX8_conjugate_56 (og_inc i) rfl ?_
    refine og_goto (pc := 59) (tgt := 27) dX8_conjugate_59 (by decide) ?_
    rw [og_set_set, q_ngi_up _ _ _ h1i hi]
    exact ih
