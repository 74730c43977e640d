/-! ===== the model: calls over registers ===== -/
set_option maxRecDepth 4000 in
theorem c_X8_setOrder (E : og_E) (d n : Nat) (h : og_H) (x : Int32) {h0 : og_H} {M : q_M} (w : og_MK h0 h M) :
    og_M E yX8_setOrder (.code yX8_setOrder cX8_setOrder 3 (some .int)) (d + 2) [.ref 101, .int x] n h 0 0 (fun v n1 h1 => n1 = n ∧ ((¬ (q_in8 x) ∧ v = some (.int 0) ∧ og_MK h0 h1 (m_wRf M 1)) ∨ (∃ r, r < 8 ∧ x = nI r ∧ v = some (.int (m_s M 64)) ∧ og_MK h0 h1 (m_wS (m_save (m_wRf M 0)) (upd (m_s M) 64 (nI r)))))) no_x := by
  refine og_start (lv := [some (.ref 101), some (.int x), none]) (by decide) rfl rfl (Nat.le_of_ble_eq_true rfl) fun X hr hnm htb => ?_
  have rej : ¬ (q_in8 x) → og_G E yX8_setOrder.cls cX8_setOrder (d + 2) 0 0 3 X (og_Q E (fun v n1 h1 => n1 = n ∧ ((¬ (q_in8 x) ∧ v = some (.int 0) ∧ og_MK h0 h1 (m_wRf M 1)) ∨ (∃ r, r < 8 ∧ x = nI r ∧ v = some (.int (m_s M 64)) ∧ og_MK h0 h1 (m_wS (m_save (m_wRf M 0)) (upd (m_s M) 64 (nI r)))))) no_x 0 0 X) 0 0 n h 12 [some (.ref 101), some (.int x), none] [.ref 101] := by
    intro hb
    have wm := w.m
    refine og_iconst (pc := 12) (v := 1) dX8_setOrder_12 (by decide) ?_
    refine og_callV (pc := 13) (As := [.int 1]) (rest := []) (c_X8_throwsAt E d n h 1 wm) Y_X8_throwsAt I_X8_throwsAt V_X8_throwsAt wm (by omega) rfl rfl K_X8_125 dX8_setOrder_13 rfl rfl (Nat.le_of_ble_eq_true rfl) (by omega) (by omega) (by omega) (fun _ _ _ z => z) (fun v n1 h1 z => ?_)
    obtain ⟨hn, hh, z⟩ := z
    subst hn
    have w2 := w.rf_ 1
    rcases z with ⟨rfl, z⟩ | ⟨rfl, z⟩
    · refine og_if_eq (pc := 16) (tgt := 21) dX8_setOrder_16 (by decide) (fun q => absurd q (by decide)) (fun _ => ?_)
      refine og_iconst (pc := 19) (v := 0) dX8_setOrder_19 (by decide) ?_
      exact og_iret (pc := 20) hr dX8_setOrder_20 (by omega) (by omega) ⟨rfl, Or.inl ⟨hb, rfl, by rw [hh]; exact w2⟩⟩
    · exact absurd (by decide) z
  refine og_aload_n (pc := 0) dX8_setOrder_0 rfl ?_
  refine og_iload_n (pc := 1) dX8_setOrder_1 rfl ?_
  refine og_callS (pc := 2) (As := [.int x]) (rest := [.ref 101]) (c_X8_isEight E d n h x) Y_X8_isEight S_X8_isEight K_X8_121 dX8_setOrder_2 rfl rfl (Nat.le_of_ble_eq_true rfl) (by omega) (by omega) (by omega) (fun _ _ _ z => z) (fun v n1 h1 z => ?_)
  obtain ⟨hn, hh, z⟩ := z
  subst hn hh
  rcases z with ⟨rfl, zx⟩ | ⟨rfl, zx⟩
  rotate_left
  · exact og_if_eq (pc := 5) (tgt := 12) dX8_setOrder_5 (by decide) (fun _ => rej (fun q => zx (q_in_e8 q))) (fun q => absurd rfl q)
  refine og_if_eq (pc := 5) (tgt := 12) dX8_setOrder_5 (by decide) (fun q => absurd q (by decide)) (fun _ => ?_)
  refine og_iconst (pc := 8) (v := 0) dX8_setOrder_8 (by decide) ?_
  refine og_goto (pc := 9) (tgt := 13) dX8_setOrder_9 (by decide) ?_
  have wm := w.m
  refine og_callV (pc := 13) (As := [.int 0]) (rest := []) (c_X8_throwsAt E d n1 h1 0 wm) Y_X8_throwsAt I_X8_throwsAt V_X8_throwsAt wm (by omega) rfl rfl K_X8_125 dX8_setOrder_13 rfl rfl (Nat.le_of_ble_eq_true rfl) (by omega) (by omega) (by omega) (fun _ _ _ z => z) (fun v n2 h2 z => ?_)
  obtain ⟨hn, hh, z⟩ := z
  subst hn
  have w2 := w.rf_ 0
  rcases z with ⟨rfl, z⟩ | ⟨rfl, -⟩
  · exact absurd z (by decide)
  refine og_if_eq (pc := 16) (tgt := 21) dX8_setOrder_16 (by decide) (fun _ => ?_) (fun q => absurd rfl q)
  obtain ⟨r, hr8, rfl⟩ := q_e8_in zx
  refine og_abs (P := fun g => og_MK h0 g (m_wRf M 0)) (by rw [hh]; exact w2) fun g w3 => ?_
  have wm := w3.m
  refine og_aload_n (pc := 21) dX8_setOrder_21 rfl ?_
  refine og_callV (pc := 22) (As := []) (rest := []) (c_X8_saves E d n2 (m_ps M) g (m_p M) (m_s M) wm w3.s w3.p w3.ok.1) Y_X8_saves I_X8_saves V_X8_saves wm (by omega) rfl rfl K_X8_128 dX8_setOrder_22 rfl rfl (Nat.le_of_ble_eq_true rfl) (by omega) (by omega) (by omega) (fun _ _ _ z => z) (fun v n5 h5 z => ?_)
  obtain ⟨rfl, hn, z⟩ := z
  subst hn
  obtain ⟨w4, -⟩ := m_saved w3 z
  have wm := w4.m
  have ws : h5 102 = some (rowI 67 (m_s M)) := by
    have := w4.s
    rw [m_save_s] at this
    exact this
  refine og_aload_n (pc := 25) dX8_setOrder_25 rfl ?_
  refine og_get (pc := 26) F_X8_7 dX8_setOrder_26 (by repeat (first | exact og_set_eq _ _ _ | assumption | refine (og_set_ne _ _ (by first | assumption | omega)).trans ?_)) (by omega) rfl ?_
  refine og_bipush (pc := 29) (v := 64) dX8_setOrder_29 (by decide) ?_
  refine og_ialdN (pc := 31) (j := 64) (show (64 : Int32) = nI 64 from rfl) dX8_setOrder_31 ws (by omega) (by omega) (by first | decide | assumption | omega) ?_
  refine og_istore_n_2 (pc := 32) dX8_setOrder_32 rfl ?_
  refine og_aload_n (pc := 33) dX8_setOrder_33 rfl ?_
  refine og_get (pc := 34) F_X8_7 dX8_setOrder_34 (by repeat (first | exact og_set_eq _ _ _ | assumption | refine (og_set_ne _ _ (by first | assumption | omega)).trans ?_)) (by omega) rfl ?_
  refine og_bipush (pc := 37) (v := 64) dX8_setOrder_37 (by decide) ?_
  refine og_iload_n (pc := 39) dX8_setOrder_39 rfl ?_
  refine og_iastN (pc := 40) (j := 64) (show (64 : Int32) = nI 64 from rfl) dX8_setOrder_40 ws (by omega) (by omega) (by first | decide | assumption | omega) ?_
  refine og_iload_n (pc := 41) dX8_setOrder_41 rfl ?_
  exact og_iret (pc := 42) hr dX8_setOrder_42 (by omega) (by omega) ⟨rfl, Or.inr ⟨r, hr8, rfl, rfl, w4.sS _⟩⟩
