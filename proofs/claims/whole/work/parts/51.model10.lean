/-! ===== the model: add, left, setFour ===== -/
def q_ma (s : Nat → Int32) (i j : Nat) (t : Int32) : Nat → Int64 := fun k => (s (8 * i + k) + (if t = 0 then s (8 * j + k) else -s (8 * j + k))).toInt64
set_option maxRecDepth 4000 in
theorem c_X8_add (E : og_E) (d n : Nat) (h : og_H) (x y t s : Int32) {h0 : og_H} {M : q_M} (w : og_MK h0 h M) :
    og_M E yX8_add (.code yX8_add cX8_add 6 (some .long)) (d + 2) [.ref 101, .int x, .int y, .int t, .int s] n h 0 0 (fun v n1 h1 => n1 = n ∧ ((¬ (q_in8 x ∧ q_in8 y ∧ q_in8 t) ∧ v = some (.long 0) ∧ og_MK h0 h1 (m_wRf M 1)) ∨ (∃ i j k, i < 8 ∧ j < 8 ∧ k < 8 ∧ x = nI i ∧ y = nI j ∧ t = nI k ∧ ((¬ q_hall 1 (q_ma (m_s M) i j s) ∧ v = some (.long 0) ∧ og_MK h0 h1 (m_wRf M 2)) ∨ (q_hall 1 (q_ma (m_s M) i j s) ∧ v = some (.long (q_inner (q_dv 1 (q_ma (m_s M) i j s)) (q_dv 1 (q_ma (m_s M) i j s)) 8)) ∧ og_MK h0 h1 (m_wS (m_save (m_wRf M 0)) (q_pt (m_s M) (q_dv 1 (q_ma (m_s M) i j s)) k))))))) no_x := by
  refine og_start (lv := [some (.ref 101), some (.int x), some (.int y), some (.int t), some (.int s), none]) (by decide) rfl rfl (Nat.le_of_ble_eq_true rfl) fun X hr hnm htb => ?_
  have rej : ¬ (q_in8 x ∧ q_in8 y ∧ q_in8 t) → og_G E yX8_add.cls cX8_add (d + 2) 0 0 6 X (og_Q E (fun v n1 h1 => n1 = n ∧ ((¬ (q_in8 x ∧ q_in8 y ∧ q_in8 t) ∧ v = some (.long 0) ∧ og_MK h0 h1 (m_wRf M 1)) ∨ (∃ i j k, i < 8 ∧ j < 8 ∧ k < 8 ∧ x = nI i ∧ y = nI j ∧ t = nI k ∧ ((¬ q_hall 1 (q_ma (m_s M) i j s) ∧ v = some (.long 0) ∧ og_MK h0 h1 (m_wRf M 2)) ∨ (q_hall 1 (q_ma (m_s M) i j s) ∧ v = some (.long (q_inner (q_dv 1 (q_ma (m_s M) i j s)) (q_dv 1 (q_ma (m_s M) i j s)) 8)) ∧ og_MK h0 h1 (m_wS (m_save (m_wRf M 0)) (q_pt (m_s M) (q_dv 1 (q_ma (m_s M) i j s)) k))))))) no_x 0 0 X) 0 0 n h 22 [some (.ref 101), some (.int x), some (.int y), some (.int t), some (.int s), none] [.ref 101] := by
    intro hb
    have wm := w.m
    refine og_iconst (pc := 22) (v := 1) dX8_add_22 (by decide) ?_
    refine og_goto (pc := 23) (tgt := 27) dX8_add_23 (by decide) ?_
    refine og_callV (pc := 27) (As := [.int 1]) (rest := []) (c_X8_throwsAt E d n h 1 wm) Y_X8_throwsAt I_X8_throwsAt V_X8_throwsAt wm (by omega) rfl rfl K_X8_125 dX8_add_27 rfl rfl (Nat.le_of_ble_eq_true rfl) (by omega) (by omega) (by omega) (fun _ _ _ z => z) (fun v n1 h1 z => ?_)
    obtain ⟨hn, hh, z⟩ := z
    subst hn
    have w2 := w.rf_ 1
    rcases z with ⟨rfl, z⟩ | ⟨rfl, z⟩
    · refine og_if_eq (pc := 30) (tgt := 35) dX8_add_30 (by decide) (fun q => absurd q (by decide)) (fun _ => ?_)
      refine og_lconst (pc := 33) (v := 0) dX8_add_33 (by decide) ?_
      exact og_lret (pc := 34) hr dX8_add_34 (by omega) (by omega) ⟨rfl, Or.inl ⟨hb, rfl, by rw [hh]; exact w2⟩⟩
    · exact absurd (by decide) z
  refine og_aload_n (pc := 0) dX8_add_0 rfl ?_
  refine og_iload_n (pc := 1) dX8_add_1 rfl ?_
  refine og_callS (pc := 2) (As := [.int x]) (rest := [.ref 101]) (c_X8_isEight E d n h x) Y_X8_isEight S_X8_isEight K_X8_121 dX8_add_2 rfl rfl (Nat.le_of_ble_eq_true rfl) (by omega) (by omega) (by omega) (fun _ _ _ z => z) (fun v n1 h1 z => ?_)
  obtain ⟨hn, hh, z⟩ := z
  subst hn hh
  rcases z with ⟨rfl, zx⟩ | ⟨rfl, zx⟩
  rotate_left
  · exact og_if_eq (pc := 5) (tgt := 22) dX8_add_5 (by decide) (fun _ => rej (fun q => zx (q_in_e8 q.1))) (fun q => absurd rfl q)
  refine og_if_eq (pc := 5) (tgt := 22) dX8_add_5 (by decide) (fun q => absurd q (by decide)) (fun _ => ?_)
  refine og_iload_n (pc := 8) dX8_add_8 rfl ?_
  refine og_callS (pc := 9) (As := [.int y]) (rest := [.ref 101]) (c_X8_isEight E d n1 h1 y) Y_X8_isEight S_X8_isEight K_X8_121 dX8_add_9 rfl rfl (Nat.le_of_ble_eq_true rfl) (by omega) (by omega) (by omega) (fun _ _ _ z => z) (fun v n2 h2 z => ?_)
  obtain ⟨hn, hh, z⟩ := z
  subst hn hh
  rcases z with ⟨rfl, zy⟩ | ⟨rfl, zy⟩
  rotate_left
  · exact og_if_eq (pc := 12) (tgt := 22) dX8_add_12 (by decide) (fun _ => rej (fun q => zy (q_in_e8 q.2.1))) (fun q => absurd rfl q)
  refine og_if_eq (pc := 12) (tgt := 22) dX8_add_12 (by decide) (fun q => absurd q (by decide)) (fun _ => ?_)
  refine og_iload_n (pc := 15) dX8_add_15 rfl ?_
  refine og_callS (pc := 16) (As := [.int t]) (rest := [.ref 101]) (c_X8_isEight E d n2 h2 t) Y_X8_isEight S_X8_isEight K_X8_121 dX8_add_16 rfl rfl (Nat.le_of_ble_eq_true rfl) (by omega) (by omega) (by omega) (fun _ _ _ z => z) (fun v n3 h3 z => ?_)
  obtain ⟨hn, hh, z⟩ := z
  subst hn hh
  rcases z with ⟨rfl, zt⟩ | ⟨rfl, zt⟩
  rotate_left
  · exact og_if_ne (pc := 19) (tgt := 26) dX8_add_19 (by decide) (fun q => absurd rfl q) (fun _ => rej (fun q => zt (q_in_e8 q.2.2)))
  refine og_if_ne (pc := 19) (tgt := 26) dX8_add_19 (by decide) (fun _ => ?_) (fun q => absurd q (by decide))
  refine og_iconst (pc := 26) (v := 0) dX8_add_26 (by decide) ?_
  have wm := w.m
  refine og_callV (pc := 27) (As := [.int 0]) (rest := []) (c_X8_throwsAt E d n3 h3 0 wm) Y_X8_throwsAt I_X8_throwsAt V_X8_throwsAt wm (by omega) rfl rfl K_X8_125 dX8_add_27 rfl rfl (Nat.le_of_ble_eq_true rfl) (by omega) (by omega) (by omega) (fun _ _ _ z => z) (fun v n4 h4 z => ?_)
  obtain ⟨hn, hh, z⟩ := z
  subst hn
  have w2 := w.rf_ 0
  rcases z with ⟨rfl, z⟩ | ⟨rfl, -⟩
  · exact absurd z (by decide)
  refine og_if_eq (pc := 30) (tgt := 35) dX8_add_30 (by decide) (fun _ => ?_) (fun q => absurd rfl q)
  obtain ⟨i, hi8, rfl⟩ := q_e8_in zx
  obtain ⟨j, hj8, rfl⟩ := q_e8_in zy
  obtain ⟨k, hk8, rfl⟩ := q_e8_in zt
  refine og_abs (P := fun g => og_MK h0 g (m_wRf M 0)) (by rw [hh]; exact w2) fun g w3 => ?_
  have wm := w3.m
  have w := w3
  obtain ⟨f0, e110⟩ := w.scr 110 (by unfold q_ms; omega)
  have fin : ∀ g2 : og_H, og_MK h0 g2 (m_wRf M 0) → g2 110 = some (rowL (q_ma (m_s M) i j s)) → og_G E yX8_add.cls cX8_add (d + 2) 0 0 6 X (og_Q E (fun v n1 h1 => n1 = n4 ∧ ((¬ (q_in8 (nI i) ∧ q_in8 (nI j) ∧ q_in8 (nI k)) ∧ v = some (.long 0) ∧ og_MK h0 h1 (m_wRf M 1)) ∨ (∃ i_1 j_1 k_1, i_1 < 8 ∧ j_1 < 8 ∧ k_1 < 8 ∧ nI i = nI i_1 ∧ nI j = nI j_1 ∧ nI k = nI k_1 ∧ ((¬ q_hall 1 (q_ma (m_s M) i_1 j_1 s) ∧ v = some (.long 0) ∧ og_MK h0 h1 (m_wRf M 2)) ∨ (q_hall 1 (q_ma (m_s M) i_1 j_1 s) ∧ v = some (.long (q_inner (q_dv 1 (q_ma (m_s M) i_1 j_1 s)) (q_dv 1 (q_ma (m_s M) i_1 j_1 s)) 8)) ∧ og_MK h0 h1 (m_wS (m_save (m_wRf M 0)) (q_pt (m_s M) (q_dv 1 (q_ma (m_s M) i_1 j_1 s)) k_1))))))) no_x 0 0 X) (0 + 0 + 0 + 0 + 0) (0 + 0 + 0 + 0 + 0) n4 g2 105 [some (.ref 101), some (.int (nI i)), some (.int (nI j)), some (.int (nI k)), some (.int s), some (.int (nI 8))] [] := by
    intro g2 w e110
    have wm := w.m
    refine og_aload_n (pc := 105) dX8_add_105 rfl ?_
    refine og_aload_n (pc := 106) dX8_add_106 rfl ?_
    refine og_get (pc := 107) F_X8_35 dX8_add_107 (by repeat (first | exact og_set_eq _ _ _ | assumption | refine (og_set_ne _ _ (by first | assumption | omega)).trans ?_)) (by omega) rfl ?_
    refine og_iconst (pc := 110) (v := 1) dX8_add_110 (by decide) ?_
    refine og_callS (pc := 111) (As := [.ref 110, .int 1]) (rest := [.ref 101]) (c_X8_halves E d n4 110 g2 (q_ma (m_s M) i j s) 1 (by decide) e110 (by omega)) Y_X8_halves S_X8_halves K_X8_142 dX8_add_111 rfl rfl (Nat.le_of_ble_eq_true rfl) (by omega) (by omega) (by omega) (fun _ _ _ z => z) (fun v n5 h5 z => ?_)
    obtain ⟨hn, z⟩ := z
    subst hn
    rcases z with ⟨rfl, hok, hh⟩ | ⟨rfl, hbad, hh⟩
    rotate_left
    · refine og_if_eq (pc := 114) (tgt := 121) dX8_add_114 (by decide) (fun _ => ?_) (fun q => absurd rfl q)
      subst hh
      refine og_iconst (pc := 121) (v := 2) dX8_add_121 (by decide) ?_
      refine og_callV (pc := 122) (As := [.int 2]) (rest := []) (c_X8_throwsAt E d n5 _ 2 wm) Y_X8_throwsAt I_X8_throwsAt V_X8_throwsAt wm (by omega) rfl rfl K_X8_125 dX8_add_122 rfl rfl (Nat.le_of_ble_eq_true rfl) (by omega) (by omega) (by omega) (fun _ _ _ z => z) (fun v n6 h6 z => ?_)
      obtain ⟨hn, hh, z⟩ := z
      subst hn
      have w5 := w.rf_ 2
      rcases z with ⟨rfl, z⟩ | ⟨rfl, z⟩
      · refine og_if_eq (pc := 125) (tgt := 132) dX8_add_125 (by decide) (fun q => absurd q (by decide)) (fun _ => ?_)
        refine og_lconst (pc := 128) (v := 0) dX8_add_128 (by decide) ?_
        refine og_goto (pc := 129) (tgt := 137) dX8_add_129 (by decide) ?_
        exact og_lret (pc := 137) hr dX8_add_137 (by omega) (by omega) ⟨rfl, Or.inr ⟨i, j, k, hi8, hj8, hk8, rfl, rfl, rfl, Or.inl ⟨hbad, rfl, by rw [hh]; exact w5⟩⟩⟩
      · exact absurd (by decide) z
    refine og_if_eq (pc := 114) (tgt := 121) dX8_add_114 (by decide) (fun q => absurd q (by decide)) (fun _ => ?_)
    have w4 := w.row (q_dv 1 (q_ma (m_s M) i j s)) (show q_ms 110 by unfold q_ms; omega)
    refine og_abs (P := fun g => og_MK h0 g (m_wRf M 0) ∧ g 110 = some (rowL (q_dv 1 (q_ma (m_s M) i j s)))) (by rw [hh]; exact ⟨w4, og_set_eq _ _ _⟩) fun g ⟨w, e110⟩ => ?_
    have wm := w.m
    refine og_iconst (pc := 117) (v := 0) dX8_add_117 (by decide) ?_
    refine og_goto (pc := 118) (tgt := 122) dX8_add_118 (by decide) ?_
    refine og_callV (pc := 122) (As := [.int 0]) (rest := []) (c_X8_throwsAt E d n5 g 0 wm) Y_X8_throwsAt I_X8_throwsAt V_X8_throwsAt wm (by omega) rfl rfl K_X8_125 dX8_add_122 rfl rfl (Nat.le_of_ble_eq_true rfl) (by omega) (by omega) (by omega) (fun _ _ _ z => z) (fun v n6 h6 z => ?_)
    obtain ⟨hn, hh, z⟩ := z
    subst hn
    have w5 := w.rf_ 0
    rcases z with ⟨rfl, z⟩ | ⟨rfl, -⟩
    · exact absurd z (by decide)
    refine og_if_eq (pc := 125) (tgt := 132) dX8_add_125 (by decide) (fun _ => ?_) (fun q => absurd rfl q)
    refine og_abs (P := fun g => og_MK h0 g (m_wRf M 0) ∧ g 110 = some (rowL (q_dv 1 (q_ma (m_s M) i j s)))) (by rw [hh]; exact ⟨w5, (og_set_ne _ _ (by omega)).trans e110⟩) fun g ⟨w, e110⟩ => ?_
    have wm := w.m
    refine og_aload_n (pc := 132) dX8_add_132 rfl ?_
    refine og_iload_n (pc := 133) dX8_add_133 rfl ?_
    refine og_callV (pc := 134) (As := [.int (nI k)]) (rest := []) (c_X8_gives E d n6 k g w hk8 e110) Y_X8_gives I_X8_gives V_X8_gives wm (by omega) rfl rfl K_X8_145 dX8_add_134 rfl rfl (Nat.le_of_ble_eq_true rfl) (by omega) (by omega) (by omega) (fun _ _ _ z => z) (fun v n7 h7 z => ?_)
    obtain ⟨hn, rfl, w6⟩ := z
    subst hn
    exact og_lret (pc := 137) hr dX8_add_137 (by omega) (by omega) ⟨rfl, Or.inr ⟨i, j, k, hi8, hj8, hk8, rfl, rfl, rfl, Or.inr ⟨hok, rfl, w6⟩⟩⟩
  refine og_iconst (pc := 35) (v := 0) dX8_add_35 (by decide) ?_
  refine og_istore_5 (pc := 36) dX8_add_36 rfl ?_
  refine og_congL (fun k => if k < 0 then (q_ma (m_s M) i j s) k else f0 k) e110 (by omega) (fun j _ => by simp) ?_
  refine og_for (i0 := 0) (N := 8) (by decide) (fun z => og_set g 110 (rowL (fun k => if k < z then (q_ma (m_s M) i j s) k else f0 k))) (fun z => [some (.ref 101), some (.int (nI i)), some (.int (nI j)), some (.int (nI k)), some (.int s), some (.int (nI z))]) ?_ (fun z _ hz ih => ?_)
  · refine og_iload (pc := 38) dX8_add_38 rfl ?_
    refine og_bipush (pc := 40) (v := 8) dX8_add_40 (by decide) ?_
    refine og_geN (pc := 42) (tgt := 105) (i := 8) (N := 8) dX8_add_42 (by decide) rfl rfl (by omega) (by omega) (fun c_42 => ?_) (fun c_42 => ?_)
    · refine og_congL (q_ma (m_s M) i j s) (og_set_eq _ _ _) (by omega) (fun j hj => by rw [if_pos (by omega)]) ?_
      rw [og_set_set]
      exact fin _ (w.row _ (by unfold q_ms; omega)) (og_set_eq _ _ _)
    · omega
  · have wm := (w.row (fun k => if k < z then (q_ma (m_s M) i j s) k else f0 k) (show q_ms 110 by unfold q_ms; omega)).m
    have ws := (w.row (fun k => if k < z then (q_ma (m_s M) i j s) k else f0 k) (show q_ms 110 by unfold q_ms; omega)).s
    refine og_iload (pc := 38) dX8_add_38 rfl ?_
    refine og_bipush (pc := 40) (v := 8) dX8_add_40 (by decide) ?_
    refine og_geN (pc := 42) (tgt := 105) (i := z) (N := 8) dX8_add_42 (by decide) rfl rfl (by omega) (by omega) (fun c_42 => ?_) (fun c_42 => ?_)
    · omega
    refine og_aload_n (pc := 45) dX8_add_45 rfl ?_
    refine og_get (pc := 46) F_X8_35 dX8_add_46 (by repeat (first | exact og_set_eq _ _ _ | assumption | refine (og_set_ne _ _ (by first | assumption | omega)).trans ?_)) (by omega) rfl ?_
    refine og_iload (pc := 49) dX8_add_49 rfl ?_
    refine og_aload_n (pc := 51) dX8_add_51 rfl ?_
    refine og_get (pc := 52) F_X8_7 dX8_add_52 (by repeat (first | exact og_set_eq _ _ _ | assumption | refine (og_set_ne _ _ (by first | assumption | omega)).trans ?_)) (by omega) rfl ?_
    refine og_bipush (pc := 55) (v := 8) dX8_add_55 (by decide) ?_
    refine og_iload_n (pc := 57) dX8_add_57 rfl ?_
    refine og_imul (pc := 58) dX8_add_58 ?_
    refine og_iload (pc := 59) dX8_add_59 rfl ?_
    refine og_iadd (pc := 61) dX8_add_61 ?_
    refine og_ialdN (pc := 62) (og_i8 i z) dX8_add_62 ws (by omega) (by omega) (by first | decide | assumption | omega) ?_
    refine og_iload (pc := 63) dX8_add_63 rfl ?_
    refine og_if_eq (pc := 65) (tgt := 84) dX8_add_65 (by decide) (fun q => ?_) (fun q => ?_)
    · refine og_aload_n (pc := 84) dX8_add_84 rfl ?_
      refine og_get (pc := 85) F_X8_7 dX8_add_85 (by repeat (first | exact og_set_eq _ _ _ | assumption | refine (og_set_ne _ _ (by first | assumption | omega)).trans ?_)) (by omega) rfl ?_
      refine og_bipush (pc := 88) (v := 8) dX8_add_88 (by decide) ?_
      refine og_iload_n (pc := 90) dX8_add_90 rfl ?_
      refine og_imul (pc := 91) dX8_add_91 ?_
      refine og_iload (pc := 92) dX8_add_92 rfl ?_
      refine og_iadd (pc := 94) dX8_add_94 ?_
      refine og_ialdN (pc := 95) (og_i8 j z) dX8_add_95 ws (by omega) (by omega) (by first | decide | assumption | omega) ?_
      refine og_iadd (pc := 96) dX8_add_96 ?_
      refine og_i2l (pc := 97) dX8_add_97 rfl ?_
      refine og_lastN (pc := 98) rfl dX8_add_98 (by repeat (first | exact og_set_eq _ _ _ | assumption | refine (og_set_ne _ _ (by first | assumption | omega)).trans ?_)) (by omega) (by omega) (by first | decide | assumption | omega) ?_
      refine og_iinc_5 (pc := 99) dX8_add_99 (og_inc z) rfl ?_
      refine og_goto (pc := 102) (tgt := 38) dX8_add_102 (by decide) ?_
      rw [og_set_set, og_fill (by unfold q_ma; rw [if_pos q]; rfl)]
      exact ih
    · refine og_aload_n (pc := 68) dX8_add_68 rfl ?_
      refine og_get (pc := 69) F_X8_7 dX8_add_69 (by repeat (first | exact og_set_eq _ _ _ | assumption | refine (og_set_ne _ _ (by first | assumption | omega)).trans ?_)) (by omega) rfl ?_
      refine og_bipush (pc := 72) (v := 8) dX8_add_72 (by decide) ?_
      refine og_iload_n (pc := 74) dX8_add_74 rfl ?_
      refine og_imul (pc := 75) dX8_add_75 ?_
      refine og_iload (pc := 76) dX8_add_76 rfl ?_
      refine og_iadd (pc := 78) dX8_add_78 ?_
      refine og_ialdN (pc := 79) (og_i8 j z) dX8_add_79 ws (by omega) (by omega) (by first | decide | assumption | omega) ?_
      refine og_ineg (pc := 80) dX8_add_80 ?_
      refine og_goto (pc := 81) (tgt := 96) dX8_add_81 (by decide) ?_
      refine og_iadd (pc := 96) dX8_add_96 ?_
      refine og_i2l (pc := 97) dX8_add_97 rfl ?_
      refine og_lastN (pc := 98) rfl dX8_add_98 (by repeat (first | exact og_set_eq _ _ _ | assumption | refine (og_set_ne _ _ (by first | assumption | omega)).trans ?_)) (by omega) (by omega) (by first | decide | assumption | omega) ?_
      refine og_iinc_5 (pc := 99) dX8_add_99 (og_inc z) rfl ?_
      refine og_goto (pc := 102) (tgt := 38) dX8_add_102 (by decide) ?_
      rw [og_set_set, og_fill (by unfold q_ma; rw [if_neg q]; rfl)]
      exact ih
def q_lf (s : Nat → Int32) (r row col : Nat) : Nat → Int32
  | 0 => 0
  | i + 1 => q_lf s r row col i + (if q_to (8 * i + col) = row then q_sg (8 * i + col) * s (8 * r + i) else 0)
set_option maxRecDepth 4000 in
theorem c_X8_left (E : og_E) (d n : Nat) (h : og_H) (x y t : Int32) {h0 : og_H} {M : q_M} (w : og_MK h0 h M) :
    og_M E yX8_left (.code yX8_left cX8_left 6 (some .int)) (d + 2) [.ref 101, .int x, .int y, .int t] n h 0 0 (fun v n1 h1 => n1 = n ∧ ((¬ (q_in8 x ∧ q_in8 y ∧ q_in8 t) ∧ v = some (.int 0) ∧ og_MK h0 h1 (m_wRf M 1)) ∨ (∃ r a b, r < 8 ∧ a < 8 ∧ b < 8 ∧ x = nI r ∧ y = nI a ∧ t = nI b ∧ v = some (.int (q_lf (m_s M) r a b 8)) ∧ og_MK h0 h1 (m_wRf M 0)))) no_x := by
  refine og_start (lv := [some (.ref 101), some (.int x), some (.int y), some (.int t), none, none]) (by decide) rfl rfl (Nat.le_of_ble_eq_true rfl) fun X hr hnm htb => ?_
  have rej : ¬ (q_in8 x ∧ q_in8 y ∧ q_in8 t) → og_G E yX8_left.cls cX8_left (d + 2) 0 0 6 X (og_Q E (fun v n1 h1 => n1 = n ∧ ((¬ (q_in8 x ∧ q_in8 y ∧ q_in8 t) ∧ v = some (.int 0) ∧ og_MK h0 h1 (m_wRf M 1)) ∨ (∃ r a b, r < 8 ∧ a < 8 ∧ b < 8 ∧ x = nI r ∧ y = nI a ∧ t = nI b ∧ v = some (.int (q_lf (m_s M) r a b 8)) ∧ og_MK h0 h1 (m_wRf M 0)))) no_x 0 0 X) 0 0 n h 26 [some (.ref 101), some (.int x), some (.int y), some (.int t), none, none] [.ref 101] := by
    intro hb
    have wm := w.m
    refine og_iconst (pc := 26) (v := 1) dX8_left_26 (by decide) ?_
    refine og_callV (pc := 27) (As := [.int 1]) (rest := []) (c_X8_throwsAt E d n h 1 wm) Y_X8_throwsAt I_X8_throwsAt V_X8_throwsAt wm (by omega) rfl rfl K_X8_125 dX8_left_27 rfl rfl (Nat.le_of_ble_eq_true rfl) (by omega) (by omega) (by omega) (fun _ _ _ z => z) (fun v n1 h1 z => ?_)
    obtain ⟨hn, hh, z⟩ := z
    subst hn
    have w2 := w.rf_ 1
    rcases z with ⟨rfl, z⟩ | ⟨rfl, z⟩
    · refine og_if_eq (pc := 30) (tgt := 35) dX8_left_30 (by decide) (fun q => absurd q (by decide)) (fun _ => ?_)
      refine og_iconst (pc := 33) (v := 0) dX8_left_33 (by decide) ?_
      exact og_iret (pc := 34) hr dX8_left_34 (by omega) (by omega) ⟨rfl, Or.inl ⟨hb, rfl, by rw [hh]; exact w2⟩⟩
    · exact absurd (by decide) z
  refine og_aload_n (pc := 0) dX8_left_0 rfl ?_
  refine og_iload_n (pc := 1) dX8_left_1 rfl ?_
  refine og_callS (pc := 2) (As := [.int x]) (rest := [.ref 101]) (c_X8_isEight E d n h x) Y_X8_isEight S_X8_isEight K_X8_121 dX8_left_2 rfl rfl (Nat.le_of_ble_eq_true rfl) (by omega) (by omega) (by omega) (fun _ _ _ z => z) (fun v n1 h1 z => ?_)
  obtain ⟨hn, hh, z⟩ := z
  subst hn hh
  rcases z with ⟨rfl, zx⟩ | ⟨rfl, zx⟩
  rotate_left
  · exact og_if_eq (pc := 5) (tgt := 26) dX8_left_5 (by decide) (fun _ => rej (fun q => zx (q_in_e8 q.1))) (fun q => absurd rfl q)
  refine og_if_eq (pc := 5) (tgt := 26) dX8_left_5 (by decide) (fun q => absurd q (by decide)) (fun _ => ?_)
  refine og_iload_n (pc := 8) dX8_left_8 rfl ?_
  refine og_callS (pc := 9) (As := [.int y]) (rest := [.ref 101]) (c_X8_isEight E d n1 h1 y) Y_X8_isEight S_X8_isEight K_X8_121 dX8_left_9 rfl rfl (Nat.le_of_ble_eq_true rfl) (by omega) (by omega) (by omega) (fun _ _ _ z => z) (fun v n2 h2 z => ?_)
  obtain ⟨hn, hh, z⟩ := z
  subst hn hh
  rcases z with ⟨rfl, zy⟩ | ⟨rfl, zy⟩
  rotate_left
  · exact og_if_eq (pc := 12) (tgt := 26) dX8_left_12 (by decide) (fun _ => rej (fun q => zy (q_in_e8 q.2.1))) (fun q => absurd rfl q)
  refine og_if_eq (pc := 12) (tgt := 26) dX8_left_12 (by decide) (fun q => absurd q (by decide)) (fun _ => ?_)
  refine og_iload_n (pc := 15) dX8_left_15 rfl ?_
  refine og_callS (pc := 16) (As := [.int t]) (rest := [.ref 101]) (c_X8_isEight E d n2 h2 t) Y_X8_isEight S_X8_isEight K_X8_121 dX8_left_16 rfl rfl (Nat.le_of_ble_eq_true rfl) (by omega) (by omega) (by omega) (fun _ _ _ z => z) (fun v n3 h3 z => ?_)
  obtain ⟨hn, hh, z⟩ := z
  subst hn hh
  rcases z with ⟨rfl, zt⟩ | ⟨rfl, zt⟩
  rotate_left
  · exact og_if_eq (pc := 19) (tgt := 26) dX8_left_19 (by decide) (fun _ => rej (fun q => zt (q_in_e8 q.2.2))) (fun q => absurd rfl q)
  refine og_if_eq (pc := 19) (tgt := 26) dX8_left_19 (by decide) (fun q => absurd q (by decide)) (fun _ => ?_)
  refine og_iconst (pc := 22) (v := 0) dX8_left_22 (by decide) ?_
  refine og_goto (pc := 23) (tgt := 27) dX8_left_23 (by decide) ?_
  have wm := w.m
  refine og_callV (pc := 27) (As := [.int 0]) (rest := []) (c_X8_throwsAt E d n3 h3 0 wm) Y_X8_throwsAt I_X8_throwsAt V_X8_throwsAt wm (by omega) rfl rfl K_X8_125 dX8_left_27 rfl rfl (Nat.le_of_ble_eq_true rfl) (by omega) (by omega) (by omega) (fun _ _ _ z => z) (fun v n4 h4 z => ?_)
  obtain ⟨hn, hh, z⟩ := z
  subst hn
  have w2 := w.rf_ 0
  rcases z with ⟨rfl, z⟩ | ⟨rfl, -⟩
  · exact absurd z (by decide)
  refine og_if_eq (pc := 30) (tgt := 35) dX8_left_30 (by decide) (fun _ => ?_) (fun q => absurd rfl q)
  obtain ⟨r, hr8, rfl⟩ := q_e8_in zx
  obtain ⟨a, ha8, rfl⟩ := q_e8_in zy
  obtain ⟨b, hb8, rfl⟩ := q_e8_in zt
  refine og_abs (P := fun g => og_MK h0 g (m_wRf M 0)) (by rw [hh]; exact w2) fun g w3 => ?_
  have wm := w3.m
  have ws := w3.s
  have wt := w3.to
  have wg := w3.sg
  refine og_iconst (pc := 35) (v := 0) dX8_left_35 (by decide) ?_
  refine og_istore_4 (pc := 36) dX8_left_36 rfl ?_
  refine og_iconst (pc := 38) (v := 0) dX8_left_38 (by decide) ?_
  refine og_istore_5 (pc := 39) dX8_left_39 rfl ?_
  refine og_for (i0 := 0) (N := 8) (by decide) (fun _ => g) (fun i => [some (.ref 101), some (.int (nI r)), some (.int (nI a)), some (.int (nI b)), some (.int (q_lf (m_s M) r a b i)), some (.int (nI i))]) ?_ (fun i _ hi ih => ?_)
  · refine og_iload (pc := 41) dX8_left_41 rfl ?_
    refine og_bipush (pc := 43) (v := 8) dX8_left_43 (by decide) ?_
    refine og_geN (pc := 45) (tgt := 104) (i := 8) (N := 8) dX8_left_45 (by decide) rfl rfl (by omega) (by omega) (fun c_45 => ?_) (fun c_45 => ?_)
    · refine og_iload (pc := 104) dX8_left_104 rfl ?_
      exact og_iret (pc := 106) hr dX8_left_106 (by omega) (by omega) ⟨rfl, Or.inr ⟨r, a, b, hr8, ha8, hb8, rfl, rfl, rfl, rfl, w3⟩⟩
    · omega
  · have hto := q_to_lt (8 * i + b) (by omega)
    refine og_iload (pc := 41) dX8_left_41 rfl ?_
    refine og_bipush (pc := 43) (v := 8) dX8_left_43 (by decide) ?_
    refine og_geN (pc := 45) (tgt := 104) (i := i) (N := 8) dX8_left_45 (by decide) rfl rfl (by omega) (by omega) (fun c_45 => ?_) (fun c_45 => ?_)
    · omega
    refine og_iload (pc := 48) dX8_left_48 rfl ?_
    refine og_aload_n (pc := 50) dX8_left_50 rfl ?_
    refine og_get (pc := 51) F_X8_19 dX8_left_51 (by repeat (first | exact og_set_eq _ _ _ | assumption | refine (og_set_ne _ _ (by first | assumption | omega)).trans ?_)) (by omega) rfl ?_
    refine og_bipush (pc := 54) (v := 8) dX8_left_54 (by decide) ?_
    refine og_iload (pc := 56) dX8_left_56 rfl ?_
    refine og_imul (pc := 58) dX8_left_58 ?_
    refine og_iload_n (pc := 59) dX8_left_59 rfl ?_
    refine og_iadd (pc := 60) dX8_left_60 ?_
    refine og_ialdN (pc := 61) (og_i8 i b) dX8_left_61 wt (by omega) (by omega) (by first | decide | assumption | omega) ?_
    refine og_iload_n (pc := 62) dX8_left_62 rfl ?_
    refine og_icmp_ne (pc := 63) (tgt := 94) dX8_left_63 (by decide) (fun q => ?_) (fun q => ?_)
    · refine og_iconst (pc := 94) (v := 0) dX8_left_94 (by decide) ?_
      refine og_iadd (pc := 95) dX8_left_95 ?_
      refine og_istore_4 (pc := 96) dX8_left_96 rfl ?_
      refine og_iinc_5 (pc := 98) dX8_left_98 (og_inc i) rfl ?_
      refine og_goto (pc := 101) (tgt := 41) dX8_left_101 (by decide) ?_
      have e : q_lf (m_s M) r a b (i + 1) = q_lf (m_s M) r a b i + 0 := by rw [q_lf, if_neg (fun z => q (by rw [z]))]
      rw [e] at ih
      exact ih
    · refine og_aload_n (pc := 66) dX8_left_66 rfl ?_
      refine og_get (pc := 67) F_X8_22 dX8_left_67 (by repeat (first | exact og_set_eq _ _ _ | assumption | refine (og_set_ne _ _ (by first | assumption | omega)).trans ?_)) (by omega) rfl ?_
      refine og_bipush (pc := 70) (v := 8) dX8_left_70 (by decide) ?_
      refine og_iload (pc := 72) dX8_left_72 rfl ?_
      refine og_imul (pc := 74) dX8_left_74 ?_
      refine og_iload_n (pc := 75) dX8_left_75 rfl ?_
      refine og_iadd (pc := 76) dX8_left_76 ?_
      refine og_ialdN (pc := 77) (og_i8 i b) dX8_left_77 wg (by omega) (by omega) (by first | decide | assumption | omega) ?_
      refine og_aload_n (pc := 78) dX8_left_78 rfl ?_
      refine og_get (pc := 79) F_X8_7 dX8_left_79 (by repeat (first | exact og_set_eq _ _ _ | assumption | refine (og_set_ne _ _ (by first | assumption | omega)).trans ?_)) (by omega) rfl ?_
      refine og_bipush (pc := 82) (v := 8) dX8_left_82 (by decide) ?_
      refine og_iload_n (pc := 84) dX8_left_84 rfl ?_
      refine og_imul (pc := 85) dX8_left_85 ?_
      refine og_iload (pc := 86) dX8_left_86 rfl ?_
      refine og_iadd (pc := 88) dX8_left_88 ?_
      refine og_ialdN (pc := 89) (og_i8 r i) dX8_left_89 ws (by omega) (by omega) (by first | decide | assumption | omega) ?_
      refine og_imul (pc := 90) dX8_left_90 ?_
      refine og_goto (pc := 91) (tgt := 95) dX8_left_91 (by decide) ?_
      refine og_iadd (pc := 95) dX8_left_95 ?_
      refine og_istore_4 (pc := 96) dX8_left_96 rfl ?_
      refine og_iinc_5 (pc := 98) dX8_left_98 (og_inc i) rfl ?_
      refine og_goto (pc := 101) (tgt := 41) dX8_left_101 (by decide) ?_
      have e : q_lf (m_s M) r a b (i + 1) = q_lf (m_s M) r a b i + q_sg (8 * i + b) * m_s M (8 * r + i) := by rw [q_lf, if_pos ((nI_eq (by omega) (by omega)).mp q)]
      rw [e] at ih
      exact ih
