/-! ===== the model: add, multiply, commutator, associator, setFour, left ===== -/
def q_hall (p : Int64) (f : Nat → Int64) : Prop := ∀ j, j < 8 → q_hok p (f j)
def q_dv (p : Int64) (f : Nat → Int64) : Nat → Int64 := fun j => f j / p
set_option maxRecDepth 4000 in
theorem c_X8_multiply (E : og_E) (d n : Nat) (h : og_H) (x y t : Int32) {h0 : og_H} {M : q_M} (w : og_MK h0 h M) :
    og_M E yX8_multiply (.code yX8_multiply cX8_multiply 6 (some .long)) (d + 2) [.ref 101, .int x, .int y, .int t] n h 0 0 (fun v n1 h1 => n1 = n ∧ ((¬ (q_in8 x ∧ q_in8 y ∧ q_in8 t) ∧ v = some (.long 0) ∧ og_MK h0 h1 (m_wRf M 1)) ∨ (∃ i j k, i < 8 ∧ j < 8 ∧ k < 8 ∧ x = nI i ∧ y = nI j ∧ t = nI k ∧ ((¬ q_hall 2 (q_prod (m_R M i) (m_R M j)) ∧ v = some (.long 0) ∧ og_MK h0 h1 (m_wRf M 2)) ∨ (q_hall 2 (q_prod (m_R M i) (m_R M j)) ∧ v = some (.long (q_inner (q_dv 2 (q_prod (m_R M i) (m_R M j))) (q_dv 2 (q_prod (m_R M i) (m_R M j))) 8)) ∧ og_MK h0 h1 (m_wS (m_save (m_wRf M 0)) (upd (q_pt (m_s M) (q_dv 2 (q_prod (m_R M i) (m_R M j))) k) 65 (q_pt (m_s M) (q_dv 2 (q_prod (m_R M i) (m_R M j))) k 65 + 1)))))))) no_x := by
  refine og_start (lv := [some (.ref 101), some (.int x), some (.int y), some (.int t), none, none]) (by decide) rfl rfl (Nat.le_of_ble_eq_true rfl) fun X hr hnm htb => ?_
  have rej : ¬ (q_in8 x ∧ q_in8 y ∧ q_in8 t) → og_G E yX8_multiply.cls cX8_multiply (d + 2) 0 0 6 X (og_Q E (fun v n1 h1 => n1 = n ∧ ((¬ (q_in8 x ∧ q_in8 y ∧ q_in8 t) ∧ v = some (.long 0) ∧ og_MK h0 h1 (m_wRf M 1)) ∨ (∃ i j k, i < 8 ∧ j < 8 ∧ k < 8 ∧ x = nI i ∧ y = nI j ∧ t = nI k ∧ ((¬ q_hall 2 (q_prod (m_R M i) (m_R M j)) ∧ v = some (.long 0) ∧ og_MK h0 h1 (m_wRf M 2)) ∨ (q_hall 2 (q_prod (m_R M i) (m_R M j)) ∧ v = some (.long (q_inner (q_dv 2 (q_prod (m_R M i) (m_R M j))) (q_dv 2 (q_prod (m_R M i) (m_R M j))) 8)) ∧ og_MK h0 h1 (m_wS (m_save (m_wRf M 0)) (upd (q_pt (m_s M) (q_dv 2 (q_prod (m_R M i) (m_R M j))) k) 65 (q_pt (m_s M) (q_dv 2 (q_prod (m_R M i) (m_R M j))) k 65 + 1)))))))) no_x 0 0 X) 0 0 n h 22 [some (.ref 101), some (.int x), some (.int y), some (.int t), none, none] [.ref 101] := by
    intro hb
    have wm := w.m
    refine og_iconst (pc := 22) (v := 1) dX8_multiply_22 (by decide) ?_
    refine og_goto (pc := 23) (tgt := 27) dX8_multiply_23 (by decide) ?_
    refine og_callV (pc := 27) (As := [.int 1]) (rest := []) (c_X8_throwsAt E d n h 1 wm) Y_X8_throwsAt I_X8_throwsAt V_X8_throwsAt wm (by omega) rfl rfl K_X8_125 dX8_multiply_27 rfl rfl (Nat.le_of_ble_eq_true rfl) (by omega) (by omega) (by omega) (fun _ _ _ z => z) (fun v n1 h1 z => ?_)
    obtain ⟨hn, hh, z⟩ := z
    subst hn
    have w2 := w.rf_ 1
    rcases z with ⟨rfl, z⟩ | ⟨rfl, z⟩
    · refine og_if_eq (pc := 30) (tgt := 35) dX8_multiply_30 (by decide) (fun q => absurd q (by decide)) (fun _ => ?_)
      refine og_lconst (pc := 33) (v := 0) dX8_multiply_33 (by decide) ?_
      exact og_lret (pc := 34) hr dX8_multiply_34 (by omega) (by omega) ⟨rfl, Or.inl ⟨hb, rfl, by rw [hh]; exact w2⟩⟩
    · exact absurd (by decide) z
  refine og_aload_n (pc := 0) dX8_multiply_0 rfl ?_
  refine og_iload_n (pc := 1) dX8_multiply_1 rfl ?_
  refine og_callS (pc := 2) (As := [.int x]) (rest := [.ref 101]) (c_X8_isEight E d n h x) Y_X8_isEight S_X8_isEight K_X8_121 dX8_multiply_2 rfl rfl (Nat.le_of_ble_eq_true rfl) (by omega) (by omega) (by omega) (fun _ _ _ z => z) (fun v n1 h1 z => ?_)
  obtain ⟨hn, hh, z⟩ := z
  subst hn hh
  rcases z with ⟨rfl, zx⟩ | ⟨rfl, zx⟩
  rotate_left
  · exact og_if_eq (pc := 5) (tgt := 22) dX8_multiply_5 (by decide) (fun _ => rej (fun q => zx (q_in_e8 q.1))) (fun q => absurd rfl q)
  refine og_if_eq (pc := 5) (tgt := 22) dX8_multiply_5 (by decide) (fun q => absurd q (by decide)) (fun _ => ?_)
  refine og_iload_n (pc := 8) dX8_multiply_8 rfl ?_
  refine og_callS (pc := 9) (As := [.int y]) (rest := [.ref 101]) (c_X8_isEight E d n1 h1 y) Y_X8_isEight S_X8_isEight K_X8_121 dX8_multiply_9 rfl rfl (Nat.le_of_ble_eq_true rfl) (by omega) (by omega) (by omega) (fun _ _ _ z => z) (fun v n2 h2 z => ?_)
  obtain ⟨hn, hh, z⟩ := z
  subst hn hh
  rcases z with ⟨rfl, zy⟩ | ⟨rfl, zy⟩
  rotate_left
  · exact og_if_eq (pc := 12) (tgt := 22) dX8_multiply_12 (by decide) (fun _ => rej (fun q => zy (q_in_e8 q.2.1))) (fun q => absurd rfl q)
  refine og_if_eq (pc := 12) (tgt := 22) dX8_multiply_12 (by decide) (fun q => absurd q (by decide)) (fun _ => ?_)
  refine og_iload_n (pc := 15) dX8_multiply_15 rfl ?_
  refine og_callS (pc := 16) (As := [.int t]) (rest := [.ref 101]) (c_X8_isEight E d n2 h2 t) Y_X8_isEight S_X8_isEight K_X8_121 dX8_multiply_16 rfl rfl (Nat.le_of_ble_eq_true rfl) (by omega) (by omega) (by omega) (fun _ _ _ z => z) (fun v n3 h3 z => ?_)
  obtain ⟨hn, hh, z⟩ := z
  subst hn hh
  rcases z with ⟨rfl, zt⟩ | ⟨rfl, zt⟩
  rotate_left
  · exact og_if_ne (pc := 19) (tgt := 26) dX8_multiply_19 (by decide) (fun q => absurd rfl q) (fun _ => rej (fun q => zt (q_in_e8 q.2.2)))
  refine og_if_ne (pc := 19) (tgt := 26) dX8_multiply_19 (by decide) (fun _ => ?_) (fun q => absurd q (by decide))
  refine og_iconst (pc := 26) (v := 0) dX8_multiply_26 (by decide) ?_
  have wm := w.m
  refine og_callV (pc := 27) (As := [.int 0]) (rest := []) (c_X8_throwsAt E d n3 h3 0 wm) Y_X8_throwsAt I_X8_throwsAt V_X8_throwsAt wm (by omega) rfl rfl K_X8_125 dX8_multiply_27 rfl rfl (Nat.le_of_ble_eq_true rfl) (by omega) (by omega) (by omega) (fun _ _ _ z => z) (fun v n4 h4 z => ?_)
  obtain ⟨hn, hh, z⟩ := z
  subst hn
  have w2 := w.rf_ 0
  rcases z with ⟨rfl, z⟩ | ⟨rfl, -⟩
  · exact absurd z (by decide)
  refine og_if_eq (pc := 30) (tgt := 35) dX8_multiply_30 (by decide) (fun _ => ?_) (fun q => absurd rfl q)
  obtain ⟨i, hi8, rfl⟩ := q_e8_in zx
  obtain ⟨j, hj8, rfl⟩ := q_e8_in zy
  obtain ⟨k, hk8, rfl⟩ := q_e8_in zt
  refine og_abs (P := fun g => og_MK h0 g (m_wRf M 0)) (by rw [hh]; exact w2) fun g w3 => ?_
  have wm := w3.m
  have w := w3
  have wm := w.m
  obtain ⟨f107, e107⟩ := w.scr 107 (by unfold q_ms; omega)
  refine og_aload_n (pc := 35) dX8_multiply_35 rfl ?_
  refine og_aload_n (pc := 36) dX8_multiply_36 rfl ?_
  refine og_get (pc := 37) F_X8_25 dX8_multiply_37 (by repeat (first | exact og_set_eq _ _ _ | assumption | refine (og_set_ne _ _ (by first | assumption | omega)).trans ?_)) (by omega) rfl ?_
  refine og_iload_n (pc := 40) dX8_multiply_40 rfl ?_
  refine og_callV (pc := 41) (As := [.ref 107, .int (nI i)]) (rest := []) (c_X8_takes E d n4 107 i g (m_s M) _ wm w.s e107 (by omega) hi8) Y_X8_takes I_X8_takes V_X8_takes wm (by omega) rfl rfl K_X8_131 dX8_multiply_41 rfl rfl (Nat.le_of_ble_eq_true rfl) (by omega) (by omega) (by omega) (fun _ _ _ z => z) (fun v n5 h5 z => ?_)
  obtain ⟨rfl, hn, hh⟩ := z
  subst hn
  refine og_abs (P := fun g => og_MK h0 g (m_wRf M 0) ∧ g 107 = some (rowL (m_R M i))) (by rw [hh]; exact ⟨w.row _ (by unfold q_ms; omega), og_set_eq _ _ _⟩) fun g ⟨w, e107⟩ => ?_
  have wm := w.m
  obtain ⟨f108, e108⟩ := w.scr 108 (by unfold q_ms; omega)
  refine og_aload_n (pc := 44) dX8_multiply_44 rfl ?_
  refine og_aload_n (pc := 45) dX8_multiply_45 rfl ?_
  refine og_get (pc := 46) F_X8_29 dX8_multiply_46 (by repeat (first | exact og_set_eq _ _ _ | assumption | refine (og_set_ne _ _ (by first | assumption | omega)).trans ?_)) (by omega) rfl ?_
  refine og_iload_n (pc := 49) dX8_multiply_49 rfl ?_
  refine og_callV (pc := 50) (As := [.ref 108, .int (nI j)]) (rest := []) (c_X8_takes E d n5 108 j g (m_s M) _ wm w.s e108 (by omega) hj8) Y_X8_takes I_X8_takes V_X8_takes wm (by omega) rfl rfl K_X8_131 dX8_multiply_50 rfl rfl (Nat.le_of_ble_eq_true rfl) (by omega) (by omega) (by omega) (fun _ _ _ z => z) (fun v n6 h6 z => ?_)
  obtain ⟨rfl, hn, hh⟩ := z
  subst hn
  refine og_abs (P := fun g => og_MK h0 g (m_wRf M 0) ∧ g 107 = some (rowL (m_R M i)) ∧ g 108 = some (rowL (m_R M j))) (by rw [hh]; exact ⟨w.row _ (by unfold q_ms; omega), (og_set_ne _ _ (by omega)).trans e107, og_set_eq _ _ _⟩) fun g ⟨w, e107, e108⟩ => ?_
  have wm := w.m
  obtain ⟨f111, e111⟩ := w.scr 111 (by unfold q_ms; omega)
  obtain ⟨f110, e110⟩ := w.scr 110 (by unfold q_ms; omega)
  refine og_aload_n (pc := 53) dX8_multiply_53 rfl ?_
  refine og_aload_n (pc := 54) dX8_multiply_54 rfl ?_
  refine og_get (pc := 55) F_X8_25 dX8_multiply_55 (by repeat (first | exact og_set_eq _ _ _ | assumption | refine (og_set_ne _ _ (by first | assumption | omega)).trans ?_)) (by omega) rfl ?_
  refine og_aload_n (pc := 58) dX8_multiply_58 rfl ?_
  refine og_get (pc := 59) F_X8_29 dX8_multiply_59 (by repeat (first | exact og_set_eq _ _ _ | assumption | refine (og_set_ne _ _ (by first | assumption | omega)).trans ?_)) (by omega) rfl ?_
  refine og_aload_n (pc := 62) dX8_multiply_62 rfl ?_
  refine og_get (pc := 63) F_X8_35 dX8_multiply_63 (by repeat (first | exact og_set_eq _ _ _ | assumption | refine (og_set_ne _ _ (by first | assumption | omega)).trans ?_)) (by omega) rfl ?_
  refine og_callV (pc := 66) (As := [.ref 107, .ref 108, .ref 110]) (rest := []) (c_X8_times E d n6 107 108 110 g _ _ _ f111 wm w.to w.sg e111 e107 e108 e110 (by omega) (by omega) (by omega) (by omega) (by omega) (by omega)) Y_X8_times I_X8_times V_X8_times wm (by omega) rfl rfl K_X8_148 dX8_multiply_66 rfl rfl (Nat.le_of_ble_eq_true rfl) (by omega) (by omega) (by omega) (fun _ _ _ z => z) (fun v n7 h7 z => ?_)
  obtain ⟨rfl, hn, hh⟩ := z
  subst hn
  refine og_abs (P := fun g => og_MK h0 g (m_wRf M 0) ∧ g 107 = some (rowL (m_R M i)) ∧ g 108 = some (rowL (m_R M j)) ∧ g 110 = some (rowL (q_prod (m_R M i) (m_R M j)))) (by rw [hh]; exact ⟨w.tim _ _ (by unfold q_ms; omega), (og_set_ne _ _ (by omega)).trans ((og_set_ne _ _ (by omega)).trans e107), (og_set_ne _ _ (by omega)).trans ((og_set_ne _ _ (by omega)).trans e108), og_set_eq _ _ _⟩) fun g ⟨w, e107, e108, e110⟩ => ?_
  have wm := w.m
  refine og_aload_n (pc := 69) dX8_multiply_69 rfl ?_
  refine og_aload_n (pc := 70) dX8_multiply_70 rfl ?_
  refine og_get (pc := 71) F_X8_35 dX8_multiply_71 (by repeat (first | exact og_set_eq _ _ _ | assumption | refine (og_set_ne _ _ (by first | assumption | omega)).trans ?_)) (by omega) rfl ?_
  refine og_iconst (pc := 74) (v := 2) dX8_multiply_74 (by decide) ?_
  refine og_callS (pc := 75) (As := [.ref 110, .int 2]) (rest := [.ref 101]) (c_X8_halves E d n7 110 g (q_prod (m_R M i) (m_R M j)) 2 (by decide) e110 (by omega)) Y_X8_halves S_X8_halves K_X8_142 dX8_multiply_75 rfl rfl (Nat.le_of_ble_eq_true rfl) (by omega) (by omega) (by omega) (fun _ _ _ z => z) (fun v n8 h8 z => ?_)
  obtain ⟨hn, z⟩ := z
  subst hn
  rcases z with ⟨rfl, hok, hh⟩ | ⟨rfl, hbad, hh⟩
  rotate_left
  · refine og_if_eq (pc := 78) (tgt := 85) dX8_multiply_78 (by decide) (fun _ => ?_) (fun q => absurd rfl q)
    subst hh
    refine og_iconst (pc := 85) (v := 2) dX8_multiply_85 (by decide) ?_
    refine og_callV (pc := 86) (As := [.int 2]) (rest := []) (c_X8_throwsAt E d n8 _ 2 wm) Y_X8_throwsAt I_X8_throwsAt V_X8_throwsAt wm (by omega) rfl rfl K_X8_125 dX8_multiply_86 rfl rfl (Nat.le_of_ble_eq_true rfl) (by omega) (by omega) (by omega) (fun _ _ _ z => z) (fun v n9 h9 z => ?_)
    obtain ⟨hn, hh, z⟩ := z
    subst hn
    have w5 := w.rf_ 2
    rcases z with ⟨rfl, z⟩ | ⟨rfl, z⟩
    · refine og_if_eq (pc := 89) (tgt := 94) dX8_multiply_89 (by decide) (fun q => absurd q (by decide)) (fun _ => ?_)
      refine og_lconst (pc := 92) (v := 0) dX8_multiply_92 (by decide) ?_
      exact og_lret (pc := 93) hr dX8_multiply_93 (by omega) (by omega) ⟨rfl, Or.inr ⟨i, j, k, hi8, hj8, hk8, rfl, rfl, rfl, Or.inl ⟨hbad, rfl, by rw [hh]; exact w5⟩⟩⟩
    · exact absurd (by decide) z
  refine og_if_eq (pc := 78) (tgt := 85) dX8_multiply_78 (by decide) (fun q => absurd q (by decide)) (fun _ => ?_)
  have w4 := w.row (q_dv 2 (q_prod (m_R M i) (m_R M j))) (show q_ms 110 by unfold q_ms; omega)
  refine og_abs (P := fun g => og_MK h0 g (m_wRf M 0) ∧ g 110 = some (rowL (q_dv 2 (q_prod (m_R M i) (m_R M j))))) (by rw [hh]; exact ⟨w4, og_set_eq _ _ _⟩) fun g ⟨w, e110⟩ => ?_
  have wm := w.m
  refine og_iconst (pc := 81) (v := 0) dX8_multiply_81 (by decide) ?_
  refine og_goto (pc := 82) (tgt := 86) dX8_multiply_82 (by decide) ?_
  refine og_callV (pc := 86) (As := [.int 0]) (rest := []) (c_X8_throwsAt E d n8 g 0 wm) Y_X8_throwsAt I_X8_throwsAt V_X8_throwsAt wm (by omega) rfl rfl K_X8_125 dX8_multiply_86 rfl rfl (Nat.le_of_ble_eq_true rfl) (by omega) (by omega) (by omega) (fun _ _ _ z => z) (fun v n9 h9 z => ?_)
  obtain ⟨hn, hh, z⟩ := z
  subst hn
  have w5 := w.rf_ 0
  rcases z with ⟨rfl, z⟩ | ⟨rfl, -⟩
  · exact absurd z (by decide)
  refine og_if_eq (pc := 89) (tgt := 94) dX8_multiply_89 (by decide) (fun _ => ?_) (fun q => absurd rfl q)
  refine og_abs (P := fun g => og_MK h0 g (m_wRf M 0) ∧ g 110 = some (rowL (q_dv 2 (q_prod (m_R M i) (m_R M j))))) (by rw [hh]; exact ⟨w5, (og_set_ne _ _ (by omega)).trans e110⟩) fun g ⟨w, e110⟩ => ?_
  have wm := w.m
  refine og_aload_n (pc := 94) dX8_multiply_94 rfl ?_
  refine og_iload_n (pc := 95) dX8_multiply_95 rfl ?_
  refine og_callV (pc := 96) (As := [.int (nI k)]) (rest := []) (c_X8_gives E d n9 k g w hk8 e110) Y_X8_gives I_X8_gives V_X8_gives wm (by omega) rfl rfl K_X8_145 dX8_multiply_96 rfl rfl (Nat.le_of_ble_eq_true rfl) (by omega) (by omega) (by omega) (fun _ _ _ z => z) (fun v n10 h10 z => ?_)
  obtain ⟨hn, rfl, w6⟩ := z
  subst hn
  have wm := w6.m
  have ws := w6.s
  refine og_lstore_4 (pc := 99) dX8_multiply_99 rfl ?_
  refine og_aload_n (pc := 101) dX8_multiply_101 rfl ?_
  refine og_get (pc := 102) F_X8_7 dX8_multiply_102 (by repeat (first | exact og_set_eq _ _ _ | assumption | refine (og_set_ne _ _ (by first | assumption | omega)).trans ?_)) (by omega) rfl ?_
  refine og_bipush (pc := 105) (v := 65) dX8_multiply_105 (by decide) ?_
  refine og_dup2 (pc := 107) dX8_multiply_107 rfl rfl ?_
  refine og_ialdN (pc := 108) (j := 65) (show (65 : Int32) = nI 65 from rfl) dX8_multiply_108 ws (by omega) (by omega) (by first | decide | assumption | omega) ?_
  refine og_iconst (pc := 109) (v := 1) dX8_multiply_109 (by decide) ?_
  refine og_iadd (pc := 110) dX8_multiply_110 ?_
  refine og_iastN (pc := 111) (j := 65) (show (65 : Int32) = nI 65 from rfl) dX8_multiply_111 ws (by omega) (by omega) (by first | decide | assumption | omega) ?_
  refine og_lload (pc := 112) dX8_multiply_112 rfl ?_
  exact og_lret (pc := 114) hr dX8_multiply_114 (by omega) (by omega) ⟨rfl, Or.inr ⟨i, j, k, hi8, hj8, hk8, rfl, rfl, rfl, Or.inr ⟨hok, rfl, w6.sS _⟩⟩⟩
set_option maxRecDepth 4000 in
theorem c_X8_commutator (E : og_E) (d n : Nat) (h : og_H) (x y t : Int32) {h0 : og_H} {M : q_M} (w : og_MK h0 h M) :
    og_M E yX8_commutator (.code yX8_commutator cX8_commutator 4 (some .long)) (d + 2) [.ref 101, .int x, .int y, .int t] n h 0 0 (fun v n1 h1 => n1 = n ∧ ((¬ (q_in8 x ∧ q_in8 y ∧ q_in8 t) ∧ v = some (.long 0) ∧ og_MK h0 h1 (m_wRf M 1)) ∨ (∃ i j k, i < 8 ∧ j < 8 ∧ k < 8 ∧ x = nI i ∧ y = nI j ∧ t = nI k ∧ ((¬ q_hall 2 (q_total (q_prod (m_R M i) (m_R M j)) (q_prod (m_R M j) (m_R M i)) 1) ∧ v = some (.long 0) ∧ og_MK h0 h1 (m_wRf M 2)) ∨ (q_hall 2 (q_total (q_prod (m_R M i) (m_R M j)) (q_prod (m_R M j) (m_R M i)) 1) ∧ v = some (.long (q_inner (q_dv 2 (q_total (q_prod (m_R M i) (m_R M j)) (q_prod (m_R M j) (m_R M i)) 1)) (q_dv 2 (q_total (q_prod (m_R M i) (m_R M j)) (q_prod (m_R M j) (m_R M i)) 1)) 8)) ∧ og_MK h0 h1 (m_wS (m_save (m_wRf M 0)) (q_pt (m_s M) (q_dv 2 (q_total (q_prod (m_R M i) (m_R M j)) (q_prod (m_R M j) (m_R M i)) 1)) k))))))) no_x := by
  refine og_start (lv := [some (.ref 101), some (.int x), some (.int y), some (.int t)]) (by decide) rfl rfl (Nat.le_of_ble_eq_true rfl) fun X hr hnm htb => ?_
  have rej : ¬ (q_in8 x ∧ q_in8 y ∧ q_in8 t) → og_G E yX8_commutator.cls cX8_commutator (d + 2) 0 0 4 X (og_Q E (fun v n1 h1 => n1 = n ∧ ((¬ (q_in8 x ∧ q_in8 y ∧ q_in8 t) ∧ v = some (.long 0) ∧ og_MK h0 h1 (m_wRf M 1)) ∨ (∃ i j k, i < 8 ∧ j < 8 ∧ k < 8 ∧ x = nI i ∧ y = nI j ∧ t = nI k ∧ ((¬ q_hall 2 (q_total (q_prod (m_R M i) (m_R M j)) (q_prod (m_R M j) (m_R M i)) 1) ∧ v = some (.long 0) ∧ og_MK h0 h1 (m_wRf M 2)) ∨ (q_hall 2 (q_total (q_prod (m_R M i) (m_R M j)) (q_prod (m_R M j) (m_R M i)) 1) ∧ v = some (.long (q_inner (q_dv 2 (q_total (q_prod (m_R M i) (m_R M j)) (q_prod (m_R M j) (m_R M i)) 1)) (q_dv 2 (q_total (q_prod (m_R M i) (m_R M j)) (q_prod (m_R M j) (m_R M i)) 1)) 8)) ∧ og_MK h0 h1 (m_wS (m_save (m_wRf M 0)) (q_pt (m_s M) (q_dv 2 (q_total (q_prod (m_R M i) (m_R M j)) (q_prod (m_R M j) (m_R M i)) 1)) k))))))) no_x 0 0 X) 0 0 n h 22 [some (.ref 101), some (.int x), some (.int y), some (.int t)] [.ref 101] := by
    intro hb
    have wm := w.m
    refine og_iconst (pc := 22) (v := 1) dX8_commutator_22 (by decide) ?_
    refine og_goto (pc := 23) (tgt := 27) dX8_commutator_23 (by decide) ?_
    refine og_callV (pc := 27) (As := [.int 1]) (rest := []) (c_X8_throwsAt E d n h 1 wm) Y_X8_throwsAt I_X8_throwsAt V_X8_throwsAt wm (by omega) rfl rfl K_X8_125 dX8_commutator_27 rfl rfl (Nat.le_of_ble_eq_true rfl) (by omega) (by omega) (by omega) (fun _ _ _ z => z) (fun v n1 h1 z => ?_)
    obtain ⟨hn, hh, z⟩ := z
    subst hn
    have w2 := w.rf_ 1
    rcases z with ⟨rfl, z⟩ | ⟨rfl, z⟩
    · refine og_if_eq (pc := 30) (tgt := 35) dX8_commutator_30 (by decide) (fun q => absurd q (by decide)) (fun _ => ?_)
      refine og_lconst (pc := 33) (v := 0) dX8_commutator_33 (by decide) ?_
      exact og_lret (pc := 34) hr dX8_commutator_34 (by omega) (by omega) ⟨rfl, Or.inl ⟨hb, rfl, by rw [hh]; exact w2⟩⟩
    · exact absurd (by decide) z
  refine og_aload_n (pc := 0) dX8_commutator_0 rfl ?_
  refine og_iload_n (pc := 1) dX8_commutator_1 rfl ?_
  refine og_callS (pc := 2) (As := [.int x]) (rest := [.ref 101]) (c_X8_isEight E d n h x) Y_X8_isEight S_X8_isEight K_X8_121 dX8_commutator_2 rfl rfl (Nat.le_of_ble_eq_true rfl) (by omega) (by omega) (by omega) (fun _ _ _ z => z) (fun v n1 h1 z => ?_)
  obtain ⟨hn, hh, z⟩ := z
  subst hn hh
  rcases z with ⟨rfl, zx⟩ | ⟨rfl, zx⟩
  rotate_left
  · exact og_if_eq (pc := 5) (tgt := 22) dX8_commutator_5 (by decide) (fun _ => rej (fun q => zx (q_in_e8 q.1))) (fun q => absurd rfl q)
  refine og_if_eq (pc := 5) (tgt := 22) dX8_commutator_5 (by decide) (fun q => absurd q (by decide)) (fun _ => ?_)
  refine og_iload_n (pc := 8) dX8_commutator_8 rfl ?_
  refine og_callS (pc := 9) (As := [.int y]) (rest := [.ref 101]) (c_X8_isEight E d n1 h1 y) Y_X8_isEight S_X8_isEight K_X8_121 dX8_commutator_9 rfl rfl (Nat.le_of_ble_eq_true rfl) (by omega) (by omega) (by omega) (fun _ _ _ z => z) (fun v n2 h2 z => ?_)
  obtain ⟨hn, hh, z⟩ := z
  subst hn hh
  rcases z with ⟨rfl, zy⟩ | ⟨rfl, zy⟩
  rotate_left
  · exact og_if_eq (pc := 12) (tgt := 22) dX8_commutator_12 (by decide) (fun _ => rej (fun q => zy (q_in_e8 q.2.1))) (fun q => absurd rfl q)
  refine og_if_eq (pc := 12) (tgt := 22) dX8_commutator_12 (by decide) (fun q => absurd q (by decide)) (fun _ => ?_)
  refine og_iload_n (pc := 15) dX8_commutator_15 rfl ?_
  refine og_callS (pc := 16) (As := [.int t]) (rest := [.ref 101]) (c_X8_isEight E d n2 h2 t) Y_X8_isEight S_X8_isEight K_X8_121 dX8_commutator_16 rfl rfl (Nat.le_of_ble_eq_true rfl) (by omega) (by omega) (by omega) (fun _ _ _ z => z) (fun v n3 h3 z => ?_)
  obtain ⟨hn, hh, z⟩ := z
  subst hn hh
  rcases z with ⟨rfl, zt⟩ | ⟨rfl, zt⟩
  rotate_left
  · exact og_if_ne (pc := 19) (tgt := 26) dX8_commutator_19 (by decide) (fun q => absurd rfl q) (fun _ => rej (fun q => zt (q_in_e8 q.2.2)))
  refine og_if_ne (pc := 19) (tgt := 26) dX8_commutator_19 (by decide) (fun _ => ?_) (fun q => absurd q (by decide))
  refine og_iconst (pc := 26) (v := 0) dX8_commutator_26 (by decide) ?_
  have wm := w.m
  refine og_callV (pc := 27) (As := [.int 0]) (rest := []) (c_X8_throwsAt E d n3 h3 0 wm) Y_X8_throwsAt I_X8_throwsAt V_X8_throwsAt wm (by omega) rfl rfl K_X8_125 dX8_commutator_27 rfl rfl (Nat.le_of_ble_eq_true rfl) (by omega) (by omega) (by omega) (fun _ _ _ z => z) (fun v n4 h4 z => ?_)
  obtain ⟨hn, hh, z⟩ := z
  subst hn
  have w2 := w.rf_ 0
  rcases z with ⟨rfl, z⟩ | ⟨rfl, -⟩
  · exact absurd z (by decide)
  refine og_if_eq (pc := 30) (tgt := 35) dX8_commutator_30 (by decide) (fun _ => ?_) (fun q => absurd rfl q)
  obtain ⟨i, hi8, rfl⟩ := q_e8_in zx
  obtain ⟨j, hj8, rfl⟩ := q_e8_in zy
  obtain ⟨k, hk8, rfl⟩ := q_e8_in zt
  refine og_abs (P := fun g => og_MK h0 g (m_wRf M 0)) (by rw [hh]; exact w2) fun g w3 => ?_
  have wm := w3.m
  refine og_aload_n (pc := 35) dX8_commutator_35 rfl ?_
  refine og_iload_n (pc := 36) dX8_commutator_36 rfl ?_
  refine og_iload_n (pc := 37) dX8_commutator_37 rfl ?_
  refine og_callV (pc := 38) (As := [.int (nI i), .int (nI j)]) (rest := []) (c_X8_commutes E d n4 i j g w3 hi8 hj8) Y_X8_commutes I_X8_commutes V_X8_commutes wm (by omega) rfl rfl K_X8_152 dX8_commutator_38 rfl rfl (Nat.le_of_ble_eq_true rfl) (by omega) (by omega) (by omega) (fun _ _ _ z => z) (fun v n5 h5 z => ?_)
  obtain ⟨hn, rfl, w, e110⟩ := z
  subst hn
  have e110 : h5 110 = some (rowL (q_total (q_prod (m_R M i) (m_R M j)) (q_prod (m_R M j) (m_R M i)) 1)) := e110
  have wm := w.m
  refine og_aload_n (pc := 41) dX8_commutator_41 rfl ?_
  refine og_aload_n (pc := 42) dX8_commutator_42 rfl ?_
  refine og_get (pc := 43) F_X8_35 dX8_commutator_43 (by repeat (first | exact og_set_eq _ _ _ | assumption | refine (og_set_ne _ _ (by first | assumption | omega)).trans ?_)) (by omega) rfl ?_
  refine og_iconst (pc := 46) (v := 2) dX8_commutator_46 (by decide) ?_
  refine og_callS (pc := 47) (As := [.ref 110, .int 2]) (rest := [.ref 101]) (c_X8_halves E d n5 110 h5 (q_total (q_prod (m_R M i) (m_R M j)) (q_prod (m_R M j) (m_R M i)) 1) 2 (by decide) e110 (by omega)) Y_X8_halves S_X8_halves K_X8_142 dX8_commutator_47 rfl rfl (Nat.le_of_ble_eq_true rfl) (by omega) (by omega) (by omega) (fun _ _ _ z => z) (fun v n6 h6 z => ?_)
  obtain ⟨hn, z⟩ := z
  subst hn
  rcases z with ⟨rfl, hok, hh⟩ | ⟨rfl, hbad, hh⟩
  rotate_left
  · refine og_if_eq (pc := 50) (tgt := 57) dX8_commutator_50 (by decide) (fun _ => ?_) (fun q => absurd rfl q)
    subst hh
    refine og_iconst (pc := 57) (v := 2) dX8_commutator_57 (by decide) ?_
    refine og_callV (pc := 58) (As := [.int 2]) (rest := []) (c_X8_throwsAt E d n6 _ 2 wm) Y_X8_throwsAt I_X8_throwsAt V_X8_throwsAt wm (by omega) rfl rfl K_X8_125 dX8_commutator_58 rfl rfl (Nat.le_of_ble_eq_true rfl) (by omega) (by omega) (by omega) (fun _ _ _ z => z) (fun v n7 h7 z => ?_)
    obtain ⟨hn, hh, z⟩ := z
    subst hn
    have w5 := w.rf_ 2
    rcases z with ⟨rfl, z⟩ | ⟨rfl, z⟩
    · refine og_if_eq (pc := 61) (tgt := 68) dX8_commutator_61 (by decide) (fun q => absurd q (by decide)) (fun _ => ?_)
      refine og_lconst (pc := 64) (v := 0) dX8_commutator_64 (by decide) ?_
      refine og_goto (pc := 65) (tgt := 73) dX8_commutator_65 (by decide) ?_
      exact og_lret (pc := 73) hr dX8_commutator_73 (by omega) (by omega) ⟨rfl, Or.inr ⟨i, j, k, hi8, hj8, hk8, rfl, rfl, rfl, Or.inl ⟨hbad, rfl, by rw [hh]; exact w5⟩⟩⟩
    · exact absurd (by decide) z
  refine og_if_eq (pc := 50) (tgt := 57) dX8_commutator_50 (by decide) (fun q => absurd q (by decide)) (fun _ => ?_)
  have w4 := w.row (q_dv 2 (q_total (q_prod (m_R M i) (m_R M j)) (q_prod (m_R M j) (m_R M i)) 1)) (show q_ms 110 by unfold q_ms; omega)
  refine og_abs (P := fun g => og_MK h0 g (m_wRf M 0) ∧ g 110 = some (rowL (q_dv 2 (q_total (q_prod (m_R M i) (m_R M j)) (q_prod (m_R M j) (m_R M i)) 1)))) (by rw [hh]; exact ⟨w4, og_set_eq _ _ _⟩) fun g ⟨w, e110⟩ => ?_
  have wm := w.m
  refine og_iconst (pc := 53) (v := 0) dX8_commutator_53 (by decide) ?_
  refine og_goto (pc := 54) (tgt := 58) dX8_commutator_54 (by decide) ?_
  refine og_callV (pc := 58) (As := [.int 0]) (rest := []) (c_X8_throwsAt E d n6 g 0 wm) Y_X8_throwsAt I_X8_throwsAt V_X8_throwsAt wm (by omega) rfl rfl K_X8_125 dX8_commutator_58 rfl rfl (Nat.le_of_ble_eq_true rfl) (by omega) (by omega) (by omega) (fun _ _ _ z => z) (fun v n7 h7 z => ?_)
  obtain ⟨hn, hh, z⟩ := z
  subst hn
  have w5 := w.rf_ 0
  rcases z with ⟨rfl, z⟩ | ⟨rfl, -⟩
  · exact absurd z (by decide)
  refine og_if_eq (pc := 61) (tgt := 68) dX8_commutator_61 (by decide) (fun _ => ?_) (fun q => absurd rfl q)
  refine og_abs (P := fun g => og_MK h0 g (m_wRf M 0) ∧ g 110 = some (rowL (q_dv 2 (q_total (q_prod (m_R M i) (m_R M j)) (q_prod (m_R M j) (m_R M i)) 1)))) (by rw [hh]; exact ⟨w5, (og_set_ne _ _ (by omega)).trans e110⟩) fun g ⟨w, e110⟩ => ?_
  have wm := w.m
  refine og_aload_n (pc := 68) dX8_commutator_68 rfl ?_
  refine og_iload_n (pc := 69) dX8_commutator_69 rfl ?_
  refine og_callV (pc := 70) (As := [.int (nI k)]) (rest := []) (c_X8_gives E d n7 k g w hk8 e110) Y_X8_gives I_X8_gives V_X8_gives wm (by omega) rfl rfl K_X8_145 dX8_commutator_70 rfl rfl (Nat.le_of_ble_eq_true rfl) (by omega) (by omega) (by omega) (fun _ _ _ z => z) (fun v n8 h8 z => ?_)
  obtain ⟨hn, rfl, w6⟩ := z
  subst hn
  exact og_lret (pc := 73) hr dX8_commutator_73 (by omega) (by omega) ⟨rfl, Or.inr ⟨i, j, k, hi8, hj8, hk8, rfl, rfl, rfl, Or.inr ⟨hok, rfl, w6⟩⟩⟩
set_option maxRecDepth 4000 in
theorem c_X8_associator (E : og_E) (d n : Nat) (h : og_H) (x y u t : Int32) {h0 : og_H} {M : q_M} (w : og_MK h0 h M) :
    og_M E yX8_associator (.code yX8_associator cX8_associator 5 (some .long)) (d + 2) [.ref 101, .int x, .int y, .int u, .int t] n h 0 0 (fun v n1 h1 => n1 = n ∧ ((¬ (q_in8 x ∧ q_in8 y ∧ q_in8 u ∧ q_in8 t) ∧ v = some (.long 0) ∧ og_MK h0 h1 (m_wRf M 1)) ∨ (∃ i j l k, i < 8 ∧ j < 8 ∧ l < 8 ∧ k < 8 ∧ x = nI i ∧ y = nI j ∧ u = nI l ∧ t = nI k ∧ ((¬ q_hall 4 (q_asc (m_R M i) (m_R M j) (m_R M l)) ∧ v = some (.long 0) ∧ og_MK h0 h1 (m_wRf M 2)) ∨ (q_hall 4 (q_asc (m_R M i) (m_R M j) (m_R M l)) ∧ v = some (.long (q_inner (q_dv 4 (q_asc (m_R M i) (m_R M j) (m_R M l))) (q_dv 4 (q_asc (m_R M i) (m_R M j) (m_R M l))) 8)) ∧ og_MK h0 h1 (m_wS (m_save (m_wRf M 0)) (q_pt (m_s M) (q_dv 4 (q_asc (m_R M i) (m_R M j) (m_R M l))) k))))))) no_x := by
  refine og_start (lv := [some (.ref 101), some (.int x), some (.int y), some (.int u), some (.int t)]) (by decide) rfl rfl (Nat.le_of_ble_eq_true rfl) fun X hr hnm htb => ?_
  have rej : ¬ (q_in8 x ∧ q_in8 y ∧ q_in8 u ∧ q_in8 t) → og_G E yX8_associator.cls cX8_associator (d + 2) 0 0 5 X (og_Q E (fun v n1 h1 => n1 = n ∧ ((¬ (q_in8 x ∧ q_in8 y ∧ q_in8 u ∧ q_in8 t) ∧ v = some (.long 0) ∧ og_MK h0 h1 (m_wRf M 1)) ∨ (∃ i j l k, i < 8 ∧ j < 8 ∧ l < 8 ∧ k < 8 ∧ x = nI i ∧ y = nI j ∧ u = nI l ∧ t = nI k ∧ ((¬ q_hall 4 (q_asc (m_R M i) (m_R M j) (m_R M l)) ∧ v = some (.long 0) ∧ og_MK h0 h1 (m_wRf M 2)) ∨ (q_hall 4 (q_asc (m_R M i) (m_R M j) (m_R M l)) ∧ v = some (.long (q_inner (q_dv 4 (q_asc (m_R M i) (m_R M j) (m_R M l))) (q_dv 4 (q_asc (m_R M i) (m_R M j) (m_R M l))) 8)) ∧ og_MK h0 h1 (m_wS (m_save (m_wRf M 0)) (q_pt (m_s M) (q_dv 4 (q_asc (m_R M i) (m_R M j) (m_R M l))) k))))))) no_x 0 0 X) 0 0 n h 30 [some (.ref 101), some (.int x), some (.int y), some (.int u), some (.int t)] [.ref 101] := by
    intro hb
    have wm := w.m
    refine og_iconst (pc := 30) (v := 1) dX8_associator_30 (by decide) ?_
    refine og_goto (pc := 31) (tgt := 35) dX8_associator_31 (by decide) ?_
    refine og_callV (pc := 35) (As := [.int 1]) (rest := []) (c_X8_throwsAt E d n h 1 wm) Y_X8_throwsAt I_X8_throwsAt V_X8_throwsAt wm (by omega) rfl rfl K_X8_125 dX8_associator_35 rfl rfl (Nat.le_of_ble_eq_true rfl) (by omega) (by omega) (by omega) (fun _ _ _ z => z) (fun v n1 h1 z => ?_)
    obtain ⟨hn, hh, z⟩ := z
    subst hn
    have w2 := w.rf_ 1
    rcases z with ⟨rfl, z⟩ | ⟨rfl, z⟩
    · refine og_if_eq (pc := 38) (tgt := 43) dX8_associator_38 (by decide) (fun q => absurd q (by decide)) (fun _ => ?_)
      refine og_lconst (pc := 41) (v := 0) dX8_associator_41 (by decide) ?_
      exact og_lret (pc := 42) hr dX8_associator_42 (by omega) (by omega) ⟨rfl, Or.inl ⟨hb, rfl, by rw [hh]; exact w2⟩⟩
    · exact absurd (by decide) z
  refine og_aload_n (pc := 0) dX8_associator_0 rfl ?_
  refine og_iload_n (pc := 1) dX8_associator_1 rfl ?_
  refine og_callS (pc := 2) (As := [.int x]) (rest := [.ref 101]) (c_X8_isEight E d n h x) Y_X8_isEight S_X8_isEight K_X8_121 dX8_associator_2 rfl rfl (Nat.le_of_ble_eq_true rfl) (by omega) (by omega) (by omega) (fun _ _ _ z => z) (fun v n1 h1 z => ?_)
  obtain ⟨hn, hh, z⟩ := z
  subst hn hh
  rcases z with ⟨rfl, zx⟩ | ⟨rfl, zx⟩
  rotate_left
  · exact og_if_eq (pc := 5) (tgt := 30) dX8_associator_5 (by decide) (fun _ => rej (fun q => zx (q_in_e8 q.1))) (fun q => absurd rfl q)
  refine og_if_eq (pc := 5) (tgt := 30) dX8_associator_5 (by decide) (fun q => absurd q (by decide)) (fun _ => ?_)
  refine og_iload_n (pc := 8) dX8_associator_8 rfl ?_
  refine og_callS (pc := 9) (As := [.int y]) (rest := [.ref 101]) (c_X8_isEight E d n1 h1 y) Y_X8_isEight S_X8_isEight K_X8_121 dX8_associator_9 rfl rfl (Nat.le_of_ble_eq_true rfl) (by omega) (by omega) (by omega) (fun _ _ _ z => z) (fun v n2 h2 z => ?_)
  obtain ⟨hn, hh, z⟩ := z
  subst hn hh
  rcases z with ⟨rfl, zy⟩ | ⟨rfl, zy⟩
  rotate_left
  · exact og_if_eq (pc := 12) (tgt := 30) dX8_associator_12 (by decide) (fun _ => rej (fun q => zy (q_in_e8 q.2.1))) (fun q => absurd rfl q)
  refine og_if_eq (pc := 12) (tgt := 30) dX8_associator_12 (by decide) (fun q => absurd q (by decide)) (fun _ => ?_)
  refine og_iload_n (pc := 15) dX8_associator_15 rfl ?_
  refine og_callS (pc := 16) (As := [.int u]) (rest := [.ref 101]) (c_X8_isEight E d n2 h2 u) Y_X8_isEight S_X8_isEight K_X8_121 dX8_associator_16 rfl rfl (Nat.le_of_ble_eq_true rfl) (by omega) (by omega) (by omega) (fun _ _ _ z => z) (fun v n3 h3 z => ?_)
  obtain ⟨hn, hh, z⟩ := z
  subst hn hh
  rcases z with ⟨rfl, zu⟩ | ⟨rfl, zu⟩
  rotate_left
  · exact og_if_eq (pc := 19) (tgt := 30) dX8_associator_19 (by decide) (fun _ => rej (fun q => zu (q_in_e8 q.2.2.1))) (fun q => absurd rfl q)
  refine og_if_eq (pc := 19) (tgt := 30) dX8_associator_19 (by decide) (fun q => absurd q (by decide)) (fun _ => ?_)
  refine og_iload (pc := 22) dX8_associator_22 rfl ?_
  refine og_callS (pc := 24) (As := [.int t]) (rest := [.ref 101]) (c_X8_isEight E d n3 h3 t) Y_X8_isEight S_X8_isEight K_X8_121 dX8_associator_24 rfl rfl (Nat.le_of_ble_eq_true rfl) (by omega) (by omega) (by omega) (fun _ _ _ z => z) (fun v n4 h4 z => ?_)
  obtain ⟨hn, hh, z⟩ := z
  subst hn hh
  rcases z with ⟨rfl, zt⟩ | ⟨rfl, zt⟩
  rotate_left
  · exact og_if_ne (pc := 27) (tgt := 34) dX8_associator_27 (by decide) (fun q => absurd rfl q) (fun _ => rej (fun q => zt (q_in_e8 q.2.2.2)))
  refine og_if_ne (pc := 27) (tgt := 34) dX8_associator_27 (by decide) (fun _ => ?_) (fun q => absurd q (by decide))
  refine og_iconst (pc := 34) (v := 0) dX8_associator_34 (by decide) ?_
  have wm := w.m
  refine og_callV (pc := 35) (As := [.int 0]) (rest := []) (c_X8_throwsAt E d n4 h4 0 wm) Y_X8_throwsAt I_X8_throwsAt V_X8_throwsAt wm (by omega) rfl rfl K_X8_125 dX8_associator_35 rfl rfl (Nat.le_of_ble_eq_true rfl) (by omega) (by omega) (by omega) (fun _ _ _ z => z) (fun v n5 h5 z => ?_)
  obtain ⟨hn, hh, z⟩ := z
  subst hn
  have w2 := w.rf_ 0
  rcases z with ⟨rfl, z⟩ | ⟨rfl, -⟩
  · exact absurd z (by decide)
  refine og_if_eq (pc := 38) (tgt := 43) dX8_associator_38 (by decide) (fun _ => ?_) (fun q => absurd rfl q)
  obtain ⟨i, hi8, rfl⟩ := q_e8_in zx
  obtain ⟨j, hj8, rfl⟩ := q_e8_in zy
  obtain ⟨l, hl8, rfl⟩ := q_e8_in zu
  obtain ⟨k, hk8, rfl⟩ := q_e8_in zt
  refine og_abs (P := fun g => og_MK h0 g (m_wRf M 0)) (by rw [hh]; exact w2) fun g w3 => ?_
  have wm := w3.m
  refine og_aload_n (pc := 43) dX8_associator_43 rfl ?_
  refine og_iload_n (pc := 44) dX8_associator_44 rfl ?_
  refine og_iload_n (pc := 45) dX8_associator_45 rfl ?_
  refine og_iload_n (pc := 46) dX8_associator_46 rfl ?_
  refine og_callV (pc := 47) (As := [.int (nI i), .int (nI j), .int (nI l)]) (rest := []) (c_X8_associates E d n5 i j l g w3 hi8 hj8 hl8) Y_X8_associates I_X8_associates V_X8_associates wm (by omega) rfl rfl K_X8_156 dX8_associator_47 rfl rfl (Nat.le_of_ble_eq_true rfl) (by omega) (by omega) (by omega) (fun _ _ _ z => z) (fun v n6 h6 z => ?_)
  obtain ⟨hn, rfl, w, e110⟩ := z
  subst hn
  have e110 : h6 110 = some (rowL (q_asc (m_R M i) (m_R M j) (m_R M l))) := e110
  have wm := w.m
  refine og_aload_n (pc := 50) dX8_associator_50 rfl ?_
  refine og_aload_n (pc := 51) dX8_associator_51 rfl ?_
  refine og_get (pc := 52) F_X8_35 dX8_associator_52 (by repeat (first | exact og_set_eq _ _ _ | assumption | refine (og_set_ne _ _ (by first | assumption | omega)).trans ?_)) (by omega) rfl ?_
  refine og_iconst (pc := 55) (v := 4) dX8_associator_55 (by decide) ?_
  refine og_callS (pc := 56) (As := [.ref 110, .int 4]) (rest := [.ref 101]) (c_X8_halves E d n6 110 h6 (q_asc (m_R M i) (m_R M j) (m_R M l)) 4 (by decide) e110 (by omega)) Y_X8_halves S_X8_halves K_X8_142 dX8_associator_56 rfl rfl (Nat.le_of_ble_eq_true rfl) (by omega) (by omega) (by omega) (fun _ _ _ z => z) (fun v n7 h7 z => ?_)
  obtain ⟨hn, z⟩ := z
  subst hn
  rcases z with ⟨rfl, hok, hh⟩ | ⟨rfl, hbad, hh⟩
  rotate_left
  · refine og_if_eq (pc := 59) (tgt := 66) dX8_associator_59 (by decide) (fun _ => ?_) (fun q => absurd rfl q)
    subst hh
    refine og_iconst (pc := 66) (v := 2) dX8_associator_66 (by decide) ?_
    refine og_callV (pc := 67) (As := [.int 2]) (rest := []) (c_X8_throwsAt E d n7 _ 2 wm) Y_X8_throwsAt I_X8_throwsAt V_X8_throwsAt wm (by omega) rfl rfl K_X8_125 dX8_associator_67 rfl rfl (Nat.le_of_ble_eq_true rfl) (by omega) (by omega) (by omega) (fun _ _ _ z => z) (fun v n8 h8 z => ?_)
    obtain ⟨hn, hh, z⟩ := z
    subst hn
    have w5 := w.rf_ 2
    rcases z with ⟨rfl, z⟩ | ⟨rfl, z⟩
    · refine og_if_eq (pc := 70) (tgt := 77) dX8_associator_70 (by decide) (fun q => absurd q (by decide)) (fun _ => ?_)
      refine og_lconst (pc := 73) (v := 0) dX8_associator_73 (by decide) ?_
      refine og_goto (pc := 74) (tgt := 83) dX8_associator_74 (by decide) ?_
      exact og_lret (pc := 83) hr dX8_associator_83 (by omega) (by omega) ⟨rfl, Or.inr ⟨i, j, l, k, hi8, hj8, hl8, hk8, rfl, rfl, rfl, rfl, Or.inl ⟨hbad, rfl, by rw [hh]; exact w5⟩⟩⟩
    · exact absurd (by decide) z
  refine og_if_eq (pc := 59) (tgt := 66) dX8_associator_59 (by decide) (fun q => absurd q (by decide)) (fun _ => ?_)
  have w4 := w.row (q_dv 4 (q_asc (m_R M i) (m_R M j) (m_R M l))) (show q_ms 110 by unfold q_ms; omega)
  refine og_abs (P := fun g => og_MK h0 g (m_wRf M 0) ∧ g 110 = some (rowL (q_dv 4 (q_asc (m_R M i) (m_R M j) (m_R M l))))) (by rw [hh]; exact ⟨w4, og_set_eq _ _ _⟩) fun g ⟨w, e110⟩ => ?_
  have wm := w.m
  refine og_iconst (pc := 62) (v := 0) dX8_associator_62 (by decide) ?_
  refine og_goto (pc := 63) (tgt := 67) dX8_associator_63 (by decide) ?_
  refine og_callV (pc := 67) (As := [.int 0]) (rest := []) (c_X8_throwsAt E d n7 g 0 wm) Y_X8_throwsAt I_X8_throwsAt V_X8_throwsAt wm (by omega) rfl rfl K_X8_125 dX8_associator_67 rfl rfl (Nat.le_of_ble_eq_true rfl) (by omega) (by omega) (by omega) (fun _ _ _ z => z) (fun v n8 h8 z => ?_)
  obtain ⟨hn, hh, z⟩ := z
  subst hn
  have w5 := w.rf_ 0
  rcases z with ⟨rfl, z⟩ | ⟨rfl, -⟩
  · exact absurd z (by decide)
  refine og_if_eq (pc := 70) (tgt := 77) dX8_associator_70 (by decide) (fun _ => ?_) (fun q => absurd rfl q)
  refine og_abs (P := fun g => og_MK h0 g (m_wRf M 0) ∧ g 110 = some (rowL (q_dv 4 (q_asc (m_R M i) (m_R M j) (m_R M l))))) (by rw [hh]; exact ⟨w5, (og_set_ne _ _ (by omega)).trans e110⟩) fun g ⟨w, e110⟩ => ?_
  have wm := w.m
  refine og_aload_n (pc := 77) dX8_associator_77 rfl ?_
  refine og_iload (pc := 78) dX8_associator_78 rfl ?_
  refine og_callV (pc := 80) (As := [.int (nI k)]) (rest := []) (c_X8_gives E d n8 k g w hk8 e110) Y_X8_gives I_X8_gives V_X8_gives wm (by omega) rfl rfl K_X8_145 dX8_associator_80 rfl rfl (Nat.le_of_ble_eq_true rfl) (by omega) (by omega) (by omega) (fun _ _ _ z => z) (fun v n9 h9 z => ?_)
  obtain ⟨hn, rfl, w6⟩ := z
  subst hn
  exact og_lret (pc := 83) hr dX8_associator_83 (by omega) (by omega) ⟨rfl, Or.inr ⟨i, j, l, k, hi8, hj8, hl8, hk8, rfl, rfl, rfl, rfl, Or.inr ⟨hok, rfl, w6⟩⟩⟩
