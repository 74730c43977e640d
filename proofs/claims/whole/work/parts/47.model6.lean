/-! ===== the model: its shared steps ===== -/
theorem c_X8_normOf (E : og_E) (d n r : Nat) (h : og_H) {h0 : og_H} {M : q_M} (w : og_MK h0 h M) (hr8 : r < 8) :
    og_M E yX8_normOf (.code yX8_normOf cX8_normOf 2 (some .long)) (d + 1) [.ref 101, .int (nI r)] n h 0 0 (fun v n1 h1 => n1 = n ∧ v = some (.long (q_inner (q_reg (m_s M) r) (q_reg (m_s M) r) 8)) ∧ og_MK h0 h1 M) no_x := by
  refine og_start (lv := [some (.ref 101), some (.int (nI r))]) (by decide) rfl rfl (Nat.le_of_ble_eq_true rfl) fun X hr hnm htb => ?_
  have wm := w.m
  obtain ⟨f, e107⟩ := w.scr 107 (by unfold q_ms; omega)
  refine og_aload_n (pc := 0) dX8_normOf_0 rfl ?_
  refine og_aload_n (pc := 1) dX8_normOf_1 rfl ?_
  refine og_get (pc := 2) F_X8_25 dX8_normOf_2 (by repeat (first | exact og_set_eq _ _ _ | assumption | refine (og_set_ne _ _ (by first | assumption | omega)).trans ?_)) (by omega) rfl ?_
  refine og_iload_n (pc := 5) dX8_normOf_5 rfl ?_
  refine og_callV (pc := 6) (As := [.ref 107, .int (nI r)]) (rest := []) (c_X8_takes E d n 107 r h (m_s M) f wm w.s e107 (by omega) hr8) Y_X8_takes I_X8_takes V_X8_takes wm (by omega) rfl rfl K_X8_131 dX8_normOf_6 rfl rfl (Nat.le_of_ble_eq_true rfl) (by omega) (by omega) (by omega) (fun _ _ _ z => z) (fun v n1 h1 z => ?_)
  obtain ⟨rfl, hn, hh⟩ := z
  subst hn hh
  have w2 := w.row (q_reg (m_s M) r) (show q_ms 107 by unfold q_ms; omega)
  have wm := w2.m
  refine og_aload_n (pc := 9) dX8_normOf_9 rfl ?_
  refine og_get (pc := 10) F_X8_25 dX8_normOf_10 (by repeat (first | exact og_set_eq _ _ _ | assumption | refine (og_set_ne _ _ (by first | assumption | omega)).trans ?_)) (by omega) rfl ?_
  refine og_callS (pc := 13) (As := [.ref 107]) (rest := []) (c_X8_square E d n1 107 _ _ (og_set_eq _ _ _) (by omega)) Y_X8_square S_X8_square K_X8_97 dX8_normOf_13 rfl rfl (Nat.le_of_ble_eq_true rfl) (by omega) (by omega) (by omega) (fun _ _ _ z => z) (fun v n2 h2 z => ?_)
  obtain ⟨rfl, hn, rfl⟩ := z
  subst hn
  exact og_lret (pc := 16) hr dX8_normOf_16 (by omega) (by omega) ⟨rfl, rfl, w2⟩
theorem c_X8_gives (E : og_E) (d n r : Nat) (h : og_H) {h0 : og_H} {M : q_M} {f : Nat → Int64} (w : og_MK h0 h M) (hr8 : r < 8) (e110 : h 110 = some (rowL f)) :
    og_M E yX8_gives (.code yX8_gives cX8_gives 2 (some .long)) (d + 1) [.ref 101, .int (nI r)] n h 0 0 (fun v n1 h1 => n1 = n ∧ v = some (.long (q_inner f f 8)) ∧ og_MK h0 h1 (m_wS (m_save M) (q_pt (m_s M) f r))) no_x := by
  refine og_start (lv := [some (.ref 101), some (.int (nI r))]) (by decide) rfl rfl (Nat.le_of_ble_eq_true rfl) fun X hr hnm htb => ?_
  have wm := w.m
  refine og_aload_n (pc := 0) dX8_gives_0 rfl ?_
  refine og_callV (pc := 1) (As := []) (rest := []) (c_X8_saves E d n (m_ps M) h (m_p M) (m_s M) wm w.s w.p w.ok.1) Y_X8_saves I_X8_saves V_X8_saves wm (by omega) rfl rfl K_X8_128 dX8_gives_1 rfl rfl (Nat.le_of_ble_eq_true rfl) (by omega) (by omega) (by omega) (fun _ _ _ z => z) (fun v n1 h1 z => ?_)
  obtain ⟨rfl, hn, z⟩ := z
  subst hn
  obtain ⟨w4, fr⟩ := m_saved w z
  have wm := w4.m
  have ws : h1 102 = some (rowI 67 (m_s M)) := by
    have := w4.s
    rw [m_save_s] at this
    exact this
  have e110 := (fr 110 (by omega) (by omega)).trans e110
  refine og_aload_n (pc := 4) dX8_gives_4 rfl ?_
  refine og_aload_n (pc := 5) dX8_gives_5 rfl ?_
  refine og_get (pc := 6) F_X8_35 dX8_gives_6 (by repeat (first | exact og_set_eq _ _ _ | assumption | refine (og_set_ne _ _ (by first | assumption | omega)).trans ?_)) (by omega) rfl ?_
  refine og_iload_n (pc := 9) dX8_gives_9 rfl ?_
  refine og_callV (pc := 10) (As := [.ref 110, .int (nI r)]) (rest := []) (c_X8_puts E d n1 110 r h1 (m_s M) f wm ws e110 (by omega) hr8) Y_X8_puts I_X8_puts V_X8_puts wm (by omega) rfl rfl K_X8_139 dX8_gives_10 rfl rfl (Nat.le_of_ble_eq_true rfl) (by omega) (by omega) (by omega) (fun _ _ _ z => z) (fun v n2 h2 z => ?_)
  obtain ⟨rfl, hn, hh⟩ := z
  subst hn hh
  have w5 := w4.sS (q_pt (m_s M) f r)
  have wm := w5.m
  refine og_aload_n (pc := 13) dX8_gives_13 rfl ?_
  refine og_get (pc := 14) F_X8_35 dX8_gives_14 (by repeat (first | exact og_set_eq _ _ _ | assumption | refine (og_set_ne _ _ (by first | assumption | omega)).trans ?_)) (by omega) rfl ?_
  refine og_callS (pc := 17) (As := [.ref 110]) (rest := []) (c_X8_square E d n2 110 _ f ((og_set_ne _ _ (by omega)).trans e110) (by omega)) Y_X8_square S_X8_square K_X8_97 dX8_gives_17 rfl rfl (Nat.le_of_ble_eq_true rfl) (by omega) (by omega) (by omega) (fun _ _ _ z => z) (fun v n3 h3 z => ?_)
  obtain ⟨rfl, hn, rfl⟩ := z
  subst hn
  exact og_lret (pc := 20) hr dX8_gives_20 (by omega) (by omega) ⟨rfl, rfl, w5⟩
/-- one step of the model: a product into a row -/
theorem og_MK.tim {h0 h : og_H} {M : q_M} (w : og_MK h0 h M) {c : Nat} (f g : Nat → Int64) (hc : q_ms c) : og_MK h0 (og_set (og_set h 111 (rowL f)) c (rowL g)) M := (w.row f (show q_ms 111 by unfold q_ms; omega)).row g hc
abbrev m_R (M : q_M) (r : Nat) : Nat → Int64 := q_reg (m_s M) r
set_option maxRecDepth 4000 in
theorem c_X8_commutes (E : og_E) (d n a b : Nat) (h : og_H) {h0 : og_H} {M : q_M} (w : og_MK h0 h M) (ha8 : a < 8) (hb8 : b < 8) :
    og_M E yX8_commutes (.code yX8_commutes cX8_commutes 4 none) (d + 1) [.ref 101, .int (nI a), .int (nI b)] n h 0 0 (fun v n1 h1 => n1 = n ∧ v = none ∧ og_MK h0 h1 M ∧ h1 110 = some (rowL (q_total (q_prod (m_R M a) (m_R M b)) (q_prod (m_R M b) (m_R M a)) 1))) no_x := by
  refine og_start (lv := [some (.ref 101), some (.int (nI a)), some (.int (nI b)), none]) (by decide) rfl rfl (Nat.le_of_ble_eq_true rfl) fun X hr hnm htb => ?_
  have wm := w.m
  obtain ⟨f, e107⟩ := w.scr 107 (by unfold q_ms; omega)
  refine og_aload_n (pc := 0) dX8_commutes_0 rfl ?_
  refine og_aload_n (pc := 1) dX8_commutes_1 rfl ?_
  refine og_get (pc := 2) F_X8_25 dX8_commutes_2 (by repeat (first | exact og_set_eq _ _ _ | assumption | refine (og_set_ne _ _ (by first | assumption | omega)).trans ?_)) (by omega) rfl ?_
  refine og_iload_n (pc := 5) dX8_commutes_5 rfl ?_
  refine og_callV (pc := 6) (As := [.ref 107, .int (nI a)]) (rest := []) (c_X8_takes E d n 107 a h (m_s M) f wm w.s e107 (by omega) ha8) Y_X8_takes I_X8_takes V_X8_takes wm (by omega) rfl rfl K_X8_131 dX8_commutes_6 rfl rfl (Nat.le_of_ble_eq_true rfl) (by omega) (by omega) (by omega) (fun _ _ _ z => z) (fun v n1 h1 z => ?_)
  obtain ⟨rfl, hn, hh⟩ := z
  subst hn
  refine og_abs (P := fun g => og_MK h0 g M ∧ g 107 = some (rowL (m_R M a))) (by rw [hh]; exact ⟨w.row _ (by unfold q_ms; omega), og_set_eq _ _ _⟩) fun g ⟨w, e107⟩ => ?_
  have wm := w.m
  obtain ⟨f8, e108⟩ := w.scr 108 (by unfold q_ms; omega)
  refine og_aload_n (pc := 9) dX8_commutes_9 rfl ?_
  refine og_aload_n (pc := 10) dX8_commutes_10 rfl ?_
  refine og_get (pc := 11) F_X8_29 dX8_commutes_11 (by repeat (first | exact og_set_eq _ _ _ | assumption | refine (og_set_ne _ _ (by first | assumption | omega)).trans ?_)) (by omega) rfl ?_
  refine og_iload_n (pc := 14) dX8_commutes_14 rfl ?_
  refine og_callV (pc := 15) (As := [.ref 108, .int (nI b)]) (rest := []) (c_X8_takes E d n1 108 b g (m_s M) f8 wm w.s e108 (by omega) hb8) Y_X8_takes I_X8_takes V_X8_takes wm (by omega) rfl rfl K_X8_131 dX8_commutes_15 rfl rfl (Nat.le_of_ble_eq_true rfl) (by omega) (by omega) (by omega) (fun _ _ _ z => z) (fun v n2 h2 z => ?_)
  obtain ⟨rfl, hn, hh⟩ := z
  subst hn
  refine og_abs (P := fun g => og_MK h0 g M ∧ g 107 = some (rowL (m_R M a)) ∧ g 108 = some (rowL (m_R M b))) (by rw [hh]; exact ⟨w.row _ (by unfold q_ms; omega), (og_set_ne _ _ (by omega)).trans e107, og_set_eq _ _ _⟩) fun g ⟨w, e107, e108⟩ => ?_
  have wm := w.m
  obtain ⟨f1, e111⟩ := w.scr 111 (by unfold q_ms; omega)
  obtain ⟨f2, e112⟩ := w.scr 112 (by unfold q_ms; omega)
  refine og_aload_n (pc := 18) dX8_commutes_18 rfl ?_
  refine og_aload_n (pc := 19) dX8_commutes_19 rfl ?_
  refine og_get (pc := 20) F_X8_25 dX8_commutes_20 (by repeat (first | exact og_set_eq _ _ _ | assumption | refine (og_set_ne _ _ (by first | assumption | omega)).trans ?_)) (by omega) rfl ?_
  refine og_aload_n (pc := 23) dX8_commutes_23 rfl ?_
  refine og_get (pc := 24) F_X8_29 dX8_commutes_24 (by repeat (first | exact og_set_eq _ _ _ | assumption | refine (og_set_ne _ _ (by first | assumption | omega)).trans ?_)) (by omega) rfl ?_
  refine og_aload_n (pc := 27) dX8_commutes_27 rfl ?_
  refine og_get (pc := 28) F_X8_41 dX8_commutes_28 (by repeat (first | exact og_set_eq _ _ _ | assumption | refine (og_set_ne _ _ (by first | assumption | omega)).trans ?_)) (by omega) rfl ?_
  refine og_callV (pc := 31) (As := [.ref 107, .ref 108, .ref 112]) (rest := []) (c_X8_times E d n2 107 108 112 g (m_R M a) (m_R M b) f2 f1 wm w.to w.sg e111 e107 e108 e112 (by omega) (by omega) (by omega) (by omega) (by omega) (by omega)) Y_X8_times I_X8_times V_X8_times wm (by omega) rfl rfl K_X8_148 dX8_commutes_31 rfl rfl (Nat.le_of_ble_eq_true rfl) (by omega) (by omega) (by omega) (fun _ _ _ z => z) (fun v n3 h3 z => ?_)
  obtain ⟨rfl, hn, hh⟩ := z
  subst hn
  refine og_abs (P := fun g => og_MK h0 g M ∧ g 107 = some (rowL (m_R M a)) ∧ g 108 = some (rowL (m_R M b)) ∧ g 112 = some (rowL (q_prod (m_R M a) (m_R M b)))) (by rw [hh]; exact ⟨w.tim _ _ (by unfold q_ms; omega), (og_set_ne _ _ (by omega)).trans ((og_set_ne _ _ (by omega)).trans e107), (og_set_ne _ _ (by omega)).trans ((og_set_ne _ _ (by omega)).trans e108), og_set_eq _ _ _⟩) fun g ⟨w, e107, e108, e112⟩ => ?_
  have wm := w.m
  obtain ⟨f1, e111⟩ := w.scr 111 (by unfold q_ms; omega)
  obtain ⟨f0, e110⟩ := w.scr 110 (by unfold q_ms; omega)
  refine og_aload_n (pc := 34) dX8_commutes_34 rfl ?_
  refine og_aload_n (pc := 35) dX8_commutes_35 rfl ?_
  refine og_get (pc := 36) F_X8_29 dX8_commutes_36 (by repeat (first | exact og_set_eq _ _ _ | assumption | refine (og_set_ne _ _ (by first | assumption | omega)).trans ?_)) (by omega) rfl ?_
  refine og_aload_n (pc := 39) dX8_commutes_39 rfl ?_
  refine og_get (pc := 40) F_X8_25 dX8_commutes_40 (by repeat (first | exact og_set_eq _ _ _ | assumption | refine (og_set_ne _ _ (by first | assumption | omega)).trans ?_)) (by omega) rfl ?_
  refine og_aload_n (pc := 43) dX8_commutes_43 rfl ?_
  refine og_get (pc := 44) F_X8_35 dX8_commutes_44 (by repeat (first | exact og_set_eq _ _ _ | assumption | refine (og_set_ne _ _ (by first | assumption | omega)).trans ?_)) (by omega) rfl ?_
  refine og_callV (pc := 47) (As := [.ref 108, .ref 107, .ref 110]) (rest := []) (c_X8_times E d n3 108 107 110 g (m_R M b) (m_R M a) f0 f1 wm w.to w.sg e111 e108 e107 e110 (by omega) (by omega) (by omega) (by omega) (by omega) (by omega)) Y_X8_times I_X8_times V_X8_times wm (by omega) rfl rfl K_X8_148 dX8_commutes_47 rfl rfl (Nat.le_of_ble_eq_true rfl) (by omega) (by omega) (by omega) (fun _ _ _ z => z) (fun v n4 h4 z => ?_)
  obtain ⟨rfl, hn, hh⟩ := z
  subst hn
  refine og_abs (P := fun g => og_MK h0 g M ∧ g 110 = some (rowL (q_prod (m_R M b) (m_R M a))) ∧ g 112 = some (rowL (q_prod (m_R M a) (m_R M b)))) (by rw [hh]; exact ⟨w.tim _ _ (by unfold q_ms; omega), og_set_eq _ _ _, (og_set_ne _ _ (by omega)).trans ((og_set_ne _ _ (by omega)).trans e112)⟩) fun g ⟨w, e110, e112⟩ => ?_
  refine og_iconst (pc := 50) (v := 0) dX8_commutes_50 (by decide) ?_
  refine og_istore_n_3 (pc := 51) dX8_commutes_51 rfl ?_
  refine og_congL (fun j => if j < 0 then q_total (q_prod (m_R M a) (m_R M b)) (q_prod (m_R M b) (m_R M a)) 1 j else q_prod (m_R M b) (m_R M a) j) e110 (by omega) (fun j _ => by simp) ?_
  refine og_for (i0 := 0) (N := 8) (by decide) (fun i => og_set g 110 (rowL (fun j => if j < i then q_total (q_prod (m_R M a) (m_R M b)) (q_prod (m_R M b) (m_R M a)) 1 j else q_prod (m_R M b) (m_R M a) j))) (fun i => [some (.ref 101), some (.int (nI a)), some (.int (nI b)), some (.int (nI i))]) ?_ (fun i _ hi ih => ?_)
  · refine og_iload_n (pc := 52) dX8_commutes_52 rfl ?_
    refine og_bipush (pc := 53) (v := 8) dX8_commutes_53 (by decide) ?_
    refine og_geN (pc := 55) (tgt := 83) (i := 8) (N := 8) dX8_commutes_55 (by decide) rfl rfl (by omega) (by omega) (fun c_55 => ?_) (fun c_55 => ?_)
    · refine og_congL (q_total (q_prod (m_R M a) (m_R M b)) (q_prod (m_R M b) (m_R M a)) 1) (og_set_eq _ _ _) (by omega) (fun j hj => by rw [if_pos (by omega)]) ?_
      rw [og_set_set]
      exact og_vret (pc := 83) hr dX8_commutes_83 (by omega) (by omega) ⟨rfl, rfl, w.row _ (by unfold q_ms; omega), og_set_eq _ _ _⟩
    · omega
  · have wm : og_set g 110 (rowL (fun j => if j < i then q_total (q_prod (m_R M a) (m_R M b)) (q_prod (m_R M b) (m_R M a)) 1 j else q_prod (m_R M b) (m_R M a) j)) 101 = some (og_mM M) := (og_set_ne _ _ (by omega)).trans w.m
    have e112b : og_set g 110 (rowL (fun j => if j < i then q_total (q_prod (m_R M a) (m_R M b)) (q_prod (m_R M b) (m_R M a)) 1 j else q_prod (m_R M b) (m_R M a) j)) 112 = some (rowL (q_prod (m_R M a) (m_R M b))) := (og_set_ne _ _ (by omega)).trans e112
    refine og_iload_n (pc := 52) dX8_commutes_52 rfl ?_
    refine og_bipush (pc := 53) (v := 8) dX8_commutes_53 (by decide) ?_
    refine og_geN (pc := 55) (tgt := 83) (i := i) (N := 8) dX8_commutes_55 (by decide) rfl rfl (by omega) (by omega) (fun c_55 => ?_) (fun c_55 => ?_)
    · omega
    refine og_aload_n (pc := 58) dX8_commutes_58 rfl ?_
    refine og_get (pc := 59) F_X8_35 dX8_commutes_59 (by repeat (first | exact og_set_eq _ _ _ | assumption | refine (og_set_ne _ _ (by first | assumption | omega)).trans ?_)) (by omega) rfl ?_
    refine og_iload_n (pc := 62) dX8_commutes_62 rfl ?_
    refine og_aload_n (pc := 63) dX8_commutes_63 rfl ?_
    refine og_get (pc := 64) F_X8_41 dX8_commutes_64 (by repeat (first | exact og_set_eq _ _ _ | assumption | refine (og_set_ne _ _ (by first | assumption | omega)).trans ?_)) (by omega) rfl ?_
    refine og_iload_n (pc := 67) dX8_commutes_67 rfl ?_
    refine og_laldN (pc := 68) rfl dX8_commutes_68 (by repeat (first | exact og_set_eq _ _ _ | assumption | refine (og_set_ne _ _ (by first | assumption | omega)).trans ?_)) (by omega) (by omega) (by first | decide | assumption | omega) ?_
    refine og_aload_n (pc := 69) dX8_commutes_69 rfl ?_
    refine og_get (pc := 70) F_X8_35 dX8_commutes_70 (by repeat (first | exact og_set_eq _ _ _ | assumption | refine (og_set_ne _ _ (by first | assumption | omega)).trans ?_)) (by omega) rfl ?_
    refine og_iload_n (pc := 73) dX8_commutes_73 rfl ?_
    refine og_laldN (pc := 74) rfl dX8_commutes_74 (by repeat (first | exact og_set_eq _ _ _ | assumption | refine (og_set_ne _ _ (by first | assumption | omega)).trans ?_)) (by omega) (by omega) (by first | decide | assumption | omega) ?_
    refine og_lsub (pc := 75) dX8_commutes_75 ?_
    refine og_lastN (pc := 76) rfl dX8_commutes_76 (by repeat (first | exact og_set_eq _ _ _ | assumption | refine (og_set_ne _ _ (by first | assumption | omega)).trans ?_)) (by omega) (by omega) (by first | decide | assumption | omega) ?_
    refine og_iinc_3 (pc := 77) dX8_commutes_77 (og_inc i) rfl ?_
    refine og_goto (pc := 80) (tgt := 52) dX8_commutes_80 (by decide) ?_
    rw [og_set_set, og_fill (by rw [if_neg (by omega)]; rfl)]
    exact ih
theorem c_X8_doCommute (E : og_E) (d n a b : Nat) (h : og_H) {h0 : og_H} {M : q_M} (w : og_MK h0 h M) (ha8 : a < 8) (hb8 : b < 8) :
    og_M E yX8_doCommute (.code yX8_doCommute cX8_doCommute 3 (some .boolean)) (d + 2) [.ref 101, .int (nI a), .int (nI b)] n h 0 0 (fun v n1 h1 => n1 = n ∧ og_MK h0 h1 M ∧ ((v = some (.int 1) ∧ q_inner (q_total (q_prod (m_R M a) (m_R M b)) (q_prod (m_R M b) (m_R M a)) 1) (q_total (q_prod (m_R M a) (m_R M b)) (q_prod (m_R M b) (m_R M a)) 1) 8 = 0) ∨ (v = some (.int 0) ∧ q_inner (q_total (q_prod (m_R M a) (m_R M b)) (q_prod (m_R M b) (m_R M a)) 1) (q_total (q_prod (m_R M a) (m_R M b)) (q_prod (m_R M b) (m_R M a)) 1) 8 ≠ 0))) no_x := by
  refine og_start (lv := [some (.ref 101), some (.int (nI a)), some (.int (nI b))]) (by decide) rfl rfl (Nat.le_of_ble_eq_true rfl) fun X hr hnm htb => ?_
  have wm := w.m
  refine og_aload_n (pc := 0) dX8_doCommute_0 rfl ?_
  refine og_iload_n (pc := 1) dX8_doCommute_1 rfl ?_
  refine og_iload_n (pc := 2) dX8_doCommute_2 rfl ?_
  refine og_callV (pc := 3) (As := [.int (nI a), .int (nI b)]) (rest := []) (c_X8_commutes E d n a b h w ha8 hb8) Y_X8_commutes I_X8_commutes V_X8_commutes wm (by omega) rfl rfl K_X8_152 dX8_doCommute_3 rfl rfl (Nat.le_of_ble_eq_true rfl) (by omega) (by omega) (by omega) (fun _ _ _ z => z) (fun v n1 h1 z => ?_)
  obtain ⟨hn, rfl, w2, e110⟩ := z
  subst hn
  have wm := w2.m
  refine og_aload_n (pc := 6) dX8_doCommute_6 rfl ?_
  refine og_get (pc := 7) F_X8_35 dX8_doCommute_7 (by repeat (first | exact og_set_eq _ _ _ | assumption | refine (og_set_ne _ _ (by first | assumption | omega)).trans ?_)) (by omega) rfl ?_
  refine og_callS (pc := 10) (As := [.ref 110]) (rest := []) (c_X8_isNought E d n1 110 h1 _ e110 (by omega)) Y_X8_isNought S_X8_isNought K_X8_173 dX8_doCommute_10 rfl rfl (Nat.le_of_ble_eq_true rfl) (by omega) (by omega) (by omega) (fun _ _ _ z => z) (fun v n2 h2 z => ?_)
  obtain ⟨hn, rfl, z⟩ := z
  subst hn
  rcases z with ⟨rfl, z⟩ | ⟨rfl, z⟩
  · exact og_zret (pc := 13) hr rfl dX8_doCommute_13 (by omega) (by omega) ⟨rfl, w2, Or.inl ⟨rfl, z⟩⟩
  · exact og_zret (pc := 13) hr rfl dX8_doCommute_13 (by omega) (by omega) ⟨rfl, w2, Or.inr ⟨rfl, z⟩⟩
