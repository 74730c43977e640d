/-! ===== the model: associates, and calls over registers ===== -/
set_option maxRecDepth 4000 in
theorem c_X8_associates (E : og_E) (d n a b c : Nat) (h : og_H) {h0 : og_H} {M : q_M} (w : og_MK h0 h M) (ha8 : a < 8) (hb8 : b < 8) (hc8 : c < 8) :
    og_M E yX8_associates (.code yX8_associates cX8_associates 5 none) (d + 1) [.ref 101, .int (nI a), .int (nI b), .int (nI c)] n h 0 0 (fun v n1 h1 => n1 = n ∧ v = none ∧ og_MK h0 h1 M ∧ h1 110 = some (rowL (q_asc (m_R M a) (m_R M b) (m_R M c)))) no_x := by
  refine og_start (lv := [some (.ref 101), some (.int (nI a)), some (.int (nI b)), some (.int (nI c)), none]) (by decide) rfl rfl (Nat.le_of_ble_eq_true rfl) fun X hr hnm htb => ?_
  have wm := w.m
  obtain ⟨f107, e107⟩ := w.scr 107 (by unfold q_ms; omega)
  refine og_aload_n (pc := 0) dX8_associates_0 rfl ?_
  refine og_aload_n (pc := 1) dX8_associates_1 rfl ?_
  refine og_get (pc := 2) F_X8_25 dX8_associates_2 (by repeat (first | exact og_set_eq _ _ _ | assumption | refine (og_set_ne _ _ (by first | assumption | omega)).trans ?_)) (by omega) rfl ?_
  refine og_iload_n (pc := 5) dX8_associates_5 rfl ?_
  refine og_callV (pc := 6) (As := [.ref 107, .int (nI a)]) (rest := []) (c_X8_takes E d n 107 a h (m_s M) _ wm w.s e107 (by omega) ha8) Y_X8_takes I_X8_takes V_X8_takes wm (by omega) rfl rfl K_X8_131 dX8_associates_6 rfl rfl (Nat.le_of_ble_eq_true rfl) (by omega) (by omega) (by omega) (fun _ _ _ z => z) (fun v n1 h1 z => ?_)
  obtain ⟨rfl, hn, hh⟩ := z
  subst hn
  refine og_abs (P := fun g => og_MK h0 g M ∧ g 107 = some (rowL (m_R M a))) (by rw [hh]; exact ⟨w.row _ (by unfold q_ms; omega), og_set_eq _ _ _⟩) fun g ⟨w, e107⟩ => ?_
  have wm := w.m
  obtain ⟨f108, e108⟩ := w.scr 108 (by unfold q_ms; omega)
  refine og_aload_n (pc := 9) dX8_associates_9 rfl ?_
  refine og_aload_n (pc := 10) dX8_associates_10 rfl ?_
  refine og_get (pc := 11) F_X8_29 dX8_associates_11 (by repeat (first | exact og_set_eq _ _ _ | assumption | refine (og_set_ne _ _ (by first | assumption | omega)).trans ?_)) (by omega) rfl ?_
  refine og_iload_n (pc := 14) dX8_associates_14 rfl ?_
  refine og_callV (pc := 15) (As := [.ref 108, .int (nI b)]) (rest := []) (c_X8_takes E d n1 108 b g (m_s M) _ wm w.s e108 (by omega) hb8) Y_X8_takes I_X8_takes V_X8_takes wm (by omega) rfl rfl K_X8_131 dX8_associates_15 rfl rfl (Nat.le_of_ble_eq_true rfl) (by omega) (by omega) (by omega) (fun _ _ _ z => z) (fun v n2 h2 z => ?_)
  obtain ⟨rfl, hn, hh⟩ := z
  subst hn
  refine og_abs (P := fun g => og_MK h0 g M ∧ g 107 = some (rowL (m_R M a)) ∧ g 108 = some (rowL (m_R M b))) (by rw [hh]; exact ⟨w.row _ (by unfold q_ms; omega), (og_set_ne _ _ (by omega)).trans e107, og_set_eq _ _ _⟩) fun g ⟨w, e107, e108⟩ => ?_
  have wm := w.m
  obtain ⟨f111, e111⟩ := w.scr 111 (by unfold q_ms; omega)
  obtain ⟨f112, e112⟩ := w.scr 112 (by unfold q_ms; omega)
  refine og_aload_n (pc := 18) dX8_associates_18 rfl ?_
  refine og_aload_n (pc := 19) dX8_associates_19 rfl ?_
  refine og_get (pc := 20) F_X8_25 dX8_associates_20 (by repeat (first | exact og_set_eq _ _ _ | assumption | refine (og_set_ne _ _ (by first | assumption | omega)).trans ?_)) (by omega) rfl ?_
  refine og_aload_n (pc := 23) dX8_associates_23 rfl ?_
  refine og_get (pc := 24) F_X8_29 dX8_associates_24 (by repeat (first | exact og_set_eq _ _ _ | assumption | refine (og_set_ne _ _ (by first | assumption | omega)).trans ?_)) (by omega) rfl ?_
  refine og_aload_n (pc := 27) dX8_associates_27 rfl ?_
  refine og_get (pc := 28) F_X8_41 dX8_associates_28 (by repeat (first | exact og_set_eq _ _ _ | assumption | refine (og_set_ne _ _ (by first | assumption | omega)).trans ?_)) (by omega) rfl ?_
  refine og_callV (pc := 31) (As := [.ref 107, .ref 108, .ref 112]) (rest := []) (c_X8_times E d n2 107 108 112 g _ _ _ f111 wm w.to w.sg e111 e107 e108 e112 (by omega) (by omega) (by omega) (by omega) (by omega) (by omega)) Y_X8_times I_X8_times V_X8_times wm (by omega) rfl rfl K_X8_148 dX8_associates_31 rfl rfl (Nat.le_of_ble_eq_true rfl) (by omega) (by omega) (by omega) (fun _ _ _ z => z) (fun v n3 h3 z => ?_)
  obtain ⟨rfl, hn, hh⟩ := z
  subst hn
  refine og_abs (P := fun g => og_MK h0 g M ∧ g 107 = some (rowL (m_R M a)) ∧ g 108 = some (rowL (m_R M b)) ∧ g 112 = some (rowL (q_prod (m_R M a) (m_R M b)))) (by rw [hh]; exact ⟨w.tim _ _ (by unfold q_ms; omega), (og_set_ne _ _ (by omega)).trans ((og_set_ne _ _ (by omega)).trans e107), (og_set_ne _ _ (by omega)).trans ((og_set_ne _ _ (by omega)).trans e108), og_set_eq _ _ _⟩) fun g ⟨w, e107, e108, e112⟩ => ?_
  have wm := w.m
  refine og_aload_n (pc := 34) dX8_associates_34 rfl ?_
  refine og_aload_n (pc := 35) dX8_associates_35 rfl ?_
  refine og_get (pc := 36) F_X8_29 dX8_associates_36 (by repeat (first | exact og_set_eq _ _ _ | assumption | refine (og_set_ne _ _ (by first | assumption | omega)).trans ?_)) (by omega) rfl ?_
  refine og_iload_n (pc := 39) dX8_associates_39 rfl ?_
  refine og_callV (pc := 40) (As := [.ref 108, .int (nI c)]) (rest := []) (c_X8_takes E d n3 108 c g (m_s M) _ wm w.s e108 (by omega) hc8) Y_X8_takes I_X8_takes V_X8_takes wm (by omega) rfl rfl K_X8_131 dX8_associates_40 rfl rfl (Nat.le_of_ble_eq_true rfl) (by omega) (by omega) (by omega) (fun _ _ _ z => z) (fun v n4 h4 z => ?_)
  obtain ⟨rfl, hn, hh⟩ := z
  subst hn
  refine og_abs (P := fun g => og_MK h0 g M ∧ g 107 = some (rowL (m_R M a)) ∧ g 108 = some (rowL (m_R M c)) ∧ g 112 = some (rowL (q_prod (m_R M a) (m_R M b)))) (by rw [hh]; exact ⟨w.row _ (by unfold q_ms; omega), (og_set_ne _ _ (by omega)).trans e107, og_set_eq _ _ _, (og_set_ne _ _ (by omega)).trans e112⟩) fun g ⟨w, e107, e108, e112⟩ => ?_
  have wm := w.m
  obtain ⟨f111, e111⟩ := w.scr 111 (by unfold q_ms; omega)
  refine og_aload_n (pc := 43) dX8_associates_43 rfl ?_
  refine og_aload_n (pc := 44) dX8_associates_44 rfl ?_
  refine og_get (pc := 45) F_X8_41 dX8_associates_45 (by repeat (first | exact og_set_eq _ _ _ | assumption | refine (og_set_ne _ _ (by first | assumption | omega)).trans ?_)) (by omega) rfl ?_
  refine og_aload_n (pc := 48) dX8_associates_48 rfl ?_
  refine og_get (pc := 49) F_X8_29 dX8_associates_49 (by repeat (first | exact og_set_eq _ _ _ | assumption | refine (og_set_ne _ _ (by first | assumption | omega)).trans ?_)) (by omega) rfl ?_
  refine og_aload_n (pc := 52) dX8_associates_52 rfl ?_
  refine og_get (pc := 53) F_X8_41 dX8_associates_53 (by repeat (first | exact og_set_eq _ _ _ | assumption | refine (og_set_ne _ _ (by first | assumption | omega)).trans ?_)) (by omega) rfl ?_
  refine og_callV (pc := 56) (As := [.ref 112, .ref 108, .ref 112]) (rest := []) (c_X8_times E d n4 112 108 112 g _ _ _ f111 wm w.to w.sg e111 e112 e108 e112 (by omega) (by omega) (by omega) (by omega) (by omega) (by omega)) Y_X8_times I_X8_times V_X8_times wm (by omega) rfl rfl K_X8_148 dX8_associates_56 rfl rfl (Nat.le_of_ble_eq_true rfl) (by omega) (by omega) (by omega) (fun _ _ _ z => z) (fun v n5 h5 z => ?_)
  obtain ⟨rfl, hn, hh⟩ := z
  subst hn
  refine og_abs (P := fun g => og_MK h0 g M ∧ g 107 = some (rowL (m_R M a)) ∧ g 108 = some (rowL (m_R M c)) ∧ g 112 = some (rowL (q_prod (q_prod (m_R M a) (m_R M b)) (m_R M c)))) (by rw [hh]; exact ⟨w.tim _ _ (by unfold q_ms; omega), (og_set_ne _ _ (by omega)).trans ((og_set_ne _ _ (by omega)).trans e107), (og_set_ne _ _ (by omega)).trans ((og_set_ne _ _ (by omega)).trans e108), og_set_eq _ _ _⟩) fun g ⟨w, e107, e108, e112⟩ => ?_
  have wm := w.m
  refine og_aload_n (pc := 59) dX8_associates_59 rfl ?_
  refine og_aload_n (pc := 60) dX8_associates_60 rfl ?_
  refine og_get (pc := 61) F_X8_25 dX8_associates_61 (by repeat (first | exact og_set_eq _ _ _ | assumption | refine (og_set_ne _ _ (by first | assumption | omega)).trans ?_)) (by omega) rfl ?_
  refine og_iload_n (pc := 64) dX8_associates_64 rfl ?_
  refine og_callV (pc := 65) (As := [.ref 107, .int (nI b)]) (rest := []) (c_X8_takes E d n5 107 b g (m_s M) _ wm w.s e107 (by omega) hb8) Y_X8_takes I_X8_takes V_X8_takes wm (by omega) rfl rfl K_X8_131 dX8_associates_65 rfl rfl (Nat.le_of_ble_eq_true rfl) (by omega) (by omega) (by omega) (fun _ _ _ z => z) (fun v n6 h6 z => ?_)
  obtain ⟨rfl, hn, hh⟩ := z
  subst hn
  refine og_abs (P := fun g => og_MK h0 g M ∧ g 107 = some (rowL (m_R M b)) ∧ g 108 = some (rowL (m_R M c)) ∧ g 112 = some (rowL (q_prod (q_prod (m_R M a) (m_R M b)) (m_R M c)))) (by rw [hh]; exact ⟨w.row _ (by unfold q_ms; omega), og_set_eq _ _ _, (og_set_ne _ _ (by omega)).trans e108, (og_set_ne _ _ (by omega)).trans e112⟩) fun g ⟨w, e107, e108, e112⟩ => ?_
  have wm := w.m
  obtain ⟨f111, e111⟩ := w.scr 111 (by unfold q_ms; omega)
  obtain ⟨f110, e110⟩ := w.scr 110 (by unfold q_ms; omega)
  refine og_aload_n (pc := 68) dX8_associates_68 rfl ?_
  refine og_aload_n (pc := 69) dX8_associates_69 rfl ?_
  refine og_get (pc := 70) F_X8_25 dX8_associates_70 (by repeat (first | exact og_set_eq _ _ _ | assumption | refine (og_set_ne _ _ (by first | assumption | omega)).trans ?_)) (by omega) rfl ?_
  refine og_aload_n (pc := 73) dX8_associates_73 rfl ?_
  refine og_get (pc := 74) F_X8_29 dX8_associates_74 (by repeat (first | exact og_set_eq _ _ _ | assumption | refine (og_set_ne _ _ (by first | assumption | omega)).trans ?_)) (by omega) rfl ?_
  refine og_aload_n (pc := 77) dX8_associates_77 rfl ?_
  refine og_get (pc := 78) F_X8_35 dX8_associates_78 (by repeat (first | exact og_set_eq _ _ _ | assumption | refine (og_set_ne _ _ (by first | assumption | omega)).trans ?_)) (by omega) rfl ?_
  refine og_callV (pc := 81) (As := [.ref 107, .ref 108, .ref 110]) (rest := []) (c_X8_times E d n6 107 108 110 g _ _ _ f111 wm w.to w.sg e111 e107 e108 e110 (by omega) (by omega) (by omega) (by omega) (by omega) (by omega)) Y_X8_times I_X8_times V_X8_times wm (by omega) rfl rfl K_X8_148 dX8_associates_81 rfl rfl (Nat.le_of_ble_eq_true rfl) (by omega) (by omega) (by omega) (fun _ _ _ z => z) (fun v n7 h7 z => ?_)
  obtain ⟨rfl, hn, hh⟩ := z
  subst hn
  refine og_abs (P := fun g => og_MK h0 g M ∧ g 107 = some (rowL (m_R M b)) ∧ g 108 = some (rowL (m_R M c)) ∧ g 112 = some (rowL (q_prod (q_prod (m_R M a) (m_R M b)) (m_R M c))) ∧ g 110 = some (rowL (q_prod (m_R M b) (m_R M c)))) (by rw [hh]; exact ⟨w.tim _ _ (by unfold q_ms; omega), (og_set_ne _ _ (by omega)).trans ((og_set_ne _ _ (by omega)).trans e107), (og_set_ne _ _ (by omega)).trans ((og_set_ne _ _ (by omega)).trans e108), (og_set_ne _ _ (by omega)).trans ((og_set_ne _ _ (by omega)).trans e112), og_set_eq _ _ _⟩) fun g ⟨w, e107, e108, e112, e110⟩ => ?_
  have wm := w.m
  refine og_aload_n (pc := 84) dX8_associates_84 rfl ?_
  refine og_aload_n (pc := 85) dX8_associates_85 rfl ?_
  refine og_get (pc := 86) F_X8_25 dX8_associates_86 (by repeat (first | exact og_set_eq _ _ _ | assumption | refine (og_set_ne _ _ (by first | assumption | omega)).trans ?_)) (by omega) rfl ?_
  refine og_iload_n (pc := 89) dX8_associates_89 rfl ?_
  refine og_callV (pc := 90) (As := [.ref 107, .int (nI a)]) (rest := []) (c_X8_takes E d n7 107 a g (m_s M) _ wm w.s e107 (by omega) ha8) Y_X8_takes I_X8_takes V_X8_takes wm (by omega) rfl rfl K_X8_131 dX8_associates_90 rfl rfl (Nat.le_of_ble_eq_true rfl) (by omega) (by omega) (by omega) (fun _ _ _ z => z) (fun v n8 h8 z => ?_)
  obtain ⟨rfl, hn, hh⟩ := z
  subst hn
  refine og_abs (P := fun g => og_MK h0 g M ∧ g 107 = some (rowL (m_R M a)) ∧ g 108 = some (rowL (m_R M c)) ∧ g 112 = some (rowL (q_prod (q_prod (m_R M a) (m_R M b)) (m_R M c))) ∧ g 110 = some (rowL (q_prod (m_R M b) (m_R M c)))) (by rw [hh]; exact ⟨w.row _ (by unfold q_ms; omega), og_set_eq _ _ _, (og_set_ne _ _ (by omega)).trans e108, (og_set_ne _ _ (by omega)).trans e112, (og_set_ne _ _ (by omega)).trans e110⟩) fun g ⟨w, e107, e108, e112, e110⟩ => ?_
  have wm := w.m
  obtain ⟨f111, e111⟩ := w.scr 111 (by unfold q_ms; omega)
  refine og_aload_n (pc := 93) dX8_associates_93 rfl ?_
  refine og_aload_n (pc := 94) dX8_associates_94 rfl ?_
  refine og_get (pc := 95) F_X8_25 dX8_associates_95 (by repeat (first | exact og_set_eq _ _ _ | assumption | refine (og_set_ne _ _ (by first | assumption | omega)).trans ?_)) (by omega) rfl ?_
  refine og_aload_n (pc := 98) dX8_associates_98 rfl ?_
  refine og_get (pc := 99) F_X8_35 dX8_associates_99 (by repeat (first | exact og_set_eq _ _ _ | assumption | refine (og_set_ne _ _ (by first | assumption | omega)).trans ?_)) (by omega) rfl ?_
  refine og_aload_n (pc := 102) dX8_associates_102 rfl ?_
  refine og_get (pc := 103) F_X8_35 dX8_associates_103 (by repeat (first | exact og_set_eq _ _ _ | assumption | refine (og_set_ne _ _ (by first | assumption | omega)).trans ?_)) (by omega) rfl ?_
  refine og_callV (pc := 106) (As := [.ref 107, .ref 110, .ref 110]) (rest := []) (c_X8_times E d n8 107 110 110 g _ _ _ f111 wm w.to w.sg e111 e107 e110 e110 (by omega) (by omega) (by omega) (by omega) (by omega) (by omega)) Y_X8_times I_X8_times V_X8_times wm (by omega) rfl rfl K_X8_148 dX8_associates_106 rfl rfl (Nat.le_of_ble_eq_true rfl) (by omega) (by omega) (by omega) (fun _ _ _ z => z) (fun v n9 h9 z => ?_)
  obtain ⟨rfl, hn, hh⟩ := z
  subst hn
  refine og_abs (P := fun g => og_MK h0 g M ∧ g 107 = some (rowL (m_R M a)) ∧ g 108 = some (rowL (m_R M c)) ∧ g 112 = some (rowL (q_prod (q_prod (m_R M a) (m_R M b)) (m_R M c))) ∧ g 110 = some (rowL (q_prod (m_R M a) (q_prod (m_R M b) (m_R M c))))) (by rw [hh]; exact ⟨w.tim _ _ (by unfold q_ms; omega), (og_set_ne _ _ (by omega)).trans ((og_set_ne _ _ (by omega)).trans e107), (og_set_ne _ _ (by omega)).trans ((og_set_ne _ _ (by omega)).trans e108), (og_set_ne _ _ (by omega)).trans ((og_set_ne _ _ (by omega)).trans e112), og_set_eq _ _ _⟩) fun g ⟨w, e107, e108, e112, e110⟩ => ?_
  refine og_iconst (pc := 109) (v := 0) dX8_associates_109 (by decide) ?_
  refine og_istore_4 (pc := 110) dX8_associates_110 rfl ?_
  refine og_congL (fun j => if j < 0 then (q_total (q_prod (q_prod (m_R M a) (m_R M b)) (m_R M c)) (q_prod (m_R M a) (q_prod (m_R M b) (m_R M c))) 1) j else (q_prod (m_R M a) (q_prod (m_R M b) (m_R M c))) j) e110 (by omega) (fun j _ => by simp) ?_
  refine og_for (i0 := 0) (N := 8) (by decide) (fun i => og_set g 110 (rowL (fun j => if j < i then (q_total (q_prod (q_prod (m_R M a) (m_R M b)) (m_R M c)) (q_prod (m_R M a) (q_prod (m_R M b) (m_R M c))) 1) j else (q_prod (m_R M a) (q_prod (m_R M b) (m_R M c))) j))) (fun i => [some (.ref 101), some (.int (nI a)), some (.int (nI b)), some (.int (nI c)), some (.int (nI i))]) ?_ (fun i _ hi ih => ?_)
  · refine og_iload (pc := 112) dX8_associates_112 rfl ?_
    refine og_bipush (pc := 114) (v := 8) dX8_associates_114 (by decide) ?_
    refine og_geN (pc := 116) (tgt := 147) (i := 8) (N := 8) dX8_associates_116 (by decide) rfl rfl (by omega) (by omega) (fun c_116 => ?_) (fun c_116 => ?_)
    · refine og_congL (q_total (q_prod (q_prod (m_R M a) (m_R M b)) (m_R M c)) (q_prod (m_R M a) (q_prod (m_R M b) (m_R M c))) 1) (og_set_eq _ _ _) (by omega) (fun j hj => by rw [if_pos (by omega)]) ?_
      rw [og_set_set]
      exact og_vret (pc := 147) hr dX8_associates_147 (by omega) (by omega) ⟨rfl, rfl, w.row _ (by unfold q_ms; omega), og_set_eq _ _ _⟩
    · omega
  · have wm : og_set g 110 (rowL (fun j => if j < i then (q_total (q_prod (q_prod (m_R M a) (m_R M b)) (m_R M c)) (q_prod (m_R M a) (q_prod (m_R M b) (m_R M c))) 1) j else (q_prod (m_R M a) (q_prod (m_R M b) (m_R M c))) j)) 101 = some (og_mM M) := (og_set_ne _ _ (by omega)).trans w.m
    have e112b : og_set g 110 (rowL (fun j => if j < i then (q_total (q_prod (q_prod (m_R M a) (m_R M b)) (m_R M c)) (q_prod (m_R M a) (q_prod (m_R M b) (m_R M c))) 1) j else (q_prod (m_R M a) (q_prod (m_R M b) (m_R M c))) j)) 112 = some (rowL (q_prod (q_prod (m_R M a) (m_R M b)) (m_R M c))) := (og_set_ne _ _ (by omega)).trans e112
    refine og_iload (pc := 112) dX8_associates_112 rfl ?_
    refine og_bipush (pc := 114) (v := 8) dX8_associates_114 (by decide) ?_
    refine og_geN (pc := 116) (tgt := 147) (i := i) (N := 8) dX8_associates_116 (by decide) rfl rfl (by omega) (by omega) (fun c_116 => ?_) (fun c_116 => ?_)
    · omega
    refine og_aload_n (pc := 119) dX8_associates_119 rfl ?_
    refine og_get (pc := 120) F_X8_35 dX8_associates_120 (by repeat (first | exact og_set_eq _ _ _ | assumption | refine (og_set_ne _ _ (by first | assumption | omega)).trans ?_)) (by omega) rfl ?_
    refine og_iload (pc := 123) dX8_associates_123 rfl ?_
    refine og_aload_n (pc := 125) dX8_associates_125 rfl ?_
    refine og_get (pc := 126) F_X8_41 dX8_associates_126 (by repeat (first | exact og_set_eq _ _ _ | assumption | refine (og_set_ne _ _ (by first | assumption | omega)).trans ?_)) (by omega) rfl ?_
    refine og_iload (pc := 129) dX8_associates_129 rfl ?_
    refine og_laldN (pc := 131) rfl dX8_associates_131 (by repeat (first | exact og_set_eq _ _ _ | assumption | refine (og_set_ne _ _ (by first | assumption | omega)).trans ?_)) (by omega) (by omega) (by first | decide | assumption | omega) ?_
    refine og_aload_n (pc := 132) dX8_associates_132 rfl ?_
    refine og_get (pc := 133) F_X8_35 dX8_associates_133 (by repeat (first | exact og_set_eq _ _ _ | assumption | refine (og_set_ne _ _ (by first | assumption | omega)).trans ?_)) (by omega) rfl ?_
    refine og_iload (pc := 136) dX8_associates_136 rfl ?_
    refine og_laldN (pc := 138) rfl dX8_associates_138 (by repeat (first | exact og_set_eq _ _ _ | assumption | refine (og_set_ne _ _ (by first | assumption | omega)).trans ?_)) (by omega) (by omega) (by first | decide | assumption | omega) ?_
    refine og_lsub (pc := 139) dX8_associates_139 ?_
    refine og_lastN (pc := 140) rfl dX8_associates_140 (by repeat (first | exact og_set_eq _ _ _ | assumption | refine (og_set_ne _ _ (by first | assumption | omega)).trans ?_)) (by omega) (by omega) (by first | decide | assumption | omega) ?_
    refine og_iinc_4 (pc := 141) dX8_associates_141 (og_inc i) rfl ?_
    refine og_goto (pc := 144) (tgt := 112) dX8_associates_144 (by decide) ?_
    rw [og_set_set, og_fill (by rw [if_neg (by omega)]; rfl)]
    exact ih
theorem c_X8_isFlat (E : og_E) (d n : Nat) (h : og_H) {h0 : og_H} {M : q_M} {f : Nat → Int64} (w : og_MK h0 h M) (e110 : h 110 = some (rowL f)) :
    og_M E yX8_isFlat (.code yX8_isFlat cX8_isFlat 3 (some .boolean)) d [.ref 101] n h 0 0 (fun v n1 h1 => n1 = n ∧ h1 = h ∧ ((v = some (.int 1) ∧ ∀ i, i < 8 → f i = 0) ∨ (v = some (.int 0) ∧ ¬ ∀ i, i < 8 → f i = 0))) no_x := by
  refine og_start (lv := [some (.ref 101), none, none]) (by decide) rfl rfl (Nat.le_of_ble_eq_true rfl) fun X hr hnm htb => ?_
  have wm := w.m
  refine og_iconst (pc := 0) (v := 1) dX8_isFlat_0 (by decide) ?_
  refine og_istore_n_1 (pc := 1) dX8_isFlat_1 rfl ?_
  refine og_to (lv1 := [some (.ref 101), some (.int (q_if (∀ j, j < 0 → f j = 0) 1 0)), none]) rfl rfl rfl (by rw [q_if_t _ _ (fun j hj => absurd hj (by omega))]) rfl ?_
  refine og_iconst (pc := 2) (v := 0) dX8_isFlat_2 (by decide) ?_
  refine og_istore_n_2 (pc := 3) dX8_isFlat_3 rfl ?_
  refine og_for (i0 := 0) (N := 8) (by decide) (fun _ => h) (fun i => [some (.ref 101), some (.int (q_if (∀ j, j < i → f j = 0) 1 0)), some (.int (nI i))]) ?_ (fun i _ hi ih => ?_)
  · refine og_iload_n (pc := 4) dX8_isFlat_4 rfl ?_
    refine og_bipush (pc := 5) (v := 8) dX8_isFlat_5 (by decide) ?_
    refine og_geN (pc := 7) (tgt := 37) (i := 8) (N := 8) dX8_isFlat_7 (by decide) rfl rfl (by omega) (by omega) (fun c_7 => ?_) (fun c_7 => ?_)
    · refine og_iload_n (pc := 37) dX8_isFlat_37 rfl ?_
      by_cases q : ∀ j, j < 8 → f j = 0
      · rw [q_if_t _ _ q]
        exact og_zret (pc := 38) hr rfl dX8_isFlat_38 (by omega) (by omega) ⟨rfl, rfl, Or.inl ⟨rfl, q⟩⟩
      · rw [q_if_f _ _ q]
        exact og_zret (pc := 38) hr rfl dX8_isFlat_38 (by omega) (by omega) ⟨rfl, rfl, Or.inr ⟨rfl, q⟩⟩
    · omega
  · have fin : ∀ x : Int32, x = q_if (∀ j, j < i + 1 → f j = 0) 1 0 → og_G E yX8_isFlat.cls cX8_isFlat d 0 0 3 X (og_Q E (fun v n1 h1 => n1 = n ∧ h1 = h ∧ ((v = some (.int 1) ∧ ∀ i, i < 8 → f i = 0) ∨ (v = some (.int 0) ∧ ¬ ∀ i, i < 8 → f i = 0))) no_x 0 0 X) 0 0 n h 30 [some (.ref 101), some (.int (q_if (∀ j, j < i → f j = 0) 1 0)), some (.int (nI i))] [.int x] := by
      intro x hx
      subst hx
      refine og_istore_n_1 (pc := 30) dX8_isFlat_30 rfl ?_
      refine og_iinc_2 (pc := 31) dX8_isFlat_31 (og_inc i) rfl ?_
      refine og_goto (pc := 34) (tgt := 4) dX8_isFlat_34 (by decide) ?_
      exact ih
    refine og_iload_n (pc := 4) dX8_isFlat_4 rfl ?_
    refine og_bipush (pc := 5) (v := 8) dX8_isFlat_5 (by decide) ?_
    refine og_geN (pc := 7) (tgt := 37) (i := i) (N := 8) dX8_isFlat_7 (by decide) rfl rfl (by omega) (by omega) (fun c_7 => ?_) (fun c_7 => ?_)
    · omega
    refine og_iload_n (pc := 10) dX8_isFlat_10 rfl ?_
    refine og_if_eq (pc := 11) (tgt := 29) dX8_isFlat_11 (by decide) (fun q => ?_) (fun q => ?_)
    · refine og_iconst (pc := 29) (v := 0) dX8_isFlat_29 (by decide) ?_
      refine fin 0 (q_if_f _ _ fun z => ?_).symm
      rw [q_if_t _ _ (fun j hj => z j (by omega))] at q
      exact absurd q (by decide)
    · have hp : ∀ j, j < i → f j = 0 := Classical.byContradiction fun z => q (q_if_f _ _ z)
      refine og_aload_n (pc := 14) dX8_isFlat_14 rfl ?_
      refine og_get (pc := 15) F_X8_35 dX8_isFlat_15 (by repeat (first | exact og_set_eq _ _ _ | assumption | refine (og_set_ne _ _ (by first | assumption | omega)).trans ?_)) (by omega) rfl ?_
      refine og_iload_n (pc := 18) dX8_isFlat_18 rfl ?_
      refine og_laldN (pc := 19) rfl dX8_isFlat_19 (by repeat (first | exact og_set_eq _ _ _ | assumption | refine (og_set_ne _ _ (by first | assumption | omega)).trans ?_)) (by omega) (by omega) (by first | decide | assumption | omega) ?_
      refine og_lconst (pc := 20) (v := 0) dX8_isFlat_20 (by decide) ?_
      refine og_lcmp (pc := 21) dX8_isFlat_21 ?_
      refine og_if_ne (pc := 22) (tgt := 29) dX8_isFlat_22 (by decide) (fun q2 => ?_) (fun q2 => ?_)
      · refine og_iconst (pc := 29) (v := 0) dX8_isFlat_29 (by decide) ?_
        exact fin 0 (q_if_f _ _ fun z => q2 ((og_cmp0 _ _).mpr (z i (by omega)))).symm
      · refine og_iconst (pc := 25) (v := 1) dX8_isFlat_25 (by decide) ?_
        refine og_goto (pc := 26) (tgt := 30) dX8_isFlat_26 (by decide) ?_
        exact fin 1 (q_if_t _ _ fun j hj => by
          by_cases e : j = i
          · rw [e]; exact (og_cmp0 _ _).mp q2
          · exact hp j (by omega)).symm
/-- the orders that hold an element, as the model tells them -/
noncomputable def q_ordS (f : Nat → Int64) : Nat → Int32
  | 0 => 0
  | k + 1 => q_ordS f k ||| q_if (q_inP f k) ((1 : Int32) <<< (nI k &&& 31)) 0
theorem q_ordS_t {f : Nat → Int64} {k : Nat} (z : q_inP f k) : q_ordS f (k + 1) = q_ordS f k ||| ((1 : Int32) <<< (nI k &&& 31)) := by
  rw [q_ordS, q_if_t _ _ z]
theorem q_ordS_f {f : Nat → Int64} {k : Nat} (z : ¬ q_inP f k) : q_ordS f (k + 1) = q_ordS f k ||| 0 := by
  rw [q_ordS, q_if_f _ _ z]
set_option maxRecDepth 4000 in
theorem c_X8_orders (E : og_E) (d n r : Nat) (h : og_H) {h0 : og_H} {M : q_M} (w : og_MK h0 h M) (hr8 : r < 8) :
    og_M E yX8_orders (.code yX8_orders cX8_orders 4 (some .int)) (d + 2) [.ref 101, .int (nI r)] n h 0 0 (fun v n1 h1 => n1 = n ∧ v = some (.int (q_ordS (m_R M r) 8)) ∧ og_MK h0 h1 M) no_x := by
  refine og_start (lv := [some (.ref 101), some (.int (nI r)), none, none]) (by decide) rfl rfl (Nat.le_of_ble_eq_true rfl) fun X hr hnm htb => ?_
  have wm := w.m
  obtain ⟨f, e107⟩ := w.scr 107 (by unfold q_ms; omega)
  refine og_aload_n (pc := 0) dX8_orders_0 rfl ?_
  refine og_aload_n (pc := 1) dX8_orders_1 rfl ?_
  refine og_get (pc := 2) F_X8_25 dX8_orders_2 (by repeat (first | exact og_set_eq _ _ _ | assumption | refine (og_set_ne _ _ (by first | assumption | omega)).trans ?_)) (by omega) rfl ?_
  refine og_iload_n (pc := 5) dX8_orders_5 rfl ?_
  refine og_callV (pc := 6) (As := [.ref 107, .int (nI r)]) (rest := []) (c_X8_takes E d n 107 r h (m_s M) f wm w.s e107 (by omega) hr8) Y_X8_takes I_X8_takes V_X8_takes wm (by omega) rfl rfl K_X8_131 dX8_orders_6 rfl rfl (Nat.le_of_ble_eq_true rfl) (by omega) (by omega) (by omega) (fun _ _ _ z => z) (fun v n1 h1 z => ?_)
  obtain ⟨rfl, hn, hh⟩ := z
  subst hn
  refine og_abs (P := fun g => og_MK h0 g M ∧ g 107 = some (rowL (m_R M r))) (by rw [hh]; exact ⟨w.row _ (by unfold q_ms; omega), og_set_eq _ _ _⟩) fun g ⟨w, e107⟩ => ?_
  have wm := w.m
  refine og_iconst (pc := 9) (v := 0) dX8_orders_9 (by decide) ?_
  refine og_istore_n_2 (pc := 10) dX8_orders_10 rfl ?_
  refine og_iconst (pc := 11) (v := 0) dX8_orders_11 (by decide) ?_
  refine og_istore_n_3 (pc := 12) dX8_orders_12 rfl ?_
  refine og_for (i0 := 0) (N := 8) (by decide) (fun _ => g) (fun i => [some (.ref 101), some (.int (nI r)), some (.int (q_ordS (m_R M r) i)), some (.int (nI i))]) ?_ (fun i _ hi ih => ?_)
  · refine og_iload_n (pc := 13) dX8_orders_13 rfl ?_
    refine og_bipush (pc := 14) (v := 8) dX8_orders_14 (by decide) ?_
    refine og_geN (pc := 16) (tgt := 47) (i := 8) (N := 8) dX8_orders_16 (by decide) rfl rfl (by omega) (by omega) (fun c_16 => ?_) (fun c_16 => ?_)
    · refine og_iload_n (pc := 47) dX8_orders_47 rfl ?_
      exact og_iret (pc := 48) hr dX8_orders_48 (by omega) (by omega) ⟨rfl, rfl, w⟩
    · omega
  · refine og_iload_n (pc := 13) dX8_orders_13 rfl ?_
    refine og_bipush (pc := 14) (v := 8) dX8_orders_14 (by decide) ?_
    refine og_geN (pc := 16) (tgt := 47) (i := i) (N := 8) dX8_orders_16 (by decide) rfl rfl (by omega) (by omega) (fun c_16 => ?_) (fun c_16 => ?_)
    · omega
    refine og_iload_n (pc := 19) dX8_orders_19 rfl ?_
    refine og_aload_n (pc := 20) dX8_orders_20 rfl ?_
    refine og_aload_n (pc := 21) dX8_orders_21 rfl ?_
    refine og_get (pc := 22) F_X8_25 dX8_orders_22 (by repeat (first | exact og_set_eq _ _ _ | assumption | refine (og_set_ne _ _ (by first | assumption | omega)).trans ?_)) (by omega) rfl ?_
    refine og_iload_n (pc := 25) dX8_orders_25 rfl ?_
    refine og_callV (pc := 26) (As := [.ref 107, .int (nI i)]) (rest := [.int (q_ordS (m_R M r) i)]) (c_X8_isIn E d n1 107 i g _ wm e107 (by omega) hi) Y_X8_isIn I_X8_isIn V_X8_isIn wm (by omega) rfl rfl K_X8_114 dX8_orders_26 rfl rfl (Nat.le_of_ble_eq_true rfl) (by omega) (by omega) (by omega) (fun _ _ _ z => z) (fun v n2 h2 z => ?_)
    obtain ⟨hn, rfl, z⟩ := z
    subst hn
    rcases z with ⟨rfl, z⟩ | ⟨rfl, z⟩
    · refine og_if_eq (pc := 29) (tgt := 38) dX8_orders_29 (by decide) (fun q => absurd q (by decide)) (fun _ => ?_)
      refine og_iconst (pc := 32) (v := 1) dX8_orders_32 (by decide) ?_
      refine og_iload_n (pc := 33) dX8_orders_33 rfl ?_
      refine og_ishl (pc := 34) dX8_orders_34 ?_
      refine og_goto (pc := 35) (tgt := 39) dX8_orders_35 (by decide) ?_
      refine og_ior (pc := 39) dX8_orders_39 ?_
      refine og_istore_n_2 (pc := 40) dX8_orders_40 rfl ?_
      refine og_iinc_3 (pc := 41) dX8_orders_41 (og_inc i) rfl ?_
      refine og_goto (pc := 44) (tgt := 13) dX8_orders_44 (by decide) ?_
      rw [q_ordS_t z] at ih
      exact ih
    · refine og_if_eq (pc := 29) (tgt := 38) dX8_orders_29 (by decide) (fun _ => ?_) (fun q => absurd rfl q)
      refine og_iconst (pc := 38) (v := 0) dX8_orders_38 (by decide) ?_
      refine og_ior (pc := 39) dX8_orders_39 ?_
      refine og_istore_n_2 (pc := 40) dX8_orders_40 rfl ?_
      refine og_iinc_3 (pc := 41) dX8_orders_41 (og_inc i) rfl ?_
      refine og_goto (pc := 44) (tgt := 13) dX8_orders_44 (by decide) ?_
      rw [q_ordS_f z] at ih
      exact ih
