/-! ===== the model: euclid  ===== -/
set_option maxRecDepth 4000 in
theorem c_X8_euclid (E : og_E) (d n a b : Nat) (h : og_H) {h0 : og_H} {M : q_M} {o : Nat} (w : og_MK h0 h M) (ha8 : a < 8) (hb8 : b < 8) (ho : m_s M 64 = nI o) (ho8 : o < 8) (u v : Nat → Nat → Int64) (hu0 : u 0 = m_R M a) (hv0 : v 0 = m_R M b) (hu : ∀ i, u (i + 1) = v i) (hv : ∀ i, v (i + 1) = m_rem (u i) (v i) o) :
    og_M E yX8_euclid (.code yX8_euclid cX8_euclid 5 (some .int)) (d + 3) [.ref 101, .int (nI a), .int (nI b)] n h 0 0 (fun vv n1 h1 => n1 = n ∧ ∃ ls, og_MK h0 h1 (m_wLs M ls) ∧ ((∃ k, k < 41 ∧ (∀ j, j < k → q_nrm (v j) ≠ 0) ∧ q_nrm (v k) = 0 ∧ vv = some (.int (nI k)) ∧ ∀ k2, k = k2 + 1 → ls = q_nrm (v k2)) ∨ ((∀ j, j < 41 → q_nrm (v j) ≠ 0) ∧ vv = some (.int (-1))))) no_x := by
  refine og_start (lv := [some (.ref 101), some (.int (nI a)), some (.int (nI b)), none, none]) (by decide) rfl rfl (Nat.le_of_ble_eq_true rfl) fun X hr hnm htb => ?_
  have wm := w.m
  obtain ⟨f, e107⟩ := w.scr 107 (by unfold q_ms; omega)
  refine og_aload_n (pc := 0) dX8_euclid_0 rfl ?_
  refine og_aload_n (pc := 1) dX8_euclid_1 rfl ?_
  refine og_get (pc := 2) F_X8_25 dX8_euclid_2 (by repeat (first | exact og_set_eq _ _ _ | assumption | refine (og_set_ne _ _ (by first | assumption | omega)).trans ?_)) (by omega) rfl ?_
  refine og_iload_n (pc := 5) dX8_euclid_5 rfl ?_
  refine og_callV (pc := 6) (As := [.ref 107, .int (nI a)]) (rest := []) (c_X8_takes E d n 107 a h (m_s M) f wm w.s e107 (by omega) ha8) Y_X8_takes I_X8_takes V_X8_takes wm (by omega) rfl rfl K_X8_131 dX8_euclid_6 rfl rfl (Nat.le_of_ble_eq_true rfl) (by omega) (by omega) (by omega) (fun _ _ _ z => z) (fun v n1 h1 z => ?_)
  obtain ⟨rfl, hn, hh⟩ := z
  subst hn
  refine og_abs (P := fun g => og_MK h0 g M ∧ g 107 = some (rowL (m_R M a))) (by rw [hh]; exact ⟨w.row _ (by unfold q_ms; omega), og_set_eq _ _ _⟩) fun g ⟨w, e107⟩ => ?_
  have wm := w.m
  obtain ⟨f8, e108⟩ := w.scr 108 (by unfold q_ms; omega)
  refine og_aload_n (pc := 9) dX8_euclid_9 rfl ?_
  refine og_aload_n (pc := 10) dX8_euclid_10 rfl ?_
  refine og_get (pc := 11) F_X8_29 dX8_euclid_11 (by repeat (first | exact og_set_eq _ _ _ | assumption | refine (og_set_ne _ _ (by first | assumption | omega)).trans ?_)) (by omega) rfl ?_
  refine og_iload_n (pc := 14) dX8_euclid_14 rfl ?_
  refine og_callV (pc := 15) (As := [.ref 108, .int (nI b)]) (rest := []) (c_X8_takes E d n1 108 b g (m_s M) f8 wm w.s e108 (by omega) hb8) Y_X8_takes I_X8_takes V_X8_takes wm (by omega) rfl rfl K_X8_131 dX8_euclid_15 rfl rfl (Nat.le_of_ble_eq_true rfl) (by omega) (by omega) (by omega) (fun _ _ _ z => z) (fun v n2 h2 z => ?_)
  obtain ⟨rfl, hn, hh⟩ := z
  subst hn
  refine og_abs (P := fun g => og_MK h0 g (m_wLs M (m_ls M)) ∧ g 107 = some (rowL (m_R M a)) ∧ g 108 = some (rowL (m_R M b))) (by rw [hh]; exact ⟨w.row _ (by unfold q_ms; omega), (og_set_ne _ _ (by omega)).trans e107, og_set_eq _ _ _⟩) fun g ⟨w, e107, e108⟩ => ?_
  refine og_iconst (pc := 18) (v := 0) dX8_euclid_18 (by decide) ?_
  refine og_istore_n_3 (pc := 19) dX8_euclid_19 rfl ?_
  have loop : ∀ k i : Nat, i + k = 41 → ∀ (ls : Int64) (z : og_H), og_MK h0 z (m_wLs M ls) → (∀ j, j < i → q_nrm (v j) ≠ 0) → (∀ k2, i = k2 + 1 → ls = q_nrm (v k2)) → z 107 = some (rowL (u i)) → z 108 = some (rowL (v i)) → og_G E yX8_euclid.cls cX8_euclid (d + 3) 0 0 5 X (og_Q E (fun vv n1 h1 => n1 = n2 ∧ ∃ ls, og_MK h0 h1 (m_wLs M ls) ∧ ((∃ k, k < 41 ∧ (∀ j, j < k → q_nrm (v j) ≠ 0) ∧ q_nrm (v k) = 0 ∧ vv = some (.int (nI k)) ∧ ∀ k2, k = k2 + 1 → ls = q_nrm (v k2)) ∨ ((∀ j, j < 41 → q_nrm (v j) ≠ 0) ∧ vv = some (.int (-1))))) no_x 0 0 X) (0 + 0 + 0) (0 + 0 + 0) n2 z 20 [some (.ref 101), some (.int (nI a)), some (.int (nI b)), some (.int (nI i)), none] [] := by
    intro k
    induction k with
    | zero =>
      intro i hi ls z w hP hls e107 e108
      have ei : i = 41 := by omega
      subst ei
      refine og_iload_n (pc := 20) dX8_euclid_20 rfl ?_
      refine og_bipush (pc := 21) (v := 40) dX8_euclid_21 (by decide) ?_
      refine og_icmp_gt (pc := 23) (tgt := 101) dX8_euclid_23 (by decide) (fun _ => ?_) (fun c => absurd (by decide) c)
      refine og_iload_n (pc := 101) dX8_euclid_101 rfl ?_
      refine og_bipush (pc := 102) (v := 40) dX8_euclid_102 (by decide) ?_
      refine og_icmp_le (pc := 104) (tgt := 111) dX8_euclid_104 (by decide) (fun c => absurd c (by decide)) (fun _ => ?_)
      refine og_iconst (pc := 107) (v := (-1)) dX8_euclid_107 (by decide) ?_
      refine og_goto (pc := 108) (tgt := 112) dX8_euclid_108 (by decide) ?_
      exact og_iret (pc := 112) hr dX8_euclid_112 (by omega) (by omega) ⟨rfl, ls, w, Or.inr ⟨hP, rfl⟩⟩
    | succ k ih =>
      intro i hi ls z w hP hls e107 e108
      have wm := w.m
      refine og_iload_n (pc := 20) dX8_euclid_20 rfl ?_
      refine og_bipush (pc := 21) (v := 40) dX8_euclid_21 (by decide) ?_
      refine og_icmp_gt (pc := 23) (tgt := 101) dX8_euclid_23 (by decide) (fun c => absurd c (nI_nlt (a := 40) (b := i) (by omega) (by omega))) (fun _ => ?_)
      refine og_aload_n (pc := 26) dX8_euclid_26 rfl ?_
      refine og_get (pc := 27) F_X8_29 dX8_euclid_27 wm (by omega) rfl ?_
      refine og_callS (pc := 30) (As := [.ref 108]) (rest := []) (c_X8_isNought E d n2 108 z _ e108 (by omega)) Y_X8_isNought S_X8_isNought K_X8_173 dX8_euclid_30 rfl rfl (Nat.le_of_ble_eq_true rfl) (by omega) (by omega) (by omega) (fun _ _ _ z => z) (fun v n3 h3 z => ?_)
      obtain ⟨hn, hh, y⟩ := z
      subst hn hh
      rcases y with ⟨rfl, y⟩ | ⟨rfl, y⟩
      · refine og_if_ne (pc := 33) (tgt := 101) dX8_euclid_33 (by decide) (fun _ => ?_) (fun q => absurd q (by decide))
        have yz : q_nrm (v i) = 0 := by unfold q_nrm; exact y
        refine og_iload_n (pc := 101) dX8_euclid_101 rfl ?_
        refine og_bipush (pc := 102) (v := 40) dX8_euclid_102 (by decide) ?_
        refine og_icmp_le (pc := 104) (tgt := 111) dX8_euclid_104 (by decide) (fun _ => ?_) (fun c => absurd (nI_le (a := i) (b := 40) (by omega) (by omega)) c)
        refine og_iload_n (pc := 111) dX8_euclid_111 rfl ?_
        exact og_iret (pc := 112) hr dX8_euclid_112 (by omega) (by omega) ⟨rfl, ls, w, Or.inl ⟨i, by omega, hP, yz, rfl, hls⟩⟩
      refine og_if_ne (pc := 33) (tgt := 101) dX8_euclid_33 (by decide) (fun q => absurd rfl q) (fun _ => ?_)
      refine og_aload_n (pc := 36) dX8_euclid_36 rfl ?_
      refine og_aload_n (pc := 37) dX8_euclid_37 rfl ?_
      refine og_get (pc := 38) F_X8_29 dX8_euclid_38 wm (by omega) rfl ?_
      refine og_callS (pc := 41) (As := [.ref 108]) (rest := [.ref 101]) (c_X8_square E d n3 108 h3 _ e108 (by omega)) Y_X8_square S_X8_square K_X8_97 dX8_euclid_41 rfl rfl (Nat.le_of_ble_eq_true rfl) (by omega) (by omega) (by omega) (fun _ _ _ z => z) (fun v n4 h4 z => ?_)
      obtain ⟨rfl, hn, hh⟩ := z
      subst hn hh
      refine og_put (pc := 44) P_X8_183 dX8_euclid_44 wm (by omega) rfl rfl (Nat.le_of_ble_eq_true rfl) ?_
      have w4 : og_MK h0 (og_set h4 101 (og_mM (m_wLs M (q_nrm (v i))))) (m_wLs M (q_nrm (v i))) := w.sO (m_ps M) (m_ty M) (m_rf M) (m_la M) (m_un M) (q_nrm (v i)) (m_dp M) (m_wl M) (m_ct M) w.ok.1 w.ok.2
      obtain ⟨q0, e114⟩ := w4.scr 114 (by unfold q_ms; omega)
      refine og_abs (P := fun g => og_MK h0 g (m_wLs M (q_nrm (v i))) ∧ g 107 = some (rowL (u i)) ∧ g 108 = some (rowL (v i)) ∧ g 114 = some (rowL q0)) ⟨w4, (og_set_ne _ _ (by omega)).trans e107, (og_set_ne _ _ (by omega)).trans e108, e114⟩ fun g ⟨w5, e107, e108, e114⟩ => ?_
      have wm := w5.m
      refine og_aload_n (pc := 47) dX8_euclid_47 rfl ?_
      refine og_callV (pc := 48) (As := []) (rest := []) (c_X8_divides E d n4 g w5 ho ho8 e107 e108 e114 y) Y_X8_divides I_X8_divides V_X8_divides wm (by omega) rfl rfl K_X8_180 dX8_euclid_48 rfl rfl (Nat.le_of_ble_eq_true rfl) (by omega) (by omega) (by omega) (fun _ _ _ z => z) (fun v n5 h5 z => ?_)
      obtain ⟨hn, rfl, w6, e107, e108, e114, e115⟩ := z
      subst hn
      have e115 : h5 115 = some (rowL (m_rem (u i) (v i) o)) := by rw [m_rem, q_rem2_ind _ _ (fun _ => 0) q0]; exact e115
      generalize hX : (u i) = x1 at e107
      generalize hY : (v i) = y1 at e108
      have hnu : u (i + 1) = y1 := by rw [hu, hY]
      have hnv : v (i + 1) = m_rem x1 y1 o := by rw [hv, hX, hY]
      rw [hX, hY] at e115
      rw [hY] at w6
      have hyn : q_nrm y1 ≠ 0 := by rw [← hY]; exact y
      refine og_iconst (pc := 51) (v := 0) dX8_euclid_51 (by decide) ?_
      refine og_istore_4 (pc := 52) dX8_euclid_52 rfl ?_
      refine og_heq (og_set (og_set h5 107 (rowL (q_mx y1 x1 0))) 108 (rowL (q_mx (m_rem x1 y1 o) y1 0))) ?_ ?_
      · have t1 : q_mx y1 x1 0 = x1 := funext fun j => if_neg (by omega)
        have t2 : q_mx (m_rem x1 y1 o) y1 0 = y1 := funext fun j => if_neg (by omega)
        rw [t1, t2, og_set_same e107, og_set_same e108]
      refine og_for (i0 := 0) (N := 8) (by decide) (fun t => og_set (og_set h5 107 (rowL (q_mx y1 x1 t))) 108 (rowL (q_mx (m_rem x1 y1 o) y1 t))) (fun t => [some (.ref 101), some (.int (nI a)), some (.int (nI b)), some (.int (nI i)), some (.int (nI t))]) ?_ (fun t _ ht ih2 => ?_)
      · refine og_iload (pc := 54) dX8_euclid_54 rfl ?_
        refine og_bipush (pc := 56) (v := 8) dX8_euclid_56 (by decide) ?_
        refine og_geN (pc := 58) (tgt := 95) (i := 8) (N := 8) dX8_euclid_58 (by decide) rfl rfl (by omega) (by omega) (fun c_58 => ?_) (fun c_58 => ?_)
        rotate_left
        · omega
        refine og_congL y1 ((og_set_ne _ _ (show 107 ≠ 108 by omega)).trans (og_set_eq _ _ _)) (by omega) (fun j hj => by unfold q_mx; rw [if_pos (by omega)]) ?_
        refine og_congL (m_rem x1 y1 o) ((og_set_ne _ _ (show 108 ≠ 107 by omega)).trans (og_set_eq _ _ _)) (by omega) (fun j hj => by unfold q_mx; rw [if_pos (by omega)]) ?_
        refine og_forget_4 ?_
        refine og_iinc_3 (pc := 95) dX8_euclid_95 (og_inc i) rfl ?_
        refine og_goto (pc := 98) (tgt := 20) dX8_euclid_98 (by decide) ?_
        refine ih (i + 1) (by omega) (q_nrm y1) _ ((((w6.row (q_mx y1 x1 8) (show q_ms 107 by unfold q_ms; omega)).row (q_mx (m_rem x1 y1 o) y1 8) (show q_ms 108 by unfold q_ms; omega)).row y1 (show q_ms 107 by unfold q_ms; omega)).row (m_rem x1 y1 o) (show q_ms 108 by unfold q_ms; omega)) (fun j hj => ?_) (fun k2 hk2 => ?_) ?_ ?_
        · by_cases e : j = i
          · rw [e, hY]
            exact hyn
          · exact hP j (by omega)
        · have : k2 = i := by omega
          rw [this, hY]
        · rw [hnu]
          exact (og_set_ne _ _ (by omega)).trans (og_set_eq _ _ _)
        · rw [hnv]
          exact og_set_eq _ _ _
      · have wz := (w6.row (q_mx y1 x1 t) (show q_ms 107 by unfold q_ms; omega)).row (q_mx (m_rem x1 y1 o) y1 t) (show q_ms 108 by unfold q_ms; omega)
        have wm := wz.m
        have g107 : og_set (og_set h5 107 (rowL (q_mx y1 x1 t))) 108 (rowL (q_mx (m_rem x1 y1 o) y1 t)) 107 = some (rowL (q_mx y1 x1 t)) := (og_set_ne _ _ (by omega)).trans (og_set_eq _ _ _)
        have g115 : og_set (og_set h5 107 (rowL (q_mx y1 x1 t))) 108 (rowL (q_mx (m_rem x1 y1 o) y1 t)) 115 = some (rowL (m_rem x1 y1 o)) := (og_set_ne _ _ (by omega)).trans ((og_set_ne _ _ (by omega)).trans e115)
        have g108 : og_set (og_set h5 107 (rowL (q_mx y1 x1 t))) 108 (rowL (q_mx (m_rem x1 y1 o) y1 t)) 108 = some (rowL (q_mx (m_rem x1 y1 o) y1 t)) := og_set_eq _ _ _
        refine og_iload (pc := 54) dX8_euclid_54 rfl ?_
        refine og_bipush (pc := 56) (v := 8) dX8_euclid_56 (by decide) ?_
        refine og_geN (pc := 58) (tgt := 95) (i := t) (N := 8) dX8_euclid_58 (by decide) rfl rfl (by omega) (by omega) (fun c_58 => ?_) (fun c_58 => ?_)
        · omega
        refine og_aload_n (pc := 61) dX8_euclid_61 rfl ?_
        refine og_get (pc := 62) F_X8_25 dX8_euclid_62 wm (by omega) rfl ?_
        refine og_iload (pc := 65) dX8_euclid_65 rfl ?_
        refine og_aload_n (pc := 67) dX8_euclid_67 rfl ?_
        refine og_get (pc := 68) F_X8_29 dX8_euclid_68 wm (by omega) rfl ?_
        refine og_iload (pc := 71) dX8_euclid_71 rfl ?_
        refine og_laldN (pc := 73) rfl dX8_euclid_73 g108 (by omega) (by omega) (by first | decide | assumption | omega) ?_
        refine og_lastN (pc := 74) rfl dX8_euclid_74 g107 (by omega) (by omega) (by first | decide | assumption | omega) ?_
        refine og_aload_n (pc := 75) dX8_euclid_75 rfl ?_
        refine og_get (pc := 76) F_X8_29 dX8_euclid_76 ((og_set_ne _ _ (by omega)).trans wm) (by omega) rfl ?_
        refine og_iload (pc := 79) dX8_euclid_79 rfl ?_
        refine og_aload_n (pc := 81) dX8_euclid_81 rfl ?_
        refine og_get (pc := 82) F_X8_54 dX8_euclid_82 ((og_set_ne _ _ (by omega)).trans wm) (by omega) rfl ?_
        refine og_iload (pc := 85) dX8_euclid_85 rfl ?_
        refine og_laldN (pc := 87) rfl dX8_euclid_87 ((og_set_ne _ _ (by omega)).trans g115) (by omega) (by omega) (by first | decide | assumption | omega) ?_
        refine og_lastN (pc := 88) rfl dX8_euclid_88 ((og_set_ne _ _ (by omega)).trans g108) (by omega) (by omega) (by first | decide | assumption | omega) ?_
        refine og_iinc_4 (pc := 89) dX8_euclid_89 (og_inc t) rfl ?_
        refine og_goto (pc := 92) (tgt := 54) dX8_euclid_92 (by decide) ?_
        refine og_heq (og_set (og_set h5 107 (rowL (q_mx y1 x1 (t + 1)))) 108 (rowL (q_mx (m_rem x1 y1 o) y1 (t + 1)))) ?_ ih2
        have f1 : vp_updL (q_mx y1 x1 t) t (q_mx (m_rem x1 y1 o) y1 t t) = q_mx y1 x1 (t + 1) := og_fill (by unfold q_mx; rw [if_neg (by omega)])
        have f2 : vp_updL (q_mx (m_rem x1 y1 o) y1 t) t (m_rem x1 y1 o t) = q_mx (m_rem x1 y1 o) y1 (t + 1) := og_fill rfl
        rw [f1, f2, og_set_comm _ _ _ (show 108 ≠ 107 by omega), og_set_set, og_set_set]
  exact loop 41 0 rfl _ g w (fun j hj => absurd hj (by omega)) (fun k2 h2 => by omega) (by rw [hu0]; exact e107) (by rw [hv0]; exact e108)
