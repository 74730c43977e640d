/-! ===== the calculator: factor, term, sum ===== -/
theorem v_dig_ne {x : Int32} (h : q_digit x) : x ≠ 0 := by
  intro e
  rw [e] at h
  exact absurd h.1 (by decide)
theorem v_quo_t {bf : Nat → Int32} {L m c : Nat} {f : Nat → Int64} (q : q_at bf L c = 39) : v_quo bf L (m + 1) f c = v_quo bf L m (q_mirror f) (c + 1) := by
  rw [v_quo, q_if_t _ _ q]
set_option maxRecDepth 4000 in
theorem v_factor (E : og_E) (d e : Nat) {h0 : og_H} {n0 : Nat} {D : q_D} {op : Nat → Int32 → Option v_T} (he7 : e < 7) (hop : v_C E yX0_workOperand cX0_workOperand 4 (d + 7) h0 n0 D e (e + 1) (e + 1) e (90 + e) op) (hle : ∀ c p q, op c p = some q → q.2.1 ≤ 106) :
    v_C E yX0_workFactor cX0_workFactor 5 (d + 8) h0 n0 D e (e + 1) (e + 1) e (90 + e) (v_fac (d_tb D) (d_tl D) op) := by
  intro n h c p w hc
  have hL : d_tl D ≤ 100 := w.ok.2.2.2.1
  refine og_start (lv := [some (.ref 72), some (.ref 4), some (.int (nI e)), none, none]) (by decide) rfl rfl (Nat.le_of_ble_eq_true rfl) fun X hr hnm htb => ?_
  have phB : ∀ (g : og_H), og_DK h0 n0 n g (d_wCa D (nI (v_dc (d_tb D) (d_tl D) c)) p) → v_dc (d_tb D) (d_tl D) c ≤ 110 → og_fr (e + 1) (e + 1) e h g → og_G E yX0_workFactor.cls cX0_workFactor (d + 8) 0 0 5 X (og_Q E (v_P h0 n0 n h D (e + 1) (e + 1) e (90 + e) (v_fac (d_tb D) (d_tl D) op c p)) no_x 0 0 X) 0 0 n g 44 [some (.ref 72), some (.ref 4), some (.int (nI e)), some (.int (v_dt (d_tb D) (d_tl D) c)), none] [] := by
    intro g w hc2 fr
    have e72 : g 72 = some (og_ca (nI (v_dc (d_tb D) (d_tl D) c)) p) := w.c72
    refine og_aload_n (pc := 44) dX0_workFactor_44 rfl ?_
    refine og_aload_n (pc := 45) dX0_workFactor_45 rfl ?_
    refine og_iload_n (pc := 46) dX0_workFactor_46 rfl ?_
    refine og_callV (pc := 47) (As := [.ref 4, .int (nI e)]) (rest := []) (hop n g (v_dc (d_tb D) (d_tl D) c) p w hc2) Y_X0_workOperand I_X0_workOperand V_X0_workOperand e72 (by omega) rfl rfl K_X0_89 dX0_workFactor_47 rfl rfl (Nat.le_of_ble_eq_true rfl) (by omega) (by omega) (by omega) (fun _ _ _ z => z) (fun v n1 h1 z => ?_)
    obtain ⟨hn, y⟩ := z
    subst hn
    rcases y with ⟨rfl, y1, cu, pr, y2⟩ | ⟨rfl, t, y1, y2, y3, y4⟩
    · refine og_if_ne (pc := 50) (tgt := 55) dX0_workFactor_50 (by decide) (fun q => absurd rfl q) (fun _ => ?_)
      refine og_iconst (pc := 53) (v := 0) dX0_workFactor_53 (by decide) ?_
      exact og_zret (pc := 54) hr rfl dX0_workFactor_54 (by omega) (by omega) ⟨rfl, Or.inl ⟨rfl, by rw [v_fac, y1], cu, pr, y2⟩⟩
    · refine og_if_ne (pc := 50) (tgt := 55) dX0_workFactor_50 (by decide) (fun _ => ?_) (fun q => absurd q (by decide))
      have ht := hle _ _ _ y1
      have sem : v_fac (d_tb D) (d_tl D) op c p = v_fin (d_tb D) (d_tl D) (v_dt (d_tb D) (d_tl D) c) t := by rw [v_fac, y1]
      rw [sem]
      have tail : ∀ (f : Nat → Int64) (c2 : Nat) (g2 : og_H) (lx : Option Value), v_quo (d_tb D) (d_tl D) 100 t.1 t.2.1 = (f, c2) → og_DK h0 n0 n1 g2 (d_wCa D (nI c2) t.2.2) → g2 (90 + e) = some (rowL f) → og_fr (e + 1) (e + 1) e h g2 → og_G E yX0_workFactor.cls cX0_workFactor (d + 8) 0 0 5 X (og_Q E (v_P h0 n0 n1 h D (e + 1) (e + 1) e (90 + e) (v_fin (d_tb D) (d_tl D) (v_dt (d_tb D) (d_tl D) c) t)) no_x 0 0 X) (0 + 0) (0 + 0) n1 g2 106 [some (.ref 72), some (.ref 4), some (.int (nI e)), some (.int (v_dt (d_tb D) (d_tl D) c)), lx] [] := by
        intro f c2 g2 lx hq w2 eF fr2
        have e72 : g2 72 = some (og_ca (nI c2) t.2.2) := w2.c72
        have e89 := w2.g89
        have sfin : v_fin (d_tb D) (d_tl D) (v_dt (d_tb D) (d_tl D) c) t = q_if (q_fitx 0 (q_scale f (v_dt (d_tb D) (d_tl D) c).toInt64)) (some (q_fv 0 (q_scale f (v_dt (d_tb D) (d_tl D) c).toInt64), c2, t.2.2)) none := by rw [v_fin, hq]
        rw [sfin]
        refine og_aload_n (pc := 106) dX0_workFactor_106 rfl ?_
        refine og_get (pc := 107) F_X0_23 dX0_workFactor_107 (by repeat (first | exact og_set_eq _ _ _ | assumption | refine (og_set_ne _ _ (by first | assumption | omega)).trans ?_)) (by omega) rfl ?_
        refine og_iload_n (pc := 110) dX0_workFactor_110 rfl ?_
        refine og_aaldN (pc := 111) rfl dX0_workFactor_111 (by repeat (first | exact og_set_eq _ _ _ | assumption | refine (og_set_ne _ _ (by first | assumption | omega)).trans ?_)) (by omega) (by decide) (by decide) (by omega) (by first | decide | assumption | omega) (q_g90 he7) ?_
        refine og_iload_n (pc := 112) dX0_workFactor_112 rfl ?_
        refine og_callS (pc := 113) (As := [.ref (90 + e), .int (v_dt (d_tb D) (d_tl D) c)]) (rest := []) (c_X3_scale E d n1 (90 + e) g2 f _ eF (by omega)) Y_X3_scale S_X3_scale K_X0_96 dX0_workFactor_113 rfl rfl (Nat.le_of_ble_eq_true rfl) (by omega) (by omega) (by omega) (fun _ _ _ z => z) (fun v n2 h2 z => ?_)
        obtain ⟨rfl, hn, hh⟩ := z
        subst hn
        have w3 := w2.row (q_scale f (v_dt (d_tb D) (d_tl D) c).toInt64) (show q_scr (90 + e) by unfold q_scr; omega)
        rw [← hh] at w3
        have fr3 : og_fr (e + 1) (e + 1) e h h2 := by rw [hh]; exact fr2.put _ (by omega) (by omega) (by omega)
        have eF : h2 (90 + e) = some (rowL (q_scale f (v_dt (d_tb D) (d_tl D) c).toInt64)) := by rw [hh, og_set_eq]
        clear hh
        have e72 : h2 72 = some (og_ca (nI c2) t.2.2) := w3.c72
        have e89 := w3.g89
        refine og_aload_n (pc := 116) dX0_workFactor_116 rfl ?_
        refine og_get (pc := 117) F_X0_23 dX0_workFactor_117 (by repeat (first | exact og_set_eq _ _ _ | assumption | refine (og_set_ne _ _ (by first | assumption | omega)).trans ?_)) (by omega) rfl ?_
        refine og_iload_n (pc := 120) dX0_workFactor_120 rfl ?_
        refine og_aaldN (pc := 121) rfl dX0_workFactor_121 (by repeat (first | exact og_set_eq _ _ _ | assumption | refine (og_set_ne _ _ (by first | assumption | omega)).trans ?_)) (by omega) (by decide) (by decide) (by omega) (by first | decide | assumption | omega) (q_g90 he7) ?_
        refine og_iconst (pc := 122) (v := 0) dX0_workFactor_122 (by decide) ?_
        refine og_callS (pc := 123) (As := [.ref (90 + e), .int 0]) (rest := []) (c_X3_fit E d n2 (90 + e) h2 _ 0 eF (by omega)) Y_X3_fit S_X3_fit K_X0_75 dX0_workFactor_123 rfl rfl (Nat.le_of_ble_eq_true rfl) (by omega) (by omega) (by omega) (fun _ _ _ z => z) (fun v n3 h3 z => ?_)
        obtain ⟨hn, z⟩ := z
        subst hn
        rcases z with ⟨rfl, hok, hh⟩ | ⟨rfl, ⟨m9, hm8, hbad⟩, g9, hh⟩
        · have w4 := w3.row (q_fv 0 (q_scale f (v_dt (d_tb D) (d_tl D) c).toInt64)) (show q_scr (90 + e) by unfold q_scr; omega)
          rw [show og_set h2 (90 + e) (rowL (q_fv 0 (q_scale f (v_dt (d_tb D) (d_tl D) c).toInt64))) = h3 from hh.symm] at w4
          exact og_zret (pc := 126) hr rfl dX0_workFactor_126 (by omega) (by omega) ⟨rfl, Or.inr ⟨rfl, _, q_if_t _ _ hok, w4, by rw [hh]; exact og_set_eq _ _ _, by rw [hh]; exact fr3.put _ (by omega) (by omega) (by omega)⟩⟩
        · have w4 := w3.row g9 (show q_scr (90 + e) by unfold q_scr; omega)
          rw [← hh] at w4
          exact og_zret (pc := 126) hr rfl dX0_workFactor_126 (by omega) (by omega) ⟨rfl, Or.inl ⟨rfl, q_if_f _ _ (fun q => hbad (q m9 hm8)), _, _, w4⟩⟩
      have loop : ∀ m i : Nat, i + m = 100 → ∀ (f : Nat → Int64) (c2 : Nat) (g2 : og_H), v_quo (d_tb D) (d_tl D) 100 t.1 t.2.1 = v_quo (d_tb D) (d_tl D) m f c2 → c2 ≤ 110 → og_DK h0 n0 n1 g2 (d_wCa D (nI c2) t.2.2) → g2 (90 + e) = some (rowL f) → og_fr (e + 1) (e + 1) e h g2 → og_G E yX0_workFactor.cls cX0_workFactor (d + 8) 0 0 5 X (og_Q E (v_P h0 n0 n1 h D (e + 1) (e + 1) e (90 + e) (v_fin (d_tb D) (d_tl D) (v_dt (d_tb D) (d_tl D) c) t)) no_x 0 0 X) (0 + 0) (0 + 0) n1 g2 58 [some (.ref 72), some (.ref 4), some (.int (nI e)), some (.int (v_dt (d_tb D) (d_tl D) c)), some (.int (nI i))] [] := by
        intro m
        induction m with
        | zero =>
          intro i hi f c2 g2 hq hc3 w2 eF fr2
          have ei : i = 100 := by omega
          subst ei
          refine og_iload (pc := 58) dX0_workFactor_58 rfl ?_
          refine og_bipush (pc := 60) (v := 100) dX0_workFactor_60 (by decide) ?_
          refine og_geN (pc := 62) (tgt := 106) (i := 100) (N := 100) dX0_workFactor_62 (by decide) rfl rfl (by omega) (by omega) (fun c_62 => ?_) (fun c_62 => ?_)
          · exact tail f c2 g2 _ hq w2 eF fr2
          · omega
        | succ m ih =>
          intro i hi f c2 g2 hq hc3 w2 eF fr2
          have e72 : g2 72 = some (og_ca (nI c2) t.2.2) := w2.c72
          have e70 : g2 70 = some (og_tx (d_tl D) (d_td D)) := w2.t70
          have e89 := w2.g89
          refine og_iload (pc := 58) dX0_workFactor_58 rfl ?_
          refine og_bipush (pc := 60) (v := 100) dX0_workFactor_60 (by decide) ?_
          refine og_geN (pc := 62) (tgt := 106) (i := i) (N := 100) dX0_workFactor_62 (by decide) rfl rfl (by omega) (by omega) (fun c_62 => ?_) (fun c_62 => ?_)
          · omega
          refine og_aload_n (pc := 65) dX0_workFactor_65 rfl ?_
          refine og_get (pc := 66) F_X0_37 dX0_workFactor_66 (by repeat (first | exact og_set_eq _ _ _ | assumption | refine (og_set_ne _ _ (by first | assumption | omega)).trans ?_)) (by omega) rfl ?_
          refine og_aload_n (pc := 69) dX0_workFactor_69 rfl ?_
          refine og_get (pc := 70) F_X0_30 dX0_workFactor_70 (by repeat (first | exact og_set_eq _ _ _ | assumption | refine (og_set_ne _ _ (by first | assumption | omega)).trans ?_)) (by omega) rfl ?_
          refine og_callV (pc := 73) (As := [.int (nI c2)]) (rest := []) (c_X5_at E d n1 (d_tl D) (d_td D) c2 g2 (d_tb D) e70 w2.t71 hL (by omega)) Y_X5_at I_X5_at V_X5_at e70 (by omega) rfl rfl K_X0_48 dX0_workFactor_73 rfl rfl (Nat.le_of_ble_eq_true rfl) (by omega) (by omega) (by omega) (fun _ _ _ z => z) (fun v n2 h2 z => ?_)
          obtain ⟨rfl, hn, hh⟩ := z
          subst hn hh
          refine og_bipush (pc := 76) (v := 39) dX0_workFactor_76 (by decide) ?_
          refine og_icmp_ne (pc := 78) (tgt := 106) dX0_workFactor_78 (by decide) (fun q => ?_) (fun q => ?_)
          · refine tail f c2 _ _ ?_ w2 eF fr2
            rw [hq, v_quo, q_if_f _ _ q]
          · have hcL : c2 < d_tl D := q_at_lt (bf := d_tb D) (by rw [q]; decide)
            have hq := hq.trans (v_quo_t q)
            refine og_aload_n (pc := 81) dX0_workFactor_81 rfl ?_
            refine og_get (pc := 82) F_X0_23 dX0_workFactor_82 (by repeat (first | exact og_set_eq _ _ _ | assumption | refine (og_set_ne _ _ (by first | assumption | omega)).trans ?_)) (by omega) rfl ?_
            refine og_iload_n (pc := 85) dX0_workFactor_85 rfl ?_
            refine og_aaldN (pc := 86) rfl dX0_workFactor_86 (by repeat (first | exact og_set_eq _ _ _ | assumption | refine (og_set_ne _ _ (by first | assumption | omega)).trans ?_)) (by omega) (by decide) (by decide) (by omega) (by first | decide | assumption | omega) (q_g90 he7) ?_
            refine og_callS (pc := 87) (As := [.ref (90 + e)]) (rest := []) (c_X3_mirror E d n2 (90 + e) h2 f eF (by omega)) Y_X3_mirror S_X3_mirror K_X0_92 dX0_workFactor_87 rfl rfl (Nat.le_of_ble_eq_true rfl) (by omega) (by omega) (by omega) (fun _ _ _ z => z) (fun v n3 h3 z => ?_)
            obtain ⟨rfl, hn, hh⟩ := z
            subst hn
            have w3 := w2.row (q_mirror f) (show q_scr (90 + e) by unfold q_scr; omega)
            rw [← hh] at w3
            have fr3 : og_fr (e + 1) (e + 1) e h h3 := by rw [hh]; exact fr2.put _ (by omega) (by omega) (by omega)
            have eF : h3 (90 + e) = some (rowL (q_mirror f)) := by rw [hh, og_set_eq]
            clear hh
            have e72 : h3 72 = some (og_ca (nI c2) t.2.2) := w3.c72
            refine og_aload_n (pc := 90) dX0_workFactor_90 rfl ?_
            refine og_dup (pc := 91) dX0_workFactor_91 rfl ?_
            refine og_get (pc := 92) F_X0_30 dX0_workFactor_92 (by repeat (first | exact og_set_eq _ _ _ | assumption | refine (og_set_ne _ _ (by first | assumption | omega)).trans ?_)) (by omega) rfl ?_
            refine og_iconst (pc := 95) (v := 1) dX0_workFactor_95 (by decide) ?_
            refine og_iadd (pc := 96) dX0_workFactor_96 ?_
            rw [nI_1]
            have w4 := w3.cal (nI (c2 + 1)) t.2.2
            refine og_put (pc := 97) P_X0_30 dX0_workFactor_97 (by repeat (first | exact og_set_eq _ _ _ | assumption | refine (og_set_ne _ _ (by first | assumption | omega)).trans ?_)) (by omega) rfl rfl (Nat.le_of_ble_eq_true rfl) ?_
            refine og_iinc_4 (pc := 100) dX0_workFactor_100 (og_inc i) rfl ?_
            refine og_goto (pc := 103) (tgt := 58) dX0_workFactor_103 (by decide) ?_
            exact ih (i + 1) (by omega) _ (c2 + 1) _ hq (by omega) w4 ((og_set_ne _ _ (by omega)).trans eF) (fr3.put _ (by omega) (by omega) (by omega))
      refine og_iconst (pc := 55) (v := 0) dX0_workFactor_55 (by decide) ?_
      refine og_istore_4 (pc := 56) dX0_workFactor_56 rfl ?_
      exact loop 100 0 rfl t.1 t.2.1 h1 rfl (by omega) y2 y3 (fr.trans y4)
  have e72 : h 72 = some (og_ca (nI c) p) := w.c72
  have e70 : h 70 = some (og_tx (d_tl D) (d_td D)) := w.t70
  refine og_iconst (pc := 0) (v := 1) dX0_workFactor_0 (by decide) ?_
  refine og_istore_n_3 (pc := 1) dX0_workFactor_1 rfl ?_
  refine og_aload_n (pc := 2) dX0_workFactor_2 rfl ?_
  refine og_get (pc := 3) F_X0_37 dX0_workFactor_3 (by repeat (first | exact og_set_eq _ _ _ | assumption | refine (og_set_ne _ _ (by first | assumption | omega)).trans ?_)) (by omega) rfl ?_
  refine og_aload_n (pc := 6) dX0_workFactor_6 rfl ?_
  refine og_get (pc := 7) F_X0_30 dX0_workFactor_7 (by repeat (first | exact og_set_eq _ _ _ | assumption | refine (og_set_ne _ _ (by first | assumption | omega)).trans ?_)) (by omega) rfl ?_
  refine og_callV (pc := 10) (As := [.int (nI c)]) (rest := []) (c_X5_at E d n (d_tl D) (d_td D) c h (d_tb D) e70 w.t71 hL (by omega)) Y_X5_at I_X5_at V_X5_at e70 (by omega) rfl rfl K_X0_48 dX0_workFactor_10 rfl rfl (Nat.le_of_ble_eq_true rfl) (by omega) (by omega) (by omega) (fun _ _ _ z => z) (fun v n1 h1 z => ?_)
  obtain ⟨rfl, hn, hh⟩ := z
  subst hn hh
  refine og_callS (pc := 13) (As := [.int (q_at (d_tb D) (d_tl D) c)]) (rest := []) (c_X5_isDigit E d n1 h1 _) Y_X5_isDigit S_X5_isDigit K_X0_85 dX0_workFactor_13 rfl rfl (Nat.le_of_ble_eq_true rfl) (by omega) (by omega) (by omega) (fun _ _ _ z => z) (fun v n2 h2 z => ?_)
  obtain ⟨hn, hh, z⟩ := z
  subst hn hh
  rcases z with ⟨rfl, z⟩ | ⟨rfl, z⟩
  · refine og_if_eq (pc := 16) (tgt := 44) dX0_workFactor_16 (by decide) (fun q => absurd q (by decide)) (fun _ => ?_)
    have hcL : c < d_tl D := q_at_lt (v_dig_ne z)
    have s1 : v_dc (d_tb D) (d_tl D) c = c + 1 := q_if_t _ _ z
    have s2 : v_dt (d_tb D) (d_tl D) c = q_at (d_tb D) (d_tl D) c - 48 := q_if_t _ _ z
    refine og_aload_n (pc := 19) dX0_workFactor_19 rfl ?_
    refine og_get (pc := 20) F_X0_37 dX0_workFactor_20 (by repeat (first | exact og_set_eq _ _ _ | assumption | refine (og_set_ne _ _ (by first | assumption | omega)).trans ?_)) (by omega) rfl ?_
    refine og_aload_n (pc := 23) dX0_workFactor_23 rfl ?_
    refine og_get (pc := 24) F_X0_30 dX0_workFactor_24 (by repeat (first | exact og_set_eq _ _ _ | assumption | refine (og_set_ne _ _ (by first | assumption | omega)).trans ?_)) (by omega) rfl ?_
    refine og_callV (pc := 27) (As := [.int (nI c)]) (rest := []) (c_X5_at E d n2 (d_tl D) (d_td D) c h2 (d_tb D) e70 w.t71 hL (by omega)) Y_X5_at I_X5_at V_X5_at e70 (by omega) rfl rfl K_X0_48 dX0_workFactor_27 rfl rfl (Nat.le_of_ble_eq_true rfl) (by omega) (by omega) (by omega) (fun _ _ _ z => z) (fun v n3 h3 z => ?_)
    obtain ⟨rfl, hn, hh⟩ := z
    subst hn hh
    refine og_bipush (pc := 30) (v := 48) dX0_workFactor_30 (by decide) ?_
    refine og_isub (pc := 32) dX0_workFactor_32 ?_
    refine og_istore_n_3 (pc := 33) dX0_workFactor_33 rfl ?_
    refine og_aload_n (pc := 34) dX0_workFactor_34 rfl ?_
    refine og_dup (pc := 35) dX0_workFactor_35 rfl ?_
    refine og_get (pc := 36) F_X0_30 dX0_workFactor_36 (by repeat (first | exact og_set_eq _ _ _ | assumption | refine (og_set_ne _ _ (by first | assumption | omega)).trans ?_)) (by omega) rfl ?_
    refine og_iconst (pc := 39) (v := 1) dX0_workFactor_39 (by decide) ?_
    refine og_iadd (pc := 40) dX0_workFactor_40 ?_
    rw [nI_1]
    have w4 := w.cal (nI (c + 1)) p
    refine og_put (pc := 41) P_X0_30 dX0_workFactor_41 (by repeat (first | exact og_set_eq _ _ _ | assumption | refine (og_set_ne _ _ (by first | assumption | omega)).trans ?_)) (by omega) rfl rfl (Nat.le_of_ble_eq_true rfl) ?_
    have q := phB (og_set h3 72 (og_ca (nI (c + 1)) p)) (by rw [s1]; exact w4) (by rw [s1]; omega) (og_fr.set _ _ (by omega) (by omega) (by omega))
    rw [s2] at q
    exact q
  · refine og_if_eq (pc := 16) (tgt := 44) dX0_workFactor_16 (by decide) (fun _ => ?_) (fun q => absurd rfl q)
    have s1 : v_dc (d_tb D) (d_tl D) c = c := q_if_f _ _ z
    have s2 : v_dt (d_tb D) (d_tl D) c = 1 := q_if_f _ _ z
    have q := phB h2 (by rw [s1]; exact w) (by rw [s1]; exact hc) (og_fr.refl _ _ _ _)
    rw [s2] at q
    exact q

set_option maxRecDepth 4000 in
theorem v_termW (E : og_E) (d e : Nat) {h0 : og_H} {n0 : Nat} {D : q_D} {op : Nat → Int32 → Option v_T} (he7 : e < 7) (hop : v_C E yX0_workFactor cX0_workFactor 5 (d + 8) h0 n0 D e (e + 1) (e + 1) e (90 + e) (v_fac (d_tb D) (d_tl D) op)) (hle : ∀ c p q, op c p = some q → q.2.1 ≤ 106) :
    v_C E yX0_workTerm cX0_workTerm 4 (d + 9) h0 n0 D e (e + 1) e e (82 + e) (v_term (d_tb D) (d_tl D) op) := by
  intro n h c p w hc
  have hL : d_tl D ≤ 100 := w.ok.2.2.2.1
  refine og_start (lv := [some (.ref 72), some (.ref 4), some (.int (nI e)), none]) (by decide) rfl rfl (Nat.le_of_ble_eq_true rfl) fun X hr hnm htb => ?_
  have e72 : h 72 = some (og_ca (nI c) p) := w.c72
  refine og_aload_n (pc := 0) dX0_workTerm_0 rfl ?_
  refine og_aload_n (pc := 1) dX0_workTerm_1 rfl ?_
  refine og_iload_n (pc := 2) dX0_workTerm_2 rfl ?_
  refine og_callV (pc := 3) (As := [.ref 4, .int (nI e)]) (rest := []) (hop n h c p w hc) Y_X0_workFactor I_X0_workFactor V_X0_workFactor e72 (by omega) rfl rfl K_X0_79 dX0_workTerm_3 rfl rfl (Nat.le_of_ble_eq_true rfl) (by omega) (by omega) (by omega) (fun _ _ _ z => z) (fun v n1 h1 z => ?_)
  obtain ⟨hn, y⟩ := z
  subst hn
  rcases y with ⟨rfl, y1, cu, pr, y2⟩ | ⟨rfl, t, y1, y2, y3, y4⟩
  · refine og_if_ne (pc := 6) (tgt := 11) dX0_workTerm_6 (by decide) (fun q => absurd rfl q) (fun _ => ?_)
    refine og_iconst (pc := 9) (v := 0) dX0_workTerm_9 (by decide) ?_
    exact og_zret (pc := 10) hr rfl dX0_workTerm_10 (by omega) (by omega) ⟨rfl, Or.inl ⟨rfl, by rw [v_term, y1], cu, pr, y2⟩⟩
  refine og_if_ne (pc := 6) (tgt := 11) dX0_workTerm_6 (by decide) (fun _ => ?_) (fun q => absurd q (by decide))
  have ht := v_fac_le (by omega) hle y1
  have sem : v_term (d_tb D) (d_tl D) op c p = v_tl (d_tb D) (d_tl D) op 100 t.1 t.2.1 t.2.2 := by rw [v_term, y1]
  rw [sem]
  have loop : ∀ m i : Nat, i + m = 100 → ∀ (f : Nat → Int64) (c2 : Nat) (p2 : Int32) (g2 : og_H), v_tl (d_tb D) (d_tl D) op 100 t.1 t.2.1 t.2.2 = v_tl (d_tb D) (d_tl D) op m f c2 p2 → c2 ≤ 106 → og_DK h0 n0 n1 g2 (d_wCa D (nI c2) p2) → g2 (82 + e) = some (rowL f) → og_fr (e + 1) e e h g2 → og_G E yX0_workTerm.cls cX0_workTerm (d + 9) 0 0 4 X (og_Q E (v_P h0 n0 n1 h D (e + 1) e e (82 + e) (v_tl (d_tb D) (d_tl D) op 100 t.1 t.2.1 t.2.2)) no_x 0 0 X) (0 + 0) (0 + 0) n1 g2 28 [some (.ref 72), some (.ref 4), some (.int (nI e)), some (.int (nI i))] [] := by
    intro m
    induction m with
    | zero =>
      intro i hi f c2 p2 g2 hq hc3 w2 eF fr2
      have ei : i = 100 := by omega
      subst ei
      refine og_iload_n (pc := 28) dX0_workTerm_28 rfl ?_
      refine og_bipush (pc := 29) (v := 100) dX0_workTerm_29 (by decide) ?_
      refine og_geN (pc := 31) (tgt := 132) (i := 100) (N := 100) dX0_workTerm_31 (by decide) rfl rfl (by omega) (by omega) (fun c_31 => ?_) (fun c_31 => ?_)
      · refine og_iconst (pc := 132) (v := 1) dX0_workTerm_132 (by decide) ?_
        exact og_zret (pc := 133) hr rfl dX0_workTerm_133 (by omega) (by omega) ⟨rfl, Or.inr ⟨rfl, (f, c2, p2), hq, w2, eF, fr2⟩⟩
      · omega
    | succ m ih =>
      intro i hi f c2 p2 g2 hq hc3 w2 eF fr2
      have e72 : g2 72 = some (og_ca (nI c2) p2) := w2.c72
      have e70 : g2 70 = some (og_tx (d_tl D) (d_td D)) := w2.t70
      refine og_iload_n (pc := 28) dX0_workTerm_28 rfl ?_
      refine og_bipush (pc := 29) (v := 100) dX0_workTerm_29 (by decide) ?_
      refine og_geN (pc := 31) (tgt := 132) (i := i) (N := 100) dX0_workTerm_31 (by decide) rfl rfl (by omega) (by omega) (fun c_31 => ?_) (fun c_31 => ?_)
      · omega
      refine og_aload_n (pc := 34) dX0_workTerm_34 rfl ?_
      refine og_get (pc := 35) F_X0_37 dX0_workTerm_35 (by repeat (first | exact og_set_eq _ _ _ | assumption | refine (og_set_ne _ _ (by first | assumption | omega)).trans ?_)) (by omega) rfl ?_
      refine og_aload_n (pc := 38) dX0_workTerm_38 rfl ?_
      refine og_get (pc := 39) F_X0_30 dX0_workTerm_39 (by repeat (first | exact og_set_eq _ _ _ | assumption | refine (og_set_ne _ _ (by first | assumption | omega)).trans ?_)) (by omega) rfl ?_
      refine og_callV (pc := 42) (As := [.int (nI c2)]) (rest := []) (c_X5_at E d n1 (d_tl D) (d_td D) c2 g2 (d_tb D) e70 w2.t71 hL (by omega)) Y_X5_at I_X5_at V_X5_at e70 (by omega) rfl rfl K_X0_48 dX0_workTerm_42 rfl rfl (Nat.le_of_ble_eq_true rfl) (by omega) (by omega) (by omega) (fun _ _ _ z => z) (fun v n2 h2 z => ?_)
      obtain ⟨rfl, hn, hh⟩ := z
      subst hn hh
      refine og_bipush (pc := 45) (v := 42) dX0_workTerm_45 (by decide) ?_
      refine og_icmp_ne (pc := 47) (tgt := 132) dX0_workTerm_47 (by decide) (fun q => ?_) (fun q => ?_)
      · refine og_iconst (pc := 132) (v := 1) dX0_workTerm_132 (by decide) ?_
        exact og_zret (pc := 133) hr rfl dX0_workTerm_133 (by omega) (by omega) ⟨rfl, Or.inr ⟨rfl, (f, c2, p2), by rw [hq, v_tl, q_if_f _ _ q], w2, eF, fr2⟩⟩
      have hcL : c2 < d_tl D := q_at_lt (bf := d_tb D) (by rw [q]; decide)
      have st : v_tl (d_tb D) (d_tl D) op (m + 1) f c2 p2 = (match v_fac (d_tb D) (d_tl D) op (c2 + 1) p2 with
        | none => none
        | some q => q_if (q_fitx 1 (q_prod f q.1)) (v_tl (d_tb D) (d_tl D) op m (q_fv 1 (q_prod f q.1)) q.2.1 (q.2.2 + 1)) none) := by
        rw [v_tl, q_if_t _ _ q]
        generalize v_fac (d_tb D) (d_tl D) op (c2 + 1) p2 = zz
        cases zz <;> rfl
      have hq := hq.trans st
      refine og_aload_n (pc := 50) dX0_workTerm_50 rfl ?_
      refine og_dup (pc := 51) dX0_workTerm_51 rfl ?_
      refine og_get (pc := 52) F_X0_30 dX0_workTerm_52 (by repeat (first | exact og_set_eq _ _ _ | assumption | refine (og_set_ne _ _ (by first | assumption | omega)).trans ?_)) (by omega) rfl ?_
      refine og_iconst (pc := 55) (v := 1) dX0_workTerm_55 (by decide) ?_
      refine og_iadd (pc := 56) dX0_workTerm_56 ?_
      rw [nI_1]
      have w3 := w2.cal (nI (c2 + 1)) p2
      refine og_put (pc := 57) P_X0_30 dX0_workTerm_57 (by repeat (first | exact og_set_eq _ _ _ | assumption | refine (og_set_ne _ _ (by first | assumption | omega)).trans ?_)) (by omega) rfl rfl (Nat.le_of_ble_eq_true rfl) ?_
      refine og_abs (P := fun g => og_DK h0 n0 n2 g (d_wCa D (nI (c2 + 1)) p2) ∧ g (82 + e) = some (rowL f) ∧ og_fr (e + 1) e e h g) ⟨w3, (og_set_ne _ _ (by omega)).trans eF, fr2.put _ (by omega) (by omega) (by omega)⟩ fun g ⟨w3, eF, fr3⟩ => ?_
      have e72 : g 72 = some (og_ca (nI (c2 + 1)) p2) := w3.c72
      refine og_aload_n (pc := 60) dX0_workTerm_60 rfl ?_
      refine og_aload_n (pc := 61) dX0_workTerm_61 rfl ?_
      refine og_iload_n (pc := 62) dX0_workTerm_62 rfl ?_
      refine og_callV (pc := 63) (As := [.ref 4, .int (nI e)]) (rest := []) (hop n2 g (c2 + 1) p2 w3 (by omega)) Y_X0_workFactor I_X0_workFactor V_X0_workFactor e72 (by omega) rfl rfl K_X0_79 dX0_workTerm_63 rfl rfl (Nat.le_of_ble_eq_true rfl) (by omega) (by omega) (by omega) (fun _ _ _ z => z) (fun v n3 h3 z => ?_)
      obtain ⟨hn, z⟩ := z
      subst hn
      rcases z with ⟨rfl, z1, cu, pr, z2⟩ | ⟨rfl, s, z1, z2, z3, z4⟩
      · refine og_if_ne (pc := 66) (tgt := 71) dX0_workTerm_66 (by decide) (fun q => absurd rfl q) (fun _ => ?_)
        refine og_iconst (pc := 69) (v := 0) dX0_workTerm_69 (by decide) ?_
        exact og_zret (pc := 70) hr rfl dX0_workTerm_70 (by omega) (by omega) ⟨rfl, Or.inl ⟨rfl, by rw [hq, z1], cu, pr, z2⟩⟩
      refine og_if_ne (pc := 66) (tgt := 71) dX0_workTerm_66 (by decide) (fun _ => ?_) (fun q => absurd q (by decide))
      have hq : v_tl (d_tb D) (d_tl D) op 100 t.1 t.2.1 t.2.2 = q_if (q_fitx 1 (q_prod f s.1)) (v_tl (d_tb D) (d_tl D) op m (q_fv 1 (q_prod f s.1)) s.2.1 (s.2.2 + 1)) none := by rw [hq, z1]
      have hs := v_fac_le (by omega) hle z1
      have eF : h3 (82 + e) = some (rowL f) := (z4.2.1 e (by omega)).trans eF
      have fr4 : og_fr (e + 1) e e h h3 := fr3.trans (z4.mono (by omega) (by omega) (by omega))
      have e72 : h3 72 = some (og_ca (nI s.2.1) s.2.2) := z2.c72
      have e81 := z2.g81
      have e89 := z2.g89
      obtain ⟨f97, e97⟩ := z2.scr 97 (by unfold q_scr; omega)
      refine og_aload_n (pc := 71) dX0_workTerm_71 rfl ?_
      refine og_get (pc := 72) F_X0_20 dX0_workTerm_72 (by repeat (first | exact og_set_eq _ _ _ | assumption | refine (og_set_ne _ _ (by first | assumption | omega)).trans ?_)) (by omega) rfl ?_
      refine og_iload_n (pc := 75) dX0_workTerm_75 rfl ?_
      refine og_aaldN (pc := 76) rfl dX0_workTerm_76 (by repeat (first | exact og_set_eq _ _ _ | assumption | refine (og_set_ne _ _ (by first | assumption | omega)).trans ?_)) (by omega) (by decide) (by decide) (by omega) (by first | decide | assumption | omega) (q_g82 he7) ?_
      refine og_aload_n (pc := 77) dX0_workTerm_77 rfl ?_
      refine og_get (pc := 78) F_X0_23 dX0_workTerm_78 (by repeat (first | exact og_set_eq _ _ _ | assumption | refine (og_set_ne _ _ (by first | assumption | omega)).trans ?_)) (by omega) rfl ?_
      refine og_iload_n (pc := 81) dX0_workTerm_81 rfl ?_
      refine og_aaldN (pc := 82) rfl dX0_workTerm_82 (by repeat (first | exact og_set_eq _ _ _ | assumption | refine (og_set_ne _ _ (by first | assumption | omega)).trans ?_)) (by omega) (by decide) (by decide) (by omega) (by first | decide | assumption | omega) (q_g90 he7) ?_
      refine og_aload_n (pc := 83) dX0_workTerm_83 rfl ?_
      refine og_get (pc := 84) F_X0_26 dX0_workTerm_84 (by repeat (first | exact og_set_eq _ _ _ | assumption | refine (og_set_ne _ _ (by first | assumption | omega)).trans ?_)) (by omega) rfl ?_
      refine og_callS (pc := 87) (As := [.ref (82 + e), .ref (90 + e), .ref 97]) (rest := []) (c_X3_product E d n3 (82 + e) (90 + e) 97 h3 f s.1 f97 z2.tr eF z3 e97 (by omega) (by omega) (by omega) (by omega) (by omega)) Y_X3_product S_X3_product K_X0_82 dX0_workTerm_87 rfl rfl (Nat.le_of_ble_eq_true rfl) (by omega) (by omega) (by omega) (fun _ _ _ z => z) (fun v n4 h4 z => ?_)
      obtain ⟨rfl, hn, hh⟩ := z
      subst hn
      have w5 := z2.row (q_prod f s.1) (show q_scr 97 by unfold q_scr; omega)
      rw [← hh] at w5
      have fr5 : og_fr (e + 1) e e h h4 := by rw [hh]; exact fr4.put _ (by omega) (by omega) (by omega)
      have e97 : h4 97 = some (rowL (q_prod f s.1)) := by rw [hh, og_set_eq]
      clear hh
      have e72 : h4 72 = some (og_ca (nI s.2.1) s.2.2) := w5.c72
      refine og_aload_n (pc := 90) dX0_workTerm_90 rfl ?_
      refine og_get (pc := 91) F_X0_26 dX0_workTerm_91 (by repeat (first | exact og_set_eq _ _ _ | assumption | refine (og_set_ne _ _ (by first | assumption | omega)).trans ?_)) (by omega) rfl ?_
      refine og_iconst (pc := 94) (v := 1) dX0_workTerm_94 (by decide) ?_
      refine og_callS (pc := 95) (As := [.ref 97, .int 1]) (rest := []) (c_X3_fit E d n4 97 h4 _ 1 e97 (by omega)) Y_X3_fit S_X3_fit K_X0_75 dX0_workTerm_95 rfl rfl (Nat.le_of_ble_eq_true rfl) (by omega) (by omega) (by omega) (fun _ _ _ z => z) (fun v n5 h5 z => ?_)
      obtain ⟨hn, z⟩ := z
      subst hn
      rcases z with ⟨rfl, hok, hh⟩ | ⟨rfl, ⟨m9, hm8, hbad⟩, g9, hh⟩
      rotate_left
      · have w6 := w5.row g9 (show q_scr 97 by unfold q_scr; omega)
        rw [← hh] at w6
        refine og_if_ne (pc := 98) (tgt := 103) dX0_workTerm_98 (by decide) (fun q => absurd rfl q) (fun _ => ?_)
        refine og_iconst (pc := 101) (v := 0) dX0_workTerm_101 (by decide) ?_
        exact og_zret (pc := 102) hr rfl dX0_workTerm_102 (by omega) (by omega) ⟨rfl, Or.inl ⟨rfl, by rw [hq]; exact q_if_f _ _ (fun q => hbad (q m9 hm8)), _, _, w6⟩⟩
      have w6 := w5.row (q_fv 1 (q_prod f s.1)) (show q_scr 97 by unfold q_scr; omega)
      rw [show og_set h4 97 (rowL (q_fv 1 (q_prod f s.1))) = h5 from hh.symm] at w6
      have fr6 : og_fr (e + 1) e e h h5 := by rw [hh]; exact fr5.put _ (by omega) (by omega) (by omega)
      have e97 : h5 97 = some (rowL (q_fv 1 (q_prod f s.1))) := by rw [hh]; exact og_set_eq _ _ _
      clear hh
      rw [q_if_t _ _ (show q_fitx 1 (q_prod f s.1) from hok)] at hq
      refine og_if_ne (pc := 98) (tgt := 103) dX0_workTerm_98 (by decide) (fun _ => ?_) (fun q => absurd q (by decide))
      have e72 : h5 72 = some (og_ca (nI s.2.1) s.2.2) := w6.c72
      have e81 := w6.g81
      obtain ⟨f82, e82⟩ := w6.scr (82 + e) (by unfold q_scr; omega)
      refine og_aload_n (pc := 103) dX0_workTerm_103 rfl ?_
      refine og_get (pc := 104) F_X0_26 dX0_workTerm_104 (by repeat (first | exact og_set_eq _ _ _ | assumption | refine (og_set_ne _ _ (by first | assumption | omega)).trans ?_)) (by omega) rfl ?_
      refine og_aload_n (pc := 107) dX0_workTerm_107 rfl ?_
      refine og_get (pc := 108) F_X0_20 dX0_workTerm_108 (by repeat (first | exact og_set_eq _ _ _ | assumption | refine (og_set_ne _ _ (by first | assumption | omega)).trans ?_)) (by omega) rfl ?_
      refine og_iload_n (pc := 111) dX0_workTerm_111 rfl ?_
      refine og_aaldN (pc := 112) rfl dX0_workTerm_112 (by repeat (first | exact og_set_eq _ _ _ | assumption | refine (og_set_ne _ _ (by first | assumption | omega)).trans ?_)) (by omega) (by decide) (by decide) (by omega) (by first | decide | assumption | omega) (q_g82 he7) ?_
      refine og_callS (pc := 113) (As := [.ref 97, .ref (82 + e)]) (rest := []) (c_X3_copy E d n5 97 (82 + e) h5 _ _ e97 e82 (by omega) (by omega) (by omega)) Y_X3_copy S_X3_copy K_X0_61 dX0_workTerm_113 rfl rfl (Nat.le_of_ble_eq_true rfl) (by omega) (by omega) (by omega) (fun _ _ _ z => z) (fun v n6 h6 z => ?_)
      obtain ⟨rfl, hn, hh⟩ := z
      subst hn
      have w7 := w6.row (q_fv 1 (q_prod f s.1)) (show q_scr (82 + e) by unfold q_scr; omega)
      rw [show og_set h5 (82 + e) (rowL (q_fv 1 (q_prod f s.1))) = h6 from hh.symm] at w7
      have fr7 : og_fr (e + 1) e e h h6 := by rw [hh]; exact fr6.put _ (by omega) (by omega) (by omega)
      have e82 : h6 (82 + e) = some (rowL (q_fv 1 (q_prod f s.1))) := by rw [hh]; exact og_set_eq _ _ _
      clear hh
      have e72 : h6 72 = some (og_ca (nI s.2.1) s.2.2) := w7.c72
      refine og_aload_n (pc := 116) dX0_workTerm_116 rfl ?_
      refine og_dup (pc := 117) dX0_workTerm_117 rfl ?_
      refine og_get (pc := 118) F_X0_34 dX0_workTerm_118 (by repeat (first | exact og_set_eq _ _ _ | assumption | refine (og_set_ne _ _ (by first | assumption | omega)).trans ?_)) (by omega) rfl ?_
      refine og_iconst (pc := 121) (v := 1) dX0_workTerm_121 (by decide) ?_
      refine og_iadd (pc := 122) dX0_workTerm_122 ?_
      have w8 := w7.cal (nI s.2.1) (s.2.2 + 1)
      refine og_put (pc := 123) P_X0_34 dX0_workTerm_123 (by repeat (first | exact og_set_eq _ _ _ | assumption | refine (og_set_ne _ _ (by first | assumption | omega)).trans ?_)) (by omega) rfl rfl (Nat.le_of_ble_eq_true rfl) ?_
      refine og_iinc_3 (pc := 126) dX0_workTerm_126 (og_inc i) rfl ?_
      refine og_goto (pc := 129) (tgt := 28) dX0_workTerm_129 (by decide) ?_
      exact ih (i + 1) (by omega) _ s.2.1 (s.2.2 + 1) _ hq hs w8 ((og_set_ne _ _ (by omega)).trans e82) (fr7.put _ (by omega) (by omega) (by omega))
  have e81 := y2.g81
  have e89 := y2.g89
  have e72 : h1 72 = some (og_ca (nI t.2.1) t.2.2) := y2.c72
  obtain ⟨f82, e82⟩ := y2.scr (82 + e) (by unfold q_scr; omega)
  refine og_aload_n (pc := 11) dX0_workTerm_11 rfl ?_
  refine og_get (pc := 12) F_X0_23 dX0_workTerm_12 (by repeat (first | exact og_set_eq _ _ _ | assumption | refine (og_set_ne _ _ (by first | assumption | omega)).trans ?_)) (by omega) rfl ?_
  refine og_iload_n (pc := 15) dX0_workTerm_15 rfl ?_
  refine og_aaldN (pc := 16) rfl dX0_workTerm_16 (by repeat (first | exact og_set_eq _ _ _ | assumption | refine (og_set_ne _ _ (by first | assumption | omega)).trans ?_)) (by omega) (by decide) (by decide) (by omega) (by first | decide | assumption | omega) (q_g90 he7) ?_
  refine og_aload_n (pc := 17) dX0_workTerm_17 rfl ?_
  refine og_get (pc := 18) F_X0_20 dX0_workTerm_18 (by repeat (first | exact og_set_eq _ _ _ | assumption | refine (og_set_ne _ _ (by first | assumption | omega)).trans ?_)) (by omega) rfl ?_
  refine og_iload_n (pc := 21) dX0_workTerm_21 rfl ?_
  refine og_aaldN (pc := 22) rfl dX0_workTerm_22 (by repeat (first | exact og_set_eq _ _ _ | assumption | refine (og_set_ne _ _ (by first | assumption | omega)).trans ?_)) (by omega) (by decide) (by decide) (by omega) (by first | decide | assumption | omega) (q_g82 he7) ?_
  refine og_callS (pc := 23) (As := [.ref (90 + e), .ref (82 + e)]) (rest := []) (c_X3_copy E d n1 (90 + e) (82 + e) h1 _ _ y3 e82 (by omega) (by omega) (by omega)) Y_X3_copy S_X3_copy K_X0_61 dX0_workTerm_23 rfl rfl (Nat.le_of_ble_eq_true rfl) (by omega) (by omega) (by omega) (fun _ _ _ z => z) (fun v n2 h2 z => ?_)
  obtain ⟨rfl, hn, hh⟩ := z
  subst hn hh
  refine og_iconst (pc := 26) (v := 0) dX0_workTerm_26 (by decide) ?_
  refine og_istore_n_3 (pc := 27) dX0_workTerm_27 rfl ?_
  exact loop 100 0 rfl t.1 t.2.1 t.2.2 _ rfl ht (y2.row _ (by unfold q_scr; omega)) (og_set_eq _ _ _) ((y4.mono (by omega) (by omega) (by omega)).put _ (by omega) (by omega) (by omega))

set_option maxRecDepth 4000 in
theorem v_sumW (E : og_E) (d e : Nat) {h0 : og_H} {n0 : Nat} {D : q_D} {op : Nat → Int32 → Option v_T} (he7 : e < 7) (hop : v_C E yX0_workTerm cX0_workTerm 4 (d + 9) h0 n0 D e (e + 1) e e (82 + e) (v_term (d_tb D) (d_tl D) op)) (hle : ∀ c p q, op c p = some q → q.2.1 ≤ 106) :
    v_C E yX0_workSum cX0_workSum 5 (d + 10) h0 n0 D e e e e (74 + e) (v_sum (d_tb D) (d_tl D) op) := by
  intro n h c p w hc
  have hL : d_tl D ≤ 100 := w.ok.2.2.2.1
  refine og_start (lv := [some (.ref 72), some (.ref 4), some (.int (nI e)), none, none]) (by decide) rfl rfl (Nat.le_of_ble_eq_true rfl) fun X hr hnm htb => ?_
  have e72 : h 72 = some (og_ca (nI c) p) := w.c72
  refine og_iload_n (pc := 0) dX0_workSum_0 rfl ?_
  refine og_if_lt (pc := 1) (tgt := 19) dX0_workSum_1 (by decide) (fun q => absurd q (nI_pos (by omega))) (fun _ => ?_)
  refine og_iload_n (pc := 4) dX0_workSum_4 rfl ?_
  refine og_bipush (pc := 5) (v := 6) dX0_workSum_5 (by decide) ?_
  refine og_icmp_gt (pc := 7) (tgt := 19) dX0_workSum_7 (by decide) (fun q => absurd q (nI_nlt (a := 6) (b := e) (by omega) (by omega))) (fun _ => ?_)
  refine og_aload_n (pc := 10) dX0_workSum_10 rfl ?_
  refine og_aload_n (pc := 11) dX0_workSum_11 rfl ?_
  refine og_iload_n (pc := 12) dX0_workSum_12 rfl ?_
  refine og_callV (pc := 13) (As := [.ref 4, .int (nI e)]) (rest := []) (hop n h c p w hc) Y_X0_workTerm I_X0_workTerm V_X0_workTerm e72 (by omega) rfl rfl K_X0_68 dX0_workSum_13 rfl rfl (Nat.le_of_ble_eq_true rfl) (by omega) (by omega) (by omega) (fun _ _ _ z => z) (fun v n1 h1 z => ?_)
  obtain ⟨hn, y⟩ := z
  subst hn
  rcases y with ⟨rfl, y1, cu, pr, y2⟩ | ⟨rfl, t, y1, y2, y3, y4⟩
  · refine og_if_ne (pc := 16) (tgt := 21) dX0_workSum_16 (by decide) (fun q => absurd rfl q) (fun _ => ?_)
    refine og_iconst (pc := 19) (v := 0) dX0_workSum_19 (by decide) ?_
    exact og_zret (pc := 20) hr rfl dX0_workSum_20 (by omega) (by omega) ⟨rfl, Or.inl ⟨rfl, by rw [v_sum, y1], cu, pr, y2⟩⟩
  refine og_if_ne (pc := 16) (tgt := 21) dX0_workSum_16 (by decide) (fun _ => ?_) (fun q => absurd q (by decide))
  have ht := v_term_le (by omega) hle y1
  have sem : v_sum (d_tb D) (d_tl D) op c p = v_sl (d_tb D) (d_tl D) op 100 t.1 t.2.1 t.2.2 := by rw [v_sum, y1]
  rw [sem]
  have loop : ∀ m i : Nat, i + m = 100 → ∀ (f : Nat → Int64) (c2 : Nat) (p2 : Int32) (g2 : og_H) (lx : Option Value), v_sl (d_tb D) (d_tl D) op 100 t.1 t.2.1 t.2.2 = v_sl (d_tb D) (d_tl D) op m f c2 p2 → c2 ≤ 106 → og_DK h0 n0 n1 g2 (d_wCa D (nI c2) p2) → g2 (74 + e) = some (rowL f) → og_fr e e e h g2 → og_G E yX0_workSum.cls cX0_workSum (d + 10) 0 0 5 X (og_Q E (v_P h0 n0 n1 h D e e e (74 + e) (v_sl (d_tb D) (d_tl D) op 100 t.1 t.2.1 t.2.2)) no_x 0 0 X) (0 + 0) (0 + 0) n1 g2 38 [some (.ref 72), some (.ref 4), some (.int (nI e)), some (.int (nI i)), lx] [] := by
    intro m
    induction m with
    | zero =>
      intro i hi f c2 p2 g2 lx hq hc3 w2 eF fr2
      have ei : i = 100 := by omega
      subst ei
      refine og_iload_n (pc := 38) dX0_workSum_38 rfl ?_
      refine og_bipush (pc := 39) (v := 100) dX0_workSum_39 (by decide) ?_
      refine og_geN (pc := 41) (tgt := 164) (i := 100) (N := 100) dX0_workSum_41 (by decide) rfl rfl (by omega) (by omega) (fun c_41 => ?_) (fun c_41 => ?_)
      · refine og_iconst (pc := 164) (v := 1) dX0_workSum_164 (by decide) ?_
        exact og_zret (pc := 165) hr rfl dX0_workSum_165 (by omega) (by omega) ⟨rfl, Or.inr ⟨rfl, (f, c2, p2), hq, w2, eF, fr2⟩⟩
      · omega
    | succ m ih =>
      intro i hi f c2 p2 g2 lx hq hc3 w2 eF fr2
      have e72 : g2 72 = some (og_ca (nI c2) p2) := w2.c72
      have e70 : g2 70 = some (og_tx (d_tl D) (d_td D)) := w2.t70
      refine og_iload_n (pc := 38) dX0_workSum_38 rfl ?_
      refine og_bipush (pc := 39) (v := 100) dX0_workSum_39 (by decide) ?_
      refine og_geN (pc := 41) (tgt := 164) (i := i) (N := 100) dX0_workSum_41 (by decide) rfl rfl (by omega) (by omega) (fun c_41 => ?_) (fun c_41 => ?_)
      · omega
      refine og_aload_n (pc := 44) dX0_workSum_44 rfl ?_
      refine og_get (pc := 45) F_X0_37 dX0_workSum_45 (by repeat (first | exact og_set_eq _ _ _ | assumption | refine (og_set_ne _ _ (by first | assumption | omega)).trans ?_)) (by omega) rfl ?_
      refine og_aload_n (pc := 48) dX0_workSum_48 rfl ?_
      refine og_get (pc := 49) F_X0_30 dX0_workSum_49 (by repeat (first | exact og_set_eq _ _ _ | assumption | refine (og_set_ne _ _ (by first | assumption | omega)).trans ?_)) (by omega) rfl ?_
      refine og_callV (pc := 52) (As := [.int (nI c2)]) (rest := []) (c_X5_at E d n1 (d_tl D) (d_td D) c2 g2 (d_tb D) e70 w2.t71 hL (by omega)) Y_X5_at I_X5_at V_X5_at e70 (by omega) rfl rfl K_X0_48 dX0_workSum_52 rfl rfl (Nat.le_of_ble_eq_true rfl) (by omega) (by omega) (by omega) (fun _ _ _ z => z) (fun v n2 h2 z => ?_)
      obtain ⟨rfl, hn, hh⟩ := z
      subst hn hh
      have phB : (q_at (d_tb D) (d_tl D) c2 = 43 ∨ q_at (d_tb D) (d_tl D) c2 = 45) → og_G E yX0_workSum.cls cX0_workSum (d + 10) 0 0 5 X (og_Q E (v_P h0 n0 n2 h D e e e (74 + e) (v_sl (d_tb D) (d_tl D) op 100 t.1 t.2.1 t.2.2)) no_x 0 0 X) 0 0 n2 h2 97 [some (.ref 72), some (.ref 4), some (.int (nI e)), some (.int (nI i)), lx] [.int (v_sg (d_tb D) (d_tl D) c2)] := by
        intro q
        have hcL : c2 < d_tl D := q_at_lt (bf := d_tb D) (by rcases q with q | q <;> (rw [q]; decide))
        have st : v_sl (d_tb D) (d_tl D) op (m + 1) f c2 p2 = (match v_term (d_tb D) (d_tl D) op (c2 + 1) p2 with
          | none => none
          | some q => q_if (q_fitx 0 (q_total f q.1 (v_sg (d_tb D) (d_tl D) c2))) (v_sl (d_tb D) (d_tl D) op m (q_fv 0 (q_total f q.1 (v_sg (d_tb D) (d_tl D) c2))) q.2.1 q.2.2) none) := by
          rw [v_sl, q_if_t _ _ q]
          generalize v_term (d_tb D) (d_tl D) op (c2 + 1) p2 = zz
          cases zz <;> rfl
        have hq := hq.trans st
        refine og_istore_4 (pc := 97) dX0_workSum_97 rfl ?_
        refine og_aload_n (pc := 99) dX0_workSum_99 rfl ?_
        refine og_dup (pc := 100) dX0_workSum_100 rfl ?_
        refine og_get (pc := 101) F_X0_30 dX0_workSum_101 (by repeat (first | exact og_set_eq _ _ _ | assumption | refine (og_set_ne _ _ (by first | assumption | omega)).trans ?_)) (by omega) rfl ?_
        refine og_iconst (pc := 104) (v := 1) dX0_workSum_104 (by decide) ?_
        refine og_iadd (pc := 105) dX0_workSum_105 ?_
        rw [nI_1]
        have w3 := w2.cal (nI (c2 + 1)) p2
        refine og_put (pc := 106) P_X0_30 dX0_workSum_106 (by repeat (first | exact og_set_eq _ _ _ | assumption | refine (og_set_ne _ _ (by first | assumption | omega)).trans ?_)) (by omega) rfl rfl (Nat.le_of_ble_eq_true rfl) ?_
        refine og_abs (P := fun g => og_DK h0 n0 n2 g (d_wCa D (nI (c2 + 1)) p2) ∧ g (74 + e) = some (rowL f) ∧ og_fr e e e h g) ⟨w3, (og_set_ne _ _ (by omega)).trans eF, fr2.put _ (by omega) (by omega) (by omega)⟩ fun g ⟨w3, eF, fr3⟩ => ?_
        have e72 : g 72 = some (og_ca (nI (c2 + 1)) p2) := w3.c72
        refine og_aload_n (pc := 109) dX0_workSum_109 rfl ?_
        refine og_aload_n (pc := 110) dX0_workSum_110 rfl ?_
        refine og_iload_n (pc := 111) dX0_workSum_111 rfl ?_
        refine og_callV (pc := 112) (As := [.ref 4, .int (nI e)]) (rest := []) (hop n2 g (c2 + 1) p2 w3 (by omega)) Y_X0_workTerm I_X0_workTerm V_X0_workTerm e72 (by omega) rfl rfl K_X0_68 dX0_workSum_112 rfl rfl (Nat.le_of_ble_eq_true rfl) (by omega) (by omega) (by omega) (fun _ _ _ z => z) (fun v n3 h3 z => ?_)
        obtain ⟨hn, z⟩ := z
        subst hn
        rcases z with ⟨rfl, z1, cu, pr, z2⟩ | ⟨rfl, s, z1, z2, z3, z4⟩
        · refine og_if_ne (pc := 115) (tgt := 120) dX0_workSum_115 (by decide) (fun q => absurd rfl q) (fun _ => ?_)
          refine og_iconst (pc := 118) (v := 0) dX0_workSum_118 (by decide) ?_
          exact og_zret (pc := 119) hr rfl dX0_workSum_119 (by omega) (by omega) ⟨rfl, Or.inl ⟨rfl, by rw [hq, z1], cu, pr, z2⟩⟩
        refine og_if_ne (pc := 115) (tgt := 120) dX0_workSum_115 (by decide) (fun _ => ?_) (fun q => absurd q (by decide))
        have hq : v_sl (d_tb D) (d_tl D) op 100 t.1 t.2.1 t.2.2 = q_if (q_fitx 0 (q_total f s.1 (v_sg (d_tb D) (d_tl D) c2))) (v_sl (d_tb D) (d_tl D) op m (q_fv 0 (q_total f s.1 (v_sg (d_tb D) (d_tl D) c2))) s.2.1 s.2.2) none := by rw [hq, z1]
        have hs := v_term_le (by omega) hle z1
        have eF : h3 (74 + e) = some (rowL f) := (z4.1 e (by omega)).trans eF
        have fr4 : og_fr e e e h h3 := fr3.trans (z4.mono (by omega) (by omega) (by omega))
        have e72 : h3 72 = some (og_ca (nI s.2.1) s.2.2) := z2.c72
        have e73 := z2.g73
        have e81 := z2.g81
        refine og_aload_n (pc := 120) dX0_workSum_120 rfl ?_
        refine og_get (pc := 121) F_X0_15 dX0_workSum_121 (by repeat (first | exact og_set_eq _ _ _ | assumption | refine (og_set_ne _ _ (by first | assumption | omega)).trans ?_)) (by omega) rfl ?_
        refine og_iload_n (pc := 124) dX0_workSum_124 rfl ?_
        refine og_aaldN (pc := 125) rfl dX0_workSum_125 (by repeat (first | exact og_set_eq _ _ _ | assumption | refine (og_set_ne _ _ (by first | assumption | omega)).trans ?_)) (by omega) (by decide) (by decide) (by omega) (by first | decide | assumption | omega) (q_g74 he7) ?_
        refine og_aload_n (pc := 126) dX0_workSum_126 rfl ?_
        refine og_get (pc := 127) F_X0_20 dX0_workSum_127 (by repeat (first | exact og_set_eq _ _ _ | assumption | refine (og_set_ne _ _ (by first | assumption | omega)).trans ?_)) (by omega) rfl ?_
        refine og_iload_n (pc := 130) dX0_workSum_130 rfl ?_
        refine og_aaldN (pc := 131) rfl dX0_workSum_131 (by repeat (first | exact og_set_eq _ _ _ | assumption | refine (og_set_ne _ _ (by first | assumption | omega)).trans ?_)) (by omega) (by decide) (by decide) (by omega) (by first | decide | assumption | omega) (q_g82 he7) ?_
        refine og_iload (pc := 132) dX0_workSum_132 rfl ?_
        refine og_aload_n (pc := 134) dX0_workSum_134 rfl ?_
        refine og_get (pc := 135) F_X0_15 dX0_workSum_135 (by repeat (first | exact og_set_eq _ _ _ | assumption | refine (og_set_ne _ _ (by first | assumption | omega)).trans ?_)) (by omega) rfl ?_
        refine og_iload_n (pc := 138) dX0_workSum_138 rfl ?_
        refine og_aaldN (pc := 139) rfl dX0_workSum_139 (by repeat (first | exact og_set_eq _ _ _ | assumption | refine (og_set_ne _ _ (by first | assumption | omega)).trans ?_)) (by omega) (by decide) (by decide) (by omega) (by first | decide | assumption | omega) (q_g74 he7) ?_
        refine og_callS (pc := 140) (As := [.ref (74 + e), .ref (82 + e), .int (v_sg (d_tb D) (d_tl D) c2), .ref (74 + e)]) (rest := []) (c_X3_totalA E d n3 (74 + e) (82 + e) h3 f s.1 (v_sg (d_tb D) (d_tl D) c2) eF z3 (by omega) (by omega) (by omega)) Y_X3_total S_X3_total K_X0_71 dX0_workSum_140 rfl rfl (Nat.le_of_ble_eq_true rfl) (by omega) (by omega) (by omega) (fun _ _ _ z => z) (fun v n4 h4 z => ?_)
        obtain ⟨rfl, hn, hh⟩ := z
        subst hn
        have w5 := z2.row (q_total f s.1 (v_sg (d_tb D) (d_tl D) c2)) (show q_scr (74 + e) by unfold q_scr; omega)
        rw [← hh] at w5
        have fr5 : og_fr e e e h h4 := by rw [hh]; exact fr4.put _ (by omega) (by omega) (by omega)
        have eF : h4 (74 + e) = some (rowL (q_total f s.1 (v_sg (d_tb D) (d_tl D) c2))) := by rw [hh, og_set_eq]
        clear hh
        have e72 : h4 72 = some (og_ca (nI s.2.1) s.2.2) := w5.c72
        have e73 := w5.g73
        refine og_aload_n (pc := 143) dX0_workSum_143 rfl ?_
        refine og_get (pc := 144) F_X0_15 dX0_workSum_144 (by repeat (first | exact og_set_eq _ _ _ | assumption | refine (og_set_ne _ _ (by first | assumption | omega)).trans ?_)) (by omega) rfl ?_
        refine og_iload_n (pc := 147) dX0_workSum_147 rfl ?_
        refine og_aaldN (pc := 148) rfl dX0_workSum_148 (by repeat (first | exact og_set_eq _ _ _ | assumption | refine (og_set_ne _ _ (by first | assumption | omega)).trans ?_)) (by omega) (by decide) (by decide) (by omega) (by first | decide | assumption | omega) (q_g74 he7) ?_
        refine og_iconst (pc := 149) (v := 0) dX0_workSum_149 (by decide) ?_
        refine og_callS (pc := 150) (As := [.ref (74 + e), .int 0]) (rest := []) (c_X3_fit E d n4 (74 + e) h4 _ 0 eF (by omega)) Y_X3_fit S_X3_fit K_X0_75 dX0_workSum_150 rfl rfl (Nat.le_of_ble_eq_true rfl) (by omega) (by omega) (by omega) (fun _ _ _ z => z) (fun v n5 h5 z => ?_)
        obtain ⟨hn, z⟩ := z
        subst hn
        rcases z with ⟨rfl, hok, hh⟩ | ⟨rfl, ⟨m9, hm8, hbad⟩, g9, hh⟩
        rotate_left
        · have w6 := w5.row g9 (show q_scr (74 + e) by unfold q_scr; omega)
          rw [← hh] at w6
          refine og_if_ne (pc := 153) (tgt := 158) dX0_workSum_153 (by decide) (fun q => absurd rfl q) (fun _ => ?_)
          refine og_iconst (pc := 156) (v := 0) dX0_workSum_156 (by decide) ?_
          exact og_zret (pc := 157) hr rfl dX0_workSum_157 (by omega) (by omega) ⟨rfl, Or.inl ⟨rfl, by rw [hq]; exact q_if_f _ _ (fun q => hbad (q m9 hm8)), _, _, w6⟩⟩
        have w6 := w5.row (q_fv 0 (q_total f s.1 (v_sg (d_tb D) (d_tl D) c2))) (show q_scr (74 + e) by unfold q_scr; omega)
        rw [show og_set h4 (74 + e) (rowL (q_fv 0 (q_total f s.1 (v_sg (d_tb D) (d_tl D) c2)))) = h5 from hh.symm] at w6
        have fr6 : og_fr e e e h h5 := by rw [hh]; exact fr5.put _ (by omega) (by omega) (by omega)
        have eF : h5 (74 + e) = some (rowL (q_fv 0 (q_total f s.1 (v_sg (d_tb D) (d_tl D) c2)))) := by rw [hh]; exact og_set_eq _ _ _
        clear hh
        rw [q_if_t _ _ (show q_fitx 0 (q_total f s.1 (v_sg (d_tb D) (d_tl D) c2)) from hok)] at hq
        refine og_if_ne (pc := 153) (tgt := 158) dX0_workSum_153 (by decide) (fun _ => ?_) (fun q => absurd q (by decide))
        refine og_iinc_3 (pc := 158) dX0_workSum_158 (og_inc i) rfl ?_
        refine og_goto (pc := 161) (tgt := 38) dX0_workSum_161 (by decide) ?_
        exact ih (i + 1) (by omega) _ s.2.1 s.2.2 _ _ hq hs w6 eF fr6
      have phA : (q_at (d_tb D) (d_tl D) c2 = 43 ∨ q_at (d_tb D) (d_tl D) c2 = 45) → og_G E yX0_workSum.cls cX0_workSum (d + 10) 0 0 5 X (og_Q E (v_P h0 n0 n2 h D e e e (74 + e) (v_sl (d_tb D) (d_tl D) op 100 t.1 t.2.1 t.2.2)) no_x 0 0 X) 0 0 n2 h2 76 [some (.ref 72), some (.ref 4), some (.int (nI e)), some (.int (nI i)), lx] [] := by
        intro q
        have k := phB q
        refine og_aload_n (pc := 76) dX0_workSum_76 rfl ?_
        refine og_get (pc := 77) F_X0_37 dX0_workSum_77 (by repeat (first | exact og_set_eq _ _ _ | assumption | refine (og_set_ne _ _ (by first | assumption | omega)).trans ?_)) (by omega) rfl ?_
        refine og_aload_n (pc := 80) dX0_workSum_80 rfl ?_
        refine og_get (pc := 81) F_X0_30 dX0_workSum_81 (by repeat (first | exact og_set_eq _ _ _ | assumption | refine (og_set_ne _ _ (by first | assumption | omega)).trans ?_)) (by omega) rfl ?_
        refine og_callV (pc := 84) (As := [.int (nI c2)]) (rest := []) (c_X5_at E d n2 (d_tl D) (d_td D) c2 h2 (d_tb D) e70 w2.t71 hL (by omega)) Y_X5_at I_X5_at V_X5_at e70 (by omega) rfl rfl K_X0_48 dX0_workSum_84 rfl rfl (Nat.le_of_ble_eq_true rfl) (by omega) (by omega) (by omega) (fun _ _ _ z => z) (fun v n3 h3 z => ?_)
        obtain ⟨rfl, hn, hh⟩ := z
        subst hn hh
        refine og_bipush (pc := 87) (v := 45) dX0_workSum_87 (by decide) ?_
        refine og_icmp_ne (pc := 89) (tgt := 96) dX0_workSum_89 (by decide) (fun q2 => ?_) (fun q2 => ?_)
        · refine og_iconst (pc := 96) (v := 0) dX0_workSum_96 (by decide) ?_
          rw [show v_sg (d_tb D) (d_tl D) c2 = 0 from q_if_f _ _ q2] at k
          exact k
        · refine og_iconst (pc := 92) (v := 1) dX0_workSum_92 (by decide) ?_
          refine og_goto (pc := 93) (tgt := 97) dX0_workSum_93 (by decide) ?_
          rw [show v_sg (d_tb D) (d_tl D) c2 = 1 from q_if_t _ _ q2] at k
          exact k
      refine og_bipush (pc := 55) (v := 43) dX0_workSum_55 (by decide) ?_
      refine og_icmp_eq (pc := 57) (tgt := 76) dX0_workSum_57 (by decide) (fun q => phA (Or.inl q)) (fun q => ?_)
      refine og_aload_n (pc := 60) dX0_workSum_60 rfl ?_
      refine og_get (pc := 61) F_X0_37 dX0_workSum_61 (by repeat (first | exact og_set_eq _ _ _ | assumption | refine (og_set_ne _ _ (by first | assumption | omega)).trans ?_)) (by omega) rfl ?_
      refine og_aload_n (pc := 64) dX0_workSum_64 rfl ?_
      refine og_get (pc := 65) F_X0_30 dX0_workSum_65 (by repeat (first | exact og_set_eq _ _ _ | assumption | refine (og_set_ne _ _ (by first | assumption | omega)).trans ?_)) (by omega) rfl ?_
      refine og_callV (pc := 68) (As := [.int (nI c2)]) (rest := []) (c_X5_at E d n2 (d_tl D) (d_td D) c2 h2 (d_tb D) e70 w2.t71 hL (by omega)) Y_X5_at I_X5_at V_X5_at e70 (by omega) rfl rfl K_X0_48 dX0_workSum_68 rfl rfl (Nat.le_of_ble_eq_true rfl) (by omega) (by omega) (by omega) (fun _ _ _ z => z) (fun v n3 h3 z => ?_)
      obtain ⟨rfl, hn, hh⟩ := z
      subst hn hh
      refine og_bipush (pc := 71) (v := 45) dX0_workSum_71 (by decide) ?_
      refine og_icmp_ne (pc := 73) (tgt := 164) dX0_workSum_73 (by decide) (fun q2 => ?_) (fun q2 => phA (Or.inr q2))
      refine og_iconst (pc := 164) (v := 1) dX0_workSum_164 (by decide) ?_
      exact og_zret (pc := 165) hr rfl dX0_workSum_165 (by omega) (by omega) ⟨rfl, Or.inr ⟨rfl, (f, c2, p2), by rw [hq, v_sl, q_if_f _ _ (fun z => z.elim q q2)], w2, eF, fr2⟩⟩
  have e81 := y2.g81
  have e73 := y2.g73
  have e72 : h1 72 = some (og_ca (nI t.2.1) t.2.2) := y2.c72
  obtain ⟨f74, e74⟩ := y2.scr (74 + e) (by unfold q_scr; omega)
  refine og_aload_n (pc := 21) dX0_workSum_21 rfl ?_
  refine og_get (pc := 22) F_X0_20 dX0_workSum_22 (by repeat (first | exact og_set_eq _ _ _ | assumption | refine (og_set_ne _ _ (by first | assumption | omega)).trans ?_)) (by omega) rfl ?_
  refine og_iload_n (pc := 25) dX0_workSum_25 rfl ?_
  refine og_aaldN (pc := 26) rfl dX0_workSum_26 (by repeat (first | exact og_set_eq _ _ _ | assumption | refine (og_set_ne _ _ (by first | assumption | omega)).trans ?_)) (by omega) (by decide) (by decide) (by omega) (by first | decide | assumption | omega) (q_g82 he7) ?_
  refine og_aload_n (pc := 27) dX0_workSum_27 rfl ?_
  refine og_get (pc := 28) F_X0_15 dX0_workSum_28 (by repeat (first | exact og_set_eq _ _ _ | assumption | refine (og_set_ne _ _ (by first | assumption | omega)).trans ?_)) (by omega) rfl ?_
  refine og_iload_n (pc := 31) dX0_workSum_31 rfl ?_
  refine og_aaldN (pc := 32) rfl dX0_workSum_32 (by repeat (first | exact og_set_eq _ _ _ | assumption | refine (og_set_ne _ _ (by first | assumption | omega)).trans ?_)) (by omega) (by decide) (by decide) (by omega) (by first | decide | assumption | omega) (q_g74 he7) ?_
  refine og_callS (pc := 33) (As := [.ref (82 + e), .ref (74 + e)]) (rest := []) (c_X3_copy E d n1 (82 + e) (74 + e) h1 _ _ y3 e74 (by omega) (by omega) (by omega)) Y_X3_copy S_X3_copy K_X0_61 dX0_workSum_33 rfl rfl (Nat.le_of_ble_eq_true rfl) (by omega) (by omega) (by omega) (fun _ _ _ z => z) (fun v n2 h2 z => ?_)
  obtain ⟨rfl, hn, hh⟩ := z
  subst hn hh
  refine og_iconst (pc := 36) (v := 0) dX0_workSum_36 (by decide) ?_
  refine og_istore_n_3 (pc := 37) dX0_workSum_37 rfl ?_
  exact loop 100 0 rfl t.1 t.2.1 t.2.2 _ _ rfl ht (y2.row _ (by unfold q_scr; omega)) (og_set_eq _ _ _) ((y4.mono (by omega) (by omega) (by omega)).put _ (by omega) (by omega) (by omega))
theorem v_sumAll (E : og_E) (d : Nat) {h0 : og_H} {n0 : Nat} {D : q_D} (hL : d_tl D ≤ 100) : ∀ (k e : Nat), e + k = 6 →
    v_C E yX0_workSum cX0_workSum 5 (d + 4 * k + 10) h0 n0 D e e e e (74 + e) (v_sum (d_tb D) (d_tl D) (v_op (d_st D).1 (d_tb D) (d_tl D) k))
  | 0, e, he => by
    have h1 := v_operand E d 0 e (h0 := h0) (n0 := n0) (D := D) he (fun k2 hk => by omega)
    have hle : ∀ c p q, v_op (d_st D).1 (d_tb D) (d_tl D) 0 c p = some q → q.2.1 ≤ 106 := fun c p q hq => Nat.le_trans (v_op_le _ _ _ _ _ _ _ hq) (by omega)
    exact v_sumW E d e (by omega) (v_termW E d e (by omega) (v_factor E d e (by omega) h1 hle) hle) hle
  | k + 1, e, he => by
    have h1 := v_operand E (d + 4 * (k + 1)) (k + 1) e (h0 := h0) (n0 := n0) (D := D) he (fun k2 hk => by
      cases hk
      have := v_sumAll E d hL k (e + 1) (by omega) (h0 := h0) (n0 := n0) (D := D)
      exact this)
    have hle : ∀ c p q, v_op (d_st D).1 (d_tb D) (d_tl D) (k + 1) c p = some q → q.2.1 ≤ 106 := fun c p q hq => Nat.le_trans (v_op_le _ _ _ _ _ _ _ hq) (by omega)
    exact v_sumW E (d + 4 * (k + 1)) e (by omega) (v_termW E (d + 4 * (k + 1)) e (by omega) (v_factor E (d + 4 * (k + 1)) e (by omega) h1 hle) hle) hle
