/-! ===== carryOut ===== -/
theorem v_li_of {x : Int32} {r : Nat} (hr : r < 8) (h : x - 97 = nI r) : q_letter x ∧ v_li x = r := by
  have e : x = nI (r + 97) := by
    rw [← nI_add, ← h]
    exact (Int32.sub_add_cancel _ _).symm
  have t : x.toInt = r + 97 := by rw [e, nI_toInt (by omega)]; omega
  refine ⟨⟨Int32.le_iff_toInt_le.mpr ?_, Int32.le_iff_toInt_le.mpr ?_⟩, ?_⟩
  · rw [t, show (97 : Int32).toInt = 97 from rfl]; omega
  · rw [t, show (104 : Int32).toInt = 104 from rfl]; omega
  · unfold v_li; rw [t]; omega
noncomputable def v_nx (s : og_SD) (to : Nat) : Option v_T → Option (og_SD × Nat)
  | none => none
  | some q => some ((q_upR s.1 to q.1, s.2.1, s.2.2.1 + q.2.2, s.2.2.2), q.2.1 + 1)
noncomputable def v_next (s : og_SD) (bf : Nat → Int32) (L c : Nat) : Option (og_SD × Nat) := q_if (q_letter (q_at bf L c)) (v_nx s (v_li (q_at bf L c)) (v_sum bf L (v_op s.1 bf L 6) (c + 2) 0)) none
noncomputable def v_all (bf : Nat → Int32) (L : Nat) : Nat → og_SD → Nat → Nat → og_SD × Nat
  | 0, s, _, dn => (s, dn)
  | m + 1, s, c, dn => q_if (c < L) (match v_next s bf L c with
    | none => (s, dn)
    | some q => v_all bf L m q.1 q.2 (dn + 1)) (s, dn)
set_option maxRecDepth 4000 in
theorem c_X0_carryOutNext (E : og_E) (d n : Nat) (h : og_H) {h0 : og_H} {n0 : Nat} {D : q_D} {c : Nat} {p : Int32} (w : og_DK h0 n0 n h (d_wCa D (nI c) p)) (hcL : c < d_tl D) :
    og_M E yX0_carryOutNext (.code yX0_carryOutNext cX0_carryOutNext 3 (some .boolean)) (d + 35) [.ref 72, .ref 4] n h 0 0 (fun v n1 h1 => n1 = n ∧ ((v = some (.int 0) ∧ v_next (d_st D) (d_tb D) (d_tl D) c = none ∧ ∃ cu pr, og_DK h0 n0 n h1 (d_wCa D cu pr)) ∨ (v = some (.int 1) ∧ ∃ s2 c2 p2, v_next (d_st D) (d_tb D) (d_tl D) c = some (s2, c2) ∧ c2 ≤ 107 ∧ og_DK h0 n0 n h1 (d_wCa (d_wSt D s2) (nI c2) p2)))) no_x := by
  have hL : d_tl D ≤ 100 := w.ok.2.2.2.1
  refine og_start (lv := [some (.ref 72), some (.ref 4), none]) (by decide) rfl rfl (Nat.le_of_ble_eq_true rfl) fun X hr hnm htb => ?_
  have e72 : h 72 = some (og_ca (nI c) p) := w.c72
  have e70 : h 70 = some (og_tx (d_tl D) (d_td D)) := w.t70
  refine og_aload_n (pc := 0) dX0_carryOutNext_0 rfl ?_
  refine og_get (pc := 1) F_X0_37 dX0_carryOutNext_1 (by repeat (first | exact og_set_eq _ _ _ | assumption | refine (og_set_ne _ _ (by first | assumption | omega)).trans ?_)) (by omega) rfl ?_
  refine og_aload_n (pc := 4) dX0_carryOutNext_4 rfl ?_
  refine og_get (pc := 5) F_X0_30 dX0_carryOutNext_5 (by repeat (first | exact og_set_eq _ _ _ | assumption | refine (og_set_ne _ _ (by first | assumption | omega)).trans ?_)) (by omega) rfl ?_
  refine og_callV (pc := 8) (As := [.int (nI c)]) (rest := []) (c_X5_at E d n (d_tl D) (d_td D) c h (d_tb D) e70 w.t71 hL (by omega)) Y_X5_at I_X5_at V_X5_at e70 (by omega) rfl rfl K_X0_48 dX0_carryOutNext_8 rfl rfl (Nat.le_of_ble_eq_true rfl) (by omega) (by omega) (by omega) (fun _ _ _ z => z) (fun v n1 h1 z => ?_)
  obtain ⟨rfl, hn, hh⟩ := z
  subst hn hh
  refine og_bipush (pc := 11) (v := 97) dX0_carryOutNext_11 (by decide) ?_
  refine og_isub (pc := 13) dX0_carryOutNext_13 ?_
  refine og_istore_n_2 (pc := 14) dX0_carryOutNext_14 rfl ?_
  refine og_aload_n (pc := 15) dX0_carryOutNext_15 rfl ?_
  refine og_dup (pc := 16) dX0_carryOutNext_16 rfl ?_
  refine og_get (pc := 17) F_X0_30 dX0_carryOutNext_17 (by repeat (first | exact og_set_eq _ _ _ | assumption | refine (og_set_ne _ _ (by first | assumption | omega)).trans ?_)) (by omega) rfl ?_
  refine og_iconst (pc := 20) (v := 2) dX0_carryOutNext_20 (by decide) ?_
  refine og_iadd (pc := 21) dX0_carryOutNext_21 ?_
  rw [show nI c + 2 = nI (c + 2) from nI_add c 2]
  have w1 := w.cal (nI (c + 2)) p
  have e72 : og_set h1 72 (og_ca (nI (c + 2)) p) 72 = some (og_ca (nI (c + 2)) p) := og_set_eq _ _ _
  refine og_put (pc := 22) P_X0_30 dX0_carryOutNext_22 (by repeat (first | exact og_set_eq _ _ _ | assumption | refine (og_set_ne _ _ (by first | assumption | omega)).trans ?_)) (by omega) rfl rfl (Nat.le_of_ble_eq_true rfl) ?_
  refine og_aload_n (pc := 25) dX0_carryOutNext_25 rfl ?_
  refine og_iconst (pc := 26) (v := 0) dX0_carryOutNext_26 (by decide) ?_
  refine og_put (pc := 27) P_X0_34 dX0_carryOutNext_27 e72 (by omega) rfl rfl (Nat.le_of_ble_eq_true rfl) ?_
  rw [og_set_set]
  have w2 := w.cal (nI (c + 2)) 0
  refine og_abs (P := fun g => og_DK h0 n0 n1 g (d_wCa D (nI (c + 2)) 0)) w2 fun g w3 => ?_
  have e72 : g 72 = some (og_ca (nI (c + 2)) 0) := w3.c72
  have no : ∀ (g2 : og_H) (cu pr : Int32), og_DK h0 n0 n1 g2 (d_wCa D cu pr) → v_next (d_st D) (d_tb D) (d_tl D) c = none → og_G E yX0_carryOutNext.cls cX0_carryOutNext (d + 35) 0 0 3 X (og_Q E (fun v n9 h9 => n9 = n1 ∧ ((v = some (.int 0) ∧ v_next (d_st D) (d_tb D) (d_tl D) c = none ∧ ∃ cu pr, og_DK h0 n0 n1 h9 (d_wCa D cu pr)) ∨ (v = some (.int 1) ∧ ∃ s2 c2 p2, v_next (d_st D) (d_tb D) (d_tl D) c = some (s2, c2) ∧ c2 ≤ 107 ∧ og_DK h0 n0 n1 h9 (d_wCa (d_wSt D s2) (nI c2) p2)))) no_x 0 0 X) 0 0 n1 g2 49 [some (.ref 72), some (.ref 4), some (.int (q_at (d_tb D) (d_tl D) c - 97))] [] := by
    intro g2 cu pr w9 hno
    refine og_iconst (pc := 49) (v := 0) dX0_carryOutNext_49 (by decide) ?_
    exact og_zret (pc := 50) hr rfl dX0_carryOutNext_50 (by omega) (by omega) ⟨rfl, Or.inl ⟨rfl, hno, cu, pr, w9⟩⟩
  refine og_iload_n (pc := 30) dX0_carryOutNext_30 rfl ?_
  refine og_if_lt (pc := 31) (tgt := 49) dX0_carryOutNext_31 (by decide) (fun q => no _ _ _ w3 ?_) (fun q1 => ?_)
  · refine q_if_f _ _ fun z => ?_
    obtain ⟨l1, l2⟩ := v_li_lt z
    rw [l2] at q
    exact nI_pos (by omega) q
  refine og_iload_n (pc := 34) dX0_carryOutNext_34 rfl ?_
  refine og_bipush (pc := 35) (v := 8) dX0_carryOutNext_35 (by decide) ?_
  refine og_icmp_ge (pc := 37) (tgt := 49) dX0_carryOutNext_37 (by decide) (fun q => no _ _ _ w3 ?_) (fun q2 => ?_)
  · refine q_if_f _ _ fun z => ?_
    obtain ⟨l1, l2⟩ := v_li_lt z
    rw [l2] at q
    exact absurd q (nI_ge (a := v_li (q_at (d_tb D) (d_tl D) c)) (b := 8) (by omega) (by omega))
  obtain ⟨r, hr8, er⟩ := q_e8_nat q1 (og_nle q2)
  obtain ⟨z, el⟩ := v_li_of hr8 er
  have sem : v_next (d_st D) (d_tb D) (d_tl D) c = v_nx (d_st D) r (v_sum (d_tb D) (d_tl D) (v_op (d_st D).1 (d_tb D) (d_tl D) 6) (c + 2) 0) := by rw [v_next, q_if_t _ _ z, el]
  refine og_aload_n (pc := 40) dX0_carryOutNext_40 rfl ?_
  refine og_aload_n (pc := 41) dX0_carryOutNext_41 rfl ?_
  refine og_iconst (pc := 42) (v := 0) dX0_carryOutNext_42 (by decide) ?_
  refine og_callV (pc := 43) (As := [.ref 4, .int (nI 0)]) (rest := []) (v_sumAll E d (D := D) hL 6 0 rfl n1 g (c + 2) 0 w3 (by omega)) Y_X0_workSum I_X0_workSum V_X0_workSum e72 (by omega) rfl rfl K_X0_52 dX0_carryOutNext_43 rfl rfl (Nat.le_of_ble_eq_true rfl) (by omega) (by omega) (by omega) (fun _ _ _ z => z) (fun v n2 h2 z => ?_)
  obtain ⟨hn, y⟩ := z
  subst hn
  rcases y with ⟨rfl, y1, cu, pr, y2⟩ | ⟨rfl, t, y1, y2, y3, y4⟩
  · refine og_if_ne (pc := 46) (tgt := 51) dX0_carryOutNext_46 (by decide) (fun q => absurd rfl q) (fun _ => ?_)
    exact no _ _ _ y2 (by rw [sem, y1]; rfl)
  refine og_if_ne (pc := 46) (tgt := 51) dX0_carryOutNext_46 (by decide) (fun _ => ?_) (fun q => absurd q (by decide))
  have ht := v_sum_le (B := 106) (by omega) (fun c p q hq => Nat.le_trans (v_op_le _ _ _ _ _ _ _ hq) (by omega)) y1
  have e72 : h2 72 = some (og_ca (nI t.2.1) t.2.2) := y2.c72
  have w5 := y2.cal (nI (t.2.1 + 1)) t.2.2
  have e74 : h2 (74 + 0) = some (rowL t.1) := y3
  rw [er]
  refine og_aload_n (pc := 51) dX0_carryOutNext_51 rfl ?_
  refine og_dup (pc := 52) dX0_carryOutNext_52 rfl ?_
  refine og_get (pc := 53) F_X0_30 dX0_carryOutNext_53 (by repeat (first | exact og_set_eq _ _ _ | assumption | refine (og_set_ne _ _ (by first | assumption | omega)).trans ?_)) (by omega) rfl ?_
  refine og_iconst (pc := 56) (v := 1) dX0_carryOutNext_56 (by decide) ?_
  refine og_iadd (pc := 57) dX0_carryOutNext_57 ?_
  rw [nI_1]
  refine og_put (pc := 58) P_X0_30 dX0_carryOutNext_58 (by repeat (first | exact og_set_eq _ _ _ | assumption | refine (og_set_ne _ _ (by first | assumption | omega)).trans ?_)) (by omega) rfl rfl (Nat.le_of_ble_eq_true rfl) ?_
  refine og_abs (P := fun g => og_DK h0 n0 n2 g (d_wCa D (nI (t.2.1 + 1)) t.2.2) ∧ g (74 + 0) = some (rowL t.1)) ⟨w5, (og_set_ne _ _ (by omega)).trans e74⟩ fun g ⟨w6, e74⟩ => ?_
  have e72 : g 72 = some (og_ca (nI (t.2.1 + 1)) t.2.2) := w6.c72
  have e73 := w6.g73
  have e4 : g 4 = some (og_so 4 (d_st D)) := w6.e4
  have e5 := w6.e5
  have eR : g (4 + 2 + r) = some (rowL (d_R D r)) := w6.r hr8
  refine og_aload_n (pc := 61) dX0_carryOutNext_61 rfl ?_
  refine og_get (pc := 62) F_X0_15 dX0_carryOutNext_62 (by repeat (first | exact og_set_eq _ _ _ | assumption | refine (og_set_ne _ _ (by first | assumption | omega)).trans ?_)) (by omega) rfl ?_
  refine og_iconst (pc := 65) (v := 0) dX0_carryOutNext_65 (by decide) ?_
  refine og_aaldN (pc := 66) (j := 0) rfl dX0_carryOutNext_66 (by repeat (first | exact og_set_eq _ _ _ | assumption | refine (og_set_ne _ _ (by first | assumption | omega)).trans ?_)) (by omega) (by decide) (by decide) (by omega) (by first | decide | assumption | omega) (q_g74 (show 0 < 7 by omega)) ?_
  refine og_aload_n (pc := 67) dX0_carryOutNext_67 rfl ?_
  refine og_get (pc := 68) F_X0_56 dX0_carryOutNext_68 (by repeat (first | exact og_set_eq _ _ _ | assumption | refine (og_set_ne _ _ (by first | assumption | omega)).trans ?_)) (by omega) rfl ?_
  refine og_iload_n (pc := 71) dX0_carryOutNext_71 rfl ?_
  refine og_aaldN (pc := 72) rfl dX0_carryOutNext_72 (by repeat (first | exact og_set_eq _ _ _ | assumption | refine (og_set_ne _ _ (by first | assumption | omega)).trans ?_)) (by omega) (by decide) (by decide) (by omega) (by first | decide | assumption | omega) (q_g8 hr8) ?_
  refine og_callS (pc := 73) (As := [.ref (74 + 0), .ref (4 + 2 + r)]) (rest := []) (c_X3_copy E d n2 (74 + 0) (4 + 2 + r) g _ _ e74 eR (by omega) (by omega) (by omega)) Y_X3_copy S_X3_copy K_X0_61 dX0_carryOutNext_73 rfl rfl (Nat.le_of_ble_eq_true rfl) (by omega) (by omega) (by omega) (fun _ _ _ z => z) (fun v n3 h3 z => ?_)
  obtain ⟨rfl, hn, hh⟩ := z
  subst hn
  have w7 := w6.reg t.1 hr8
  rw [← hh] at w7
  clear hh
  have e72 : h3 72 = some (og_ca (nI (t.2.1 + 1)) t.2.2) := w7.c72
  have e4 : h3 4 = some (og_so 4 (q_upR (d_st D).1 r t.1, (d_st D).2)) := w7.e4
  refine og_aload_n (pc := 76) dX0_carryOutNext_76 rfl ?_
  refine og_dup (pc := 77) dX0_carryOutNext_77 rfl ?_
  refine og_get (pc := 78) F_X0_65 dX0_carryOutNext_78 (by repeat (first | exact og_set_eq _ _ _ | assumption | refine (og_set_ne _ _ (by first | assumption | omega)).trans ?_)) (by omega) rfl ?_
  refine og_aload_n (pc := 81) dX0_carryOutNext_81 rfl ?_
  refine og_get (pc := 82) F_X0_34 dX0_carryOutNext_82 (by repeat (first | exact og_set_eq _ _ _ | assumption | refine (og_set_ne _ _ (by first | assumption | omega)).trans ?_)) (by omega) rfl ?_
  refine og_iadd (pc := 85) dX0_carryOutNext_85 ?_
  refine og_put (pc := 86) P_X0_65 dX0_carryOutNext_86 (by repeat (first | exact og_set_eq _ _ _ | assumption | refine (og_set_ne _ _ (by first | assumption | omega)).trans ?_)) (by omega) rfl rfl (Nat.le_of_ble_eq_true rfl) ?_
  refine og_iconst (pc := 89) (v := 1) dX0_carryOutNext_89 (by decide) ?_
  have w8 := w7.obj (d_st D).2.1 ((d_st D).2.2.1 + t.2.2) (d_st D).2.2.2 w.ok.1
  exact og_zret (pc := 90) hr rfl dX0_carryOutNext_90 (by omega) (by omega) ⟨rfl, Or.inr ⟨rfl, (q_upR (d_st D).1 r t.1, (d_st D).2.1, (d_st D).2.2.1 + t.2.2, (d_st D).2.2.2), t.2.1 + 1, t.2.2, by rw [sem, y1]; rfl, by omega, w8⟩⟩
set_option maxRecDepth 4000 in
theorem c_X0_carryOutAll (E : og_E) (d n : Nat) (h : og_H) {h0 : og_H} {n0 : Nat} {D : q_D} (w : og_DK h0 n0 n h D) :
    og_M E yX0_carryOutAll (.code yX0_carryOutAll cX0_carryOutAll 3 (some .int)) (d + 36) [.ref 72, .ref 4] n h 0 0 (fun v n1 h1 => n1 = n ∧ v = some (.int (nI (v_all (d_tb D) (d_tl D) 100 (d_st D) 0 0).2)) ∧ ∃ cu pr, og_DK h0 n0 n h1 (d_wCa (d_wSt D (v_all (d_tb D) (d_tl D) 100 (d_st D) 0 0).1) cu pr)) no_x := by
  have hL : d_tl D ≤ 100 := w.ok.2.2.2.1
  refine og_start (lv := [some (.ref 72), some (.ref 4), none]) (by decide) rfl rfl (Nat.le_of_ble_eq_true rfl) fun X hr hnm htb => ?_
  have e72 : h 72 = some (og_ca (d_cu D) (d_pr D)) := w.c72
  refine og_aload_n (pc := 0) dX0_carryOutAll_0 rfl ?_
  refine og_iconst (pc := 1) (v := 0) dX0_carryOutAll_1 (by decide) ?_
  refine og_put (pc := 2) P_X0_30 dX0_carryOutAll_2 (by repeat (first | exact og_set_eq _ _ _ | assumption | refine (og_set_ne _ _ (by first | assumption | omega)).trans ?_)) (by omega) rfl rfl (Nat.le_of_ble_eq_true rfl) ?_
  refine og_iconst (pc := 5) (v := 0) dX0_carryOutAll_5 (by decide) ?_
  refine og_istore_n_2 (pc := 6) dX0_carryOutAll_6 rfl ?_
  have loop : ∀ m i : Nat, i + m = 100 → ∀ (s : og_SD) (c : Nat) (p : Int32) (g : og_H), v_all (d_tb D) (d_tl D) 100 (d_st D) 0 0 = v_all (d_tb D) (d_tl D) m s c i → c ≤ 107 → og_DK h0 n0 n g (d_wCa (d_wSt D s) (nI c) p) → og_G E yX0_carryOutAll.cls cX0_carryOutAll (d + 36) 0 0 3 X (og_Q E (fun v n1 h1 => n1 = n ∧ v = some (.int (nI (v_all (d_tb D) (d_tl D) 100 (d_st D) 0 0).2)) ∧ ∃ cu pr, og_DK h0 n0 n h1 (d_wCa (d_wSt D (v_all (d_tb D) (d_tl D) 100 (d_st D) 0 0).1) cu pr)) no_x 0 0 X) 0 0 n g 7 [some (.ref 72), some (.ref 4), some (.int (nI i))] [] := by
    intro m
    induction m with
    | zero =>
      intro i hi s c p g hq hc w2
      have ei : i = 100 := by omega
      subst ei
      refine og_iload_n (pc := 7) dX0_carryOutAll_7 rfl ?_
      refine og_bipush (pc := 8) (v := 100) dX0_carryOutAll_8 (by decide) ?_
      refine og_geN (pc := 10) (tgt := 43) (i := 100) (N := 100) dX0_carryOutAll_10 (by decide) rfl rfl (by omega) (by omega) (fun c_10 => ?_) (fun c_10 => ?_)
      · refine og_iload_n (pc := 43) dX0_carryOutAll_43 rfl ?_
        exact og_iret (pc := 44) hr dX0_carryOutAll_44 (by omega) (by omega) ⟨rfl, by rw [hq]; rfl, _, _, by rw [hq]; exact w2⟩
      · omega
    | succ m ih =>
      intro i hi s c p g hq hc w2
      have e72 : g 72 = some (og_ca (nI c) p) := w2.c72
      have e70 : g 70 = some (og_tx (d_tl D) (d_td D)) := w2.t70
      refine og_iload_n (pc := 7) dX0_carryOutAll_7 rfl ?_
      refine og_bipush (pc := 8) (v := 100) dX0_carryOutAll_8 (by decide) ?_
      refine og_geN (pc := 10) (tgt := 43) (i := i) (N := 100) dX0_carryOutAll_10 (by decide) rfl rfl (by omega) (by omega) (fun c_10 => ?_) (fun c_10 => ?_)
      · omega
      refine og_aload_n (pc := 13) dX0_carryOutAll_13 rfl ?_
      refine og_get (pc := 14) F_X0_30 dX0_carryOutAll_14 (by repeat (first | exact og_set_eq _ _ _ | assumption | refine (og_set_ne _ _ (by first | assumption | omega)).trans ?_)) (by omega) rfl ?_
      refine og_aload_n (pc := 17) dX0_carryOutAll_17 rfl ?_
      refine og_get (pc := 18) F_X0_37 dX0_carryOutAll_18 (by repeat (first | exact og_set_eq _ _ _ | assumption | refine (og_set_ne _ _ (by first | assumption | omega)).trans ?_)) (by omega) rfl ?_
      refine og_get (pc := 21) F_X0_41 dX0_carryOutAll_21 (by repeat (first | exact og_set_eq _ _ _ | assumption | refine (og_set_ne _ _ (by first | assumption | omega)).trans ?_)) (by omega) rfl ?_
      refine og_geN (pc := 24) (tgt := 43) (i := c) (N := (d_tl D)) dX0_carryOutAll_24 (by decide) rfl rfl (by omega) (by omega) (fun c_24 => ?_) (fun c_24 => ?_)
      · have hz : v_all (d_tb D) (d_tl D) (m + 1) s c i = (s, i) := q_if_f _ _ (by omega)
        refine og_iload_n (pc := 43) dX0_carryOutAll_43 rfl ?_
        exact og_iret (pc := 44) hr dX0_carryOutAll_44 (by omega) (by omega) ⟨rfl, by rw [hq, hz], _, _, by rw [hq, hz]; exact w2⟩
      have hcL : c < d_tl D := by assumption
      have hz : v_all (d_tb D) (d_tl D) (m + 1) s c i = (match v_next s (d_tb D) (d_tl D) c with
        | none => (s, i)
        | some q => v_all (d_tb D) (d_tl D) m q.1 q.2 (i + 1)) := by
        rw [v_all, q_if_t _ _ hcL]
      have hq := hq.trans hz
      refine og_aload_n (pc := 27) dX0_carryOutAll_27 rfl ?_
      refine og_aload_n (pc := 28) dX0_carryOutAll_28 rfl ?_
      refine og_callV (pc := 29) (As := [.ref 4]) (rest := []) (c_X0_carryOutNext E d n g (D := d_wSt D s) w2 hcL) Y_X0_carryOutNext I_X0_carryOutNext V_X0_carryOutNext e72 (by omega) rfl rfl K_X0_44 dX0_carryOutAll_29 rfl rfl (Nat.le_of_ble_eq_true rfl) (by omega) (by omega) (by omega) (fun _ _ _ z => z) (fun v n2 h2 z => ?_)
      obtain ⟨hn, y⟩ := z
      subst hn
      rcases y with ⟨rfl, y1, cu, pr, y2⟩ | ⟨rfl, s2, c2, p2, y1, y2, y3⟩
      · refine og_if_ne (pc := 32) (tgt := 37) dX0_carryOutAll_32 (by decide) (fun q => absurd rfl q) (fun _ => ?_)
        have y1 : v_next s (d_tb D) (d_tl D) c = none := y1
        rw [y1] at hq
        refine og_iload_n (pc := 35) dX0_carryOutAll_35 rfl ?_
        exact og_iret (pc := 36) hr dX0_carryOutAll_36 (by omega) (by omega) ⟨rfl, by rw [hq], cu, pr, by rw [hq]; exact y2⟩
      · refine og_if_ne (pc := 32) (tgt := 37) dX0_carryOutAll_32 (by decide) (fun _ => ?_) (fun q => absurd q (by decide))
        have y1 : v_next s (d_tb D) (d_tl D) c = some (s2, c2) := y1
        rw [y1] at hq
        refine og_iinc_2 (pc := 37) dX0_carryOutAll_37 (og_inc i) rfl ?_
        refine og_goto (pc := 40) (tgt := 7) dX0_carryOutAll_40 (by decide) ?_
        exact ih (i + 1) (by omega) s2 c2 p2 _ hq y2 y3
  exact loop 100 0 rfl (d_st D) 0 (d_pr D) _ rfl (by omega) (w.cal 0 (d_pr D))
set_option maxRecDepth 4000 in
theorem c_X7_carryOut (E : og_E) (d n : Nat) (h : og_H) {h0 : og_H} {n0 : Nat} {D : q_D} (w : og_DK h0 n0 n h D) :
    og_M E yX7_carryOut (.code yX7_carryOut cX7_carryOut 2 (some .int)) (d + 37) [.ref 3] n h 0 0 (fun v n1 h1 => n1 = n ∧ ∃ dp, ((∃ i, i < d_tl D ∧ (∃ q, q_syn (d_tb D) i = some q) ∧ q_syn (d_tb D) (i + 1) = none ∧ v = some (.int (-10 - nI i)) ∧ og_DK h0 n0 n1 h1 (d_wTx D (d_tl D) dp)) ∨ (∃ s dp2, s ≠ 0 ∧ q_syn (d_tb D) (d_tl D) = some (s, dp2) ∧ v = some (.int (-10 - nI (d_tl D))) ∧ og_DK h0 n0 n1 h1 (d_wTx D (d_tl D) dp)) ∨ (∃ dp2 cu pr, q_syn (d_tb D) (d_tl D) = some (0, dp2) ∧ v = some (.int (nI (v_all (d_tb D) (d_tl D) 100 (d_st D) 0 0).2)) ∧ og_DK h0 n0 n1 h1 (d_wCa (d_wSt (q_save (d_wTx D (d_tl D) dp)) (v_all (d_tb D) (d_tl D) 100 (d_st D) 0 0).1) cu pr)))) no_x := by
  have hL : d_tl D ≤ 100 := w.ok.2.2.2.1
  refine og_start (lv := [some (.ref 3), none]) (by decide) rfl rfl (Nat.le_of_ble_eq_true rfl) fun X hr hnm htb => ?_
  have e3 := w.d3
  have e70 := w.t70
  refine og_aload_n (pc := 0) dX7_carryOut_0 rfl ?_
  refine og_get (pc := 1) F_X7_40 dX7_carryOut_1 (by repeat (first | exact og_set_eq _ _ _ | assumption | refine (og_set_ne _ _ (by first | assumption | omega)).trans ?_)) (by omega) rfl ?_
  refine og_callV (pc := 4) (As := []) (rest := []) (c_X5_syntaxError E d n (d_tl D) (d_td D) h (d_tb D) e70 w.t71 hL) Y_X5_syntaxError I_X5_syntaxError V_X5_syntaxError e70 (by omega) rfl rfl K_X7_240 dX7_carryOut_4 rfl rfl (Nat.le_of_ble_eq_true rfl) (by omega) (by omega) (by omega) (fun _ _ _ z => z) (fun v n1 h1 z => ?_)
  obtain ⟨hn, ⟨dp, hdp, hh⟩, z⟩ := z
  subst hn hh
  have w2 := w.txt (d_tl D) dp hL hdp
  have bad : ∀ i, i ≤ d_tl D → ¬ nI i = -1 := fun i hi q => nI_pos (n := i) (by omega) (by rw [q]; decide)
  rcases z with ⟨i, z1, z2, z3, rfl⟩ | ⟨dp2, z1, rfl⟩ | ⟨s, dp2, z1, z2, rfl⟩
  · refine og_istore_n_1 (pc := 7) dX7_carryOut_7 rfl ?_
    refine og_iload_n (pc := 8) dX7_carryOut_8 rfl ?_
    refine og_iconst (pc := 9) (v := (-1)) dX7_carryOut_9 (by decide) ?_
    refine og_icmp_eq (pc := 10) (tgt := 18) dX7_carryOut_10 (by decide) (fun q => absurd q (bad i (by omega))) (fun _ => ?_)
    refine og_bipush (pc := 13) (v := (-10)) dX7_carryOut_13 (by decide) ?_
    refine og_iload_n (pc := 15) dX7_carryOut_15 rfl ?_
    refine og_isub (pc := 16) dX7_carryOut_16 ?_
    exact og_iret (pc := 17) hr dX7_carryOut_17 (by omega) (by omega) ⟨rfl, dp, Or.inl ⟨i, z1, z2, z3, rfl, w2⟩⟩
  · refine og_istore_n_1 (pc := 7) dX7_carryOut_7 rfl ?_
    refine og_iload_n (pc := 8) dX7_carryOut_8 rfl ?_
    refine og_iconst (pc := 9) (v := (-1)) dX7_carryOut_9 (by decide) ?_
    refine og_icmp_eq (pc := 10) (tgt := 18) dX7_carryOut_10 (by decide) (fun _ => ?_) (fun q => absurd rfl q)
    refine og_aload_n (pc := 18) dX7_carryOut_18 rfl ?_
    refine og_callV (pc := 19) (As := []) (rest := []) (c_X7_saveState E d n1 _ w2) Y_X7_saveState I_X7_saveState V_X7_saveState w2.d3 (by omega) rfl rfl K_X7_75 dX7_carryOut_19 rfl rfl (Nat.le_of_ble_eq_true rfl) (by omega) (by omega) (by omega) (fun _ _ _ z => z) (fun v n2 h2 z => ?_)
    obtain ⟨rfl, hn, w3, -⟩ := z
    subst hn
    have e3 := w3.d3
    have e72 := w3.c72
    refine og_aload_n (pc := 22) dX7_carryOut_22 rfl ?_
    refine og_get (pc := 23) F_X7_49 dX7_carryOut_23 (by repeat (first | exact og_set_eq _ _ _ | assumption | refine (og_set_ne _ _ (by first | assumption | omega)).trans ?_)) (by omega) rfl ?_
    refine og_aload_n (pc := 26) dX7_carryOut_26 rfl ?_
    refine og_get (pc := 27) F_X7_10 dX7_carryOut_27 (by repeat (first | exact og_set_eq _ _ _ | assumption | refine (og_set_ne _ _ (by first | assumption | omega)).trans ?_)) (by omega) rfl ?_
    have hst : d_st (q_save (d_wTx D (d_tl D) dp)) = d_st D := q_save_st _
    have htb2 : d_tb (q_save (d_wTx D (d_tl D) dp)) = d_tb D := by unfold q_save; split <;> rfl
    have htl2 : d_tl (q_save (d_wTx D (d_tl D) dp)) = d_tl D := by unfold q_save; split <;> rfl
    refine og_callV (pc := 30) (As := [.ref 4]) (rest := []) (c_X0_carryOutAll E d n2 h2 w3) Y_X0_carryOutAll I_X0_carryOutAll V_X0_carryOutAll e72 (by omega) rfl rfl K_X7_243 dX7_carryOut_30 rfl rfl (Nat.le_of_ble_eq_true rfl) (by omega) (by omega) (by omega) (fun _ _ _ z => z) (fun v n3 h3 z => ?_)
    obtain ⟨hn, rfl, cu, pr, w4⟩ := z
    subst hn
    rw [hst, htb2, htl2] at w4
    exact og_iret (pc := 33) hr dX7_carryOut_33 (by omega) (by omega) ⟨rfl, dp, Or.inr (Or.inr ⟨dp2, cu, pr, z1, by rw [hst, htb2, htl2], w4⟩)⟩
  · refine og_istore_n_1 (pc := 7) dX7_carryOut_7 rfl ?_
    refine og_iload_n (pc := 8) dX7_carryOut_8 rfl ?_
    refine og_iconst (pc := 9) (v := (-1)) dX7_carryOut_9 (by decide) ?_
    refine og_icmp_eq (pc := 10) (tgt := 18) dX7_carryOut_10 (by decide) (fun q => absurd q (bad (d_tl D) (by omega))) (fun _ => ?_)
    refine og_bipush (pc := 13) (v := (-10)) dX7_carryOut_13 (by decide) ?_
    refine og_iload_n (pc := 15) dX7_carryOut_15 rfl ?_
    refine og_isub (pc := 16) dX7_carryOut_16 ?_
    exact og_iret (pc := 17) hr dX7_carryOut_17 (by omega) (by omega) ⟨rfl, dp, Or.inr (Or.inl ⟨s, dp2, z1, z2, rfl, w2⟩)⟩
