/-! ===== the desk: load, add, multiply, conjugate, commutator, associator, divide ===== -/
def q_fitx (t : Int32) (f : Nat → Int64) : Prop := ∀ j, j < 8 → q_okc t (f j)
def q_fv (t : Int32) (f : Nat → Int64) : Nat → Int64 := fun j => q_sh t (f j)
theorem d_R_save (D : q_D) (r : Nat) : d_R (q_save D) r = d_R D r := by unfold d_R; rw [q_save_st]
theorem d_o_save (D : q_D) : d_o (q_save D) = d_o D := by unfold d_o; rw [q_save_st]
set_option maxRecDepth 4000 in
theorem c_X7_add (E : og_E) (d n : Nat) (h : og_H) (x y t s : Int32) {h0 : og_H} {n0 : Nat} {D : q_D} (w : og_DK h0 n0 n h D) :
    og_M E yX7_add (.code yX7_add cX7_add 5 (some .long)) (d + 3) [.ref 3, .int x, .int y, .int t, .int s] n h 4 24 (fun v n1 h1 => ∃ i j k, i < 8 ∧ j < 8 ∧ k < 8 ∧ x = nI i ∧ y = nI j ∧ t = nI k ∧ q_fitx 0 (q_total (d_R D i) (d_R D j) s) ∧ v = some (.long (q_inner (q_fv 0 (q_total (d_R D i) (d_R D j) s)) (q_fv 0 (q_total (d_R D i) (d_R D j) s)) 8)) ∧ og_DK h0 n0 n1 h1 (d_reg (q_save D) k (q_fv 0 (q_total (d_R D i) (d_R D j) s)))) (fun En n1 h1 => og_DK h0 n0 n1 h1 D ∧ ((En = q_io ∧ ¬ (q_in8 x ∧ q_in8 y ∧ q_in8 t)) ∨ (En = q_ae ∧ ∃ i j k, i < 8 ∧ j < 8 ∧ k < 8 ∧ x = nI i ∧ y = nI j ∧ t = nI k ∧ ¬ q_fitx 0 (q_total (d_R D i) (d_R D j) s)))) := by
  refine og_start (lv := [some (.ref 3), some (.int x), some (.int y), some (.int t), some (.int s)]) (by decide) rfl rfl (Nat.le_of_ble_eq_true rfl) fun X hr hnm htb => ?_
  refine og_iload_n (pc := 0) dX7_add_0 rfl ?_
  refine og_callSX (pc := 1) (As := [.int x]) (rest := []) (c_X7_needRegister E d n h x) Y_X7_needRegister S_X7_needRegister K_X7_65 dX7_add_1 rfl rfl (Nat.le_of_ble_eq_true rfl) (by omega) (by omega) (by omega) (htb) (by omega) (by omega) (fun En n1 h1 z => ?_) (fun v n1 h1 z => ?_)
  · obtain ⟨rfl, hn, rfl, hb⟩ := z
    exact ⟨w.more hn, Or.inl ⟨rfl, fun q => hb q.1⟩⟩
  obtain ⟨rfl, hn, hh, hx⟩ := z
  subst hn hh
  refine og_iload_n (pc := 4) dX7_add_4 rfl ?_
  refine og_callSX (pc := 5) (As := [.int y]) (rest := []) (c_X7_needRegister E d n1 h1 y) Y_X7_needRegister S_X7_needRegister K_X7_65 dX7_add_5 rfl rfl (Nat.le_of_ble_eq_true rfl) (by omega) (by omega) (by omega) (htb) (by omega) (by omega) (fun En n1 h1 z => ?_) (fun v n2 h2 z => ?_)
  · obtain ⟨rfl, hn, rfl, hb⟩ := z
    exact ⟨w.more hn, Or.inl ⟨rfl, fun q => hb q.2.1⟩⟩
  obtain ⟨rfl, hn, hh, hy⟩ := z
  subst hn hh
  refine og_iload_n (pc := 8) dX7_add_8 rfl ?_
  refine og_callSX (pc := 9) (As := [.int t]) (rest := []) (c_X7_needRegister E d n2 h2 t) Y_X7_needRegister S_X7_needRegister K_X7_65 dX7_add_9 rfl rfl (Nat.le_of_ble_eq_true rfl) (by omega) (by omega) (by omega) (htb) (by omega) (by omega) (fun En n1 h1 z => ?_) (fun v n3 h3 z => ?_)
  · obtain ⟨rfl, hn, rfl, hb⟩ := z
    exact ⟨w.more hn, Or.inl ⟨rfl, fun q => hb q.2.2⟩⟩
  obtain ⟨rfl, hn, hh, ht⟩ := z
  subst hn hh
  obtain ⟨i, hi8, rfl⟩ := hx
  obtain ⟨j, hj8, rfl⟩ := hy
  obtain ⟨k, hk8, rfl⟩ := ht
  have e3 := w.d3
  have e4 := w.e4
  have e5 := w.e5
  obtain ⟨f98, e98⟩ := w.scr 98 (by unfold q_scr; omega)
  refine og_aload_n (pc := 12) dX7_add_12 rfl ?_
  refine og_get (pc := 13) F_X7_10 dX7_add_13 (by repeat (first | exact og_set_eq _ _ _ | assumption | refine (og_set_ne _ _ (by first | assumption | omega)).trans ?_)) (by omega) rfl ?_
  refine og_get (pc := 16) F_X7_78 dX7_add_16 (by repeat (first | exact og_set_eq _ _ _ | assumption | refine (og_set_ne _ _ (by first | assumption | omega)).trans ?_)) (by omega) rfl ?_
  refine og_iload_n (pc := 19) dX7_add_19 rfl ?_
  refine og_aaldN (pc := 20) rfl dX7_add_20 (by repeat (first | exact og_set_eq _ _ _ | assumption | refine (og_set_ne _ _ (by first | assumption | omega)).trans ?_)) (by omega) (by decide) (by decide) (by omega) (by first | decide | assumption | omega) (q_g8 hi8) ?_
  refine og_aload_n (pc := 21) dX7_add_21 rfl ?_
  refine og_get (pc := 22) F_X7_10 dX7_add_22 (by repeat (first | exact og_set_eq _ _ _ | assumption | refine (og_set_ne _ _ (by first | assumption | omega)).trans ?_)) (by omega) rfl ?_
  refine og_get (pc := 25) F_X7_78 dX7_add_25 (by repeat (first | exact og_set_eq _ _ _ | assumption | refine (og_set_ne _ _ (by first | assumption | omega)).trans ?_)) (by omega) rfl ?_
  refine og_iload_n (pc := 28) dX7_add_28 rfl ?_
  refine og_aaldN (pc := 29) rfl dX7_add_29 (by repeat (first | exact og_set_eq _ _ _ | assumption | refine (og_set_ne _ _ (by first | assumption | omega)).trans ?_)) (by omega) (by decide) (by decide) (by omega) (by first | decide | assumption | omega) (q_g8 hj8) ?_
  refine og_iload (pc := 30) dX7_add_30 rfl ?_
  refine og_aload_n (pc := 32) dX7_add_32 rfl ?_
  refine og_get (pc := 33) F_X7_55 dX7_add_33 (by repeat (first | exact og_set_eq _ _ _ | assumption | refine (og_set_ne _ _ (by first | assumption | omega)).trans ?_)) (by omega) rfl ?_
  refine og_callS (pc := 36) (As := [.ref (4 + 2 + i), .ref (4 + 2 + j), .int s, .ref 98]) (rest := []) (c_X3_total E d n3 (4 + 2 + i) (4 + 2 + j) 98 h3 _ _ _ s (w.r hi8) (w.r hj8) e98 (by omega) (by omega) (by omega) (by omega) (by omega)) Y_X3_total S_X3_total K_X7_113 dX7_add_36 rfl rfl (Nat.le_of_ble_eq_true rfl) (by omega) (by omega) (by omega) (fun _ _ _ z => z) (fun v n4 h4 z => ?_)
  obtain ⟨rfl, hn, hh⟩ := z
  subst hn
  have w := w.row (q_total (d_R D i) (d_R D j) s) (show q_scr 98 by unfold q_scr; omega)
  have e98 : h4 98 = some (rowL (q_total (d_R D i) (d_R D j) s)) := by rw [hh]; exact og_set_eq _ _ _
  rw [show og_set _ 98 (rowL (q_total (d_R D i) (d_R D j) s)) = h4 from hh.symm] at w
  clear hh
  have e3 := w.d3
  refine og_aload_n (pc := 39) dX7_add_39 rfl ?_
  refine og_get (pc := 40) F_X7_55 dX7_add_40 (by repeat (first | exact og_set_eq _ _ _ | assumption | refine (og_set_ne _ _ (by first | assumption | omega)).trans ?_)) (by omega) rfl ?_
  refine og_iconst (pc := 43) (v := 0) dX7_add_43 (by decide) ?_
  refine og_callS (pc := 44) (As := [.ref 98, .int 0]) (rest := []) (c_X3_fit E d n4 98 h4 _ 0 e98 (by omega)) Y_X3_fit S_X3_fit K_X7_117 dX7_add_44 rfl rfl (Nat.le_of_ble_eq_true rfl) (by omega) (by omega) (by omega) (fun _ _ _ z => z) (fun v n5 h5 z => ?_)
  obtain ⟨hn, z⟩ := z
  subst hn
  rcases z with ⟨rfl, hok, hh⟩ | ⟨rfl, ⟨m9, hm8, hbad⟩, g9, hh⟩
  rotate_left
  · have w := w.row g9 (show q_scr 98 by unfold q_scr; omega)
    rw [← hh] at w
    refine og_callSX (pc := 47) (As := [.int 0]) (rest := []) (c_X7_needFit E d n5 h5 0) Y_X7_needFit S_X7_needFit K_X7_121 dX7_add_47 rfl rfl (Nat.le_of_ble_eq_true rfl) (by omega) (by omega) (by omega) (htb) (by omega) (by omega) (fun En n1 h1 z => ?_) (fun v n6 h6 z => ?_)
    · obtain ⟨rfl, hn, rfl, hb⟩ := z
      exact ⟨w.more hn, Or.inr ⟨rfl, i, j, k, hi8, hj8, hk8, rfl, rfl, rfl, fun q => hbad (q m9 hm8)⟩⟩
    exact absurd rfl z.2.2.2
  have w := w.row (q_fv 0 (q_total (d_R D i) (d_R D j) s)) (show q_scr 98 by unfold q_scr; omega)
  have e98 : h5 98 = some (rowL (q_fv 0 (q_total (d_R D i) (d_R D j) s))) := by rw [hh]; exact og_set_eq _ _ _
  rw [show og_set _ 98 (rowL (q_fv 0 (q_total (d_R D i) (d_R D j) s))) = h5 from hh.symm] at w
  refine og_callSX (pc := 47) (As := [.int 1]) (rest := []) (c_X7_needFit E d n5 h5 1) Y_X7_needFit S_X7_needFit K_X7_121 dX7_add_47 rfl rfl (Nat.le_of_ble_eq_true rfl) (by omega) (by omega) (by omega) (htb) (by omega) (by omega) (fun En n1 h1 z => ?_) (fun v n6 h6 z => ?_)
  · exact absurd z.2.2.2 (by decide)
  obtain ⟨rfl, hn, hh2, -⟩ := z
  subst hn hh2
  refine og_aload_n (pc := 50) dX7_add_50 rfl ?_
  refine og_callV (pc := 51) (As := []) (rest := []) (c_X7_saveState E d n6 h6 w) Y_X7_saveState I_X7_saveState V_X7_saveState w.d3 (by omega) rfl rfl K_X7_75 dX7_add_51 rfl rfl (Nat.le_of_ble_eq_true rfl) (by omega) (by omega) (by omega) (fun _ _ _ z => z) (fun v n7 h7 z => ?_)
  obtain ⟨rfl, hn, w2, hfr⟩ := z
  subst hn
  have e98 := (hfr 98 (by unfold q_scr; omega)).trans e98
  refine og_aload_n (pc := 54) dX7_add_54 rfl ?_
  refine og_iload_n (pc := 55) dX7_add_55 rfl ?_
  refine og_callV (pc := 56) (As := [.int (nI k)]) (rest := []) (c_X7_put E d n7 k h7 w2 hk8 e98) Y_X7_put I_X7_put V_X7_put w2.d3 (by omega) rfl rfl K_X7_125 dX7_add_56 rfl rfl (Nat.le_of_ble_eq_true rfl) (by omega) (by omega) (by omega) (fun _ _ _ z => z) (fun v n8 h8 z => ?_)
  obtain ⟨rfl, hn, w3⟩ := z
  subst hn
  exact og_lret (pc := 59) hr dX7_add_59 (by omega) (by omega) ⟨i, j, k, hi8, hj8, hk8, rfl, rfl, rfl, hok, rfl, w3⟩
set_option maxRecDepth 4000 in
theorem c_X7_multiply (E : og_E) (d n : Nat) (h : og_H) (x y t : Int32) {h0 : og_H} {n0 : Nat} {D : q_D} (w : og_DK h0 n0 n h D) :
    og_M E yX7_multiply (.code yX7_multiply cX7_multiply 4 (some .long)) (d + 3) [.ref 3, .int x, .int y, .int t] n h 4 24 (fun v n1 h1 => ∃ i j k, i < 8 ∧ j < 8 ∧ k < 8 ∧ x = nI i ∧ y = nI j ∧ t = nI k ∧ q_fitx 1 (q_prod (d_R D i) (d_R D j)) ∧ v = some (.long (q_inner (q_fv 1 (q_prod (d_R D i) (d_R D j))) (q_fv 1 (q_prod (d_R D i) (d_R D j))) 8)) ∧ og_DK h0 n0 n1 h1 (d_reg (d_wSt (q_save D) ((d_st D).1, (d_st D).2.1, (d_st D).2.2.1 + 1, (d_st D).2.2.2)) k (q_fv 1 (q_prod (d_R D i) (d_R D j))))) (fun En n1 h1 => og_DK h0 n0 n1 h1 D ∧ ((En = q_io ∧ ¬ (q_in8 x ∧ q_in8 y ∧ q_in8 t)) ∨ (En = q_ae ∧ ∃ i j k, i < 8 ∧ j < 8 ∧ k < 8 ∧ x = nI i ∧ y = nI j ∧ t = nI k ∧ ¬ q_fitx 1 (q_prod (d_R D i) (d_R D j))))) := by
  refine og_start (lv := [some (.ref 3), some (.int x), some (.int y), some (.int t)]) (by decide) rfl rfl (Nat.le_of_ble_eq_true rfl) fun X hr hnm htb => ?_
  refine og_iload_n (pc := 0) dX7_multiply_0 rfl ?_
  refine og_callSX (pc := 1) (As := [.int x]) (rest := []) (c_X7_needRegister E d n h x) Y_X7_needRegister S_X7_needRegister K_X7_65 dX7_multiply_1 rfl rfl (Nat.le_of_ble_eq_true rfl) (by omega) (by omega) (by omega) (htb) (by omega) (by omega) (fun En n1 h1 z => ?_) (fun v n1 h1 z => ?_)
  · obtain ⟨rfl, hn, rfl, hb⟩ := z
    exact ⟨w.more hn, Or.inl ⟨rfl, fun q => hb q.1⟩⟩
  obtain ⟨rfl, hn, hh, hx⟩ := z
  subst hn hh
  refine og_iload_n (pc := 4) dX7_multiply_4 rfl ?_
  refine og_callSX (pc := 5) (As := [.int y]) (rest := []) (c_X7_needRegister E d n1 h1 y) Y_X7_needRegister S_X7_needRegister K_X7_65 dX7_multiply_5 rfl rfl (Nat.le_of_ble_eq_true rfl) (by omega) (by omega) (by omega) (htb) (by omega) (by omega) (fun En n1 h1 z => ?_) (fun v n2 h2 z => ?_)
  · obtain ⟨rfl, hn, rfl, hb⟩ := z
    exact ⟨w.more hn, Or.inl ⟨rfl, fun q => hb q.2.1⟩⟩
  obtain ⟨rfl, hn, hh, hy⟩ := z
  subst hn hh
  refine og_iload_n (pc := 8) dX7_multiply_8 rfl ?_
  refine og_callSX (pc := 9) (As := [.int t]) (rest := []) (c_X7_needRegister E d n2 h2 t) Y_X7_needRegister S_X7_needRegister K_X7_65 dX7_multiply_9 rfl rfl (Nat.le_of_ble_eq_true rfl) (by omega) (by omega) (by omega) (htb) (by omega) (by omega) (fun En n1 h1 z => ?_) (fun v n3 h3 z => ?_)
  · obtain ⟨rfl, hn, rfl, hb⟩ := z
    exact ⟨w.more hn, Or.inl ⟨rfl, fun q => hb q.2.2⟩⟩
  obtain ⟨rfl, hn, hh, ht⟩ := z
  subst hn hh
  obtain ⟨i, hi8, rfl⟩ := hx
  obtain ⟨j, hj8, rfl⟩ := hy
  obtain ⟨k, hk8, rfl⟩ := ht
  have e3 := w.d3
  have e4 := w.e4
  have e5 := w.e5
  obtain ⟨f98, e98⟩ := w.scr 98 (by unfold q_scr; omega)
  refine og_aload_n (pc := 12) dX7_multiply_12 rfl ?_
  refine og_get (pc := 13) F_X7_10 dX7_multiply_13 (by repeat (first | exact og_set_eq _ _ _ | assumption | refine (og_set_ne _ _ (by first | assumption | omega)).trans ?_)) (by omega) rfl ?_
  refine og_get (pc := 16) F_X7_78 dX7_multiply_16 (by repeat (first | exact og_set_eq _ _ _ | assumption | refine (og_set_ne _ _ (by first | assumption | omega)).trans ?_)) (by omega) rfl ?_
  refine og_iload_n (pc := 19) dX7_multiply_19 rfl ?_
  refine og_aaldN (pc := 20) rfl dX7_multiply_20 (by repeat (first | exact og_set_eq _ _ _ | assumption | refine (og_set_ne _ _ (by first | assumption | omega)).trans ?_)) (by omega) (by decide) (by decide) (by omega) (by first | decide | assumption | omega) (q_g8 hi8) ?_
  refine og_aload_n (pc := 21) dX7_multiply_21 rfl ?_
  refine og_get (pc := 22) F_X7_10 dX7_multiply_22 (by repeat (first | exact og_set_eq _ _ _ | assumption | refine (og_set_ne _ _ (by first | assumption | omega)).trans ?_)) (by omega) rfl ?_
  refine og_get (pc := 25) F_X7_78 dX7_multiply_25 (by repeat (first | exact og_set_eq _ _ _ | assumption | refine (og_set_ne _ _ (by first | assumption | omega)).trans ?_)) (by omega) rfl ?_
  refine og_iload_n (pc := 28) dX7_multiply_28 rfl ?_
  refine og_aaldN (pc := 29) rfl dX7_multiply_29 (by repeat (first | exact og_set_eq _ _ _ | assumption | refine (og_set_ne _ _ (by first | assumption | omega)).trans ?_)) (by omega) (by decide) (by decide) (by omega) (by first | decide | assumption | omega) (q_g8 hj8) ?_
  refine og_aload_n (pc := 30) dX7_multiply_30 rfl ?_
  refine og_get (pc := 31) F_X7_55 dX7_multiply_31 (by repeat (first | exact og_set_eq _ _ _ | assumption | refine (og_set_ne _ _ (by first | assumption | omega)).trans ?_)) (by omega) rfl ?_
  refine og_callS (pc := 34) (As := [.ref (4 + 2 + i), .ref (4 + 2 + j), .ref 98]) (rest := []) (c_X3_product E d n3 (4 + 2 + i) (4 + 2 + j) 98 h3 _ _ _ w.tr (w.r hi8) (w.r hj8) e98 (by omega) (by omega) (by omega) (by omega) (by omega)) Y_X3_product S_X3_product K_X7_129 dX7_multiply_34 rfl rfl (Nat.le_of_ble_eq_true rfl) (by omega) (by omega) (by omega) (fun _ _ _ z => z) (fun v n4 h4 z => ?_)
  obtain ⟨rfl, hn, hh⟩ := z
  subst hn
  have w := w.row (q_prod (d_R D i) (d_R D j)) (show q_scr 98 by unfold q_scr; omega)
  have e98 : h4 98 = some (rowL (q_prod (d_R D i) (d_R D j))) := by rw [hh]; exact og_set_eq _ _ _
  rw [show og_set _ 98 (rowL (q_prod (d_R D i) (d_R D j))) = h4 from hh.symm] at w
  clear hh
  have e3 := w.d3
  refine og_aload_n (pc := 37) dX7_multiply_37 rfl ?_
  refine og_get (pc := 38) F_X7_55 dX7_multiply_38 (by repeat (first | exact og_set_eq _ _ _ | assumption | refine (og_set_ne _ _ (by first | assumption | omega)).trans ?_)) (by omega) rfl ?_
  refine og_iconst (pc := 41) (v := 1) dX7_multiply_41 (by decide) ?_
  refine og_callS (pc := 42) (As := [.ref 98, .int 1]) (rest := []) (c_X3_fit E d n4 98 h4 _ 1 e98 (by omega)) Y_X3_fit S_X3_fit K_X7_117 dX7_multiply_42 rfl rfl (Nat.le_of_ble_eq_true rfl) (by omega) (by omega) (by omega) (fun _ _ _ z => z) (fun v n5 h5 z => ?_)
  obtain ⟨hn, z⟩ := z
  subst hn
  rcases z with ⟨rfl, hok, hh⟩ | ⟨rfl, ⟨m9, hm8, hbad⟩, g9, hh⟩
  rotate_left
  · have w := w.row g9 (show q_scr 98 by unfold q_scr; omega)
    rw [← hh] at w
    refine og_callSX (pc := 45) (As := [.int 0]) (rest := []) (c_X7_needFit E d n5 h5 0) Y_X7_needFit S_X7_needFit K_X7_121 dX7_multiply_45 rfl rfl (Nat.le_of_ble_eq_true rfl) (by omega) (by omega) (by omega) (htb) (by omega) (by omega) (fun En n1 h1 z => ?_) (fun v n6 h6 z => ?_)
    · obtain ⟨rfl, hn, rfl, hb⟩ := z
      exact ⟨w.more hn, Or.inr ⟨rfl, i, j, k, hi8, hj8, hk8, rfl, rfl, rfl, fun q => hbad (q m9 hm8)⟩⟩
    exact absurd rfl z.2.2.2
  have w := w.row (q_fv 1 (q_prod (d_R D i) (d_R D j))) (show q_scr 98 by unfold q_scr; omega)
  have e98 : h5 98 = some (rowL (q_fv 1 (q_prod (d_R D i) (d_R D j)))) := by rw [hh]; exact og_set_eq _ _ _
  rw [show og_set _ 98 (rowL (q_fv 1 (q_prod (d_R D i) (d_R D j)))) = h5 from hh.symm] at w
  refine og_callSX (pc := 45) (As := [.int 1]) (rest := []) (c_X7_needFit E d n5 h5 1) Y_X7_needFit S_X7_needFit K_X7_121 dX7_multiply_45 rfl rfl (Nat.le_of_ble_eq_true rfl) (by omega) (by omega) (by omega) (htb) (by omega) (by omega) (fun En n1 h1 z => ?_) (fun v n6 h6 z => ?_)
  · exact absurd z.2.2.2 (by decide)
  obtain ⟨rfl, hn, hh2, -⟩ := z
  subst hn hh2
  refine og_aload_n (pc := 48) dX7_multiply_48 rfl ?_
  refine og_callV (pc := 49) (As := []) (rest := []) (c_X7_saveState E d n6 h6 w) Y_X7_saveState I_X7_saveState V_X7_saveState w.d3 (by omega) rfl rfl K_X7_75 dX7_multiply_49 rfl rfl (Nat.le_of_ble_eq_true rfl) (by omega) (by omega) (by omega) (fun _ _ _ z => z) (fun v n7 h7 z => ?_)
  obtain ⟨rfl, hn, w2, hfr⟩ := z
  subst hn
  have e98 := (hfr 98 (by unfold q_scr; omega)).trans e98
  have e3 := w2.d3
  have e4 : h7 4 = some (og_so 4 (d_st D)) := by rw [← q_save_st]; exact w2.e4
  refine og_aload_n (pc := 52) dX7_multiply_52 rfl ?_
  refine og_get (pc := 53) F_X7_10 dX7_multiply_53 (by repeat (first | exact og_set_eq _ _ _ | assumption | refine (og_set_ne _ _ (by first | assumption | omega)).trans ?_)) (by omega) rfl ?_
  refine og_dup (pc := 56) dX7_multiply_56 rfl ?_
  refine og_get (pc := 57) F_X7_133 dX7_multiply_57 (by repeat (first | exact og_set_eq _ _ _ | assumption | refine (og_set_ne _ _ (by first | assumption | omega)).trans ?_)) (by omega) rfl ?_
  refine og_iconst (pc := 60) (v := 1) dX7_multiply_60 (by decide) ?_
  refine og_iadd (pc := 61) dX7_multiply_61 ?_
  refine og_put (pc := 62) P_X7_133 dX7_multiply_62 (by repeat (first | exact og_set_eq _ _ _ | assumption | refine (og_set_ne _ _ (by first | assumption | omega)).trans ?_)) (by omega) rfl rfl (Nat.le_of_ble_eq_true rfl) ?_
  have hst := q_save_st D
  have w2 := w2.obj (d_o D) ((d_st D).2.2.1 + 1) (d_st D).2.2.2 w.ok.1
  rw [hst] at w2
  have e98 := (og_set_ne h7 (og_so 4 ((d_st D).1, d_o D, (d_st D).2.2.1 + 1, (d_st D).2.2.2)) (show 98 ≠ 4 by omega)).trans e98
  refine og_aload_n (pc := 65) dX7_multiply_65 rfl ?_
  refine og_iload_n (pc := 66) dX7_multiply_66 rfl ?_
  refine og_callV (pc := 67) (As := [.int (nI k)]) (rest := []) (c_X7_put E d n7 k _ w2 hk8 e98) Y_X7_put I_X7_put V_X7_put w2.d3 (by omega) rfl rfl K_X7_125 dX7_multiply_67 rfl rfl (Nat.le_of_ble_eq_true rfl) (by omega) (by omega) (by omega) (fun _ _ _ z => z) (fun v n8 h8 z => ?_)
  obtain ⟨rfl, hn, w3⟩ := z
  subst hn
  exact og_lret (pc := 70) hr dX7_multiply_70 (by omega) (by omega) ⟨i, j, k, hi8, hj8, hk8, rfl, rfl, rfl, hok, rfl, w3⟩
set_option maxRecDepth 4000 in
theorem c_X7_commutator (E : og_E) (d n : Nat) (h : og_H) (x y t : Int32) {h0 : og_H} {n0 : Nat} {D : q_D} (w : og_DK h0 n0 n h D) :
    og_M E yX7_commutator (.code yX7_commutator cX7_commutator 4 (some .long)) (d + 3) [.ref 3, .int x, .int y, .int t] n h 4 24 (fun v n1 h1 => ∃ i j k, i < 8 ∧ j < 8 ∧ k < 8 ∧ x = nI i ∧ y = nI j ∧ t = nI k ∧ q_fitx 1 (q_total (q_prod (d_R D i) (d_R D j)) (q_prod (d_R D j) (d_R D i)) 1) ∧ v = some (.long (q_inner (q_fv 1 (q_total (q_prod (d_R D i) (d_R D j)) (q_prod (d_R D j) (d_R D i)) 1)) (q_fv 1 (q_total (q_prod (d_R D i) (d_R D j)) (q_prod (d_R D j) (d_R D i)) 1)) 8)) ∧ og_DK h0 n0 n1 h1 (d_reg (q_save D) k (q_fv 1 (q_total (q_prod (d_R D i) (d_R D j)) (q_prod (d_R D j) (d_R D i)) 1)))) (fun En n1 h1 => og_DK h0 n0 n1 h1 D ∧ ((En = q_io ∧ ¬ (q_in8 x ∧ q_in8 y ∧ q_in8 t)) ∨ (En = q_ae ∧ ∃ i j k, i < 8 ∧ j < 8 ∧ k < 8 ∧ x = nI i ∧ y = nI j ∧ t = nI k ∧ ¬ q_fitx 1 (q_total (q_prod (d_R D i) (d_R D j)) (q_prod (d_R D j) (d_R D i)) 1)))) := by
  refine og_start (lv := [some (.ref 3), some (.int x), some (.int y), some (.int t)]) (by decide) rfl rfl (Nat.le_of_ble_eq_true rfl) fun X hr hnm htb => ?_
  refine og_iload_n (pc := 0) dX7_commutator_0 rfl ?_
  refine og_callSX (pc := 1) (As := [.int x]) (rest := []) (c_X7_needRegister E d n h x) Y_X7_needRegister S_X7_needRegister K_X7_65 dX7_commutator_1 rfl rfl (Nat.le_of_ble_eq_true rfl) (by omega) (by omega) (by omega) (htb) (by omega) (by omega) (fun En n1 h1 z => ?_) (fun v n1 h1 z => ?_)
  · obtain ⟨rfl, hn, rfl, hb⟩ := z
    exact ⟨w.more hn, Or.inl ⟨rfl, fun q => hb q.1⟩⟩
  obtain ⟨rfl, hn, hh, hx⟩ := z
  subst hn hh
  refine og_iload_n (pc := 4) dX7_commutator_4 rfl ?_
  refine og_callSX (pc := 5) (As := [.int y]) (rest := []) (c_X7_needRegister E d n1 h1 y) Y_X7_needRegister S_X7_needRegister K_X7_65 dX7_commutator_5 rfl rfl (Nat.le_of_ble_eq_true rfl) (by omega) (by omega) (by omega) (htb) (by omega) (by omega) (fun En n1 h1 z => ?_) (fun v n2 h2 z => ?_)
  · obtain ⟨rfl, hn, rfl, hb⟩ := z
    exact ⟨w.more hn, Or.inl ⟨rfl, fun q => hb q.2.1⟩⟩
  obtain ⟨rfl, hn, hh, hy⟩ := z
  subst hn hh
  refine og_iload_n (pc := 8) dX7_commutator_8 rfl ?_
  refine og_callSX (pc := 9) (As := [.int t]) (rest := []) (c_X7_needRegister E d n2 h2 t) Y_X7_needRegister S_X7_needRegister K_X7_65 dX7_commutator_9 rfl rfl (Nat.le_of_ble_eq_true rfl) (by omega) (by omega) (by omega) (htb) (by omega) (by omega) (fun En n1 h1 z => ?_) (fun v n3 h3 z => ?_)
  · obtain ⟨rfl, hn, rfl, hb⟩ := z
    exact ⟨w.more hn, Or.inl ⟨rfl, fun q => hb q.2.2⟩⟩
  obtain ⟨rfl, hn, hh, ht⟩ := z
  subst hn hh
  obtain ⟨i, hi8, rfl⟩ := hx
  obtain ⟨j, hj8, rfl⟩ := hy
  obtain ⟨k, hk8, rfl⟩ := ht
  have e3 := w.d3
  have e4 := w.e4
  have e5 := w.e5
  obtain ⟨f98, e98⟩ := w.scr 98 (by unfold q_scr; omega)
  refine og_aload_n (pc := 12) dX7_commutator_12 rfl ?_
  refine og_get (pc := 13) F_X7_10 dX7_commutator_13 (by repeat (first | exact og_set_eq _ _ _ | assumption | refine (og_set_ne _ _ (by first | assumption | omega)).trans ?_)) (by omega) rfl ?_
  refine og_get (pc := 16) F_X7_78 dX7_commutator_16 (by repeat (first | exact og_set_eq _ _ _ | assumption | refine (og_set_ne _ _ (by first | assumption | omega)).trans ?_)) (by omega) rfl ?_
  refine og_iload_n (pc := 19) dX7_commutator_19 rfl ?_
  refine og_aaldN (pc := 20) rfl dX7_commutator_20 (by repeat (first | exact og_set_eq _ _ _ | assumption | refine (og_set_ne _ _ (by first | assumption | omega)).trans ?_)) (by omega) (by decide) (by decide) (by omega) (by first | decide | assumption | omega) (q_g8 hi8) ?_
  refine og_aload_n (pc := 21) dX7_commutator_21 rfl ?_
  refine og_get (pc := 22) F_X7_10 dX7_commutator_22 (by repeat (first | exact og_set_eq _ _ _ | assumption | refine (og_set_ne _ _ (by first | assumption | omega)).trans ?_)) (by omega) rfl ?_
  refine og_get (pc := 25) F_X7_78 dX7_commutator_25 (by repeat (first | exact og_set_eq _ _ _ | assumption | refine (og_set_ne _ _ (by first | assumption | omega)).trans ?_)) (by omega) rfl ?_
  refine og_iload_n (pc := 28) dX7_commutator_28 rfl ?_
  refine og_aaldN (pc := 29) rfl dX7_commutator_29 (by repeat (first | exact og_set_eq _ _ _ | assumption | refine (og_set_ne _ _ (by first | assumption | omega)).trans ?_)) (by omega) (by decide) (by decide) (by omega) (by first | decide | assumption | omega) (q_g8 hj8) ?_
  refine og_aload_n (pc := 30) dX7_commutator_30 rfl ?_
  refine og_get (pc := 31) F_X7_55 dX7_commutator_31 (by repeat (first | exact og_set_eq _ _ _ | assumption | refine (og_set_ne _ _ (by first | assumption | omega)).trans ?_)) (by omega) rfl ?_
  refine og_callS (pc := 34) (As := [.ref (4 + 2 + i), .ref (4 + 2 + j), .ref 98]) (rest := []) (c_X3_product E d n3 (4 + 2 + i) (4 + 2 + j) 98 h3 _ _ _ w.tr (w.r hi8) (w.r hj8) e98 (by omega) (by omega) (by omega) (by omega) (by omega)) Y_X3_product S_X3_product K_X7_129 dX7_commutator_34 rfl rfl (Nat.le_of_ble_eq_true rfl) (by omega) (by omega) (by omega) (fun _ _ _ z => z) (fun v n4 h4 z => ?_)
  obtain ⟨rfl, hn, hh⟩ := z
  subst hn
  have w := w.row (q_prod (d_R D i) (d_R D j)) (show q_scr 98 by unfold q_scr; omega)
  have e98 : h4 98 = some (rowL (q_prod (d_R D i) (d_R D j))) := by rw [hh]; exact og_set_eq _ _ _
  rw [show og_set _ 98 (rowL (q_prod (d_R D i) (d_R D j))) = h4 from hh.symm] at w
  clear hh
  have e3 := w.d3
  have e4 := w.e4
  have e5 := w.e5
  obtain ⟨f99, e99⟩ := w.scr 99 (by unfold q_scr; omega)
  refine og_aload_n (pc := 37) dX7_commutator_37 rfl ?_
  refine og_get (pc := 38) F_X7_10 dX7_commutator_38 (by repeat (first | exact og_set_eq _ _ _ | assumption | refine (og_set_ne _ _ (by first | assumption | omega)).trans ?_)) (by omega) rfl ?_
  refine og_get (pc := 41) F_X7_78 dX7_commutator_41 (by repeat (first | exact og_set_eq _ _ _ | assumption | refine (og_set_ne _ _ (by first | assumption | omega)).trans ?_)) (by omega) rfl ?_
  refine og_iload_n (pc := 44) dX7_commutator_44 rfl ?_
  refine og_aaldN (pc := 45) rfl dX7_commutator_45 (by repeat (first | exact og_set_eq _ _ _ | assumption | refine (og_set_ne _ _ (by first | assumption | omega)).trans ?_)) (by omega) (by decide) (by decide) (by omega) (by first | decide | assumption | omega) (q_g8 hj8) ?_
  refine og_aload_n (pc := 46) dX7_commutator_46 rfl ?_
  refine og_get (pc := 47) F_X7_10 dX7_commutator_47 (by repeat (first | exact og_set_eq _ _ _ | assumption | refine (og_set_ne _ _ (by first | assumption | omega)).trans ?_)) (by omega) rfl ?_
  refine og_get (pc := 50) F_X7_78 dX7_commutator_50 (by repeat (first | exact og_set_eq _ _ _ | assumption | refine (og_set_ne _ _ (by first | assumption | omega)).trans ?_)) (by omega) rfl ?_
  refine og_iload_n (pc := 53) dX7_commutator_53 rfl ?_
  refine og_aaldN (pc := 54) rfl dX7_commutator_54 (by repeat (first | exact og_set_eq _ _ _ | assumption | refine (og_set_ne _ _ (by first | assumption | omega)).trans ?_)) (by omega) (by decide) (by decide) (by omega) (by first | decide | assumption | omega) (q_g8 hi8) ?_
  refine og_aload_n (pc := 55) dX7_commutator_55 rfl ?_
  refine og_get (pc := 56) F_X7_59 dX7_commutator_56 (by repeat (first | exact og_set_eq _ _ _ | assumption | refine (og_set_ne _ _ (by first | assumption | omega)).trans ?_)) (by omega) rfl ?_
  refine og_callS (pc := 59) (As := [.ref (4 + 2 + j), .ref (4 + 2 + i), .ref 99]) (rest := []) (c_X3_product E d n4 (4 + 2 + j) (4 + 2 + i) 99 h4 _ _ _ w.tr (w.r hj8) (w.r hi8) e99 (by omega) (by omega) (by omega) (by omega) (by omega)) Y_X3_product S_X3_product K_X7_129 dX7_commutator_59 rfl rfl (Nat.le_of_ble_eq_true rfl) (by omega) (by omega) (by omega) (fun _ _ _ z => z) (fun v n5 h5 z => ?_)
  obtain ⟨rfl, hn, hh⟩ := z
  subst hn
  have w := w.row (q_prod (d_R D j) (d_R D i)) (show q_scr 99 by unfold q_scr; omega)
  have e98 : h5 98 = some (rowL (q_prod (d_R D i) (d_R D j))) := by rw [hh, og_set_ne _ _ (by omega)]; exact e98
  have e99 : h5 99 = some (rowL (q_prod (d_R D j) (d_R D i))) := by rw [hh]; exact og_set_eq _ _ _
  rw [show og_set _ 99 (rowL (q_prod (d_R D j) (d_R D i))) = h5 from hh.symm] at w
  clear hh
  have e3 := w.d3
  refine og_aload_n (pc := 62) dX7_commutator_62 rfl ?_
  refine og_get (pc := 63) F_X7_55 dX7_commutator_63 (by repeat (first | exact og_set_eq _ _ _ | assumption | refine (og_set_ne _ _ (by first | assumption | omega)).trans ?_)) (by omega) rfl ?_
  refine og_aload_n (pc := 66) dX7_commutator_66 rfl ?_
  refine og_get (pc := 67) F_X7_59 dX7_commutator_67 (by repeat (first | exact og_set_eq _ _ _ | assumption | refine (og_set_ne _ _ (by first | assumption | omega)).trans ?_)) (by omega) rfl ?_
  refine og_iconst (pc := 70) (v := 1) dX7_commutator_70 (by decide) ?_
  refine og_aload_n (pc := 71) dX7_commutator_71 rfl ?_
  refine og_get (pc := 72) F_X7_55 dX7_commutator_72 (by repeat (first | exact og_set_eq _ _ _ | assumption | refine (og_set_ne _ _ (by first | assumption | omega)).trans ?_)) (by omega) rfl ?_
  refine og_callS (pc := 75) (As := [.ref 98, .ref 99, .int 1, .ref 98]) (rest := []) (c_X3_totalA E d n5 98 99 h5 _ _ 1 e98 e99 (by omega) (by omega) (by omega)) Y_X3_total S_X3_total K_X7_113 dX7_commutator_75 rfl rfl (Nat.le_of_ble_eq_true rfl) (by omega) (by omega) (by omega) (fun _ _ _ z => z) (fun v n6 h6 z => ?_)
  obtain ⟨rfl, hn, hh⟩ := z
  subst hn
  have w := w.row (q_total (q_prod (d_R D i) (d_R D j)) (q_prod (d_R D j) (d_R D i)) 1) (show q_scr 98 by unfold q_scr; omega)
  have e98 : h6 98 = some (rowL (q_total (q_prod (d_R D i) (d_R D j)) (q_prod (d_R D j) (d_R D i)) 1)) := by rw [hh]; exact og_set_eq _ _ _
  rw [show og_set _ 98 (rowL (q_total (q_prod (d_R D i) (d_R D j)) (q_prod (d_R D j) (d_R D i)) 1)) = h6 from hh.symm] at w
  clear hh
  have e3 := w.d3
  refine og_aload_n (pc := 78) dX7_commutator_78 rfl ?_
  refine og_get (pc := 79) F_X7_55 dX7_commutator_79 (by repeat (first | exact og_set_eq _ _ _ | assumption | refine (og_set_ne _ _ (by first | assumption | omega)).trans ?_)) (by omega) rfl ?_
  refine og_iconst (pc := 82) (v := 1) dX7_commutator_82 (by decide) ?_
  refine og_callS (pc := 83) (As := [.ref 98, .int 1]) (rest := []) (c_X3_fit E d n6 98 h6 _ 1 e98 (by omega)) Y_X3_fit S_X3_fit K_X7_117 dX7_commutator_83 rfl rfl (Nat.le_of_ble_eq_true rfl) (by omega) (by omega) (by omega) (fun _ _ _ z => z) (fun v n7 h7 z => ?_)
  obtain ⟨hn, z⟩ := z
  subst hn
  rcases z with ⟨rfl, hok, hh⟩ | ⟨rfl, ⟨m9, hm8, hbad⟩, g9, hh⟩
  rotate_left
  · have w := w.row g9 (show q_scr 98 by unfold q_scr; omega)
    rw [← hh] at w
    refine og_callSX (pc := 86) (As := [.int 0]) (rest := []) (c_X7_needFit E d n7 h7 0) Y_X7_needFit S_X7_needFit K_X7_121 dX7_commutator_86 rfl rfl (Nat.le_of_ble_eq_true rfl) (by omega) (by omega) (by omega) (htb) (by omega) (by omega) (fun En n1 h1 z => ?_) (fun v n8 h8 z => ?_)
    · obtain ⟨rfl, hn, rfl, hb⟩ := z
      exact ⟨w.more hn, Or.inr ⟨rfl, i, j, k, hi8, hj8, hk8, rfl, rfl, rfl, fun q => hbad (q m9 hm8)⟩⟩
    exact absurd rfl z.2.2.2
  have w := w.row (q_fv 1 (q_total (q_prod (d_R D i) (d_R D j)) (q_prod (d_R D j) (d_R D i)) 1)) (show q_scr 98 by unfold q_scr; omega)
  have e98 : h7 98 = some (rowL (q_fv 1 (q_total (q_prod (d_R D i) (d_R D j)) (q_prod (d_R D j) (d_R D i)) 1))) := by rw [hh]; exact og_set_eq _ _ _
  rw [show og_set _ 98 (rowL (q_fv 1 (q_total (q_prod (d_R D i) (d_R D j)) (q_prod (d_R D j) (d_R D i)) 1))) = h7 from hh.symm] at w
  refine og_callSX (pc := 86) (As := [.int 1]) (rest := []) (c_X7_needFit E d n7 h7 1) Y_X7_needFit S_X7_needFit K_X7_121 dX7_commutator_86 rfl rfl (Nat.le_of_ble_eq_true rfl) (by omega) (by omega) (by omega) (htb) (by omega) (by omega) (fun En n1 h1 z => ?_) (fun v n8 h8 z => ?_)
  · exact absurd z.2.2.2 (by decide)
  obtain ⟨rfl, hn, hh2, -⟩ := z
  subst hn hh2
  refine og_aload_n (pc := 89) dX7_commutator_89 rfl ?_
  refine og_callV (pc := 90) (As := []) (rest := []) (c_X7_saveState E d n8 h8 w) Y_X7_saveState I_X7_saveState V_X7_saveState w.d3 (by omega) rfl rfl K_X7_75 dX7_commutator_90 rfl rfl (Nat.le_of_ble_eq_true rfl) (by omega) (by omega) (by omega) (fun _ _ _ z => z) (fun v n9 h9 z => ?_)
  obtain ⟨rfl, hn, w2, hfr⟩ := z
  subst hn
  have e98 := (hfr 98 (by unfold q_scr; omega)).trans e98
  refine og_aload_n (pc := 93) dX7_commutator_93 rfl ?_
  refine og_iload_n (pc := 94) dX7_commutator_94 rfl ?_
  refine og_callV (pc := 95) (As := [.int (nI k)]) (rest := []) (c_X7_put E d n9 k h9 w2 hk8 e98) Y_X7_put I_X7_put V_X7_put w2.d3 (by omega) rfl rfl K_X7_125 dX7_commutator_95 rfl rfl (Nat.le_of_ble_eq_true rfl) (by omega) (by omega) (by omega) (fun _ _ _ z => z) (fun v n10 h10 z => ?_)
  obtain ⟨rfl, hn, w3⟩ := z
  subst hn
  exact og_lret (pc := 98) hr dX7_commutator_98 (by omega) (by omega) ⟨i, j, k, hi8, hj8, hk8, rfl, rfl, rfl, hok, rfl, w3⟩
set_option maxRecDepth 4000 in
theorem c_X7_associator (E : og_E) (d n : Nat) (h : og_H) (x y u t : Int32) {h0 : og_H} {n0 : Nat} {D : q_D} (w : og_DK h0 n0 n h D) :
    og_M E yX7_associator (.code yX7_associator cX7_associator 5 (some .long)) (d + 3) [.ref 3, .int x, .int y, .int u, .int t] n h 5 30 (fun v n1 h1 => ∃ i j k l, i < 8 ∧ j < 8 ∧ k < 8 ∧ l < 8 ∧ x = nI i ∧ y = nI j ∧ u = nI k ∧ t = nI l ∧ q_fitx 2 (q_asc (d_R D i) (d_R D j) (d_R D k)) ∧ v = some (.long (q_inner (q_fv 2 (q_asc (d_R D i) (d_R D j) (d_R D k))) (q_fv 2 (q_asc (d_R D i) (d_R D j) (d_R D k))) 8)) ∧ og_DK h0 n0 n1 h1 (d_reg (q_save D) l (q_fv 2 (q_asc (d_R D i) (d_R D j) (d_R D k))))) (fun En n1 h1 => og_DK h0 n0 n1 h1 D ∧ ((En = q_io ∧ ¬ (q_in8 x ∧ q_in8 y ∧ q_in8 u ∧ q_in8 t)) ∨ (En = q_ae ∧ ∃ i j k l, i < 8 ∧ j < 8 ∧ k < 8 ∧ l < 8 ∧ x = nI i ∧ y = nI j ∧ u = nI k ∧ t = nI l ∧ ¬ q_fitx 2 (q_asc (d_R D i) (d_R D j) (d_R D k))))) := by
  refine og_start (lv := [some (.ref 3), some (.int x), some (.int y), some (.int u), some (.int t)]) (by decide) rfl rfl (Nat.le_of_ble_eq_true rfl) fun X hr hnm htb => ?_
  refine og_iload_n (pc := 0) dX7_associator_0 rfl ?_
  refine og_callSX (pc := 1) (As := [.int x]) (rest := []) (c_X7_needRegister E d n h x) Y_X7_needRegister S_X7_needRegister K_X7_65 dX7_associator_1 rfl rfl (Nat.le_of_ble_eq_true rfl) (by omega) (by omega) (by omega) (htb) (by omega) (by omega) (fun En n1 h1 z => ?_) (fun v n1 h1 z => ?_)
  · obtain ⟨rfl, hn, rfl, hb⟩ := z
    exact ⟨w.more hn, Or.inl ⟨rfl, fun q => hb q.1⟩⟩
  obtain ⟨rfl, hn, hh, hx⟩ := z
  subst hn hh
  refine og_iload_n (pc := 4) dX7_associator_4 rfl ?_
  refine og_callSX (pc := 5) (As := [.int y]) (rest := []) (c_X7_needRegister E d n1 h1 y) Y_X7_needRegister S_X7_needRegister K_X7_65 dX7_associator_5 rfl rfl (Nat.le_of_ble_eq_true rfl) (by omega) (by omega) (by omega) (htb) (by omega) (by omega) (fun En n1 h1 z => ?_) (fun v n2 h2 z => ?_)
  · obtain ⟨rfl, hn, rfl, hb⟩ := z
    exact ⟨w.more hn, Or.inl ⟨rfl, fun q => hb q.2.1⟩⟩
  obtain ⟨rfl, hn, hh, hy⟩ := z
  subst hn hh
  refine og_iload_n (pc := 8) dX7_associator_8 rfl ?_
  refine og_callSX (pc := 9) (As := [.int u]) (rest := []) (c_X7_needRegister E d n2 h2 u) Y_X7_needRegister S_X7_needRegister K_X7_65 dX7_associator_9 rfl rfl (Nat.le_of_ble_eq_true rfl) (by omega) (by omega) (by omega) (htb) (by omega) (by omega) (fun En n1 h1 z => ?_) (fun v n3 h3 z => ?_)
  · obtain ⟨rfl, hn, rfl, hb⟩ := z
    exact ⟨w.more hn, Or.inl ⟨rfl, fun q => hb q.2.2.1⟩⟩
  obtain ⟨rfl, hn, hh, hu⟩ := z
  subst hn hh
  refine og_iload (pc := 12) dX7_associator_12 rfl ?_
  refine og_callSX (pc := 14) (As := [.int t]) (rest := []) (c_X7_needRegister E d n3 h3 t) Y_X7_needRegister S_X7_needRegister K_X7_65 dX7_associator_14 rfl rfl (Nat.le_of_ble_eq_true rfl) (by omega) (by omega) (by omega) (htb) (by omega) (by omega) (fun En n1 h1 z => ?_) (fun v n4 h4 z => ?_)
  · obtain ⟨rfl, hn, rfl, hb⟩ := z
    exact ⟨w.more hn, Or.inl ⟨rfl, fun q => hb q.2.2.2⟩⟩
  obtain ⟨rfl, hn, hh, ht⟩ := z
  subst hn hh
  obtain ⟨i, hi8, rfl⟩ := hx
  obtain ⟨j, hj8, rfl⟩ := hy
  obtain ⟨k, hk8, rfl⟩ := hu
  obtain ⟨l, hl8, rfl⟩ := ht
  refine og_aload_n (pc := 17) dX7_associator_17 rfl ?_
  refine og_iload_n (pc := 18) dX7_associator_18 rfl ?_
  refine og_iload_n (pc := 19) dX7_associator_19 rfl ?_
  refine og_iload_n (pc := 20) dX7_associator_20 rfl ?_
  refine og_callV (pc := 21) (As := [.int (nI i), .int (nI j), .int (nI k)]) (rest := []) (c_X7_workAssociator E d n4 i j k h4 w hi8 hj8 hk8) Y_X7_workAssociator I_X7_workAssociator V_X7_workAssociator w.d3 (by omega) rfl rfl K_X7_140 dX7_associator_21 rfl rfl (Nat.le_of_ble_eq_true rfl) (by omega) (by omega) (by omega) (fun _ _ _ z => z) (fun v n5 h5 z => ?_)
  obtain ⟨rfl, hn, w, e98⟩ := z
  subst hn
  have e3 := w.d3
  refine og_aload_n (pc := 24) dX7_associator_24 rfl ?_
  refine og_get (pc := 25) F_X7_55 dX7_associator_25 (by repeat (first | exact og_set_eq _ _ _ | assumption | refine (og_set_ne _ _ (by first | assumption | omega)).trans ?_)) (by omega) rfl ?_
  refine og_iconst (pc := 28) (v := 2) dX7_associator_28 (by decide) ?_
  refine og_callS (pc := 29) (As := [.ref 98, .int 2]) (rest := []) (c_X3_fit E d n5 98 h5 _ 2 e98 (by omega)) Y_X3_fit S_X3_fit K_X7_117 dX7_associator_29 rfl rfl (Nat.le_of_ble_eq_true rfl) (by omega) (by omega) (by omega) (fun _ _ _ z => z) (fun v n6 h6 z => ?_)
  obtain ⟨hn, z⟩ := z
  subst hn
  rcases z with ⟨rfl, hok, hh⟩ | ⟨rfl, ⟨m9, hm8, hbad⟩, g9, hh⟩
  rotate_left
  · have w := w.row g9 (show q_scr 98 by unfold q_scr; omega)
    rw [← hh] at w
    refine og_callSX (pc := 32) (As := [.int 0]) (rest := []) (c_X7_needFit E d n6 h6 0) Y_X7_needFit S_X7_needFit K_X7_121 dX7_associator_32 rfl rfl (Nat.le_of_ble_eq_true rfl) (by omega) (by omega) (by omega) (htb) (by omega) (by omega) (fun En n1 h1 z => ?_) (fun v n7 h7 z => ?_)
    · obtain ⟨rfl, hn, rfl, hb⟩ := z
      exact ⟨w.more hn, Or.inr ⟨rfl, i, j, k, l, hi8, hj8, hk8, hl8, rfl, rfl, rfl, rfl, fun q => hbad (q m9 hm8)⟩⟩
    exact absurd rfl z.2.2.2
  have w := w.row (q_fv 2 (q_asc (d_R D i) (d_R D j) (d_R D k))) (show q_scr 98 by unfold q_scr; omega)
  have e98 : h6 98 = some (rowL (q_fv 2 (q_asc (d_R D i) (d_R D j) (d_R D k)))) := by rw [hh]; exact og_set_eq _ _ _
  rw [show og_set _ 98 (rowL (q_fv 2 (q_asc (d_R D i) (d_R D j) (d_R D k)))) = h6 from hh.symm] at w
  refine og_callSX (pc := 32) (As := [.int 1]) (rest := []) (c_X7_needFit E d n6 h6 1) Y_X7_needFit S_X7_needFit K_X7_121 dX7_associator_32 rfl rfl (Nat.le_of_ble_eq_true rfl) (by omega) (by omega) (by omega) (htb) (by omega) (by omega) (fun En n1 h1 z => ?_) (fun v n7 h7 z => ?_)
  · exact absurd z.2.2.2 (by decide)
  obtain ⟨rfl, hn, hh2, -⟩ := z
  subst hn hh2
  refine og_aload_n (pc := 35) dX7_associator_35 rfl ?_
  refine og_callV (pc := 36) (As := []) (rest := []) (c_X7_saveState E d n7 h7 w) Y_X7_saveState I_X7_saveState V_X7_saveState w.d3 (by omega) rfl rfl K_X7_75 dX7_associator_36 rfl rfl (Nat.le_of_ble_eq_true rfl) (by omega) (by omega) (by omega) (fun _ _ _ z => z) (fun v n8 h8 z => ?_)
  obtain ⟨rfl, hn, w2, hfr⟩ := z
  subst hn
  have e98 := (hfr 98 (by unfold q_scr; omega)).trans e98
  refine og_aload_n (pc := 39) dX7_associator_39 rfl ?_
  refine og_iload (pc := 40) dX7_associator_40 rfl ?_
  refine og_callV (pc := 42) (As := [.int (nI l)]) (rest := []) (c_X7_put E d n8 l h8 w2 hl8 e98) Y_X7_put I_X7_put V_X7_put w2.d3 (by omega) rfl rfl K_X7_125 dX7_associator_42 rfl rfl (Nat.le_of_ble_eq_true rfl) (by omega) (by omega) (by omega) (fun _ _ _ z => z) (fun v n9 h9 z => ?_)
  obtain ⟨rfl, hn, w3⟩ := z
  subst hn
  exact og_lret (pc := 45) hr dX7_associator_45 (by omega) (by omega) ⟨i, j, k, l, hi8, hj8, hk8, hl8, rfl, rfl, rfl, rfl, hok, rfl, w3⟩
