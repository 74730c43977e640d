/-! ===== the desk: load, conjugate, divide, and the calls that read ===== -/
def q_par (f g : Nat → Int64) : Prop := ∀ i j, 1 ≤ i → i < j → j < 8 → f i * g j = f j * g i
/-- the orders that hold an element, as the class tells them -/
noncomputable def q_oset (f : Nat → Int64) : Nat → Int32
  | 0 => 0
  | k + 1 => q_if (q_al k f) (q_oset f k ||| ((1 : Int32) <<< (nI k &&& 31))) (q_oset f k)
theorem q_oset_t {f : Nat → Int64} {k : Nat} (h : q_al k f) : q_oset f (k + 1) = q_oset f k ||| ((1 : Int32) <<< (nI k &&& 31)) := by
  rw [q_oset, q_if_t _ _ h]
theorem q_oset_f {f : Nat → Int64} {k : Nat} (h : ¬ q_al k f) : q_oset f (k + 1) = q_oset f k := by
  rw [q_oset, q_if_f _ _ h]
set_option maxRecDepth 4000 in
theorem c_X7_conjugate (E : og_E) (d n : Nat) (h : og_H) (x : Int32) {h0 : og_H} {n0 : Nat} {D : q_D} (w : og_DK h0 n0 n h D) :
    og_M E yX7_conjugate (.code yX7_conjugate cX7_conjugate 2 (some .int)) (d + 3) [.ref 3, .int x] n h 1 6 (fun v n1 h1 => ∃ r, r < 8 ∧ x = nI r ∧ v = some (.int (d_R D r 0).toInt32) ∧ og_DK h0 n0 n1 h1 (d_reg (q_save D) r (q_mirror (d_R D r)))) (fun En n1 h1 => og_DK h0 n0 n1 h1 D ∧ En = q_io ∧ ¬ q_in8 x) := by
  refine og_start (lv := [some (.ref 3), some (.int x)]) (by decide) rfl rfl (Nat.le_of_ble_eq_true rfl) fun X hr hnm htb => ?_
  refine og_iload_n (pc := 0) dX7_conjugate_0 rfl ?_
  refine og_callSX (pc := 1) (As := [.int x]) (rest := []) (c_X7_needRegister E d n h x) Y_X7_needRegister S_X7_needRegister K_X7_65 dX7_conjugate_1 rfl rfl (Nat.le_of_ble_eq_true rfl) (by omega) (by omega) (by omega) (htb) (by omega) (by omega) (fun En n1 h1 z => ?_) (fun v n1 h1 z => ?_)
  · obtain ⟨rfl, hn, rfl, hb⟩ := z
    exact ⟨w.more hn, rfl, hb⟩
  obtain ⟨rfl, hn, hh, hx⟩ := z
  subst hn hh
  obtain ⟨r, hr8, rfl⟩ := hx
  refine og_aload_n (pc := 4) dX7_conjugate_4 rfl ?_
  refine og_callV (pc := 5) (As := []) (rest := []) (c_X7_saveState E d n1 h1 w) Y_X7_saveState I_X7_saveState V_X7_saveState w.d3 (by omega) rfl rfl K_X7_75 dX7_conjugate_5 rfl rfl (Nat.le_of_ble_eq_true rfl) (by omega) (by omega) (by omega) (fun _ _ _ z => z) (fun v n2 h2 z => ?_)
  obtain ⟨rfl, hn, w2, -⟩ := z
  subst hn
  have e3 := w2.d3
  have e4 := w2.e4
  have e5 := w2.e5
  have er : h2 (4 + 2 + r) = some (rowL (d_R D r)) := by rw [← d_R_save]; exact w2.r hr8
  refine og_aload_n (pc := 8) dX7_conjugate_8 rfl ?_
  refine og_get (pc := 9) F_X7_10 dX7_conjugate_9 (by repeat (first | exact og_set_eq _ _ _ | assumption | refine (og_set_ne _ _ (by first | assumption | omega)).trans ?_)) (by omega) rfl ?_
  refine og_get (pc := 12) F_X7_78 dX7_conjugate_12 (by repeat (first | exact og_set_eq _ _ _ | assumption | refine (og_set_ne _ _ (by first | assumption | omega)).trans ?_)) (by omega) rfl ?_
  refine og_iload_n (pc := 15) dX7_conjugate_15 rfl ?_
  refine og_aaldN (pc := 16) rfl dX7_conjugate_16 (by repeat (first | exact og_set_eq _ _ _ | assumption | refine (og_set_ne _ _ (by first | assumption | omega)).trans ?_)) (by omega) (by decide) (by decide) (by omega) (by first | decide | assumption | omega) (q_g8 hr8) ?_
  refine og_callS (pc := 17) (As := [.ref (4 + 2 + r)]) (rest := []) (c_X3_mirror E d n2 (4 + 2 + r) h2 _ er (by omega)) Y_X3_mirror S_X3_mirror K_X7_136 dX7_conjugate_17 rfl rfl (Nat.le_of_ble_eq_true rfl) (by omega) (by omega) (by omega) (fun _ _ _ z => z) (fun v n3 h3 z => ?_)
  obtain ⟨rfl, hn, hh⟩ := z
  subst hn hh
  have w3 := w2.reg (q_mirror (d_R D r)) hr8
  have e3 := w3.d3
  have e4 := w3.e4
  have e5 := w3.e5
  refine og_aload_n (pc := 20) dX7_conjugate_20 rfl ?_
  refine og_get (pc := 21) F_X7_10 dX7_conjugate_21 (by repeat (first | exact og_set_eq _ _ _ | assumption | refine (og_set_ne _ _ (by first | assumption | omega)).trans ?_)) (by omega) rfl ?_
  refine og_get (pc := 24) F_X7_78 dX7_conjugate_24 (by repeat (first | exact og_set_eq _ _ _ | assumption | refine (og_set_ne _ _ (by first | assumption | omega)).trans ?_)) (by omega) rfl ?_
  refine og_iload_n (pc := 27) dX7_conjugate_27 rfl ?_
  refine og_aaldN (pc := 28) rfl dX7_conjugate_28 (by repeat (first | exact og_set_eq _ _ _ | assumption | refine (og_set_ne _ _ (by first | assumption | omega)).trans ?_)) (by omega) (by decide) (by decide) (by omega) (by first | decide | assumption | omega) (q_g8 hr8) ?_
  refine og_iconst (pc := 29) (v := 0) dX7_conjugate_29 (by decide) ?_
  refine og_laldN (pc := 30) (j := 0) rfl dX7_conjugate_30 (by repeat (first | exact og_set_eq _ _ _ | assumption | refine (og_set_ne _ _ (by first | assumption | omega)).trans ?_)) (by omega) (by omega) (by first | decide | assumption | omega) ?_
  refine og_l2i (pc := 31) dX7_conjugate_31 rfl ?_
  exact og_iret (pc := 32) hr dX7_conjugate_32 (by omega) (by omega) ⟨r, hr8, rfl, rfl, w3⟩
set_option maxRecDepth 4000 in
theorem c_X7_coordinate (E : og_E) (d n : Nat) (h : og_H) (x y : Int32) {h0 : og_H} {n0 : Nat} {D : q_D} (w : og_DK h0 n0 n h D) :
    og_M E yX7_coordinate (.code yX7_coordinate cX7_coordinate 3 (some .int)) (d + 1) [.ref 3, .int x, .int y] n h 2 12 (fun v n1 h1 => og_DK h0 n0 n1 h1 D ∧ ∃ r i, r < 8 ∧ i < 8 ∧ x = nI r ∧ y = nI i ∧ v = some (.int (d_R D r i).toInt32)) (fun En n1 h1 => og_DK h0 n0 n1 h1 D ∧ En = q_io ∧ ¬ (q_in8 x ∧ q_in8 y)) := by
  refine og_start (lv := [some (.ref 3), some (.int x), some (.int y)]) (by decide) rfl rfl (Nat.le_of_ble_eq_true rfl) fun X hr hnm htb => ?_
  refine og_iload_n (pc := 0) dX7_coordinate_0 rfl ?_
  refine og_callSX (pc := 1) (As := [.int x]) (rest := []) (c_X7_needRegister E d n h x) Y_X7_needRegister S_X7_needRegister K_X7_65 dX7_coordinate_1 rfl rfl (Nat.le_of_ble_eq_true rfl) (by omega) (by omega) (by omega) (htb) (by omega) (by omega) (fun En n1 h1 z => ?_) (fun v n1 h1 z => ?_)
  · obtain ⟨rfl, hn, rfl, hb⟩ := z
    exact ⟨w.more hn, rfl, fun q => hb q.1⟩
  obtain ⟨rfl, hn, hh, hx⟩ := z
  subst hn hh
  refine og_iload_n (pc := 4) dX7_coordinate_4 rfl ?_
  refine og_callSX (pc := 5) (As := [.int y]) (rest := []) (c_X7_needIndex E d n1 h1 y) Y_X7_needIndex S_X7_needIndex K_X7_69 dX7_coordinate_5 rfl rfl (Nat.le_of_ble_eq_true rfl) (by omega) (by omega) (by omega) (htb) (by omega) (by omega) (fun En n1 h1 z => ?_) (fun v n2 h2 z => ?_)
  · obtain ⟨rfl, hn, rfl, hb⟩ := z
    exact ⟨w.more hn, rfl, fun q => hb q.2⟩
  obtain ⟨rfl, hn, hh, hy⟩ := z
  subst hn hh
  obtain ⟨r, hr8, rfl⟩ := hx
  obtain ⟨i, hi8, rfl⟩ := hy
  have e3 := w.d3
  have e4 := w.e4
  have e5 := w.e5
  have er := w.r hr8
  refine og_aload_n (pc := 8) dX7_coordinate_8 rfl ?_
  refine og_get (pc := 9) F_X7_10 dX7_coordinate_9 (by repeat (first | exact og_set_eq _ _ _ | assumption | refine (og_set_ne _ _ (by first | assumption | omega)).trans ?_)) (by omega) rfl ?_
  refine og_get (pc := 12) F_X7_78 dX7_coordinate_12 (by repeat (first | exact og_set_eq _ _ _ | assumption | refine (og_set_ne _ _ (by first | assumption | omega)).trans ?_)) (by omega) rfl ?_
  refine og_iload_n (pc := 15) dX7_coordinate_15 rfl ?_
  refine og_aaldN (pc := 16) rfl dX7_coordinate_16 (by repeat (first | exact og_set_eq _ _ _ | assumption | refine (og_set_ne _ _ (by first | assumption | omega)).trans ?_)) (by omega) (by decide) (by decide) (by omega) (by first | decide | assumption | omega) (q_g8 hr8) ?_
  refine og_iload_n (pc := 17) dX7_coordinate_17 rfl ?_
  refine og_laldN (pc := 18) rfl dX7_coordinate_18 er (by omega) (by omega) (by first | decide | assumption | omega) ?_
  refine og_l2i (pc := 19) dX7_coordinate_19 rfl ?_
  exact og_iret (pc := 20) hr dX7_coordinate_20 (by omega) (by omega) ⟨w, r, i, hr8, hi8, rfl, rfl, rfl⟩
set_option maxRecDepth 4000 in
theorem c_X7_norm (E : og_E) (d n : Nat) (h : og_H) (x : Int32) {h0 : og_H} {n0 : Nat} {D : q_D} (w : og_DK h0 n0 n h D) :
    og_M E yX7_norm (.code yX7_norm cX7_norm 2 (some .long)) (d + 2) [.ref 3, .int x] n h 1 6 (fun v n1 h1 => og_DK h0 n0 n1 h1 D ∧ ∃ r, r < 8 ∧ x = nI r ∧ v = some (.long (q_inner (d_R D r) (d_R D r) 8))) (fun En n1 h1 => og_DK h0 n0 n1 h1 D ∧ En = q_io ∧ ¬ (q_in8 x)) := by
  refine og_start (lv := [some (.ref 3), some (.int x)]) (by decide) rfl rfl (Nat.le_of_ble_eq_true rfl) fun X hr hnm htb => ?_
  refine og_iload_n (pc := 0) dX7_norm_0 rfl ?_
  refine og_callSX (pc := 1) (As := [.int x]) (rest := []) (c_X7_needRegister E d n h x) Y_X7_needRegister S_X7_needRegister K_X7_65 dX7_norm_1 rfl rfl (Nat.le_of_ble_eq_true rfl) (by omega) (by omega) (by omega) (htb) (by omega) (by omega) (fun En n1 h1 z => ?_) (fun v n1 h1 z => ?_)
  · obtain ⟨rfl, hn, rfl, hb⟩ := z
    exact ⟨w.more hn, rfl, fun q => hb q⟩
  obtain ⟨rfl, hn, hh, hx⟩ := z
  subst hn hh
  obtain ⟨r, hr8, rfl⟩ := hx
  have e3 := w.d3
  have e4 := w.e4
  have e5 := w.e5
  refine og_aload_n (pc := 4) dX7_norm_4 rfl ?_
  refine og_get (pc := 5) F_X7_10 dX7_norm_5 (by repeat (first | exact og_set_eq _ _ _ | assumption | refine (og_set_ne _ _ (by first | assumption | omega)).trans ?_)) (by omega) rfl ?_
  refine og_get (pc := 8) F_X7_78 dX7_norm_8 (by repeat (first | exact og_set_eq _ _ _ | assumption | refine (og_set_ne _ _ (by first | assumption | omega)).trans ?_)) (by omega) rfl ?_
  refine og_iload_n (pc := 11) dX7_norm_11 rfl ?_
  refine og_aaldN (pc := 12) rfl dX7_norm_12 (by repeat (first | exact og_set_eq _ _ _ | assumption | refine (og_set_ne _ _ (by first | assumption | omega)).trans ?_)) (by omega) (by decide) (by decide) (by omega) (by first | decide | assumption | omega) (q_g8 hr8) ?_
  refine og_callS (pc := 13) (As := [.ref (4 + 2 + r)]) (rest := []) (c_X3_quarters E d n1 (4 + 2 + r) h1 _ (w.r hr8) (by omega)) Y_X3_quarters S_X3_quarters K_X7_82 dX7_norm_13 rfl rfl (Nat.le_of_ble_eq_true rfl) (by omega) (by omega) (by omega) (fun _ _ _ z => z) (fun v n2 h2 z => ?_)
  obtain ⟨rfl, hn, hh⟩ := z
  subst hn hh
  exact og_lret (pc := 16) hr dX7_norm_16 (by omega) (by omega) ⟨w, r, hr8, rfl, rfl⟩
set_option maxRecDepth 4000 in
theorem c_X7_dot (E : og_E) (d n : Nat) (h : og_H) (x y : Int32) {h0 : og_H} {n0 : Nat} {D : q_D} (w : og_DK h0 n0 n h D) :
    og_M E yX7_dot (.code yX7_dot cX7_dot 3 (some .long)) (d + 1) [.ref 3, .int x, .int y] n h 2 12 (fun v n1 h1 => og_DK h0 n0 n1 h1 D ∧ ∃ i j, i < 8 ∧ j < 8 ∧ x = nI i ∧ y = nI j ∧ v = some (.long (q_inner (d_R D i) (d_R D j) 8))) (fun En n1 h1 => og_DK h0 n0 n1 h1 D ∧ En = q_io ∧ ¬ (q_in8 x ∧ q_in8 y)) := by
  refine og_start (lv := [some (.ref 3), some (.int x), some (.int y)]) (by decide) rfl rfl (Nat.le_of_ble_eq_true rfl) fun X hr hnm htb => ?_
  refine og_iload_n (pc := 0) dX7_dot_0 rfl ?_
  refine og_callSX (pc := 1) (As := [.int x]) (rest := []) (c_X7_needRegister E d n h x) Y_X7_needRegister S_X7_needRegister K_X7_65 dX7_dot_1 rfl rfl (Nat.le_of_ble_eq_true rfl) (by omega) (by omega) (by omega) (htb) (by omega) (by omega) (fun En n1 h1 z => ?_) (fun v n1 h1 z => ?_)
  · obtain ⟨rfl, hn, rfl, hb⟩ := z
    exact ⟨w.more hn, rfl, fun q => hb q.1⟩
  obtain ⟨rfl, hn, hh, hx⟩ := z
  subst hn hh
  refine og_iload_n (pc := 4) dX7_dot_4 rfl ?_
  refine og_callSX (pc := 5) (As := [.int y]) (rest := []) (c_X7_needRegister E d n1 h1 y) Y_X7_needRegister S_X7_needRegister K_X7_65 dX7_dot_5 rfl rfl (Nat.le_of_ble_eq_true rfl) (by omega) (by omega) (by omega) (htb) (by omega) (by omega) (fun En n1 h1 z => ?_) (fun v n2 h2 z => ?_)
  · obtain ⟨rfl, hn, rfl, hb⟩ := z
    exact ⟨w.more hn, rfl, fun q => hb q.2⟩
  obtain ⟨rfl, hn, hh, hy⟩ := z
  subst hn hh
  obtain ⟨i, hi8, rfl⟩ := hx
  obtain ⟨j, hj8, rfl⟩ := hy
  have e3 := w.d3
  have e4 := w.e4
  have e5 := w.e5
  refine og_aload_n (pc := 8) dX7_dot_8 rfl ?_
  refine og_get (pc := 9) F_X7_10 dX7_dot_9 (by repeat (first | exact og_set_eq _ _ _ | assumption | refine (og_set_ne _ _ (by first | assumption | omega)).trans ?_)) (by omega) rfl ?_
  refine og_get (pc := 12) F_X7_78 dX7_dot_12 (by repeat (first | exact og_set_eq _ _ _ | assumption | refine (og_set_ne _ _ (by first | assumption | omega)).trans ?_)) (by omega) rfl ?_
  refine og_iload_n (pc := 15) dX7_dot_15 rfl ?_
  refine og_aaldN (pc := 16) rfl dX7_dot_16 (by repeat (first | exact og_set_eq _ _ _ | assumption | refine (og_set_ne _ _ (by first | assumption | omega)).trans ?_)) (by omega) (by decide) (by decide) (by omega) (by first | decide | assumption | omega) (q_g8 hi8) ?_
  refine og_aload_n (pc := 17) dX7_dot_17 rfl ?_
  refine og_get (pc := 18) F_X7_10 dX7_dot_18 (by repeat (first | exact og_set_eq _ _ _ | assumption | refine (og_set_ne _ _ (by first | assumption | omega)).trans ?_)) (by omega) rfl ?_
  refine og_get (pc := 21) F_X7_78 dX7_dot_21 (by repeat (first | exact og_set_eq _ _ _ | assumption | refine (og_set_ne _ _ (by first | assumption | omega)).trans ?_)) (by omega) rfl ?_
  refine og_iload_n (pc := 24) dX7_dot_24 rfl ?_
  refine og_aaldN (pc := 25) rfl dX7_dot_25 (by repeat (first | exact og_set_eq _ _ _ | assumption | refine (og_set_ne _ _ (by first | assumption | omega)).trans ?_)) (by omega) (by decide) (by decide) (by omega) (by first | decide | assumption | omega) (q_g8 hj8) ?_
  refine og_callS (pc := 26) (As := [.ref (4 + 2 + i), .ref (4 + 2 + j)]) (rest := []) (c_X3_inner E d n2 (4 + 2 + i) (4 + 2 + j) h2 _ _ (w.r hi8) (w.r hj8) (by omega) (by omega)) Y_X3_inner S_X3_inner K_X7_167 dX7_dot_26 rfl rfl (Nat.le_of_ble_eq_true rfl) (by omega) (by omega) (by omega) (fun _ _ _ z => z) (fun v n3 h3 z => ?_)
  obtain ⟨rfl, hn, hh⟩ := z
  subst hn hh
  exact og_lret (pc := 29) hr dX7_dot_29 (by omega) (by omega) ⟨w, i, j, hi8, hj8, rfl, rfl, rfl⟩
set_option maxRecDepth 4000 in
theorem c_X7_ordersOf (E : og_E) (d n : Nat) (h : og_H) (x : Int32) {h0 : og_H} {n0 : Nat} {D : q_D} (w : og_DK h0 n0 n h D) :
    og_M E yX7_ordersOf (.code yX7_ordersOf cX7_ordersOf 5 (some .int)) (d + 3) [.ref 3, .int x] n h 1 6 (fun v n1 h1 => og_DK h0 n0 n1 h1 D ∧ ∃ r, r < 8 ∧ x = nI r ∧ v = some (.int (q_oset (d_R D r) 8))) (fun En n1 h1 => og_DK h0 n0 n1 h1 D ∧ En = q_io ∧ ¬ (q_in8 x)) := by
  refine og_start (lv := [some (.ref 3), some (.int x), none, none, none]) (by decide) rfl rfl (Nat.le_of_ble_eq_true rfl) fun X hr hnm htb => ?_
  refine og_iload_n (pc := 0) dX7_ordersOf_0 rfl ?_
  refine og_callSX (pc := 1) (As := [.int x]) (rest := []) (c_X7_needRegister E d n h x) Y_X7_needRegister S_X7_needRegister K_X7_65 dX7_ordersOf_1 rfl rfl (Nat.le_of_ble_eq_true rfl) (by omega) (by omega) (by omega) (htb) (by omega) (by omega) (fun En n1 h1 z => ?_) (fun v n1 h1 z => ?_)
  · obtain ⟨rfl, hn, rfl, hb⟩ := z
    exact ⟨w.more hn, rfl, fun q => hb q⟩
  obtain ⟨rfl, hn, hh, hx⟩ := z
  subst hn hh
  obtain ⟨r, hr8, rfl⟩ := hx
  have e3 := w.d3
  have e4 := w.e4
  have e5 := w.e5
  refine og_aload_n (pc := 4) dX7_ordersOf_4 rfl ?_
  refine og_get (pc := 5) F_X7_10 dX7_ordersOf_5 (by repeat (first | exact og_set_eq _ _ _ | assumption | refine (og_set_ne _ _ (by first | assumption | omega)).trans ?_)) (by omega) rfl ?_
  refine og_get (pc := 8) F_X7_78 dX7_ordersOf_8 (by repeat (first | exact og_set_eq _ _ _ | assumption | refine (og_set_ne _ _ (by first | assumption | omega)).trans ?_)) (by omega) rfl ?_
  refine og_iload_n (pc := 11) dX7_ordersOf_11 rfl ?_
  refine og_aaldN (pc := 12) rfl dX7_ordersOf_12 (by repeat (first | exact og_set_eq _ _ _ | assumption | refine (og_set_ne _ _ (by first | assumption | omega)).trans ?_)) (by omega) (by decide) (by decide) (by omega) (by first | decide | assumption | omega) (q_g8 hr8) ?_
  refine og_callS (pc := 13) (As := [.ref (4 + 2 + r)]) (rest := []) (c_X3_oddSet E d n1 (4 + 2 + r) h1 _ (w.r hr8) (by omega)) Y_X3_oddSet S_X3_oddSet K_X7_170 dX7_ordersOf_13 rfl rfl (Nat.le_of_ble_eq_true rfl) (by omega) (by omega) (by omega) (fun _ _ _ z => z) (fun v n2 h2 z => ?_)
  obtain ⟨rfl, hn, hh⟩ := z
  subst hn hh
  refine og_istore_n_2 (pc := 16) dX7_ordersOf_16 rfl ?_
  refine og_iconst (pc := 17) (v := 0) dX7_ordersOf_17 (by decide) ?_
  refine og_istore_n_3 (pc := 18) dX7_ordersOf_18 rfl ?_
  refine og_iconst (pc := 19) (v := 0) dX7_ordersOf_19 (by decide) ?_
  refine og_istore_4 (pc := 20) dX7_ordersOf_20 rfl ?_
  refine og_for (i0 := 0) (N := 8) (by decide) (fun _ => h2) (fun i => [some (.ref 3), some (.int (nI r)), some (.int (q_odd (d_R D r) 8)), some (.int (q_oset (d_R D r) i)), some (.int (nI i))]) ?_ (fun i _ hi ih => ?_)
  · refine og_iload (pc := 22) dX7_ordersOf_22 rfl ?_
    refine og_bipush (pc := 24) (v := 8) dX7_ordersOf_24 (by decide) ?_
    refine og_geN (pc := 26) (tgt := 51) (i := 8) (N := 8) dX7_ordersOf_26 (by decide) rfl rfl (by omega) (by omega) (fun c_26 => ?_) (fun c_26 => ?_)
    · refine og_iload_n (pc := 51) dX7_ordersOf_51 rfl ?_
      exact og_iret (pc := 52) hr dX7_ordersOf_52 (by omega) (by omega) ⟨w, r, hr8, rfl, rfl⟩
    · omega
  · refine og_iload (pc := 22) dX7_ordersOf_22 rfl ?_
    refine og_bipush (pc := 24) (v := 8) dX7_ordersOf_24 (by decide) ?_
    refine og_geN (pc := 26) (tgt := 51) (i := i) (N := 8) dX7_ordersOf_26 (by decide) rfl rfl (by omega) (by omega) (fun c_26 => ?_) (fun c_26 => ?_)
    · omega
    refine og_iload (pc := 29) dX7_ordersOf_29 rfl ?_
    refine og_iload_n (pc := 31) dX7_ordersOf_31 rfl ?_
    refine og_callS (pc := 32) (As := [.int (nI i), .int (q_odd (d_R D r) 8)]) (rest := []) (c_X2_allows E d n2 i (q_odd (d_R D r) 8) h2 w.se hi) Y_X2_allows S_X2_allows K_X7_174 dX7_ordersOf_32 rfl rfl (Nat.le_of_ble_eq_true rfl) (by omega) (by omega) (by omega) (fun _ _ _ z => z) (fun v n3 h3 z => ?_)
    obtain ⟨hn, hh, z⟩ := z
    subst hn hh
    rcases z with ⟨rfl, z⟩ | ⟨rfl, z⟩
    · refine og_if_eq (pc := 35) (tgt := 45) dX7_ordersOf_35 (by decide) (fun c => absurd c (by decide)) (fun _ => ?_)
      refine og_iload_n (pc := 38) dX7_ordersOf_38 rfl ?_
      refine og_iconst (pc := 39) (v := 1) dX7_ordersOf_39 (by decide) ?_
      refine og_iload (pc := 40) dX7_ordersOf_40 rfl ?_
      refine og_ishl (pc := 42) dX7_ordersOf_42 ?_
      refine og_ior (pc := 43) dX7_ordersOf_43 ?_
      refine og_istore_n_3 (pc := 44) dX7_ordersOf_44 rfl ?_
      refine og_iinc_4 (pc := 45) dX7_ordersOf_45 (og_inc i) rfl ?_
      refine og_goto (pc := 48) (tgt := 22) dX7_ordersOf_48 (by decide) ?_
      rw [q_oset_t z] at ih
      exact ih
    · refine og_if_eq (pc := 35) (tgt := 45) dX7_ordersOf_35 (by decide) (fun _ => ?_) (fun c => absurd rfl c)
      refine og_iinc_4 (pc := 45) dX7_ordersOf_45 (og_inc i) rfl ?_
      refine og_goto (pc := 48) (tgt := 22) dX7_ordersOf_48 (by decide) ?_
      rw [q_oset_f (fun ⟨m9, m1, m2⟩ => z m9 m1 m2)] at ih
      exact ih
set_option maxRecDepth 4000 in
theorem c_X7_left (E : og_E) (d n : Nat) (h : og_H) (x y t : Int32) {h0 : og_H} {n0 : Nat} {D : q_D} (w : og_DK h0 n0 n h D) :
    og_M E yX7_left (.code yX7_left cX7_left 4 (some .int)) (d + 3) [.ref 3, .int x, .int y, .int t] n h 3 18 (fun v n1 h1 => og_DK h0 n0 n1 h1 D ∧ ∃ r i j, r < 8 ∧ i < 8 ∧ j < 8 ∧ x = nI r ∧ y = nI i ∧ t = nI j ∧ v = some (.int (q_prod (d_R D r) (vp_updL (fun _ => 0) j 1) i).toInt32)) (fun En n1 h1 => og_DK h0 n0 n1 h1 D ∧ En = q_io ∧ ¬ (q_in8 x ∧ q_in8 y ∧ q_in8 t)) := by
  refine og_start (lv := [some (.ref 3), some (.int x), some (.int y), some (.int t)]) (by decide) rfl rfl (Nat.le_of_ble_eq_true rfl) fun X hr hnm htb => ?_
  refine og_iload_n (pc := 0) dX7_left_0 rfl ?_
  refine og_callSX (pc := 1) (As := [.int x]) (rest := []) (c_X7_needRegister E d n h x) Y_X7_needRegister S_X7_needRegister K_X7_65 dX7_left_1 rfl rfl (Nat.le_of_ble_eq_true rfl) (by omega) (by omega) (by omega) (htb) (by omega) (by omega) (fun En n1 h1 z => ?_) (fun v n1 h1 z => ?_)
  · obtain ⟨rfl, hn, rfl, hb⟩ := z
    exact ⟨w.more hn, rfl, fun q => hb q.1⟩
  obtain ⟨rfl, hn, hh, hx⟩ := z
  subst hn hh
  refine og_iload_n (pc := 4) dX7_left_4 rfl ?_
  refine og_callSX (pc := 5) (As := [.int y]) (rest := []) (c_X7_needIndex E d n1 h1 y) Y_X7_needIndex S_X7_needIndex K_X7_69 dX7_left_5 rfl rfl (Nat.le_of_ble_eq_true rfl) (by omega) (by omega) (by omega) (htb) (by omega) (by omega) (fun En n1 h1 z => ?_) (fun v n2 h2 z => ?_)
  · obtain ⟨rfl, hn, rfl, hb⟩ := z
    exact ⟨w.more hn, rfl, fun q => hb q.2.1⟩
  obtain ⟨rfl, hn, hh, hy⟩ := z
  subst hn hh
  refine og_iload_n (pc := 8) dX7_left_8 rfl ?_
  refine og_callSX (pc := 9) (As := [.int t]) (rest := []) (c_X7_needIndex E d n2 h2 t) Y_X7_needIndex S_X7_needIndex K_X7_69 dX7_left_9 rfl rfl (Nat.le_of_ble_eq_true rfl) (by omega) (by omega) (by omega) (htb) (by omega) (by omega) (fun En n1 h1 z => ?_) (fun v n3 h3 z => ?_)
  · obtain ⟨rfl, hn, rfl, hb⟩ := z
    exact ⟨w.more hn, rfl, fun q => hb q.2.2⟩
  obtain ⟨rfl, hn, hh, ht⟩ := z
  subst hn hh
  obtain ⟨r, hr8, rfl⟩ := hx
  obtain ⟨i, hi8, rfl⟩ := hy
  obtain ⟨j, hj8, rfl⟩ := ht
  have e3 := w.d3
  obtain ⟨f99, e99⟩ := w.scr 99 (by unfold q_scr; omega)
  refine og_aload_n (pc := 12) dX7_left_12 rfl ?_
  refine og_get (pc := 13) F_X7_59 dX7_left_13 (by repeat (first | exact og_set_eq _ _ _ | assumption | refine (og_set_ne _ _ (by first | assumption | omega)).trans ?_)) (by omega) rfl ?_
  refine og_callS (pc := 16) (As := [.ref 99]) (rest := []) (c_X3_clear E d n3 99 h3 f99 e99 (by omega)) Y_X3_clear S_X3_clear K_X7_180 dX7_left_16 rfl rfl (Nat.le_of_ble_eq_true rfl) (by omega) (by omega) (by omega) (fun _ _ _ z => z) (fun v n4 h4 z => ?_)
  obtain ⟨rfl, hn, hh⟩ := z
  subst hn
  have w := w.row (fun _ => 0) (show q_scr 99 by unfold q_scr; omega)
  have e99 : h4 99 = some (rowL (fun _ => 0)) := by rw [hh]; exact og_set_eq _ _ _
  rw [show og_set _ 99 (rowL (fun _ => 0)) = h4 from hh.symm] at w
  clear hh
  have e3 := w.d3
  refine og_aload_n (pc := 19) dX7_left_19 rfl ?_
  refine og_get (pc := 20) F_X7_59 dX7_left_20 (by repeat (first | exact og_set_eq _ _ _ | assumption | refine (og_set_ne _ _ (by first | assumption | omega)).trans ?_)) (by omega) rfl ?_
  refine og_iload_n (pc := 23) dX7_left_23 rfl ?_
  refine og_lconst (pc := 24) (v := 1) dX7_left_24 (by decide) ?_
  refine og_lastN (pc := 25) rfl dX7_left_25 e99 (by omega) (by omega) (by first | decide | assumption | omega) ?_
  have w := w.row (vp_updL (fun _ => 0) j 1) (show q_scr 99 by unfold q_scr; omega)
  refine og_abs (P := fun h5 => og_DK h0 n0 n4 h5 D ∧ h5 99 = some (rowL (vp_updL (fun _ => 0) j 1))) ⟨w, og_set_eq _ _ _⟩ fun h5 ⟨w, e99⟩ => ?_
  have e3 := w.d3
  have e4 := w.e4
  have e5 := w.e5
  obtain ⟨f98, e98⟩ := w.scr 98 (by unfold q_scr; omega)
  refine og_aload_n (pc := 26) dX7_left_26 rfl ?_
  refine og_get (pc := 27) F_X7_10 dX7_left_27 (by repeat (first | exact og_set_eq _ _ _ | assumption | refine (og_set_ne _ _ (by first | assumption | omega)).trans ?_)) (by omega) rfl ?_
  refine og_get (pc := 30) F_X7_78 dX7_left_30 (by repeat (first | exact og_set_eq _ _ _ | assumption | refine (og_set_ne _ _ (by first | assumption | omega)).trans ?_)) (by omega) rfl ?_
  refine og_iload_n (pc := 33) dX7_left_33 rfl ?_
  refine og_aaldN (pc := 34) rfl dX7_left_34 (by repeat (first | exact og_set_eq _ _ _ | assumption | refine (og_set_ne _ _ (by first | assumption | omega)).trans ?_)) (by omega) (by decide) (by decide) (by omega) (by first | decide | assumption | omega) (q_g8 hr8) ?_
  refine og_aload_n (pc := 35) dX7_left_35 rfl ?_
  refine og_get (pc := 36) F_X7_59 dX7_left_36 (by repeat (first | exact og_set_eq _ _ _ | assumption | refine (og_set_ne _ _ (by first | assumption | omega)).trans ?_)) (by omega) rfl ?_
  refine og_aload_n (pc := 39) dX7_left_39 rfl ?_
  refine og_get (pc := 40) F_X7_55 dX7_left_40 (by repeat (first | exact og_set_eq _ _ _ | assumption | refine (og_set_ne _ _ (by first | assumption | omega)).trans ?_)) (by omega) rfl ?_
  refine og_callS (pc := 43) (As := [.ref (4 + 2 + r), .ref 99, .ref 98]) (rest := []) (c_X3_product E d n4 (4 + 2 + r) 99 98 h5 _ _ _ w.tr (w.r hr8) e99 e98 (by omega) (by omega) (by omega) (by omega) (by omega)) Y_X3_product S_X3_product K_X7_129 dX7_left_43 rfl rfl (Nat.le_of_ble_eq_true rfl) (by omega) (by omega) (by omega) (fun _ _ _ z => z) (fun v n6 h6 z => ?_)
  obtain ⟨rfl, hn, hh⟩ := z
  subst hn
  have w := w.row (q_prod (d_R D r) (vp_updL (fun _ => 0) j 1)) (show q_scr 98 by unfold q_scr; omega)
  have e98 : h6 98 = some (rowL (q_prod (d_R D r) (vp_updL (fun _ => 0) j 1))) := by rw [hh]; exact og_set_eq _ _ _
  rw [show og_set _ 98 (rowL (q_prod (d_R D r) (vp_updL (fun _ => 0) j 1))) = h6 from hh.symm] at w
  clear hh
  have e3 := w.d3
  refine og_aload_n (pc := 46) dX7_left_46 rfl ?_
  refine og_get (pc := 47) F_X7_55 dX7_left_47 (by repeat (first | exact og_set_eq _ _ _ | assumption | refine (og_set_ne _ _ (by first | assumption | omega)).trans ?_)) (by omega) rfl ?_
  refine og_iload_n (pc := 50) dX7_left_50 rfl ?_
  refine og_laldN (pc := 51) rfl dX7_left_51 e98 (by omega) (by omega) (by first | decide | assumption | omega) ?_
  refine og_l2i (pc := 52) dX7_left_52 rfl ?_
  exact og_iret (pc := 53) hr dX7_left_53 (by omega) (by omega) ⟨w, r, i, j, hr8, hi8, hj8, rfl, rfl, rfl, rfl⟩
