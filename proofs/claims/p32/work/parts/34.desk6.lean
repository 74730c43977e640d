/-! ===== the desk: load, unitOf, value, elements, append, clearText, undo ===== -/
def q_inN (m : Nat) (x : Int32) : Prop := ∃ k, k < m ∧ x = nI k
set_option maxRecDepth 4000 in
theorem c_X7_load (E : og_E) (d n : Nat) (h : og_H) (x y : Int32) {h0 : og_H} {n0 : Nat} {D : q_D} (w : og_DK h0 n0 n h D) :
    og_M E yX7_load (.code yX7_load cX7_load 3 (some .int)) (d + 5) [.ref 3, .int x, .int y] n h 4 256 (fun v n1 h1 => ∃ k r f, k < q_cnt (d_o D) ∧ r < 8 ∧ x = nI k ∧ y = nI r ∧ v = some (.int (q_read (q_uc (d_o D) k) 0).toInt32) ∧ og_DK h0 n0 n1 h1 (d_reg (d_wUn (q_save D) f) r (q_read (q_uc (d_o D) k)))) (fun En n1 h1 => og_DK h0 n0 n1 h1 D ∧ En = q_io ∧ ¬ (q_inN (q_cnt (d_o D)) x ∧ q_in8 y)) := by
  refine og_start (lv := [some (.ref 3), some (.int x), some (.int y)]) (by decide) rfl rfl (Nat.le_of_ble_eq_true rfl) fun X hr hnm htb => ?_
  have ho8 : d_o D < 8 := w.ok.1
  have hc := q_cnt_le (d_o D)
  have e3 := w.d3
  have e4 := w.e4
  have bad : ∀ st, (st.map fun v => v.category).sum ≤ 8 → ¬ q_inN (q_cnt (d_o D)) x → og_G E yX7_load.cls cX7_load (d + 5) 4 256 3 X (og_Q E (fun v n1 h1 => ∃ k r f, k < q_cnt (d_o D) ∧ r < 8 ∧ x = nI k ∧ y = nI r ∧ v = some (.int (q_read (q_uc (d_o D) k) 0).toInt32) ∧ og_DK h0 n0 n1 h1 (d_reg (d_wUn (q_save D) f) r (q_read (q_uc (d_o D) k)))) (fun En n1 h1 => og_DK h0 n0 n1 h1 D ∧ En = q_io ∧ ¬ (q_inN (q_cnt (d_o D)) x ∧ q_in8 y)) 4 256 X) 0 0 n h 18 [some (.ref 3), some (.int x), some (.int y)] st := fun st hs hb =>
    og_throw (pc := 18) (text := "no such unit") T_ioob (by decide +kernel) htb dX7_load_18 dX7_load_21 dX7_load_22 dX7_load_24 dX7_load_27 hs (by omega) (by omega) (fun n1 hn => ⟨w.more hn, rfl, fun q => hb q.1⟩)
  refine og_iload_n (pc := 0) dX7_load_0 rfl ?_
  refine og_if_lt (pc := 1) (tgt := 18) dX7_load_1 (by decide) (fun c => bad _ (by decide) ?_) (fun c => ?_)
  · rintro ⟨k, hk, e⟩
    rw [e] at c
    exact nI_pos (by omega) c
  obtain ⟨k, hk31, rfl⟩ := nI_of c
  refine og_iload_n (pc := 4) dX7_load_4 rfl ?_
  refine og_aload_n (pc := 5) dX7_load_5 rfl ?_
  refine og_get (pc := 6) F_X7_10 dX7_load_6 (by repeat (first | exact og_set_eq _ _ _ | assumption | refine (og_set_ne _ _ (by first | assumption | omega)).trans ?_)) (by omega) rfl ?_
  refine og_get (pc := 9) F_X7_93 dX7_load_9 (by repeat (first | exact og_set_eq _ _ _ | assumption | refine (og_set_ne _ _ (by first | assumption | omega)).trans ?_)) (by omega) rfl ?_
  refine og_callS (pc := 12) (As := [.int (nI (d_o D))]) (rest := [.int (nI k)]) (c_X6_count E d n (d_o D) h ho8) Y_X6_count S_X6_count K_X7_96 dX7_load_12 rfl rfl (Nat.le_of_ble_eq_true rfl) (by omega) (by omega) (by omega) (fun _ _ _ z => z) (fun v n1 h1 z => ?_)
  obtain ⟨rfl, hn, hh⟩ := z
  subst hn hh
  refine og_icmp_lt (pc := 15) (tgt := 28) dX7_load_15 (by decide) (fun c2 => ?_) (fun c2 => bad _ (by decide) ?_)
  rotate_left
  · rintro ⟨k2, hk2, e⟩
    rw [e] at c2
    exact c2 (nI_lt hk2 (by omega))
  have hk := (nI_ltI hk31 (by omega)).mp c2
  refine og_iload_n (pc := 28) dX7_load_28 rfl ?_
  refine og_callSX (pc := 29) (As := [.int y]) (rest := []) (c_X7_needRegister E d n1 h1 y) Y_X7_needRegister S_X7_needRegister K_X7_65 dX7_load_29 rfl rfl (Nat.le_of_ble_eq_true rfl) (by omega) (by omega) (by omega) (htb) (by omega) (by omega) (fun En n1 h1 z => ?_) (fun v n2 h2 z => ?_)
  · obtain ⟨rfl, hn, rfl, hb⟩ := z
    exact ⟨w.more hn, rfl, fun q => hb q.2⟩
  obtain ⟨rfl, hn, hh, r, hr8, rfl⟩ := z
  subst hn hh
  refine og_aload_n (pc := 32) dX7_load_32 rfl ?_
  refine og_callV (pc := 33) (As := []) (rest := []) (c_X7_saveState E d n2 h2 w) Y_X7_saveState I_X7_saveState V_X7_saveState w.d3 (by omega) rfl rfl K_X7_75 dX7_load_33 rfl rfl (Nat.le_of_ble_eq_true rfl) (by omega) (by omega) (by omega) (fun _ _ _ z => z) (fun v n3 h3 z => ?_)
  obtain ⟨rfl, hn, w2, -⟩ := z
  subst hn
  have e3 := w2.d3
  refine og_aload_n (pc := 36) dX7_load_36 rfl ?_
  refine og_callV (pc := 37) (As := []) (rest := []) (c_X7_presentUnits E d n3 h3 w2) Y_X7_presentUnits I_X7_presentUnits V_X7_presentUnits w2.d3 (by omega) rfl rfl K_X7_105 dX7_load_37 rfl rfl (Nat.le_of_ble_eq_true rfl) (by omega) (by omega) (by omega) (fun _ _ _ z => z) (fun v n4 h4 z => ?_)
  obtain ⟨u, f, rfl, hn, w3, hf⟩ := z
  rw [d_o_save] at hf
  obtain ⟨u1, u2, u3, u4, u5⟩ := w3.un _ _ hf
  have e3 := w3.d3
  have e4 := w3.e4
  have e5 := w3.e5
  refine og_iload_n (pc := 40) dX7_load_40 rfl ?_
  refine og_aload_n (pc := 41) dX7_load_41 rfl ?_
  refine og_get (pc := 42) F_X7_10 dX7_load_42 (by repeat (first | exact og_set_eq _ _ _ | assumption | refine (og_set_ne _ _ (by first | assumption | omega)).trans ?_)) (by omega) rfl ?_
  refine og_get (pc := 45) F_X7_78 dX7_load_45 (by repeat (first | exact og_set_eq _ _ _ | assumption | refine (og_set_ne _ _ (by first | assumption | omega)).trans ?_)) (by omega) rfl ?_
  refine og_iload_n (pc := 48) dX7_load_48 rfl ?_
  refine og_aaldN (pc := 49) rfl dX7_load_49 (by repeat (first | exact og_set_eq _ _ _ | assumption | refine (og_set_ne _ _ (by first | assumption | omega)).trans ?_)) (by omega) (by decide) (by decide) (by omega) (by first | decide | assumption | omega) (q_g8 hr8) ?_
  refine og_callV (pc := 50) (As := [.int (nI k), .ref (4 + 2 + r)]) (rest := []) (c_X6_read E d n4 u (u + 1) (q_cnt (d_o D)) k (4 + 2 + r) _ h4 (q_uc (d_o D)) _ u4 u5 (w3.r hr8) (by omega) (by omega) (by omega) (by omega) (by omega) hk (by omega)) Y_X6_read I_X6_read V_X6_read u4 (by omega) rfl rfl K_X7_109 dX7_load_50 rfl rfl (Nat.le_of_ble_eq_true rfl) (by omega) (by omega) (by omega) (fun _ _ _ z => z) (fun v n5 h5 z => ?_)
  obtain ⟨rfl, hn2, hh⟩ := z
  subst hn2 hh
  have w4 := w3.reg (q_read (q_uc (d_o D) k)) hr8
  have e3 := w4.d3
  have e4 := w4.e4
  have e5 := w4.e5
  refine og_aload_n (pc := 53) dX7_load_53 rfl ?_
  refine og_get (pc := 54) F_X7_10 dX7_load_54 (by repeat (first | exact og_set_eq _ _ _ | assumption | refine (og_set_ne _ _ (by first | assumption | omega)).trans ?_)) (by omega) rfl ?_
  refine og_get (pc := 57) F_X7_78 dX7_load_57 (by repeat (first | exact og_set_eq _ _ _ | assumption | refine (og_set_ne _ _ (by first | assumption | omega)).trans ?_)) (by omega) rfl ?_
  refine og_iload_n (pc := 60) dX7_load_60 rfl ?_
  refine og_aaldN (pc := 61) rfl dX7_load_61 (by repeat (first | exact og_set_eq _ _ _ | assumption | refine (og_set_ne _ _ (by first | assumption | omega)).trans ?_)) (by omega) (by decide) (by decide) (by omega) (by first | decide | assumption | omega) (q_g8 hr8) ?_
  refine og_iconst (pc := 62) (v := 0) dX7_load_62 (by decide) ?_
  refine og_laldN (pc := 63) (j := 0) rfl dX7_load_63 (by repeat (first | exact og_set_eq _ _ _ | assumption | refine (og_set_ne _ _ (by first | assumption | omega)).trans ?_)) (by omega) (by omega) (by first | decide | assumption | omega) ?_
  refine og_l2i (pc := 64) dX7_load_64 rfl ?_
  exact og_iret (pc := 65) hr dX7_load_65 (by omega) (by omega) ⟨k, r, f, hk, hr8, rfl, rfl, rfl, w4⟩
/-- the number of a unit, as the class tells it -/
noncomputable def q_uno (o : Nat) (f : Nat → Int64) : Int32 := @dite Int32 (q_inner f f 8 = 4 ∧ ∃ k, k < q_cnt o ∧ q_uc o k = q_code f 8 ∧ ∀ j, j < k → q_uc o j ≠ q_code f 8) (Classical.propDecidable _) (fun h => nI (Classical.choose h.2)) (fun _ => -1)
theorem q_uno_1 {o : Nat} {f : Nat → Int64} {k : Nat} (h : q_inner f f 8 = 4) (h1 : k < q_cnt o) (h2 : q_uc o k = q_code f 8) (h3 : ∀ j, j < k → q_uc o j ≠ q_code f 8) : q_uno o f = nI k := by
  have hh : q_inner f f 8 = 4 ∧ ∃ k, k < q_cnt o ∧ q_uc o k = q_code f 8 ∧ ∀ j, j < k → q_uc o j ≠ q_code f 8 := ⟨h, k, h1, h2, h3⟩
  unfold q_uno
  rw [dif_pos hh]
  obtain ⟨c1, c2, c3⟩ := Classical.choose_spec hh.2
  congr 1
  rcases Nat.lt_trichotomy (Classical.choose hh.2) k with q | q | q
  · exact absurd c2 (h3 _ q)
  · exact q
  · exact absurd h2 (c3 _ q)
theorem q_uno_0 {o : Nat} {f : Nat → Int64} (h : q_inner f f 8 ≠ 4 ∨ ∀ j, j < q_cnt o → q_uc o j ≠ q_code f 8) : q_uno o f = -1 := by
  unfold q_uno
  rw [dif_neg]
  rintro ⟨a, k, b, c, -⟩
  rcases h with h | h
  · exact h a
  · exact h k b c
theorem c_X7_unitOf (E : og_E) (d n : Nat) (h : og_H) (x : Int32) {h0 : og_H} {n0 : Nat} {D : q_D} (w : og_DK h0 n0 n h D) :
    og_M E yX7_unitOf (.code yX7_unitOf cX7_unitOf 2 (some .int)) (d + 5) [.ref 3, .int x] n h 4 256 (fun v n1 h1 => ∃ r f, r < 8 ∧ x = nI r ∧ v = some (.int (q_uno (d_o D) (d_R D r))) ∧ n ≤ n1 ∧ og_DK h0 n0 n1 h1 (d_wUn D f)) (fun En n1 h1 => og_DK h0 n0 n1 h1 D ∧ En = q_io ∧ ¬ q_in8 x) := by
  refine og_start (lv := [some (.ref 3), some (.int x)]) (by decide) rfl rfl (Nat.le_of_ble_eq_true rfl) fun X hr hnm htb => ?_
  have hc := q_cnt_le (d_o D)
  refine og_iload_n (pc := 0) dX7_unitOf_0 rfl ?_
  refine og_callSX (pc := 1) (As := [.int x]) (rest := []) (c_X7_needRegister E d n h x) Y_X7_needRegister S_X7_needRegister K_X7_65 dX7_unitOf_1 rfl rfl (Nat.le_of_ble_eq_true rfl) (by omega) (by omega) (by omega) (htb) (by omega) (by omega) (fun En n1 h1 z => ?_) (fun v n1 h1 z => ?_)
  · obtain ⟨rfl, hn, rfl, hb⟩ := z
    exact ⟨w.more hn, rfl, hb⟩
  obtain ⟨rfl, hn, hh, r, hr8, rfl⟩ := z
  subst hn hh
  refine og_aload_n (pc := 4) dX7_unitOf_4 rfl ?_
  refine og_callV (pc := 5) (As := []) (rest := []) (c_X7_presentUnits E d n1 h1 w) Y_X7_presentUnits I_X7_presentUnits V_X7_presentUnits w.d3 (by omega) rfl rfl K_X7_105 dX7_unitOf_5 rfl rfl (Nat.le_of_ble_eq_true rfl) (by omega) (by omega) (by omega) (fun _ _ _ z => z) (fun v n2 h2 z => ?_)
  obtain ⟨u, f, rfl, hn, w3, hf⟩ := z
  obtain ⟨u1, u2, u3, u4, u5⟩ := w3.un _ _ hf
  have e3 := w3.d3
  have e4 := w3.e4
  have e5 := w3.e5
  refine og_aload_n (pc := 8) dX7_unitOf_8 rfl ?_
  refine og_get (pc := 9) F_X7_10 dX7_unitOf_9 (by repeat (first | exact og_set_eq _ _ _ | assumption | refine (og_set_ne _ _ (by first | assumption | omega)).trans ?_)) (by omega) rfl ?_
  refine og_get (pc := 12) F_X7_78 dX7_unitOf_12 (by repeat (first | exact og_set_eq _ _ _ | assumption | refine (og_set_ne _ _ (by first | assumption | omega)).trans ?_)) (by omega) rfl ?_
  refine og_iload_n (pc := 15) dX7_unitOf_15 rfl ?_
  refine og_aaldN (pc := 16) rfl dX7_unitOf_16 (by repeat (first | exact og_set_eq _ _ _ | assumption | refine (og_set_ne _ _ (by first | assumption | omega)).trans ?_)) (by omega) (by decide) (by decide) (by omega) (by first | decide | assumption | omega) (q_g8 hr8) ?_
  refine og_callV (pc := 17) (As := [.ref (4 + 2 + r)]) (rest := []) (c_X6_numberOf E d n2 u (u + 1) (q_cnt (d_o D)) (4 + 2 + r) _ h2 (q_uc (d_o D)) _ u4 u5 (w3.r hr8) (by omega) (by omega) (by omega) (by omega)) Y_X6_numberOf I_X6_numberOf V_X6_numberOf u4 (by omega) rfl rfl K_X7_183 dX7_unitOf_17 rfl rfl (Nat.le_of_ble_eq_true rfl) (by omega) (by omega) (by omega) (fun _ _ _ z => z) (fun v n3 h3 z => ?_)
  obtain ⟨hn2, hh, z⟩ := z
  subst hn2 hh
  rcases z with ⟨z1, k, z2, z3, z4, rfl⟩ | ⟨z1, rfl⟩
  · exact og_iret (pc := 20) hr dX7_unitOf_20 (by omega) (by omega) ⟨r, f, hr8, rfl, by rw [show q_uno (d_o D) (d_R D r) = nI k from q_uno_1 z1 z2 z3 z4], hn, w3⟩
  · exact og_iret (pc := 20) hr dX7_unitOf_20 (by omega) (by omega) ⟨r, f, hr8, rfl, by rw [show q_uno (d_o D) (d_R D r) = -1 from q_uno_0 z1], hn, w3⟩
noncomputable def q_val (D : q_D) : Nat → Int32
  | 0 => nI (d_o D)
  | 1 => nI (q_cnt (d_o D))
  | 2 => (d_st D).2.2.1
  | 3 => (d_st D).2.2.2
  | 4 => nI (q_many (fun r => q_al (d_o D) (d_R D r)) 8)
  | _ => nI (q_many (fun r => q_zr (d_R D r)) 8)
theorem c_X7_value (E : og_E) (d n : Nat) (h : og_H) (x : Int32) {h0 : og_H} {n0 : Nat} {D : q_D} (w : og_DK h0 n0 n h D) :
    og_M E yX7_value (.code yX7_value cX7_value 2 (some .int)) (d + 5) [.ref 3, .int x] n h 1 6 (fun v n1 h1 => n1 = n ∧ h1 = h ∧ ∃ k, k < 6 ∧ x = nI k ∧ v = some (.int (q_val D k))) (fun En n1 h1 => og_DK h0 n0 n1 h1 D ∧ En = q_ia ∧ ¬ q_inN 6 x) := by
  refine og_start (lv := [some (.ref 3), some (.int x)]) (by decide) rfl rfl (Nat.le_of_ble_eq_true rfl) fun X hr hnm htb => ?_
  have ho8 : d_o D < 8 := w.ok.1
  have e3 := w.d3
  have e4 := w.e4
  refine og_iload_n (pc := 0) dX7_value_0 rfl ?_
  by_cases hx : q_inN 6 x
  · obtain ⟨k, hk, rfl⟩ := hx
    match k, hk with
    | 0, hk =>
      refine og_tableIn (pc := 1) (tgt := 40) (off := 39) dX7_value_1 (by decide) (by decide) (by decide) (by decide) ?_
      refine og_aload_n (pc := 40) dX7_value_40 rfl ?_
      refine og_get (pc := 41) F_X7_10 dX7_value_41 (by repeat (first | exact og_set_eq _ _ _ | assumption | refine (og_set_ne _ _ (by first | assumption | omega)).trans ?_)) (by omega) rfl ?_
      refine og_get (pc := 44) F_X7_93 dX7_value_44 (by repeat (first | exact og_set_eq _ _ _ | assumption | refine (og_set_ne _ _ (by first | assumption | omega)).trans ?_)) (by omega) rfl ?_
      exact og_iret (pc := 47) hr dX7_value_47 (by omega) (by omega) ⟨rfl, rfl, 0, hk, rfl, rfl⟩
    | 1, hk =>
      refine og_tableIn (pc := 1) (tgt := 48) (off := 47) dX7_value_1 (by decide) (by decide) (by decide) (by decide) ?_
      refine og_aload_n (pc := 48) dX7_value_48 rfl ?_
      refine og_get (pc := 49) F_X7_10 dX7_value_49 (by repeat (first | exact og_set_eq _ _ _ | assumption | refine (og_set_ne _ _ (by first | assumption | omega)).trans ?_)) (by omega) rfl ?_
      refine og_get (pc := 52) F_X7_93 dX7_value_52 (by repeat (first | exact og_set_eq _ _ _ | assumption | refine (og_set_ne _ _ (by first | assumption | omega)).trans ?_)) (by omega) rfl ?_
      refine og_callS (pc := 55) (As := [.int (nI (d_o D))]) (rest := []) (c_X6_count E d n (d_o D) h ho8) Y_X6_count S_X6_count K_X7_96 dX7_value_55 rfl rfl (Nat.le_of_ble_eq_true rfl) (by omega) (by omega) (by omega) (fun _ _ _ z => z) (fun v n1 h1 z => ?_)
      obtain ⟨rfl, hn, hh⟩ := z
      subst hn hh
      exact og_iret (pc := 58) hr dX7_value_58 (by omega) (by omega) ⟨rfl, rfl, 1, hk, rfl, rfl⟩
    | 2, hk =>
      refine og_tableIn (pc := 1) (tgt := 59) (off := 58) dX7_value_1 (by decide) (by decide) (by decide) (by decide) ?_
      refine og_aload_n (pc := 59) dX7_value_59 rfl ?_
      refine og_get (pc := 60) F_X7_10 dX7_value_60 (by repeat (first | exact og_set_eq _ _ _ | assumption | refine (og_set_ne _ _ (by first | assumption | omega)).trans ?_)) (by omega) rfl ?_
      refine og_get (pc := 63) F_X7_133 dX7_value_63 (by repeat (first | exact og_set_eq _ _ _ | assumption | refine (og_set_ne _ _ (by first | assumption | omega)).trans ?_)) (by omega) rfl ?_
      exact og_iret (pc := 66) hr dX7_value_66 (by omega) (by omega) ⟨rfl, rfl, 2, hk, rfl, rfl⟩
    | 3, hk =>
      refine og_tableIn (pc := 1) (tgt := 67) (off := 66) dX7_value_1 (by decide) (by decide) (by decide) (by decide) ?_
      refine og_aload_n (pc := 67) dX7_value_67 rfl ?_
      refine og_get (pc := 68) F_X7_10 dX7_value_68 (by repeat (first | exact og_set_eq _ _ _ | assumption | refine (og_set_ne _ _ (by first | assumption | omega)).trans ?_)) (by omega) rfl ?_
      refine og_get (pc := 71) F_X7_160 dX7_value_71 (by repeat (first | exact og_set_eq _ _ _ | assumption | refine (og_set_ne _ _ (by first | assumption | omega)).trans ?_)) (by omega) rfl ?_
      exact og_iret (pc := 74) hr dX7_value_74 (by omega) (by omega) ⟨rfl, rfl, 3, hk, rfl, rfl⟩
    | 4, hk =>
      refine og_tableIn (pc := 1) (tgt := 75) (off := 74) dX7_value_1 (by decide) (by decide) (by decide) (by decide) ?_
      refine og_aload_n (pc := 75) dX7_value_75 rfl ?_
      refine og_callV (pc := 76) (As := []) (rest := []) (c_X7_registersInOrder E d n h w) Y_X7_registersInOrder I_X7_registersInOrder V_X7_registersInOrder e3 (by omega) rfl rfl K_X7_186 dX7_value_76 rfl rfl (Nat.le_of_ble_eq_true rfl) (by omega) (by omega) (by omega) (fun _ _ _ z => z) (fun v n1 h1 z => ?_)
      obtain ⟨rfl, hn, hh⟩ := z
      subst hn hh
      exact og_iret (pc := 79) hr dX7_value_79 (by omega) (by omega) ⟨rfl, rfl, 4, hk, rfl, rfl⟩
    | 5, hk =>
      refine og_tableIn (pc := 1) (tgt := 80) (off := 79) dX7_value_1 (by decide) (by decide) (by decide) (by decide) ?_
      refine og_aload_n (pc := 80) dX7_value_80 rfl ?_
      refine og_callV (pc := 81) (As := []) (rest := []) (c_X7_zeroRegisters E d n h w) Y_X7_zeroRegisters I_X7_zeroRegisters V_X7_zeroRegisters e3 (by omega) rfl rfl K_X7_190 dX7_value_81 rfl rfl (Nat.le_of_ble_eq_true rfl) (by omega) (by omega) (by omega) (fun _ _ _ z => z) (fun v n1 h1 z => ?_)
      obtain ⟨rfl, hn, hh⟩ := z
      subst hn hh
      exact og_iret (pc := 84) hr dX7_value_84 (by omega) (by omega) ⟨rfl, rfl, 5, hk, rfl, rfl⟩
  · refine og_tableOut (pc := 1) (tgt := 85) dX7_value_1 ?_ (by decide) ?_
    · by_cases h1 : x < 0
      · exact Or.inl (Int32.lt_iff_toInt_lt.mp h1)
      · right
        obtain ⟨j, hj, rfl⟩ := nI_of h1
        rw [nI_toInt hj]
        have : ¬ j < 6 := fun q => hx ⟨j, q, rfl⟩
        omega
    · exact og_throw (pc := 85) (text := "no such value") T_iae (by decide +kernel) htb dX7_value_85 dX7_value_88 dX7_value_89 dX7_value_91 dX7_value_94 (by decide) (by omega) (by omega) (fun n1 hn => ⟨w.more hn, rfl, hx⟩)