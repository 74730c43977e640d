/-! ===== the model: load, commuting ===== -/
theorem q_cnt_pos (o : Nat) : 16 ≤ q_cnt o := by
  unfold q_cnt
  by_cases h : o = 0
  · rw [if_pos h]; omega
  · rw [if_neg h]; omega
set_option maxRecDepth 4000 in
theorem c_X8_load (E : og_E) (d n : Nat) (h : og_H) (x y : Int32) {h0 : og_H} {M : q_M} (w : og_MK h0 h M) {o : Nat} (hL : q_HL) (hu : m_uok M) (ho : m_s M 64 = nI o) (ho8 : o < 8) :
    og_M E yX8_load (.code yX8_load cX8_load 4 (some .int)) (d + 3) [.ref 101, .int x, .int y] n h 0 0 (fun v n1 h1 => n1 = n ∧ ∃ un U, m_lay o (m_wUn M (nI o) un U) ∧ ((¬ (q_inN (q_cnt o) x ∧ q_in8 y) ∧ v = some (.int 0) ∧ og_MK h0 h1 (m_wRf (m_wUn M (nI o) un U) 1)) ∨ (∃ u9 r9, u9 < q_cnt o ∧ r9 < 8 ∧ x = nI u9 ∧ y = nI r9 ∧ v = some (.int (q_read (q_uc o u9) 0).toInt32) ∧ og_MK h0 h1 (m_wS (m_save (m_wRf (m_wUn M (nI o) un U) 0)) (q_pt (m_s M) (q_read (q_uc o u9)) r9))))) no_x := by
  refine og_start (lv := [some (.ref 101), some (.int x), some (.int y), none]) (by decide) rfl rfl (Nat.le_of_ble_eq_true rfl) fun X hr hnm htb => ?_
  have wm := w.m
  refine og_aload_n (pc := 0) dX8_load_0 rfl ?_
  refine og_callV (pc := 1) (As := []) (rest := []) (c_X8_laysUnits E d n h hL w hu ho ho8) Y_X8_laysUnits I_X8_laysUnits V_X8_laysUnits wm (by omega) rfl rfl K_X8_118 dX8_load_1 rfl rfl (Nat.le_of_ble_eq_true rfl) (by omega) (by omega) (by omega) (fun _ _ _ z => z) (fun v n1 h1 z => ?_)
  obtain ⟨hn, rfl, un, U, w, hl⟩ := z
  subst hn
  have hun : un = nI (q_cnt o) := hl.2.1
  subst hun
  have wm := w.m
  have hU : ∀ u, u < q_cnt o → ∀ k, k < 8 → U (8 * u + k) = (q_read (q_uc o u) k).toInt32 := hl.2.2
  have hcnt := q_cnt_le o
  have hpos := q_cnt_pos o
  obtain ⟨c1, hc1⟩ : ∃ c1, q_cnt o = c1 + 1 := ⟨q_cnt o - 1, by omega⟩
  have ec : nI (q_cnt o) - 1 = nI c1 := by rw [hc1, nI_s1]
  have rej : ∀ g, og_MK h0 g (m_wUn M (nI o) (nI (q_cnt o)) U) → ¬ (q_inN (q_cnt o) x ∧ q_in8 y) → og_G E yX8_load.cls cX8_load (d + 3) 0 0 4 X (og_Q E (fun v nn h1 => nn = n1 ∧ ∃ un U, m_lay o (m_wUn M (nI o) un U) ∧ ((¬ (q_inN (q_cnt o) x ∧ q_in8 y) ∧ v = some (.int 0) ∧ og_MK h0 h1 (m_wRf (m_wUn M (nI o) un U) 1)) ∨ (∃ u9 r9, u9 < q_cnt o ∧ r9 < 8 ∧ x = nI u9 ∧ y = nI r9 ∧ v = some (.int (q_read (q_uc o u9) 0).toInt32) ∧ og_MK h0 h1 (m_wS (m_save (m_wRf (m_wUn M (nI o) un U) 0)) (q_pt (m_s M) (q_read (q_uc o u9)) r9))))) no_x 0 0 X) 0 0 n1 g 26 [some (.ref 101), some (.int x), some (.int y), none] [.ref 101] := by
    intro g w hb
    have wm := w.m
    refine og_iconst (pc := 26) (v := 1) dX8_load_26 (by decide) ?_
    refine og_goto (pc := 27) (tgt := 31) dX8_load_27 (by decide) ?_
    refine og_callV (pc := 31) (As := [.int 1]) (rest := []) (c_X8_throwsAt E d n1 g 1 wm) Y_X8_throwsAt I_X8_throwsAt V_X8_throwsAt wm (by omega) rfl rfl K_X8_125 dX8_load_31 rfl rfl (Nat.le_of_ble_eq_true rfl) (by omega) (by omega) (by omega) (fun _ _ _ z => z) (fun v n2 h2 z => ?_)
    obtain ⟨hn, hh, z⟩ := z
    subst hn
    have w2 := w.rf_ 1
    rcases z with ⟨rfl, z⟩ | ⟨rfl, z⟩
    rotate_left
    · exact absurd (by decide) z
    refine og_if_eq (pc := 34) (tgt := 39) dX8_load_34 (by decide) (fun q => absurd q (by decide)) (fun _ => ?_)
    refine og_iconst (pc := 37) (v := 0) dX8_load_37 (by decide) ?_
    exact og_iret (pc := 38) hr dX8_load_38 (by omega) (by omega) ⟨rfl, _, U, hl, Or.inl ⟨hb, rfl, by rw [hh]; exact w2⟩⟩
  refine og_aload_n (pc := 4) dX8_load_4 rfl ?_
  refine og_iload_n (pc := 5) dX8_load_5 rfl ?_
  refine og_iconst (pc := 6) (v := 0) dX8_load_6 (by decide) ?_
  refine og_aload_n (pc := 7) dX8_load_7 rfl ?_
  refine og_get (pc := 8) F_X8_107 dX8_load_8 wm (by omega) rfl ?_
  refine og_iconst (pc := 11) (v := 1) dX8_load_11 (by decide) ?_
  refine og_isub (pc := 12) dX8_load_12 ?_
  refine og_callS (pc := 13) (As := [.int x, .int 0, .int (nI (q_cnt o) - 1)]) (rest := [.ref 101]) (c_X8_in E d n1 h1 x 0 (nI (q_cnt o) - 1)) Y_X8_in S_X8_in K_X8_86 dX8_load_13 rfl rfl (Nat.le_of_ble_eq_true rfl) (by omega) (by omega) (by omega) (fun _ _ _ z => z) (fun v n2 h2 z => ?_)
  obtain ⟨hn, hh, z⟩ := z
  subst hn hh
  rcases z with ⟨rfl, z1, z2⟩ | ⟨rfl, z⟩
  rotate_left
  · refine og_if_eq (pc := 16) (tgt := 26) dX8_load_16 (by decide) (fun _ => rej _ w (fun q => z ?_)) (fun q => absurd rfl q)
    rw [ec]
    exact q_inN_of (m := c1) (by omega) (hc1 ▸ q.1)
  refine og_if_eq (pc := 16) (tgt := 26) dX8_load_16 (by decide) (fun q => absurd q (by decide)) (fun _ => ?_)
  have hin : q_inN (q_cnt o) x := by
    rw [hc1]
    exact q_inN_iff (m := c1) (by omega) x z1 (ec ▸ z2)
  refine og_iload_n (pc := 19) dX8_load_19 rfl ?_
  refine og_callS (pc := 20) (As := [.int y]) (rest := [.ref 101]) (c_X8_isEight E d n2 h2 y) Y_X8_isEight S_X8_isEight K_X8_121 dX8_load_20 rfl rfl (Nat.le_of_ble_eq_true rfl) (by omega) (by omega) (by omega) (fun _ _ _ z => z) (fun v n3 h3 z => ?_)
  obtain ⟨hn, hh, z⟩ := z
  subst hn hh
  rcases z with ⟨rfl, zy⟩ | ⟨rfl, zy⟩
  rotate_left
  · exact og_if_ne (pc := 23) (tgt := 30) dX8_load_23 (by decide) (fun q => absurd rfl q) (fun _ => rej _ w (fun q => zy (q_in_e8 q.2)))
  refine og_if_ne (pc := 23) (tgt := 30) dX8_load_23 (by decide) (fun _ => ?_) (fun q => absurd q (by decide))
  obtain ⟨u, hu9, rfl⟩ := hin
  obtain ⟨r, hr8, rfl⟩ := q_e8_in zy
  refine og_iconst (pc := 30) (v := 0) dX8_load_30 (by decide) ?_
  refine og_callV (pc := 31) (As := [.int 0]) (rest := []) (c_X8_throwsAt E d n3 h3 0 wm) Y_X8_throwsAt I_X8_throwsAt V_X8_throwsAt wm (by omega) rfl rfl K_X8_125 dX8_load_31 rfl rfl (Nat.le_of_ble_eq_true rfl) (by omega) (by omega) (by omega) (fun _ _ _ z => z) (fun v n4 h4 z => ?_)
  obtain ⟨hn, hh, z⟩ := z
  subst hn
  have w2 := w.rf_ 0
  rcases z with ⟨rfl, z⟩ | ⟨rfl, -⟩
  · exact absurd z (by decide)
  refine og_if_eq (pc := 34) (tgt := 39) dX8_load_34 (by decide) (fun _ => ?_) (fun q => absurd rfl q)
  refine og_abs (P := fun g => og_MK h0 g (m_wRf (m_wUn M (nI o) (nI (q_cnt o)) U) 0)) (by rw [hh]; exact w2) fun g w3 => ?_
  have wm := w3.m
  refine og_aload_n (pc := 39) dX8_load_39 rfl ?_
  refine og_callV (pc := 40) (As := []) (rest := []) (c_X8_saves E d n4 (m_ps M) g (m_p M) (m_s M) wm w3.s w3.p w3.ok.1) Y_X8_saves I_X8_saves V_X8_saves wm (by omega) rfl rfl K_X8_128 dX8_load_40 rfl rfl (Nat.le_of_ble_eq_true rfl) (by omega) (by omega) (by omega) (fun _ _ _ z => z) (fun v n5 h5 z => ?_)
  obtain ⟨rfl, hn, z⟩ := z
  subst hn
  obtain ⟨w4, hfr⟩ := m_saved w3 z
  have wm := w4.m
  have ws : h5 102 = some (rowI 67 (m_s M)) := (hfr 102 (by omega) (by omega)).trans w3.s
  have wu : h5 113 = some (rowI 1920 U) := (hfr 113 (by omega) (by omega)).trans w3.u
  refine og_iconst (pc := 43) (v := 0) dX8_load_43 (by decide) ?_
  refine og_istore_n_3 (pc := 44) dX8_load_44 rfl ?_
  refine og_heq (og_set h5 102 (rowI 67 (q_pti (m_s M) (q_read (q_uc o u)) r 0))) (by rw [show q_pti (m_s M) (q_read (q_uc o u)) r 0 = m_s M from funext fun j => if_neg (by omega), og_set_same ws]) ?_
  refine og_for (i0 := 0) (N := 8) (by decide) (fun i => og_set h5 102 (rowI 67 (q_pti (m_s M) (q_read (q_uc o u)) r i))) (fun i => [some (.ref 101), some (.int (nI u)), some (.int (nI r)), some (.int (nI i))]) ?_ (fun i _ hi ih => ?_)
  · have w5 := w4.sS (q_pti (m_s M) (q_read (q_uc o u)) r 8)
    have wm := w5.m
    have ws := w5.s
    have e8 : (8 : Int32) * nI r = nI (8 * r + 0) := by
      have := og_i8 r 0
      rw [← this, show nI 0 = 0 from rfl]
      exact (Int32.add_zero _).symm
    refine og_iload_n (pc := 45) dX8_load_45 rfl ?_
    refine og_bipush (pc := 46) (v := 8) dX8_load_46 (by decide) ?_
    refine og_geN (pc := 48) (tgt := 79) (i := 8) (N := 8) dX8_load_48 (by decide) rfl rfl (by omega) (by omega) (fun c_48 => ?_) (fun c_48 => ?_)
    rotate_left
    · omega
    refine og_aload_n (pc := 79) dX8_load_79 rfl ?_
    refine og_get (pc := 80) F_X8_7 dX8_load_80 wm (by omega) rfl ?_
    refine og_bipush (pc := 83) (v := 8) dX8_load_83 (by decide) ?_
    refine og_iload_n (pc := 85) dX8_load_85 rfl ?_
    refine og_imul (pc := 86) dX8_load_86 ?_
    refine og_ialdN (pc := 87) e8 dX8_load_87 ws (by omega) (by omega) (by first | decide | assumption | omega) ?_
    exact og_iret (pc := 88) hr dX8_load_88 (by omega) (by omega) ⟨rfl, _, U, hl, Or.inr ⟨u, r, hu9, hr8, rfl, rfl, by
      show some (Value.int (q_pti (m_s M) (q_read (q_uc o u)) r 8 (8 * r + 0))) = _
      rw [q_pti, if_pos (by omega), show 8 * r + 0 - 8 * r = 0 by omega], w5⟩⟩
  · have wm := (w4.sS (q_pti (m_s M) (q_read (q_uc o u)) r i)).m
    have ws : og_set h5 102 (rowI 67 (q_pti (m_s M) (q_read (q_uc o u)) r i)) 102 = some (rowI 67 (q_pti (m_s M) (q_read (q_uc o u)) r i)) := og_set_eq _ _ _
    have wu : og_set h5 102 (rowI 67 (q_pti (m_s M) (q_read (q_uc o u)) r i)) 113 = some (rowI 1920 U) := (og_set_ne _ _ (by omega)).trans wu
    refine og_iload_n (pc := 45) dX8_load_45 rfl ?_
    refine og_bipush (pc := 46) (v := 8) dX8_load_46 (by decide) ?_
    refine og_geN (pc := 48) (tgt := 79) (i := i) (N := 8) dX8_load_48 (by decide) rfl rfl (by omega) (by omega) (fun c_48 => ?_) (fun c_48 => ?_)
    · omega
    refine og_aload_n (pc := 51) dX8_load_51 rfl ?_
    refine og_get (pc := 52) F_X8_7 dX8_load_52 wm (by omega) rfl ?_
    refine og_bipush (pc := 55) (v := 8) dX8_load_55 (by decide) ?_
    refine og_iload_n (pc := 57) dX8_load_57 rfl ?_
    refine og_imul (pc := 58) dX8_load_58 ?_
    refine og_iload_n (pc := 59) dX8_load_59 rfl ?_
    refine og_iadd (pc := 60) dX8_load_60 ?_
    refine og_aload_n (pc := 61) dX8_load_61 rfl ?_
    refine og_get (pc := 62) F_X8_48 dX8_load_62 wm (by omega) rfl ?_
    refine og_bipush (pc := 65) (v := 8) dX8_load_65 (by decide) ?_
    refine og_iload_n (pc := 67) dX8_load_67 rfl ?_
    refine og_imul (pc := 68) dX8_load_68 ?_
    refine og_iload_n (pc := 69) dX8_load_69 rfl ?_
    refine og_iadd (pc := 70) dX8_load_70 ?_
    refine og_ialdN (pc := 71) (og_i8 u i) dX8_load_71 wu (by omega) (by omega) (by first | decide | assumption | omega) ?_
    rw [hU u hu9 i hi]
    refine og_iastN (pc := 72) (j := (8 * r + i)) (og_i8 r i) dX8_load_72 ws (by omega) (by omega) (by first | decide | assumption | omega) ?_
    refine og_iinc_3 (pc := 73) dX8_load_73 (og_inc i) rfl ?_
    refine og_goto (pc := 76) (tgt := 45) dX8_load_76 (by decide) ?_
    rw [og_set_set, q_pti_next]
    exact ih
theorem q_read_i (x : Int32) (k : Nat) : (q_read x k).toInt32.toInt64 = q_read x k := by
  unfold q_read
  rw [Int32.toInt32_toInt64]
set_option maxRecDepth 4000 in
theorem c_X8_commuting (E : og_E) (d n : Nat) (h : og_H) (x : Int32) {h0 : og_H} {M : q_M} (w : og_MK h0 h M) {o : Nat} (hL : q_HL) (hu : m_uok M) (ho : m_s M 64 = nI o) (ho8 : o < 8) :
    og_M E yX8_commuting (.code yX8_commuting cX8_commuting 6 (some .int)) (d + 3) [.ref 101, .int x] n h 0 0 (fun v n1 h1 => n1 = n ∧ ((¬ (q_in8 x) ∧ v = some (.int 0) ∧ og_MK h0 h1 (m_wRf M 1)) ∨ (∃ r, r < 8 ∧ x = nI r ∧ ∃ un U, og_MK h0 h1 (m_wUn (m_wRf M 0) (nI o) un U) ∧ m_lay o (m_wUn (m_wRf M 0) (nI o) un U) ∧ v = some (.int (nI (q_many (fun u => ∀ k, k < 8 → q_prod (m_R M r) (q_read (q_uc o u)) k = q_prod (q_read (q_uc o u)) (m_R M r) k) (q_cnt o))))))) no_x := by
  refine og_start (lv := [some (.ref 101), some (.int x), none, none, none, none]) (by decide) rfl rfl (Nat.le_of_ble_eq_true rfl) fun X hr hnm htb => ?_
  have rej : ¬ (q_in8 x) → og_G E yX8_commuting.cls cX8_commuting (d + 3) 0 0 6 X (og_Q E (fun v n1 h1 => n1 = n ∧ ((¬ (q_in8 x) ∧ v = some (.int 0) ∧ og_MK h0 h1 (m_wRf M 1)) ∨ (∃ r, r < 8 ∧ x = nI r ∧ ∃ un U, og_MK h0 h1 (m_wUn (m_wRf M 0) (nI o) un U) ∧ m_lay o (m_wUn (m_wRf M 0) (nI o) un U) ∧ v = some (.int (nI (q_many (fun u => ∀ k, k < 8 → q_prod (m_R M r) (q_read (q_uc o u)) k = q_prod (q_read (q_uc o u)) (m_R M r) k) (q_cnt o))))))) no_x 0 0 X) 0 0 n h 12 [some (.ref 101), some (.int x), none, none, none, none] [.ref 101] := by
    intro hb
    have wm := w.m
    refine og_iconst (pc := 12) (v := 1) dX8_commuting_12 (by decide) ?_
    refine og_callV (pc := 13) (As := [.int 1]) (rest := []) (c_X8_throwsAt E d n h 1 wm) Y_X8_throwsAt I_X8_throwsAt V_X8_throwsAt wm (by omega) rfl rfl K_X8_125 dX8_commuting_13 rfl rfl (Nat.le_of_ble_eq_true rfl) (by omega) (by omega) (by omega) (fun _ _ _ z => z) (fun v n1 h1 z => ?_)
    obtain ⟨hn, hh, z⟩ := z
    subst hn
    have w2 := w.rf_ 1
    rcases z with ⟨rfl, z⟩ | ⟨rfl, z⟩
    · refine og_if_eq (pc := 16) (tgt := 21) dX8_commuting_16 (by decide) (fun q => absurd q (by decide)) (fun _ => ?_)
      refine og_iconst (pc := 19) (v := 0) dX8_commuting_19 (by decide) ?_
      exact og_iret (pc := 20) hr dX8_commuting_20 (by omega) (by omega) ⟨rfl, Or.inl ⟨hb, rfl, by rw [hh]; exact w2⟩⟩
    · exact absurd (by decide) z
  refine og_aload_n (pc := 0) dX8_commuting_0 rfl ?_
  refine og_iload_n (pc := 1) dX8_commuting_1 rfl ?_
  refine og_callS (pc := 2) (As := [.int x]) (rest := [.ref 101]) (c_X8_isEight E d n h x) Y_X8_isEight S_X8_isEight K_X8_121 dX8_commuting_2 rfl rfl (Nat.le_of_ble_eq_true rfl) (by omega) (by omega) (by omega) (fun _ _ _ z => z) (fun v n1 h1 z => ?_)
  obtain ⟨hn, hh, z⟩ := z
  subst hn hh
  rcases z with ⟨rfl, zx⟩ | ⟨rfl, zx⟩
  rotate_left
  · exact og_if_eq (pc := 5) (tgt := 12) dX8_commuting_5 (by decide) (fun _ => rej (fun q => zx (q_in_e8 q))) (fun q => absurd rfl q)
  refine og_if_eq (pc := 5) (tgt := 12) dX8_commuting_5 (by decide) (fun q => absurd q (by decide)) (fun _ => ?_)
  refine og_iconst (pc := 8) (v := 0) dX8_commuting_8 (by decide) ?_
  refine og_goto (pc := 9) (tgt := 13) dX8_commuting_9 (by decide) ?_
  have wm := w.m
  refine og_callV (pc := 13) (As := [.int 0]) (rest := []) (c_X8_throwsAt E d n1 h1 0 wm) Y_X8_throwsAt I_X8_throwsAt V_X8_throwsAt wm (by omega) rfl rfl K_X8_125 dX8_commuting_13 rfl rfl (Nat.le_of_ble_eq_true rfl) (by omega) (by omega) (by omega) (fun _ _ _ z => z) (fun v n2 h2 z => ?_)
  obtain ⟨hn, hh, z⟩ := z
  subst hn
  have w2 := w.rf_ 0
  rcases z with ⟨rfl, z⟩ | ⟨rfl, -⟩
  · exact absurd z (by decide)
  refine og_if_eq (pc := 16) (tgt := 21) dX8_commuting_16 (by decide) (fun _ => ?_) (fun q => absurd rfl q)
  obtain ⟨r, hr8, rfl⟩ := q_e8_in zx
  refine og_abs (P := fun g => og_MK h0 g (m_wRf M 0)) (by rw [hh]; exact w2) fun g w3 => ?_
  have wm := w3.m
  refine og_aload_n (pc := 21) dX8_commuting_21 rfl ?_
  refine og_callV (pc := 22) (As := []) (rest := []) (c_X8_laysUnits E d n2 g hL w3 hu ho ho8) Y_X8_laysUnits I_X8_laysUnits V_X8_laysUnits wm (by omega) rfl rfl K_X8_118 dX8_commuting_22 rfl rfl (Nat.le_of_ble_eq_true rfl) (by omega) (by omega) (by omega) (fun _ _ _ z => z) (fun v n3 h3 z => ?_)
  obtain ⟨hn, rfl, un, U, w, hl⟩ := z
  subst hn
  have hun : un = nI (q_cnt o) := hl.2.1
  subst hun
  have hU : ∀ u, u < q_cnt o → ∀ k, k < 8 → U (8 * u + k) = (q_read (q_uc o u) k).toInt32 := hl.2.2
  have hcnt := q_cnt_le o
  refine og_iconst (pc := 25) (v := 0) dX8_commuting_25 (by decide) ?_
  refine og_istore_n_2 (pc := 26) dX8_commuting_26 rfl ?_
  refine og_iconst (pc := 27) (v := 0) dX8_commuting_27 (by decide) ?_
  refine og_istore_n_3 (pc := 28) dX8_commuting_28 rfl ?_
  have loop : ∀ k i, i + k = q_cnt o → ∀ g, og_MK h0 g (m_wUn (m_wRf M 0) (nI o) (nI (q_cnt o)) U) → og_G E yX8_commuting.cls cX8_commuting (d + 3) 0 0 6 X (og_Q E (fun v nn h1 => nn = n3 ∧ ((¬ (q_in8 (nI r)) ∧ v = some (.int 0) ∧ og_MK h0 h1 (m_wRf M 1)) ∨ (∃ r9, r9 < 8 ∧ nI r = nI r9 ∧ ∃ un U, og_MK h0 h1 (m_wUn (m_wRf M 0) (nI o) un U) ∧ m_lay o (m_wUn (m_wRf M 0) (nI o) un U) ∧ v = some (.int (nI (q_many (fun u => ∀ k, k < 8 → q_prod (m_R M r9) (q_read (q_uc o u)) k = q_prod (q_read (q_uc o u)) (m_R M r9) k) (q_cnt o))))))) no_x 0 0 X) 0 0 n3 g 29 [some (.ref 101), some (.int (nI r)), some (.int (nI (q_many (fun u => ∀ k, k < 8 → q_prod (m_R M r) (q_read (q_uc o u)) k = q_prod (q_read (q_uc o u)) (m_R M r) k) i))), some (.int (nI i)), none, none] [] := by
    intro k
    induction k with
    | zero =>
      intro i hi g w
      have ei : i = q_cnt o := by omega
      subst ei
      have wm := w.m
      refine og_iload_n (pc := 29) dX8_commuting_29 rfl ?_
      refine og_aload_n (pc := 30) dX8_commuting_30 rfl ?_
      refine og_get (pc := 31) F_X8_107 dX8_commuting_31 wm (by omega) rfl ?_
      refine og_geN (pc := 34) (tgt := 182) (i := (q_cnt o)) (N := (q_cnt o)) dX8_commuting_34 (by decide) rfl rfl (by omega) (by omega) (fun c_34 => ?_) (fun c_34 => ?_)
      · refine og_iload_n (pc := 182) dX8_commuting_182 rfl ?_
        exact og_iret (pc := 183) hr dX8_commuting_183 (by omega) (by omega) ⟨rfl, Or.inr ⟨r, hr8, rfl, _, U, w, hl, rfl⟩⟩
      · omega
    | succ k ihk =>
      intro i hi g w
      have wm := w.m
      obtain ⟨f7, e107⟩ := w.scr 107 (by unfold q_ms; omega)
      refine og_iload_n (pc := 29) dX8_commuting_29 rfl ?_
      refine og_aload_n (pc := 30) dX8_commuting_30 rfl ?_
      refine og_get (pc := 31) F_X8_107 dX8_commuting_31 wm (by omega) rfl ?_
      refine og_geN (pc := 34) (tgt := 182) (i := i) (N := (q_cnt o)) dX8_commuting_34 (by decide) rfl rfl (by omega) (by omega) (fun c_34 => ?_) (fun c_34 => ?_)
      · omega
      refine og_aload_n (pc := 37) dX8_commuting_37 rfl ?_
      refine og_aload_n (pc := 38) dX8_commuting_38 rfl ?_
      refine og_get (pc := 39) F_X8_25 dX8_commuting_39 wm (by omega) rfl ?_
      refine og_iload_n (pc := 42) dX8_commuting_42 rfl ?_
      refine og_callV (pc := 43) (As := [.ref 107, .int (nI r)]) (rest := []) (c_X8_takes E d n3 107 r g (m_s M) f7 wm w.s e107 (by omega) hr8) Y_X8_takes I_X8_takes V_X8_takes wm (by omega) rfl rfl K_X8_131 dX8_commuting_43 rfl rfl (Nat.le_of_ble_eq_true rfl) (by omega) (by omega) (by omega) (fun _ _ _ z => z) (fun v n6 h6 z => ?_)
      obtain ⟨rfl, hn, hh⟩ := z
      subst hn
      refine og_abs (P := fun g => og_MK h0 g (m_wUn (m_wRf M 0) (nI o) (nI (q_cnt o)) U) ∧ g 107 = some (rowL (m_R M r))) (by rw [hh]; exact ⟨w.row _ (by unfold q_ms; omega), og_set_eq _ _ _⟩) fun g ⟨w, e107⟩ => ?_
      obtain ⟨f8, e108⟩ := w.scr 108 (by unfold q_ms; omega)
      refine og_iconst (pc := 46) (v := 0) dX8_commuting_46 (by decide) ?_
      refine og_istore_4 (pc := 47) dX8_commuting_47 rfl ?_
      refine og_congL (fun j => if j < 0 then q_read (q_uc o i) j else f8 j) e108 (by omega) (fun j _ => by simp) ?_
      refine og_for (i0 := 0) (N := 8) (by decide) (fun k => og_set g 108 (rowL (fun j => if j < k then q_read (q_uc o i) j else f8 j))) (fun k => [some (.ref 101), some (.int (nI r)), some (.int (nI (q_many (fun u => ∀ k, k < 8 → q_prod (m_R M r) (q_read (q_uc o u)) k = q_prod (q_read (q_uc o u)) (m_R M r) k) i))), some (.int (nI i)), some (.int (nI k)), none]) ?_ (fun k2 _ hk2 ih => ?_)
      rotate_left
      · have wx := w.row (fun j => if j < k2 then q_read (q_uc o i) j else f8 j) (show q_ms 108 by unfold q_ms; omega)
        have wm := wx.m
        have wu : og_set g 108 (rowL (fun j => if j < k2 then q_read (q_uc o i) j else f8 j)) 113 = some (rowI 1920 U) := wx.u
        have g108 : og_set g 108 (rowL (fun j => if j < k2 then q_read (q_uc o i) j else f8 j)) 108 = some (rowL (fun j => if j < k2 then q_read (q_uc o i) j else f8 j)) := og_set_eq _ _ _
        refine og_iload (pc := 49) dX8_commuting_49 rfl ?_
        refine og_bipush (pc := 51) (v := 8) dX8_commuting_51 (by decide) ?_
        refine og_geN (pc := 53) (tgt := 82) (i := k2) (N := 8) dX8_commuting_53 (by decide) rfl rfl (by omega) (by omega) (fun c_53 => ?_) (fun c_53 => ?_)
        · omega
        refine og_aload_n (pc := 56) dX8_commuting_56 rfl ?_
        refine og_get (pc := 57) F_X8_29 dX8_commuting_57 wm (by omega) rfl ?_
        refine og_iload (pc := 60) dX8_commuting_60 rfl ?_
        refine og_aload_n (pc := 62) dX8_commuting_62 rfl ?_
        refine og_get (pc := 63) F_X8_48 dX8_commuting_63 wm (by omega) rfl ?_
        refine og_bipush (pc := 66) (v := 8) dX8_commuting_66 (by decide) ?_
        refine og_iload_n (pc := 68) dX8_commuting_68 rfl ?_
        refine og_imul (pc := 69) dX8_commuting_69 ?_
        refine og_iload (pc := 70) dX8_commuting_70 rfl ?_
        refine og_iadd (pc := 72) dX8_commuting_72 ?_
        refine og_ialdN (pc := 73) (og_i8 i k2) dX8_commuting_73 wu (by omega) (by omega) (by first | decide | assumption | omega) ?_
        rw [hU i (by omega) k2 hk2]
        refine og_i2l (pc := 74) dX8_commuting_74 (q_read_i (q_uc o i) k2) ?_
        refine og_lastN (pc := 75) (j := k2) rfl dX8_commuting_75 g108 (by omega) (by omega) (by first | decide | assumption | omega) ?_
        refine og_iinc_4 (pc := 76) dX8_commuting_76 (og_inc k2) rfl ?_
        refine og_goto (pc := 79) (tgt := 49) dX8_commuting_79 (by decide) ?_
        rw [og_set_set, og_fill rfl]
        exact ih
      refine og_iload (pc := 49) dX8_commuting_49 rfl ?_
      refine og_bipush (pc := 51) (v := 8) dX8_commuting_51 (by decide) ?_
      refine og_geN (pc := 53) (tgt := 82) (i := 8) (N := 8) dX8_commuting_53 (by decide) rfl rfl (by omega) (by omega) (fun c_53 => ?_) (fun c_53 => ?_)
      rotate_left
      · omega
      refine og_congL (q_read (q_uc o i)) (og_set_eq _ _ _) (by omega) (fun j hj => by rw [if_pos (by omega)]) ?_
      rw [og_set_set]
      refine og_abs (P := fun g => og_MK h0 g (m_wUn (m_wRf M 0) (nI o) (nI (q_cnt o)) U) ∧ g 107 = some (rowL (m_R M r)) ∧ g 108 = some (rowL (q_read (q_uc o i)))) ⟨w.row _ (by unfold q_ms; omega), (og_set_ne _ _ (by omega)).trans e107, og_set_eq _ _ _⟩ fun g ⟨w, e107, e108⟩ => ?_
      have wm := w.m
      obtain ⟨f111, e111⟩ := w.scr 111 (by unfold q_ms; omega)
      obtain ⟨f112, e112⟩ := w.scr 112 (by unfold q_ms; omega)
      refine og_aload_n (pc := 82) dX8_commuting_82 rfl ?_
      refine og_aload_n (pc := 83) dX8_commuting_83 rfl ?_
      refine og_get (pc := 84) F_X8_25 dX8_commuting_84 wm (by omega) rfl ?_
      refine og_aload_n (pc := 87) dX8_commuting_87 rfl ?_
      refine og_get (pc := 88) F_X8_29 dX8_commuting_88 wm (by omega) rfl ?_
      refine og_aload_n (pc := 91) dX8_commuting_91 rfl ?_
      refine og_get (pc := 92) F_X8_41 dX8_commuting_92 wm (by omega) rfl ?_
      refine og_callV (pc := 95) (As := [.ref 107, .ref 108, .ref 112]) (rest := []) (c_X8_times E d n6 107 108 112 g _ _ _ f111 wm w.to w.sg e111 e107 e108 e112 (by omega) (by omega) (by omega) (by omega) (by omega) (by omega)) Y_X8_times I_X8_times V_X8_times wm (by omega) rfl rfl K_X8_148 dX8_commuting_95 rfl rfl (Nat.le_of_ble_eq_true rfl) (by omega) (by omega) (by omega) (fun _ _ _ z => z) (fun v n7 h7 z => ?_)
      obtain ⟨rfl, hn, hh⟩ := z
      subst hn
      refine og_abs (P := fun g => og_MK h0 g (m_wUn (m_wRf M 0) (nI o) (nI (q_cnt o)) U) ∧ g 107 = some (rowL (m_R M r)) ∧ g 108 = some (rowL (q_read (q_uc o i))) ∧ g 112 = some (rowL (q_prod (m_R M r) (q_read (q_uc o i))))) (by rw [hh]; exact ⟨w.tim _ _ (by unfold q_ms; omega), (og_set_ne _ _ (by omega)).trans ((og_set_ne _ _ (by omega)).trans e107), (og_set_ne _ _ (by omega)).trans ((og_set_ne _ _ (by omega)).trans e108), og_set_eq _ _ _⟩) fun g ⟨w, e107, e108, e112⟩ => ?_
      have wm := w.m
      obtain ⟨f111, e111⟩ := w.scr 111 (by unfold q_ms; omega)
      obtain ⟨f110, e110⟩ := w.scr 110 (by unfold q_ms; omega)
      refine og_aload_n (pc := 98) dX8_commuting_98 rfl ?_
      refine og_aload_n (pc := 99) dX8_commuting_99 rfl ?_
      refine og_get (pc := 100) F_X8_29 dX8_commuting_100 wm (by omega) rfl ?_
      refine og_aload_n (pc := 103) dX8_commuting_103 rfl ?_
      refine og_get (pc := 104) F_X8_25 dX8_commuting_104 wm (by omega) rfl ?_
      refine og_aload_n (pc := 107) dX8_commuting_107 rfl ?_
      refine og_get (pc := 108) F_X8_35 dX8_commuting_108 wm (by omega) rfl ?_
      refine og_callV (pc := 111) (As := [.ref 108, .ref 107, .ref 110]) (rest := []) (c_X8_times E d n7 108 107 110 g _ _ _ f111 wm w.to w.sg e111 e108 e107 e110 (by omega) (by omega) (by omega) (by omega) (by omega) (by omega)) Y_X8_times I_X8_times V_X8_times wm (by omega) rfl rfl K_X8_148 dX8_commuting_111 rfl rfl (Nat.le_of_ble_eq_true rfl) (by omega) (by omega) (by omega) (fun _ _ _ z => z) (fun v n8 h8 z => ?_)
      obtain ⟨rfl, hn, hh⟩ := z
      subst hn
      refine og_abs (P := fun g => og_MK h0 g (m_wUn (m_wRf M 0) (nI o) (nI (q_cnt o)) U) ∧ g 112 = some (rowL (q_prod (m_R M r) (q_read (q_uc o i)))) ∧ g 110 = some (rowL (q_prod (q_read (q_uc o i)) (m_R M r)))) (by rw [hh]; exact ⟨w.tim _ _ (by unfold q_ms; omega), (og_set_ne _ _ (by omega)).trans ((og_set_ne _ _ (by omega)).trans e112), og_set_eq _ _ _⟩) fun g ⟨w, e112, e110⟩ => ?_
      have wm := w.m
      refine og_iconst (pc := 114) (v := 1) dX8_commuting_114 (by decide) ?_
      refine og_istore_4 (pc := 115) dX8_commuting_115 rfl ?_
      refine og_to (lv1 := [some (.ref 101), some (.int (nI r)), some (.int (nI (q_many (fun u => ∀ k, k < 8 → q_prod (m_R M r) (q_read (q_uc o u)) k = q_prod (q_read (q_uc o u)) (m_R M r) k) i))), some (.int (nI i)), some (.int (q_if (∀ j, j < 0 → q_prod (m_R M r) (q_read (q_uc o i)) j = q_prod (q_read (q_uc o i)) (m_R M r) j) 1 0)), none]) rfl rfl rfl (by rw [q_if_t _ _ (fun j hj => absurd hj (by omega))]) rfl ?_
      refine og_iconst (pc := 117) (v := 0) dX8_commuting_117 (by decide) ?_
      refine og_istore_5 (pc := 118) dX8_commuting_118 rfl ?_
      refine og_for (i0 := 0) (N := 8) (by decide) (fun _ => g) (fun k => [some (.ref 101), some (.int (nI r)), some (.int (nI (q_many (fun u => ∀ k, k < 8 → q_prod (m_R M r) (q_read (q_uc o u)) k = q_prod (q_read (q_uc o u)) (m_R M r) k) i))), some (.int (nI i)), some (.int (q_if (∀ j, j < k → q_prod (m_R M r) (q_read (q_uc o i)) j = q_prod (q_read (q_uc o i)) (m_R M r) j) 1 0)), some (.int (nI k))]) ?_ (fun k2 _ hk2 ih => ?_)
      · refine og_iload (pc := 120) dX8_commuting_120 rfl ?_
        refine og_bipush (pc := 122) (v := 8) dX8_commuting_122 (by decide) ?_
        refine og_geN (pc := 124) (tgt := 163) (i := 8) (N := 8) dX8_commuting_124 (by decide) rfl rfl (by omega) (by omega) (fun c_124 => ?_) (fun c_124 => ?_)
        rotate_left
        · omega
        refine og_iload_n (pc := 163) dX8_commuting_163 rfl ?_
        refine og_iload (pc := 164) dX8_commuting_164 rfl ?_
        by_cases q : ∀ j, j < 8 → q_prod (m_R M r) (q_read (q_uc o i)) j = q_prod (q_read (q_uc o i)) (m_R M r) j
        · rw [q_if_t _ _ q]
          refine og_if_eq (pc := 166) (tgt := 173) dX8_commuting_166 (by decide) (fun z => absurd z (by decide)) (fun _ => ?_)
          refine og_iconst (pc := 169) (v := 1) dX8_commuting_169 (by decide) ?_
          refine og_goto (pc := 170) (tgt := 174) dX8_commuting_170 (by decide) ?_
          refine og_iadd (pc := 174) dX8_commuting_174 ?_
          rw [nI_1, ← q_many_t (fun u => ∀ k, k < 8 → q_prod (m_R M r) (q_read (q_uc o u)) k = q_prod (q_read (q_uc o u)) (m_R M r) k) q]
          refine og_istore_n_2 (pc := 175) dX8_commuting_175 rfl ?_
          refine og_iinc_3 (pc := 176) dX8_commuting_176 (og_inc i) rfl ?_
          refine og_goto (pc := 179) (tgt := 29) dX8_commuting_179 (by decide) ?_
          refine og_forget_4 ?_
          refine og_forget_5 ?_
          exact ihk (i + 1) (by omega) g w
        · rw [q_if_f _ _ q]
          refine og_if_eq (pc := 166) (tgt := 173) dX8_commuting_166 (by decide) (fun _ => ?_) (fun z => absurd rfl z)
          refine og_iconst (pc := 173) (v := 0) dX8_commuting_173 (by decide) ?_
          refine og_iadd (pc := 174) dX8_commuting_174 ?_
          rw [show nI (q_many (fun u => ∀ k, k < 8 → q_prod (m_R M r) (q_read (q_uc o u)) k = q_prod (q_read (q_uc o u)) (m_R M r) k) i) + 0 = nI (q_many (fun u => ∀ k, k < 8 → q_prod (m_R M r) (q_read (q_uc o u)) k = q_prod (q_read (q_uc o u)) (m_R M r) k) i) from Int32.add_zero _, ← q_many_f (fun u => ∀ k, k < 8 → q_prod (m_R M r) (q_read (q_uc o u)) k = q_prod (q_read (q_uc o u)) (m_R M r) k) q]
          refine og_istore_n_2 (pc := 175) dX8_commuting_175 rfl ?_
          refine og_iinc_3 (pc := 176) dX8_commuting_176 (og_inc i) rfl ?_
          refine og_goto (pc := 179) (tgt := 29) dX8_commuting_179 (by decide) ?_
          refine og_forget_4 ?_
          refine og_forget_5 ?_
          exact ihk (i + 1) (by omega) g w
      · have fin : ∀ x : Int32, x = q_if (∀ j, j < k2 + 1 → q_prod (m_R M r) (q_read (q_uc o i)) j = q_prod (q_read (q_uc o i)) (m_R M r) j) 1 0 → og_G E yX8_commuting.cls cX8_commuting (d + 3) 0 0 6 X (og_Q E (fun v nn h1 => nn = n8 ∧ ((¬ (q_in8 (nI r)) ∧ v = some (.int 0) ∧ og_MK h0 h1 (m_wRf M 1)) ∨ (∃ r9, r9 < 8 ∧ nI r = nI r9 ∧ ∃ un U, og_MK h0 h1 (m_wUn (m_wRf M 0) (nI o) un U) ∧ m_lay o (m_wUn (m_wRf M 0) (nI o) un U) ∧ v = some (.int (nI (q_many (fun u => ∀ k, k < 8 → q_prod (m_R M r9) (q_read (q_uc o u)) k = q_prod (q_read (q_uc o u)) (m_R M r9) k) (q_cnt o))))))) no_x 0 0 X) 0 0 n8 g 155 [some (.ref 101), some (.int (nI r)), some (.int (nI (q_many (fun u => ∀ k, k < 8 → q_prod (m_R M r) (q_read (q_uc o u)) k = q_prod (q_read (q_uc o u)) (m_R M r) k) i))), some (.int (nI i)), some (.int (q_if (∀ j, j < k2 → q_prod (m_R M r) (q_read (q_uc o i)) j = q_prod (q_read (q_uc o i)) (m_R M r) j) 1 0)), some (.int (nI k2))] [.int x] := by
          intro x hx
          subst hx
          refine og_istore_4 (pc := 155) dX8_commuting_155 rfl ?_
          refine og_iinc_5 (pc := 157) dX8_commuting_157 (og_inc k2) rfl ?_
          refine og_goto (pc := 160) (tgt := 120) dX8_commuting_160 (by decide) ?_
          exact ih
        refine og_iload (pc := 120) dX8_commuting_120 rfl ?_
        refine og_bipush (pc := 122) (v := 8) dX8_commuting_122 (by decide) ?_
        refine og_geN (pc := 124) (tgt := 163) (i := k2) (N := 8) dX8_commuting_124 (by decide) rfl rfl (by omega) (by omega) (fun c_124 => ?_) (fun c_124 => ?_)
        · omega
        refine og_iload (pc := 127) dX8_commuting_127 rfl ?_
        refine og_if_eq (pc := 129) (tgt := 154) dX8_commuting_129 (by decide) (fun q => ?_) (fun q => ?_)
        · refine og_iconst (pc := 154) (v := 0) dX8_commuting_154 (by decide) ?_
          refine fin 0 (q_if_f _ _ fun z => ?_).symm
          rw [q_if_t _ _ (fun j hj => z j (by omega))] at q
          exact absurd q (by decide)
        · have hp : ∀ j, j < k2 → q_prod (m_R M r) (q_read (q_uc o i)) j = q_prod (q_read (q_uc o i)) (m_R M r) j := Classical.byContradiction fun z => q (q_if_f _ _ z)
          refine og_aload_n (pc := 132) dX8_commuting_132 rfl ?_
          refine og_get (pc := 133) F_X8_41 dX8_commuting_133 wm (by omega) rfl ?_
          refine og_iload (pc := 136) dX8_commuting_136 rfl ?_
          refine og_laldN (pc := 138) (j := k2) rfl dX8_commuting_138 e112 (by omega) (by omega) (by first | decide | assumption | omega) ?_
          refine og_aload_n (pc := 139) dX8_commuting_139 rfl ?_
          refine og_get (pc := 140) F_X8_35 dX8_commuting_140 wm (by omega) rfl ?_
          refine og_iload (pc := 143) dX8_commuting_143 rfl ?_
          refine og_laldN (pc := 145) (j := k2) rfl dX8_commuting_145 e110 (by omega) (by omega) (by first | decide | assumption | omega) ?_
          refine og_lcmp (pc := 146) dX8_commuting_146 ?_
          refine og_if_ne (pc := 147) (tgt := 154) dX8_commuting_147 (by decide) (fun q2 => ?_) (fun q2 => ?_)
          · refine og_iconst (pc := 154) (v := 0) dX8_commuting_154 (by decide) ?_
            exact fin 0 (q_if_f _ _ fun z => q2 ((og_cmp0 _ _).mpr (z k2 (by omega)))).symm
          · refine og_iconst (pc := 150) (v := 1) dX8_commuting_150 (by decide) ?_
            refine og_goto (pc := 151) (tgt := 155) dX8_commuting_151 (by decide) ?_
            exact fin 1 (q_if_t _ _ fun j hj => by
              by_cases e : j = k2
              · rw [e]; exact (og_cmp0 _ _).mp q2
              · exact hp j (by omega)).symm
  exact loop (q_cnt o) 0 (by omega) _ w
