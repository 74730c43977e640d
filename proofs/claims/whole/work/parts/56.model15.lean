/-! ===== the model: setFour ===== -/
def m_f4 (s : Nat → Int32) (k : Nat) (a b c e : Int32) : Nat → Int32 := upd (upd (upd (upd s k a) (k + 1) b) (k + 2) c) (k + 3) e
set_option maxRecDepth 4000 in
theorem c_X8_setFour (E : og_E) (d n : Nat) (h : og_H) (x u a b c e : Int32) {h0 : og_H} {M : q_M} (w : og_MK h0 h M) :
    og_M E yX8_setFour (.code yX8_setFour cX8_setFour 9 (some .long)) (d + 2) [.ref 101, .int x, .int u, .int a, .int b, .int c, .int e] n h 0 0 (fun v n1 h1 => n1 = n ∧ ((¬ q_in8 (x) ∧ v = some (.long 0) ∧ og_MK h0 h1 (m_wRf M 1)) ∨ (q_in8 (x) ∧ ¬ (q_hvs a ∧ q_hvs b ∧ q_hvs c ∧ q_hvs e) ∧ v = some (.long 0) ∧ og_MK h0 h1 (m_wRf M 2)) ∨ (∃ r9, r9 < 8 ∧ (x) = nI r9 ∧ q_hvs a ∧ q_hvs b ∧ q_hvs c ∧ q_hvs e ∧ v = some (.long (q_inner (q_reg (m_f4 (m_s M) (8 * r9 + (if u = 0 then 0 else 4)) a b c e) r9) (q_reg (m_f4 (m_s M) (8 * r9 + (if u = 0 then 0 else 4)) a b c e) r9) 8)) ∧ og_MK h0 h1 (m_wS (m_save (m_wRf M 0)) (m_f4 (m_s M) (8 * r9 + (if u = 0 then 0 else 4)) a b c e))))) no_x := by
  refine og_start (lv := [some (.ref 101), some (.int x), some (.int u), some (.int a), some (.int b), some (.int c), some (.int e), none, none]) (by decide) rfl rfl (Nat.le_of_ble_eq_true rfl) fun X hr hnm htb => ?_
  have ph2 : ∀ z7 : Int32, (z7 = 1 ∧ (q_hvs a ∧ q_hvs b ∧ q_hvs c ∧ q_hvs e)) ∨ (z7 = 0 ∧ ¬ (q_hvs a ∧ q_hvs b ∧ q_hvs c ∧ q_hvs e)) → og_G E yX8_setFour.cls cX8_setFour (d + 2) 0 0 9 X (og_Q E (fun v n1 h1 => n1 = n ∧ ((¬ q_in8 (x) ∧ v = some (.long 0) ∧ og_MK h0 h1 (m_wRf M 1)) ∨ (q_in8 (x) ∧ ¬ (q_hvs a ∧ q_hvs b ∧ q_hvs c ∧ q_hvs e) ∧ v = some (.long 0) ∧ og_MK h0 h1 (m_wRf M 2)) ∨ (∃ r9, r9 < 8 ∧ (x) = nI r9 ∧ q_hvs a ∧ q_hvs b ∧ q_hvs c ∧ q_hvs e ∧ v = some (.long (q_inner (q_reg (m_f4 (m_s M) (8 * r9 + (if u = 0 then 0 else 4)) a b c e) r9) (q_reg (m_f4 (m_s M) (8 * r9 + (if u = 0 then 0 else 4)) a b c e) r9) 8)) ∧ og_MK h0 h1 (m_wS (m_save (m_wRf M 0)) (m_f4 (m_s M) (8 * r9 + (if u = 0 then 0 else 4)) a b c e))))) no_x 0 0 X) 0 0 n h 60 [some (.ref 101), some (.int x), some (.int u), some (.int a), some (.int b), some (.int c), some (.int e), none, none] [.int z7] := by
    intro z7 hz
    have rej : ∀ k : Int32, 0 < k → ((¬ q_in8 x ∧ k = 1) ∨ (q_in8 x ∧ ¬ (q_hvs a ∧ q_hvs b ∧ q_hvs c ∧ q_hvs e) ∧ k = 2)) → og_G E yX8_setFour.cls cX8_setFour (d + 2) 0 0 9 X (og_Q E (fun v n1 h1 => n1 = n ∧ ((¬ q_in8 (x) ∧ v = some (.long 0) ∧ og_MK h0 h1 (m_wRf M 1)) ∨ (q_in8 (x) ∧ ¬ (q_hvs a ∧ q_hvs b ∧ q_hvs c ∧ q_hvs e) ∧ v = some (.long 0) ∧ og_MK h0 h1 (m_wRf M 2)) ∨ (∃ r9, r9 < 8 ∧ (x) = nI r9 ∧ q_hvs a ∧ q_hvs b ∧ q_hvs c ∧ q_hvs e ∧ v = some (.long (q_inner (q_reg (m_f4 (m_s M) (8 * r9 + (if u = 0 then 0 else 4)) a b c e) r9) (q_reg (m_f4 (m_s M) (8 * r9 + (if u = 0 then 0 else 4)) a b c e) r9) 8)) ∧ og_MK h0 h1 (m_wS (m_save (m_wRf M 0)) (m_f4 (m_s M) (8 * r9 + (if u = 0 then 0 else 4)) a b c e))))) no_x 0 0 X) 0 0 n h 84 [some (.ref 101), some (.int x), some (.int u), some (.int a), some (.int b), some (.int c), some (.int e), some (.int z7), none] [.int k, .ref 101] := by
      intro k hk hb
      have wm := w.m
      refine og_callV (pc := 84) (As := [.int k]) (rest := []) (c_X8_throwsAt E d n h k wm) Y_X8_throwsAt I_X8_throwsAt V_X8_throwsAt wm (by omega) rfl rfl K_X8_125 dX8_setFour_84 rfl rfl (Nat.le_of_ble_eq_true rfl) (by omega) (by omega) (by omega) (fun _ _ _ z => z) (fun v n1 h1 z => ?_)
      obtain ⟨hn, hh, z⟩ := z
      subst hn
      have w2 := w.rf_ k
      rcases z with ⟨rfl, z⟩ | ⟨rfl, z⟩
      · refine og_if_eq (pc := 87) (tgt := 92) dX8_setFour_87 (by decide) (fun q => absurd q (by decide)) (fun _ => ?_)
        refine og_lconst (pc := 90) (v := 0) dX8_setFour_90 (by decide) ?_
        rcases hb with ⟨b1, rfl⟩ | ⟨b1, b2, rfl⟩
        · exact og_lret (pc := 91) hr dX8_setFour_91 (by omega) (by omega) ⟨rfl, Or.inl ⟨b1, rfl, by rw [hh]; exact w2⟩⟩
        · exact og_lret (pc := 91) hr dX8_setFour_91 (by omega) (by omega) ⟨rfl, Or.inr (Or.inl ⟨b1, b2, rfl, by rw [hh]; exact w2⟩)⟩
      · exact absurd hk z
    refine og_istore_7 (pc := 60) dX8_setFour_60 rfl ?_
    refine og_aload_n (pc := 62) dX8_setFour_62 rfl ?_
    refine og_iload_n (pc := 63) dX8_setFour_63 rfl ?_
    refine og_callS (pc := 64) (As := [.int x]) (rest := [.ref 101]) (c_X8_isEight E d n h x) Y_X8_isEight S_X8_isEight K_X8_121 dX8_setFour_64 rfl rfl (Nat.le_of_ble_eq_true rfl) (by omega) (by omega) (by omega) (fun _ _ _ z => z) (fun v n1 h1 z => ?_)
    obtain ⟨hn, hh, z⟩ := z
    subst hn hh
    rcases z with ⟨rfl, zx⟩ | ⟨rfl, zx⟩
    rotate_left
    · refine og_if_ne (pc := 67) (tgt := 74) dX8_setFour_67 (by decide) (fun q => absurd rfl q) (fun _ => ?_)
      refine og_iconst (pc := 70) (v := 1) dX8_setFour_70 (by decide) ?_
      refine og_goto (pc := 71) (tgt := 84) dX8_setFour_71 (by decide) ?_
      exact rej 1 (by decide) (Or.inl ⟨fun q => zx (q_in_e8 q), rfl⟩)
    refine og_if_ne (pc := 67) (tgt := 74) dX8_setFour_67 (by decide) (fun _ => ?_) (fun q => absurd q (by decide))
    refine og_iload (pc := 74) dX8_setFour_74 rfl ?_
    rcases hz with ⟨rfl, hall⟩ | ⟨rfl, hno⟩
    rotate_left
    · refine og_if_eq (pc := 76) (tgt := 83) dX8_setFour_76 (by decide) (fun _ => ?_) (fun q => absurd rfl q)
      refine og_iconst (pc := 83) (v := 2) dX8_setFour_83 (by decide) ?_
      exact rej 2 (by decide) (Or.inr ⟨q_e8_in zx, hno, rfl⟩)
    refine og_if_eq (pc := 76) (tgt := 83) dX8_setFour_76 (by decide) (fun q => absurd q (by decide)) (fun _ => ?_)
    refine og_iconst (pc := 79) (v := 0) dX8_setFour_79 (by decide) ?_
    refine og_goto (pc := 80) (tgt := 84) dX8_setFour_80 (by decide) ?_
    have wm := w.m
    refine og_callV (pc := 84) (As := [.int 0]) (rest := []) (c_X8_throwsAt E d n1 h1 0 wm) Y_X8_throwsAt I_X8_throwsAt V_X8_throwsAt wm (by omega) rfl rfl K_X8_125 dX8_setFour_84 rfl rfl (Nat.le_of_ble_eq_true rfl) (by omega) (by omega) (by omega) (fun _ _ _ z => z) (fun v n2 h2 z => ?_)
    obtain ⟨hn, hh, z⟩ := z
    subst hn
    have w2 := w.rf_ 0
    rcases z with ⟨rfl, z⟩ | ⟨rfl, -⟩
    · exact absurd z (by decide)
    refine og_if_eq (pc := 87) (tgt := 92) dX8_setFour_87 (by decide) (fun _ => ?_) (fun q => absurd rfl q)
    obtain ⟨r, hr8, rfl⟩ := q_e8_in zx
    refine og_abs (P := fun g => og_MK h0 g (m_wRf M 0)) (by rw [hh]; exact w2) fun g w3 => ?_
    have wm := w3.m
    refine og_aload_n (pc := 92) dX8_setFour_92 rfl ?_
    refine og_callV (pc := 93) (As := []) (rest := []) (c_X8_saves E d n2 (m_ps M) g (m_p M) (m_s M) wm w3.s w3.p w3.ok.1) Y_X8_saves I_X8_saves V_X8_saves wm (by omega) rfl rfl K_X8_128 dX8_setFour_93 rfl rfl (Nat.le_of_ble_eq_true rfl) (by omega) (by omega) (by omega) (fun _ _ _ z => z) (fun v n3 h3 z => ?_)
    obtain ⟨rfl, hn, z⟩ := z
    subst hn
    obtain ⟨w4, -⟩ := m_saved w3 z
    have wm := w4.m
    have ws : h3 102 = some (rowI 67 (m_s M)) := by
      have := w4.s
      rw [m_save_s] at this
      exact this
    have tail : ∀ k, k = (if u = 0 then 0 else 4) → og_G E yX8_setFour.cls cX8_setFour (d + 2) 0 0 9 X (og_Q E (fun v n1 h1 => n1 = n3 ∧ ((¬ q_in8 (nI r) ∧ v = some (.long 0) ∧ og_MK h0 h1 (m_wRf M 1)) ∨ (q_in8 (nI r) ∧ ¬ (q_hvs a ∧ q_hvs b ∧ q_hvs c ∧ q_hvs e) ∧ v = some (.long 0) ∧ og_MK h0 h1 (m_wRf M 2)) ∨ (∃ r9, r9 < 8 ∧ (nI r) = nI r9 ∧ q_hvs a ∧ q_hvs b ∧ q_hvs c ∧ q_hvs e ∧ v = some (.long (q_inner (q_reg (m_f4 (m_s M) (8 * r9 + (if u = 0 then 0 else 4)) a b c e) r9) (q_reg (m_f4 (m_s M) (8 * r9 + (if u = 0 then 0 else 4)) a b c e) r9) 8)) ∧ og_MK h0 h1 (m_wS (m_save (m_wRf M 0)) (m_f4 (m_s M) (8 * r9 + (if u = 0 then 0 else 4)) a b c e))))) no_x 0 0 X) (0 + 0 + 0 + 0) (0 + 0 + 0 + 0) n3 h3 109 [some (.ref 101), some (.int (nI r)), some (.int u), some (.int a), some (.int b), some (.int c), some (.int e), some (.int 1), none] [.int (nI k), .int (8 * nI r)] := by
      intro k hk
      have hk4 : k ≤ 4 := by rw [hk]; split <;> omega
      have i1 : nI (8 * r + k) + 1 = nI (8 * r + k + 1) := nI_1 _
      have i2 : nI (8 * r + k) + 2 = nI (8 * r + k + 2) := nI_add (8 * r + k) 2
      have i3 : nI (8 * r + k) + 3 = nI (8 * r + k + 3) := nI_add (8 * r + k) 3
      refine og_iadd (pc := 109) dX8_setFour_109 ?_
      rw [og_i8]
      refine og_istore_8 (pc := 110) dX8_setFour_110 rfl ?_
      refine og_aload_n (pc := 112) dX8_setFour_112 rfl ?_
      refine og_get (pc := 113) F_X8_7 dX8_setFour_113 (by repeat (first | exact og_set_eq _ _ _ | assumption | refine (og_set_ne _ _ (by first | assumption | omega)).trans ?_)) (by omega) rfl ?_
      refine og_iload (pc := 116) dX8_setFour_116 rfl ?_
      refine og_iload_n (pc := 118) dX8_setFour_118 rfl ?_
      refine og_iastN (pc := 119) rfl dX8_setFour_119 ws (by omega) (by omega) (by first | decide | assumption | omega) ?_
      refine og_aload_n (pc := 120) dX8_setFour_120 rfl ?_
      refine og_get (pc := 121) F_X8_7 dX8_setFour_121 ((og_set_ne _ _ (by omega)).trans wm) (by omega) rfl ?_
      refine og_iload (pc := 124) dX8_setFour_124 rfl ?_
      refine og_iconst (pc := 126) (v := 1) dX8_setFour_126 (by decide) ?_
      refine og_iadd (pc := 127) dX8_setFour_127 ?_
      refine og_iload (pc := 128) dX8_setFour_128 rfl ?_
      refine og_iastN (pc := 130) i1 dX8_setFour_130 (og_set_eq _ _ _) (by omega) (by omega) (by first | decide | assumption | omega) ?_
      rw [og_set_set]
      refine og_aload_n (pc := 131) dX8_setFour_131 rfl ?_
      refine og_get (pc := 132) F_X8_7 dX8_setFour_132 ((og_set_ne _ _ (by omega)).trans wm) (by omega) rfl ?_
      refine og_iload (pc := 135) dX8_setFour_135 rfl ?_
      refine og_iconst (pc := 137) (v := 2) dX8_setFour_137 (by decide) ?_
      refine og_iadd (pc := 138) dX8_setFour_138 ?_
      refine og_iload (pc := 139) dX8_setFour_139 rfl ?_
      refine og_iastN (pc := 141) i2 dX8_setFour_141 (og_set_eq _ _ _) (by omega) (by omega) (by first | decide | assumption | omega) ?_
      rw [og_set_set]
      refine og_aload_n (pc := 142) dX8_setFour_142 rfl ?_
      refine og_get (pc := 143) F_X8_7 dX8_setFour_143 ((og_set_ne _ _ (by omega)).trans wm) (by omega) rfl ?_
      refine og_iload (pc := 146) dX8_setFour_146 rfl ?_
      refine og_iconst (pc := 148) (v := 3) dX8_setFour_148 (by decide) ?_
      refine og_iadd (pc := 149) dX8_setFour_149 ?_
      refine og_iload (pc := 150) dX8_setFour_150 rfl ?_
      refine og_iastN (pc := 152) i3 dX8_setFour_152 (og_set_eq _ _ _) (by omega) (by omega) (by first | decide | assumption | omega) ?_
      rw [og_set_set]
      have w5 := w4.sS (m_f4 (m_s M) (8 * r + k) a b c e)
      have wm := w5.m
      refine og_aload_n (pc := 153) dX8_setFour_153 rfl ?_
      refine og_iload_n (pc := 154) dX8_setFour_154 rfl ?_
      refine og_callV (pc := 155) (As := [.int (nI r)]) (rest := []) (c_X8_normOf E d n3 r _ w5 hr8) Y_X8_normOf I_X8_normOf V_X8_normOf wm (by omega) rfl rfl K_X8_135 dX8_setFour_155 rfl rfl (Nat.le_of_ble_eq_true rfl) (by omega) (by omega) (by omega) (fun _ _ _ z => z) (fun v n4 h4 z => ?_)
      obtain ⟨hn, rfl, w6⟩ := z
      subst hn
      refine og_lret (pc := 158) hr dX8_setFour_158 (by omega) (by omega) ⟨rfl, Or.inr (Or.inr ⟨r, hr8, rfl, hall.1, hall.2.1, hall.2.2.1, hall.2.2.2, ?_, ?_⟩)⟩
      · rw [← hk]; rfl
      · rw [← hk]; exact w6
    refine og_bipush (pc := 96) (v := 8) dX8_setFour_96 (by decide) ?_
    refine og_iload_n (pc := 98) dX8_setFour_98 rfl ?_
    refine og_imul (pc := 99) dX8_setFour_99 ?_
    refine og_iload_n (pc := 100) dX8_setFour_100 rfl ?_
    refine og_if_eq (pc := 101) (tgt := 108) dX8_setFour_101 (by decide) (fun c9 => ?_) (fun c9 => ?_)
    · refine og_iconst (pc := 108) (v := 0) dX8_setFour_108 (by decide) ?_
      exact tail 0 (if_pos c9).symm
    · refine og_iconst (pc := 104) (v := 4) dX8_setFour_104 (by decide) ?_
      refine og_goto (pc := 105) (tgt := 109) dX8_setFour_105 (by decide) ?_
      exact tail 4 (if_neg c9).symm
  have no : ¬ (q_hvs a ∧ q_hvs b ∧ q_hvs c ∧ q_hvs e) → og_G E yX8_setFour.cls cX8_setFour (d + 2) 0 0 9 X (og_Q E (fun v n1 h1 => n1 = n ∧ ((¬ q_in8 (x) ∧ v = some (.long 0) ∧ og_MK h0 h1 (m_wRf M 1)) ∨ (q_in8 (x) ∧ ¬ (q_hvs a ∧ q_hvs b ∧ q_hvs c ∧ q_hvs e) ∧ v = some (.long 0) ∧ og_MK h0 h1 (m_wRf M 2)) ∨ (∃ r9, r9 < 8 ∧ (x) = nI r9 ∧ q_hvs a ∧ q_hvs b ∧ q_hvs c ∧ q_hvs e ∧ v = some (.long (q_inner (q_reg (m_f4 (m_s M) (8 * r9 + (if u = 0 then 0 else 4)) a b c e) r9) (q_reg (m_f4 (m_s M) (8 * r9 + (if u = 0 then 0 else 4)) a b c e) r9) 8)) ∧ og_MK h0 h1 (m_wS (m_save (m_wRf M 0)) (m_f4 (m_s M) (8 * r9 + (if u = 0 then 0 else 4)) a b c e))))) no_x 0 0 X) 0 0 n h 59 [some (.ref 101), some (.int x), some (.int u), some (.int a), some (.int b), some (.int c), some (.int e), none, none] [] := by
    intro hb
    refine og_iconst (pc := 59) (v := 0) dX8_setFour_59 (by decide) ?_
    exact ph2 0 (Or.inr ⟨rfl, hb⟩)
  refine og_iload_n (pc := 0) dX8_setFour_0 rfl ?_
  refine og_sipush (pc := 1) (v := (-2000)) dX8_setFour_1 (by decide) ?_
  refine og_sipush (pc := 4) (v := 2000) dX8_setFour_4 (by decide) ?_
  refine og_callS (pc := 7) (As := [.int a, .int (-2000), .int 2000]) (rest := []) (c_X8_in E d n h a (-2000) 2000) Y_X8_in S_X8_in K_X8_86 dX8_setFour_7 rfl rfl (Nat.le_of_ble_eq_true rfl) (by omega) (by omega) (by omega) (fun _ _ _ z => z) (fun v n1 h1 z => ?_)
  obtain ⟨hn, hh, z⟩ := z
  subst hn hh
  rcases z with ⟨rfl, ha⟩ | ⟨rfl, ha⟩
  rotate_left
  · exact og_if_eq (pc := 10) (tgt := 59) dX8_setFour_10 (by decide) (fun _ => no fun q => ha q.1) (fun q => absurd rfl q)
  refine og_if_eq (pc := 10) (tgt := 59) dX8_setFour_10 (by decide) (fun q => absurd q (by decide)) (fun _ => ?_)
  refine og_iload (pc := 13) dX8_setFour_13 rfl ?_
  refine og_sipush (pc := 15) (v := (-2000)) dX8_setFour_15 (by decide) ?_
  refine og_sipush (pc := 18) (v := 2000) dX8_setFour_18 (by decide) ?_
  refine og_callS (pc := 21) (As := [.int b, .int (-2000), .int 2000]) (rest := []) (c_X8_in E d n1 h1 b (-2000) 2000) Y_X8_in S_X8_in K_X8_86 dX8_setFour_21 rfl rfl (Nat.le_of_ble_eq_true rfl) (by omega) (by omega) (by omega) (fun _ _ _ z => z) (fun v n2 h2 z => ?_)
  obtain ⟨hn, hh, z⟩ := z
  subst hn hh
  rcases z with ⟨rfl, hb⟩ | ⟨rfl, hb⟩
  rotate_left
  · exact og_if_eq (pc := 24) (tgt := 59) dX8_setFour_24 (by decide) (fun _ => no fun q => hb q.2.1) (fun q => absurd rfl q)
  refine og_if_eq (pc := 24) (tgt := 59) dX8_setFour_24 (by decide) (fun q => absurd q (by decide)) (fun _ => ?_)
  refine og_iload (pc := 27) dX8_setFour_27 rfl ?_
  refine og_sipush (pc := 29) (v := (-2000)) dX8_setFour_29 (by decide) ?_
  refine og_sipush (pc := 32) (v := 2000) dX8_setFour_32 (by decide) ?_
  refine og_callS (pc := 35) (As := [.int c, .int (-2000), .int 2000]) (rest := []) (c_X8_in E d n2 h2 c (-2000) 2000) Y_X8_in S_X8_in K_X8_86 dX8_setFour_35 rfl rfl (Nat.le_of_ble_eq_true rfl) (by omega) (by omega) (by omega) (fun _ _ _ z => z) (fun v n3 h3 z => ?_)
  obtain ⟨hn, hh, z⟩ := z
  subst hn hh
  rcases z with ⟨rfl, hc⟩ | ⟨rfl, hc⟩
  rotate_left
  · exact og_if_eq (pc := 38) (tgt := 59) dX8_setFour_38 (by decide) (fun _ => no fun q => hc q.2.2.1) (fun q => absurd rfl q)
  refine og_if_eq (pc := 38) (tgt := 59) dX8_setFour_38 (by decide) (fun q => absurd q (by decide)) (fun _ => ?_)
  refine og_iload (pc := 41) dX8_setFour_41 rfl ?_
  refine og_sipush (pc := 43) (v := (-2000)) dX8_setFour_43 (by decide) ?_
  refine og_sipush (pc := 46) (v := 2000) dX8_setFour_46 (by decide) ?_
  refine og_callS (pc := 49) (As := [.int e, .int (-2000), .int 2000]) (rest := []) (c_X8_in E d n3 h3 e (-2000) 2000) Y_X8_in S_X8_in K_X8_86 dX8_setFour_49 rfl rfl (Nat.le_of_ble_eq_true rfl) (by omega) (by omega) (by omega) (fun _ _ _ z => z) (fun v n4 h4 z => ?_)
  obtain ⟨hn, hh, z⟩ := z
  subst hn hh
  rcases z with ⟨rfl, he⟩ | ⟨rfl, he⟩
  rotate_left
  · exact og_if_eq (pc := 52) (tgt := 59) dX8_setFour_52 (by decide) (fun _ => no fun q => he q.2.2.2) (fun q => absurd rfl q)
  refine og_if_eq (pc := 52) (tgt := 59) dX8_setFour_52 (by decide) (fun q => absurd q (by decide)) (fun _ => ?_)
  refine og_iconst (pc := 55) (v := 1) dX8_setFour_55 (by decide) ?_
  refine og_goto (pc := 56) (tgt := 60) dX8_setFour_56 (by decide) ?_
  exact ph2 1 (Or.inl ⟨rfl, ha, hb, hc, he⟩)
