/-! ===== the model: set, setOrder, conjugate, gives, commutes, associates ===== -/
theorem q_e8_in {x : Int32} (h : q_e8 x) : q_in8 x := by
  have h1 := Int32.le_iff_toInt_le.mp h.1
  have h2 := Int32.le_iff_toInt_le.mp h.2
  rw [show (0 : Int32).toInt = 0 from rfl] at h1
  rw [show (7 : Int32).toInt = 7 from rfl] at h2
  refine q_e8_nat (fun q => ?_) ?_
  · have := Int32.lt_iff_toInt_lt.mp q
    rw [show (0 : Int32).toInt = 0 from rfl] at this
    omega
  · apply Int32.lt_iff_toInt_lt.mpr
    rw [show (8 : Int32).toInt = 8 from rfl]
    omega
theorem q_in_e8 {x : Int32} (h : q_in8 x) : q_e8 x := by
  obtain ⟨r, hr, rfl⟩ := h
  exact ⟨nI_pos' (by omega), nI_le (a := r) (b := 7) (by omega) (by omega)⟩
def m_save (M : q_M) : q_M := if m_ps M < 4 then m_wO (m_wP M (q_sv (m_p M) (m_s M) (m_ps M))) (m_ps M + 1) (m_ty M) (m_rf M) (m_la M) (m_un M) (m_ls M) (m_dp M) (m_wl M) (m_ct M) else m_wO (m_wP M (q_sv (q_dr (m_p M)) (m_s M) 3)) 4 (m_ty M) (m_rf M) (m_la M) (m_un M) (m_ls M) (m_dp M) (m_wl M) (m_ct M)
theorem m_save_s (M : q_M) : m_s (m_save M) = m_s M := by
  unfold m_save
  split <;> rfl
theorem m_saved {h0 h h1 : og_H} {M : q_M} (w : og_MK h0 h M) (z : (m_ps M < 4 ∧ h1 = og_set (og_set h 103 (rowI 268 (q_sv (m_p M) (m_s M) (m_ps M)))) 101 (og_mo (nI (m_ps M + 1)) (nI (m_ty M)) (m_rf M) (m_la M) (m_un M) (m_ls M) (m_dp M) (m_wl M) (m_ct M))) ∨ (m_ps M = 4 ∧ h1 = og_set (og_set h 103 (rowI 268 (q_sv (q_dr (m_p M)) (m_s M) 3))) 101 (og_mo (nI 4) (nI (m_ty M)) (m_rf M) (m_la M) (m_un M) (m_ls M) (m_dp M) (m_wl M) (m_ct M)))) : og_MK h0 h1 (m_save M) ∧ ∀ a, a ≠ 101 → a ≠ 103 → h1 a = h a := by
  rcases z with ⟨a, rfl⟩ | ⟨a, rfl⟩
  · refine ⟨?_, fun x x1 x2 => (og_set_ne _ _ x1).trans (og_set_ne _ _ x2)⟩
    rw [m_save, if_pos a]
    exact (w.sP _).sO (m_ps M + 1) (m_ty M) (m_rf M) (m_la M) (m_un M) (m_ls M) (m_dp M) (m_wl M) (m_ct M) (by omega) w.ok.2
  · refine ⟨?_, fun x x1 x2 => (og_set_ne _ _ x1).trans (og_set_ne _ _ x2)⟩
    rw [m_save, if_neg (by omega)]
    exact (w.sP _).sO 4 (m_ty M) (m_rf M) (m_la M) (m_un M) (m_ls M) (m_dp M) (m_wl M) (m_ct M) (by omega) w.ok.2
set_option maxRecDepth 4000 in
theorem c_X8_set (E : og_E) (d n : Nat) (h : og_H) (x y t : Int32) {h0 : og_H} {M : q_M} (w : og_MK h0 h M) :
    og_M E yX8_set (.code yX8_set cX8_set 5 (some .int)) (d + 2) [.ref 101, .int x, .int y, .int t] n h 0 0 (fun v n1 h1 => n1 = n ∧ ((¬ (q_in8 x ∧ q_in8 y) ∧ v = some (.int 0) ∧ og_MK h0 h1 (m_wRf M 1)) ∨ (q_in8 x ∧ q_in8 y ∧ ¬ q_hvs t ∧ v = some (.int 0) ∧ og_MK h0 h1 (m_wRf M 2)) ∨ (∃ r i, r < 8 ∧ i < 8 ∧ x = nI r ∧ y = nI i ∧ q_hvs t ∧ v = some (.int (m_s M (8 * r + i))) ∧ og_MK h0 h1 (m_wS (m_save (m_wRf M 0)) (upd (m_s M) (8 * r + i) t))))) no_x := by
  refine og_start (lv := [some (.ref 101), some (.int x), some (.int y), some (.int t), none]) (by decide) rfl rfl (Nat.le_of_ble_eq_true rfl) fun X hr hnm htb => ?_
  have rej : ∀ k : Int32, 0 < k → (og_MK h0 (og_set h 101 (og_mM (m_wRf M k))) (m_wRf M k) → (¬ (q_in8 x ∧ q_in8 y) ∧ k = 1) ∨ (q_in8 x ∧ q_in8 y ∧ ¬ q_hvs t ∧ k = 2)) → og_G E yX8_set.cls cX8_set (d + 2) 0 0 5 X (og_Q E (fun v n1 h1 => n1 = n ∧ ((¬ (q_in8 x ∧ q_in8 y) ∧ v = some (.int 0) ∧ og_MK h0 h1 (m_wRf M 1)) ∨ (q_in8 x ∧ q_in8 y ∧ ¬ q_hvs t ∧ v = some (.int 0) ∧ og_MK h0 h1 (m_wRf M 2)) ∨ (∃ r i, r < 8 ∧ i < 8 ∧ x = nI r ∧ y = nI i ∧ q_hvs t ∧ v = some (.int (m_s M (8 * r + i))) ∧ og_MK h0 h1 (m_wS (m_save (m_wRf M 0)) (upd (m_s M) (8 * r + i) t))))) no_x 0 0 X) 0 0 n h 37 [some (.ref 101), some (.int x), some (.int y), some (.int t), none] [.int k, .ref 101] := by
    intro k hk hb
    have wm := w.m
    refine og_callV (pc := 37) (As := [.int k]) (rest := []) (c_X8_throwsAt E d n h k wm) Y_X8_throwsAt I_X8_throwsAt V_X8_throwsAt wm (by omega) rfl rfl K_X8_125 dX8_set_37 rfl rfl (Nat.le_of_ble_eq_true rfl) (by omega) (by omega) (by omega) (fun _ _ _ z => z) (fun v n1 h1 z => ?_)
    obtain ⟨hn, hh, z⟩ := z
    subst hn
    have w2 := w.rf_ k
    rcases z with ⟨rfl, z⟩ | ⟨rfl, z⟩
    · refine og_if_eq (pc := 40) (tgt := 45) dX8_set_40 (by decide) (fun q => absurd q (by decide)) (fun _ => ?_)
      refine og_iconst (pc := 43) (v := 0) dX8_set_43 (by decide) ?_
      rcases hb w2 with ⟨b1, rfl⟩ | ⟨b1, b2, b3, rfl⟩
      · exact og_iret (pc := 44) hr dX8_set_44 (by omega) (by omega) ⟨rfl, Or.inl ⟨b1, rfl, by rw [hh]; exact w2⟩⟩
      · exact og_iret (pc := 44) hr dX8_set_44 (by omega) (by omega) ⟨rfl, Or.inr (Or.inl ⟨b1, b2, b3, rfl, by rw [hh]; exact w2⟩)⟩
    · exact absurd hk z
  have rej1 : ¬ (q_in8 x ∧ q_in8 y) → og_G E yX8_set.cls cX8_set (d + 2) 0 0 5 X (og_Q E (fun v n1 h1 => n1 = n ∧ ((¬ (q_in8 x ∧ q_in8 y) ∧ v = some (.int 0) ∧ og_MK h0 h1 (m_wRf M 1)) ∨ (q_in8 x ∧ q_in8 y ∧ ¬ q_hvs t ∧ v = some (.int 0) ∧ og_MK h0 h1 (m_wRf M 2)) ∨ (∃ r i, r < 8 ∧ i < 8 ∧ x = nI r ∧ y = nI i ∧ q_hvs t ∧ v = some (.int (m_s M (8 * r + i))) ∧ og_MK h0 h1 (m_wS (m_save (m_wRf M 0)) (upd (m_s M) (8 * r + i) t))))) no_x 0 0 X) 0 0 n h 15 [some (.ref 101), some (.int x), some (.int y), some (.int t), none] [.ref 101] := by
    intro hb
    refine og_iconst (pc := 15) (v := 1) dX8_set_15 (by decide) ?_
    refine og_goto (pc := 16) (tgt := 37) dX8_set_16 (by decide) ?_
    exact rej 1 (by decide) (fun _ => Or.inl ⟨hb, rfl⟩)
  refine og_aload_n (pc := 0) dX8_set_0 rfl ?_
  refine og_iload_n (pc := 1) dX8_set_1 rfl ?_
  refine og_callS (pc := 2) (As := [.int x]) (rest := [.ref 101]) (c_X8_isEight E d n h x) Y_X8_isEight S_X8_isEight K_X8_121 dX8_set_2 rfl rfl (Nat.le_of_ble_eq_true rfl) (by omega) (by omega) (by omega) (fun _ _ _ z => z) (fun v n1 h1 z => ?_)
  obtain ⟨hn, hh, z⟩ := z
  subst hn hh
  rcases z with ⟨rfl, zx⟩ | ⟨rfl, zx⟩
  rotate_left
  · exact og_if_eq (pc := 5) (tgt := 15) dX8_set_5 (by decide) (fun _ => rej1 fun q => zx (q_in_e8 q.1)) (fun q => absurd rfl q)
  refine og_if_eq (pc := 5) (tgt := 15) dX8_set_5 (by decide) (fun q => absurd q (by decide)) (fun _ => ?_)
  refine og_iload_n (pc := 8) dX8_set_8 rfl ?_
  refine og_callS (pc := 9) (As := [.int y]) (rest := [.ref 101]) (c_X8_isEight E d n1 h1 y) Y_X8_isEight S_X8_isEight K_X8_121 dX8_set_9 rfl rfl (Nat.le_of_ble_eq_true rfl) (by omega) (by omega) (by omega) (fun _ _ _ z => z) (fun v n2 h2 z => ?_)
  obtain ⟨hn, hh, z⟩ := z
  subst hn hh
  rcases z with ⟨rfl, zy⟩ | ⟨rfl, zy⟩
  rotate_left
  · exact og_if_ne (pc := 12) (tgt := 19) dX8_set_12 (by decide) (fun q => absurd rfl q) (fun _ => rej1 fun q => zy (q_in_e8 q.2))
  refine og_if_ne (pc := 12) (tgt := 19) dX8_set_12 (by decide) (fun _ => ?_) (fun q => absurd q (by decide))
  refine og_iload_n (pc := 19) dX8_set_19 rfl ?_
  refine og_sipush (pc := 20) (v := (-2000)) dX8_set_20 (by decide) ?_
  refine og_sipush (pc := 23) (v := 2000) dX8_set_23 (by decide) ?_
  refine og_callS (pc := 26) (As := [.int t, .int (-2000), .int 2000]) (rest := [.ref 101]) (c_X8_in E d n2 h2 t (-2000) 2000) Y_X8_in S_X8_in K_X8_86 dX8_set_26 rfl rfl (Nat.le_of_ble_eq_true rfl) (by omega) (by omega) (by omega) (fun _ _ _ z => z) (fun v n3 h3 z => ?_)
  obtain ⟨hn, hh, z⟩ := z
  subst hn hh
  rcases z with ⟨rfl, zt⟩ | ⟨rfl, zt⟩
  rotate_left
  · refine og_if_eq (pc := 29) (tgt := 36) dX8_set_29 (by decide) (fun _ => ?_) (fun q => absurd rfl q)
    refine og_iconst (pc := 36) (v := 2) dX8_set_36 (by decide) ?_
    exact rej 2 (by decide) (fun _ => Or.inr ⟨q_e8_in zx, q_e8_in zy, zt, rfl⟩)
  refine og_if_eq (pc := 29) (tgt := 36) dX8_set_29 (by decide) (fun q => absurd q (by decide)) (fun _ => ?_)
  refine og_iconst (pc := 32) (v := 0) dX8_set_32 (by decide) ?_
  refine og_goto (pc := 33) (tgt := 37) dX8_set_33 (by decide) ?_
  have wm := w.m
  refine og_callV (pc := 37) (As := [.int 0]) (rest := []) (c_X8_throwsAt E d n3 h3 0 wm) Y_X8_throwsAt I_X8_throwsAt V_X8_throwsAt wm (by omega) rfl rfl K_X8_125 dX8_set_37 rfl rfl (Nat.le_of_ble_eq_true rfl) (by omega) (by omega) (by omega) (fun _ _ _ z => z) (fun v n4 h4 z => ?_)
  obtain ⟨hn, hh, z⟩ := z
  subst hn
  have w2 := w.rf_ 0
  rcases z with ⟨rfl, z⟩ | ⟨rfl, -⟩
  · exact absurd z (by decide)
  refine og_if_eq (pc := 40) (tgt := 45) dX8_set_40 (by decide) (fun _ => ?_) (fun q => absurd rfl q)
  obtain ⟨r, hr8, rfl⟩ := q_e8_in zx
  obtain ⟨i, hi8, rfl⟩ := q_e8_in zy
  refine og_abs (P := fun g => og_MK h0 g (m_wRf M 0)) (by rw [hh]; exact w2) fun g w3 => ?_
  have wm := w3.m
  refine og_aload_n (pc := 45) dX8_set_45 rfl ?_
  refine og_callV (pc := 46) (As := []) (rest := []) (c_X8_saves E d n4 (m_ps M) g (m_p M) (m_s M) wm w3.s w3.p w3.ok.1) Y_X8_saves I_X8_saves V_X8_saves wm (by omega) rfl rfl K_X8_128 dX8_set_46 rfl rfl (Nat.le_of_ble_eq_true rfl) (by omega) (by omega) (by omega) (fun _ _ _ z => z) (fun v n5 h5 z => ?_)
  obtain ⟨rfl, hn, z⟩ := z
  subst hn
  obtain ⟨w4, -⟩ := m_saved w3 z
  have wm := w4.m
  have ws : h5 102 = some (rowI 67 (m_s M)) := by
    have := w4.s
    rw [m_save_s] at this
    exact this
  refine og_aload_n (pc := 49) dX8_set_49 rfl ?_
  refine og_get (pc := 50) F_X8_7 dX8_set_50 (by repeat (first | exact og_set_eq _ _ _ | assumption | refine (og_set_ne _ _ (by first | assumption | omega)).trans ?_)) (by omega) rfl ?_
  refine og_bipush (pc := 53) (v := 8) dX8_set_53 (by decide) ?_
  refine og_iload_n (pc := 55) dX8_set_55 rfl ?_
  refine og_imul (pc := 56) dX8_set_56 ?_
  refine og_iload_n (pc := 57) dX8_set_57 rfl ?_
  refine og_iadd (pc := 58) dX8_set_58 ?_
  refine og_ialdN (pc := 59) (og_i8 r i) dX8_set_59 ws (by omega) (by omega) (by first | decide | assumption | omega) ?_
  refine og_istore_4 (pc := 60) dX8_set_60 rfl ?_
  refine og_aload_n (pc := 62) dX8_set_62 rfl ?_
  refine og_get (pc := 63) F_X8_7 dX8_set_63 (by repeat (first | exact og_set_eq _ _ _ | assumption | refine (og_set_ne _ _ (by first | assumption | omega)).trans ?_)) (by omega) rfl ?_
  refine og_bipush (pc := 66) (v := 8) dX8_set_66 (by decide) ?_
  refine og_iload_n (pc := 68) dX8_set_68 rfl ?_
  refine og_imul (pc := 69) dX8_set_69 ?_
  refine og_iload_n (pc := 70) dX8_set_70 rfl ?_
  refine og_iadd (pc := 71) dX8_set_71 ?_
  refine og_iload_n (pc := 72) dX8_set_72 rfl ?_
  refine og_iastN (pc := 73) (og_i8 r i) dX8_set_73 ws (by omega) (by omega) (by first | decide | assumption | omega) ?_
  refine og_iload (pc := 74) dX8_set_74 rfl ?_
  exact og_iret (pc := 76) hr dX8_set_76 (by omega) (by omega) ⟨rfl, Or.inr (Or.inr ⟨r, i, hr8, hi8, rfl, rfl, zt, rfl, w4.sS _⟩)⟩
