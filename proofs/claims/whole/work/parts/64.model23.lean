/-! ===== the model: divide ===== -/
set_option maxRecDepth 4000 in
theorem c_X8_divide (E : og_E) (d n : Nat) (h : og_H) (x y t s : Int32) {h0 : og_H} {M : q_M} {o : Nat} (w : og_MK h0 h M) (ho : m_s M 64 = nI o) (ho8 : o < 8) :
    og_M E yX8_divide (.code yX8_divide cX8_divide 6 (some .long)) (d + 3) [.ref 101, .int x, .int y, .int t, .int s] n h 0 0 (fun v nn h1 => nn = n ∧ ((¬ (q_in8 x ∧ q_in8 y ∧ q_in8 t ∧ q_in8 s) ∧ v = some (Value.long 0) ∧ og_MK h0 h1 (m_wRf M 1)) ∨ (∃ a9 b9 c9 e9, a9 < 8 ∧ b9 < 8 ∧ c9 < 8 ∧ e9 < 8 ∧ x = nI a9 ∧ y = nI b9 ∧ t = nI c9 ∧ s = nI e9 ∧ ((c9 = e9 ∧ v = some (Value.long 0) ∧ og_MK h0 h1 (m_wRf M 2)) ∨ (c9 ≠ e9 ∧ ¬ (q_inP (m_R M a9) o ∧ q_inP (m_R M b9) o ∧ q_inner (m_R M b9) (m_R M b9) 8 ≠ 0) ∧ v = some (Value.long 0) ∧ og_MK h0 h1 (m_wRf M 3)) ∨ (c9 ≠ e9 ∧ (q_inP (m_R M a9) o ∧ q_inP (m_R M b9) o ∧ q_inner (m_R M b9) (m_R M b9) 8 ≠ 0) ∧ ¬ (q_hall 1 (m_quo (m_R M a9) (m_R M b9) o) ∧ q_hall 1 (m_rem (m_R M a9) (m_R M b9) o)) ∧ v = some (Value.long 0) ∧ og_MK h0 h1 (m_wRf M 4)) ∨ (c9 ≠ e9 ∧ (q_inP (m_R M a9) o ∧ q_inP (m_R M b9) o ∧ q_inner (m_R M b9) (m_R M b9) 8 ≠ 0) ∧ q_hall 1 (m_quo (m_R M a9) (m_R M b9) o) ∧ q_hall 1 (m_rem (m_R M a9) (m_R M b9) o) ∧ v = some (Value.long (q_inner (q_dv 1 (m_rem (m_R M a9) (m_R M b9) o)) (q_dv 1 (m_rem (m_R M a9) (m_R M b9) o)) 8)) ∧ og_MK h0 h1 (m_wS (m_save (m_wRf M 0)) (upd (q_pt (q_pt (m_s M) (q_dv 1 (m_quo (m_R M a9) (m_R M b9) o)) c9) (q_dv 1 (m_rem (m_R M a9) (m_R M b9) o)) e9) 66 ((q_pt (q_pt (m_s M) (q_dv 1 (m_quo (m_R M a9) (m_R M b9) o)) c9) (q_dv 1 (m_rem (m_R M a9) (m_R M b9) o)) e9) 66 + 1)))))))) no_x := by
  refine og_start (lv := [some (.ref 101), some (.int x), some (.int y), some (.int t), some (.int s), none]) (by decide) rfl rfl (Nat.le_of_ble_eq_true rfl) fun X hr hnm htb => ?_
  have wm := w.m
  have thr : ∀ (k : Int32) (g : og_H) (l5 : Option Value), 0 < k → og_MK h0 g M → (∀ h1, og_MK h0 h1 (m_wRf M k) → (fun v nn h1 => nn = n ∧ ((¬ (q_in8 x ∧ q_in8 y ∧ q_in8 t ∧ q_in8 s) ∧ v = some (Value.long 0) ∧ og_MK h0 h1 (m_wRf M 1)) ∨ (∃ a9 b9 c9 e9, a9 < 8 ∧ b9 < 8 ∧ c9 < 8 ∧ e9 < 8 ∧ x = nI a9 ∧ y = nI b9 ∧ t = nI c9 ∧ s = nI e9 ∧ ((c9 = e9 ∧ v = some (Value.long 0) ∧ og_MK h0 h1 (m_wRf M 2)) ∨ (c9 ≠ e9 ∧ ¬ (q_inP (m_R M a9) o ∧ q_inP (m_R M b9) o ∧ q_inner (m_R M b9) (m_R M b9) 8 ≠ 0) ∧ v = some (Value.long 0) ∧ og_MK h0 h1 (m_wRf M 3)) ∨ (c9 ≠ e9 ∧ (q_inP (m_R M a9) o ∧ q_inP (m_R M b9) o ∧ q_inner (m_R M b9) (m_R M b9) 8 ≠ 0) ∧ ¬ (q_hall 1 (m_quo (m_R M a9) (m_R M b9) o) ∧ q_hall 1 (m_rem (m_R M a9) (m_R M b9) o)) ∧ v = some (Value.long 0) ∧ og_MK h0 h1 (m_wRf M 4)) ∨ (c9 ≠ e9 ∧ (q_inP (m_R M a9) o ∧ q_inP (m_R M b9) o ∧ q_inner (m_R M b9) (m_R M b9) 8 ≠ 0) ∧ q_hall 1 (m_quo (m_R M a9) (m_R M b9) o) ∧ q_hall 1 (m_rem (m_R M a9) (m_R M b9) o) ∧ v = some (Value.long (q_inner (q_dv 1 (m_rem (m_R M a9) (m_R M b9) o)) (q_dv 1 (m_rem (m_R M a9) (m_R M b9) o)) 8)) ∧ og_MK h0 h1 (m_wS (m_save (m_wRf M 0)) (upd (q_pt (q_pt (m_s M) (q_dv 1 (m_quo (m_R M a9) (m_R M b9) o)) c9) (q_dv 1 (m_rem (m_R M a9) (m_R M b9) o)) e9) 66 ((q_pt (q_pt (m_s M) (q_dv 1 (m_quo (m_R M a9) (m_R M b9) o)) c9) (q_dv 1 (m_rem (m_R M a9) (m_R M b9) o)) e9) 66 + 1)))))))) (some (.long 0)) n h1) → og_G E yX8_divide.cls cX8_divide (d + 3) 0 0 6 X (og_Q E (fun v nn h1 => nn = n ∧ ((¬ (q_in8 x ∧ q_in8 y ∧ q_in8 t ∧ q_in8 s) ∧ v = some (Value.long 0) ∧ og_MK h0 h1 (m_wRf M 1)) ∨ (∃ a9 b9 c9 e9, a9 < 8 ∧ b9 < 8 ∧ c9 < 8 ∧ e9 < 8 ∧ x = nI a9 ∧ y = nI b9 ∧ t = nI c9 ∧ s = nI e9 ∧ ((c9 = e9 ∧ v = some (Value.long 0) ∧ og_MK h0 h1 (m_wRf M 2)) ∨ (c9 ≠ e9 ∧ ¬ (q_inP (m_R M a9) o ∧ q_inP (m_R M b9) o ∧ q_inner (m_R M b9) (m_R M b9) 8 ≠ 0) ∧ v = some (Value.long 0) ∧ og_MK h0 h1 (m_wRf M 3)) ∨ (c9 ≠ e9 ∧ (q_inP (m_R M a9) o ∧ q_inP (m_R M b9) o ∧ q_inner (m_R M b9) (m_R M b9) 8 ≠ 0) ∧ ¬ (q_hall 1 (m_quo (m_R M a9) (m_R M b9) o) ∧ q_hall 1 (m_rem (m_R M a9) (m_R M b9) o)) ∧ v = some (Value.long 0) ∧ og_MK h0 h1 (m_wRf M 4)) ∨ (c9 ≠ e9 ∧ (q_inP (m_R M a9) o ∧ q_inP (m_R M b9) o ∧ q_inner (m_R M b9) (m_R M b9) 8 ≠ 0) ∧ q_hall 1 (m_quo (m_R M a9) (m_R M b9) o) ∧ q_hall 1 (m_rem (m_R M a9) (m_R M b9) o) ∧ v = some (Value.long (q_inner (q_dv 1 (m_rem (m_R M a9) (m_R M b9) o)) (q_dv 1 (m_rem (m_R M a9) (m_R M b9) o)) 8)) ∧ og_MK h0 h1 (m_wS (m_save (m_wRf M 0)) (upd (q_pt (q_pt (m_s M) (q_dv 1 (m_quo (m_R M a9) (m_R M b9) o)) c9) (q_dv 1 (m_rem (m_R M a9) (m_R M b9) o)) e9) 66 ((q_pt (q_pt (m_s M) (q_dv 1 (m_quo (m_R M a9) (m_R M b9) o)) c9) (q_dv 1 (m_rem (m_R M a9) (m_R M b9) o)) e9) 66 + 1)))))))) no_x 0 0 X) 0 0 n g 70 [some (.ref 101), some (.int x), some (.int y), some (.int t), some (.int s), l5] [.int k, .ref 101] := by
    intro k g l5 hk w hp
    have wm := w.m
    refine og_callV (pc := 70) (As := [.int k]) (rest := []) (c_X8_throwsAt E d n g k wm) Y_X8_throwsAt I_X8_throwsAt V_X8_throwsAt wm (by omega) rfl rfl K_X8_125 dX8_divide_70 rfl rfl (Nat.le_of_ble_eq_true rfl) (by omega) (by omega) (by omega) (fun _ _ _ z => z) (fun v n1 h1 z => ?_)
    obtain ⟨hn, hh, z⟩ := z
    have w2 := w.rf_ k
    rcases z with ⟨rfl, z⟩ | ⟨rfl, z⟩
    rotate_left
    · exact absurd hk z
    refine og_if_eq (pc := 73) (tgt := 78) dX8_divide_73 (by decide) (fun q => absurd q (by decide)) (fun _ => ?_)
    refine og_lconst (pc := 76) (v := 0) dX8_divide_76 (by decide) ?_
    subst hn
    exact og_lret (pc := 77) hr dX8_divide_77 (by omega) (by omega) (hp _ (by rw [hh]; exact w2))
  have rej : ¬ (q_in8 x ∧ q_in8 y ∧ q_in8 t ∧ q_in8 s) → og_G E yX8_divide.cls cX8_divide (d + 3) 0 0 6 X (og_Q E (fun v nn h1 => nn = n ∧ ((¬ (q_in8 x ∧ q_in8 y ∧ q_in8 t ∧ q_in8 s) ∧ v = some (Value.long 0) ∧ og_MK h0 h1 (m_wRf M 1)) ∨ (∃ a9 b9 c9 e9, a9 < 8 ∧ b9 < 8 ∧ c9 < 8 ∧ e9 < 8 ∧ x = nI a9 ∧ y = nI b9 ∧ t = nI c9 ∧ s = nI e9 ∧ ((c9 = e9 ∧ v = some (Value.long 0) ∧ og_MK h0 h1 (m_wRf M 2)) ∨ (c9 ≠ e9 ∧ ¬ (q_inP (m_R M a9) o ∧ q_inP (m_R M b9) o ∧ q_inner (m_R M b9) (m_R M b9) 8 ≠ 0) ∧ v = some (Value.long 0) ∧ og_MK h0 h1 (m_wRf M 3)) ∨ (c9 ≠ e9 ∧ (q_inP (m_R M a9) o ∧ q_inP (m_R M b9) o ∧ q_inner (m_R M b9) (m_R M b9) 8 ≠ 0) ∧ ¬ (q_hall 1 (m_quo (m_R M a9) (m_R M b9) o) ∧ q_hall 1 (m_rem (m_R M a9) (m_R M b9) o)) ∧ v = some (Value.long 0) ∧ og_MK h0 h1 (m_wRf M 4)) ∨ (c9 ≠ e9 ∧ (q_inP (m_R M a9) o ∧ q_inP (m_R M b9) o ∧ q_inner (m_R M b9) (m_R M b9) 8 ≠ 0) ∧ q_hall 1 (m_quo (m_R M a9) (m_R M b9) o) ∧ q_hall 1 (m_rem (m_R M a9) (m_R M b9) o) ∧ v = some (Value.long (q_inner (q_dv 1 (m_rem (m_R M a9) (m_R M b9) o)) (q_dv 1 (m_rem (m_R M a9) (m_R M b9) o)) 8)) ∧ og_MK h0 h1 (m_wS (m_save (m_wRf M 0)) (upd (q_pt (q_pt (m_s M) (q_dv 1 (m_quo (m_R M a9) (m_R M b9) o)) c9) (q_dv 1 (m_rem (m_R M a9) (m_R M b9) o)) e9) 66 ((q_pt (q_pt (m_s M) (q_dv 1 (m_quo (m_R M a9) (m_R M b9) o)) c9) (q_dv 1 (m_rem (m_R M a9) (m_R M b9) o)) e9) 66 + 1)))))))) no_x 0 0 X) 0 0 n h 33 [some (.ref 101), some (.int x), some (.int y), some (.int t), some (.int s), none] [] := by
    intro hb
    refine og_iconst (pc := 33) (v := 0) dX8_divide_33 (by decide) ?_
    refine og_istore_5 (pc := 34) dX8_divide_34 rfl ?_
    refine og_aload_n (pc := 36) dX8_divide_36 rfl ?_
    refine og_iload (pc := 37) dX8_divide_37 rfl ?_
    refine og_if_ne (pc := 39) (tgt := 46) dX8_divide_39 (by decide) (fun q => absurd rfl q) (fun _ => ?_)
    refine og_iconst (pc := 42) (v := 1) dX8_divide_42 (by decide) ?_
    refine og_goto (pc := 43) (tgt := 70) dX8_divide_43 (by decide) ?_
    exact thr 1 h _ (by decide) w (fun h1 w1 => ⟨rfl, Or.inl ⟨hb, rfl, w1⟩⟩)
  refine og_iload_n (pc := 0) dX8_divide_0 rfl ?_
  refine og_callS (pc := 1) (As := [.int x]) (rest := []) (c_X8_isEight E d n h x) Y_X8_isEight S_X8_isEight K_X8_121 dX8_divide_1 rfl rfl (Nat.le_of_ble_eq_true rfl) (by omega) (by omega) (by omega) (fun _ _ _ z => z) (fun v n1 h1 z => ?_)
  obtain ⟨hn, hh, z⟩ := z
  subst hn hh
  rcases z with ⟨rfl, zx⟩ | ⟨rfl, zx⟩
  rotate_left
  · exact og_if_eq (pc := 4) (tgt := 33) dX8_divide_4 (by decide) (fun _ => rej (fun q => zx (q_in_e8 q.1))) (fun q => absurd rfl q)
  refine og_if_eq (pc := 4) (tgt := 33) dX8_divide_4 (by decide) (fun q => absurd q (by decide)) (fun _ => ?_)
  refine og_iload_n (pc := 7) dX8_divide_7 rfl ?_
  refine og_callS (pc := 8) (As := [.int y]) (rest := []) (c_X8_isEight E d n1 h1 y) Y_X8_isEight S_X8_isEight K_X8_121 dX8_divide_8 rfl rfl (Nat.le_of_ble_eq_true rfl) (by omega) (by omega) (by omega) (fun _ _ _ z => z) (fun v n2 h2 z => ?_)
  obtain ⟨hn, hh, z⟩ := z
  subst hn hh
  rcases z with ⟨rfl, zy⟩ | ⟨rfl, zy⟩
  rotate_left
  · exact og_if_eq (pc := 11) (tgt := 33) dX8_divide_11 (by decide) (fun _ => rej (fun q => zy (q_in_e8 q.2.1))) (fun q => absurd rfl q)
  refine og_if_eq (pc := 11) (tgt := 33) dX8_divide_11 (by decide) (fun q => absurd q (by decide)) (fun _ => ?_)
  refine og_iload_n (pc := 14) dX8_divide_14 rfl ?_
  refine og_callS (pc := 15) (As := [.int t]) (rest := []) (c_X8_isEight E d n2 h2 t) Y_X8_isEight S_X8_isEight K_X8_121 dX8_divide_15 rfl rfl (Nat.le_of_ble_eq_true rfl) (by omega) (by omega) (by omega) (fun _ _ _ z => z) (fun v n3 h3 z => ?_)
  obtain ⟨hn, hh, z⟩ := z
  subst hn hh
  rcases z with ⟨rfl, zt⟩ | ⟨rfl, zt⟩
  rotate_left
  · exact og_if_eq (pc := 18) (tgt := 33) dX8_divide_18 (by decide) (fun _ => rej (fun q => zt (q_in_e8 q.2.2.1))) (fun q => absurd rfl q)
  refine og_if_eq (pc := 18) (tgt := 33) dX8_divide_18 (by decide) (fun q => absurd q (by decide)) (fun _ => ?_)
  refine og_iload (pc := 21) dX8_divide_21 rfl ?_
  refine og_callS (pc := 23) (As := [.int s]) (rest := []) (c_X8_isEight E d n3 h3 s) Y_X8_isEight S_X8_isEight K_X8_121 dX8_divide_23 rfl rfl (Nat.le_of_ble_eq_true rfl) (by omega) (by omega) (by omega) (fun _ _ _ z => z) (fun v n4 h4 z => ?_)
  obtain ⟨hn, hh, z⟩ := z
  subst hn hh
  rcases z with ⟨rfl, zs⟩ | ⟨rfl, zs⟩
  rotate_left
  · exact og_if_eq (pc := 26) (tgt := 33) dX8_divide_26 (by decide) (fun _ => rej (fun q => zs (q_in_e8 q.2.2.2))) (fun q => absurd rfl q)
  refine og_if_eq (pc := 26) (tgt := 33) dX8_divide_26 (by decide) (fun q => absurd q (by decide)) (fun _ => ?_)
  obtain ⟨a, ha8, rfl⟩ := q_e8_in zx
  obtain ⟨b, hb8, rfl⟩ := q_e8_in zy
  obtain ⟨c, hc8, rfl⟩ := q_e8_in zt
  obtain ⟨e, he8, rfl⟩ := q_e8_in zs
  clear rej
  refine og_iconst (pc := 29) (v := 1) dX8_divide_29 (by decide) ?_
  refine og_goto (pc := 30) (tgt := 34) dX8_divide_30 (by decide) ?_
  refine og_istore_5 (pc := 34) dX8_divide_34 rfl ?_
  refine og_aload_n (pc := 36) dX8_divide_36 rfl ?_
  refine og_iload (pc := 37) dX8_divide_37 rfl ?_
  refine og_if_ne (pc := 39) (tgt := 46) dX8_divide_39 (by decide) (fun _ => ?_) (fun q => absurd q (by decide))
  refine og_iload_n (pc := 46) dX8_divide_46 rfl ?_
  refine og_iload (pc := 47) dX8_divide_47 rfl ?_
  refine og_icmp_ne (pc := 49) (tgt := 56) dX8_divide_49 (by decide) (fun q => ?_) (fun q => ?_)
  rotate_left
  · have ce : c = e := (nI_eq (by omega) (by omega)).mp q
    refine og_iconst (pc := 52) (v := 2) dX8_divide_52 (by decide) ?_
    refine og_goto (pc := 53) (tgt := 70) dX8_divide_53 (by decide) ?_
    exact thr 2 h4 _ (by decide) w (fun h1 w1 => ⟨rfl, Or.inr ⟨a, b, c, e, ha8, hb8, hc8, he8, rfl, rfl, rfl, rfl, Or.inl ⟨ce, rfl, w1⟩⟩⟩)
  have ce : c ≠ e := fun z => q (by rw [z])
  refine og_aload_n (pc := 56) dX8_divide_56 rfl ?_
  refine og_iload_n (pc := 57) dX8_divide_57 rfl ?_
  refine og_iload_n (pc := 58) dX8_divide_58 rfl ?_
  refine og_callV (pc := 59) (As := [.int (nI a), .int (nI b)]) (rest := [.ref 101]) (c_X8_cannotDivide E d n4 a b h4 w ha8 hb8 ho ho8) Y_X8_cannotDivide I_X8_cannotDivide V_X8_cannotDivide wm (by omega) rfl rfl K_X8_177 dX8_divide_59 rfl rfl (Nat.le_of_ble_eq_true rfl) (by omega) (by omega) (by omega) (fun _ _ _ z => z) (fun v n5 h5 z => ?_)
  obtain ⟨hn, w3, e107, e108, z⟩ := z
  subst hn
  have wm := w3.m
  rcases z with ⟨rfl, z⟩ | ⟨rfl, z⟩
  rotate_left
  · refine og_if_eq (pc := 62) (tgt := 69) dX8_divide_62 (by decide) (fun q => absurd q (by decide)) (fun _ => ?_)
    refine og_iconst (pc := 65) (v := 3) dX8_divide_65 (by decide) ?_
    refine og_goto (pc := 66) (tgt := 70) dX8_divide_66 (by decide) ?_
    exact thr 3 h5 _ (by decide) w3 (fun h1 w1 => ⟨rfl, Or.inr ⟨a, b, c, e, ha8, hb8, hc8, he8, rfl, rfl, rfl, rfl, Or.inr (Or.inl ⟨ce, z, rfl, w1⟩)⟩⟩)
  clear thr
  refine og_if_eq (pc := 62) (tgt := 69) dX8_divide_62 (by decide) (fun _ => ?_) (fun q => absurd rfl q)
  refine og_iconst (pc := 69) (v := 0) dX8_divide_69 (by decide) ?_
  refine og_callV (pc := 70) (As := [.int 0]) (rest := []) (c_X8_throwsAt E d n5 h5 0 wm) Y_X8_throwsAt I_X8_throwsAt V_X8_throwsAt wm (by omega) rfl rfl K_X8_125 dX8_divide_70 rfl rfl (Nat.le_of_ble_eq_true rfl) (by omega) (by omega) (by omega) (fun _ _ _ z => z) (fun v n6 h6 z => ?_)
  obtain ⟨hn, hh, y⟩ := z
  subst hn
  have w2 := w3.rf_ 0
  rcases y with ⟨rfl, y⟩ | ⟨rfl, -⟩
  · exact absurd y (by decide)
  refine og_if_eq (pc := 73) (tgt := 78) dX8_divide_73 (by decide) (fun _ => ?_) (fun q => absurd rfl q)
  obtain ⟨q0, e114⟩ := w2.scr 114 (by unfold q_ms; omega)
  refine og_abs (P := fun g => og_MK h0 g (m_wRf M 0) ∧ g 107 = some (rowL (m_R M a)) ∧ g 108 = some (rowL (m_R M b)) ∧ g 114 = some (rowL q0)) (by rw [hh]; exact ⟨w2, (og_set_ne _ _ (by omega)).trans e107, (og_set_ne _ _ (by omega)).trans e108, e114⟩) fun g ⟨w4, e107, e108, e114⟩ => ?_
  have wm := w4.m
  refine og_aload_n (pc := 78) dX8_divide_78 rfl ?_
  refine og_callV (pc := 79) (As := []) (rest := []) (c_X8_divides E d n6 g w4 ho ho8 e107 e108 e114 z.2.2) Y_X8_divides I_X8_divides V_X8_divides wm (by omega) rfl rfl K_X8_180 dX8_divide_79 rfl rfl (Nat.le_of_ble_eq_true rfl) (by omega) (by omega) (by omega) (fun _ _ _ z => z) (fun v n7 h7 z => ?_)
  obtain ⟨hn, rfl, w5, e107, e108, e114, e115⟩ := z
  subst hn
  rw [q_quo2_ind _ _ q0 (fun _ => 0)] at e114
  rw [q_rem2_ind _ _ q0 (fun _ => 0)] at e115
  have e114 : h7 114 = some (rowL (m_quo (m_R M a) (m_R M b) o)) := e114
  have e115 : h7 115 = some (rowL (m_rem (m_R M a) (m_R M b) o)) := e115
  have wm := w5.m
  have rej4 : ∀ g, og_MK h0 g (m_wRf M 0) → ¬ (q_hall 1 (m_quo (m_R M a) (m_R M b) o) ∧ q_hall 1 (m_rem (m_R M a) (m_R M b) o)) → og_G E yX8_divide.cls cX8_divide (d + 3) 0 0 6 X (og_Q E (fun v nn h1 => nn = n7 ∧ ((¬ (q_in8 (nI a) ∧ q_in8 (nI b) ∧ q_in8 (nI c) ∧ q_in8 (nI e)) ∧ v = some (Value.long 0) ∧ og_MK h0 h1 (m_wRf M 1)) ∨ (∃ a9 b9 c9 e9, a9 < 8 ∧ b9 < 8 ∧ c9 < 8 ∧ e9 < 8 ∧ (nI a) = nI a9 ∧ (nI b) = nI b9 ∧ (nI c) = nI c9 ∧ (nI e) = nI e9 ∧ ((c9 = e9 ∧ v = some (Value.long 0) ∧ og_MK h0 h1 (m_wRf M 2)) ∨ (c9 ≠ e9 ∧ ¬ (q_inP (m_R M a9) o ∧ q_inP (m_R M b9) o ∧ q_inner (m_R M b9) (m_R M b9) 8 ≠ 0) ∧ v = some (Value.long 0) ∧ og_MK h0 h1 (m_wRf M 3)) ∨ (c9 ≠ e9 ∧ (q_inP (m_R M a9) o ∧ q_inP (m_R M b9) o ∧ q_inner (m_R M b9) (m_R M b9) 8 ≠ 0) ∧ ¬ (q_hall 1 (m_quo (m_R M a9) (m_R M b9) o) ∧ q_hall 1 (m_rem (m_R M a9) (m_R M b9) o)) ∧ v = some (Value.long 0) ∧ og_MK h0 h1 (m_wRf M 4)) ∨ (c9 ≠ e9 ∧ (q_inP (m_R M a9) o ∧ q_inP (m_R M b9) o ∧ q_inner (m_R M b9) (m_R M b9) 8 ≠ 0) ∧ q_hall 1 (m_quo (m_R M a9) (m_R M b9) o) ∧ q_hall 1 (m_rem (m_R M a9) (m_R M b9) o) ∧ v = some (Value.long (q_inner (q_dv 1 (m_rem (m_R M a9) (m_R M b9) o)) (q_dv 1 (m_rem (m_R M a9) (m_R M b9) o)) 8)) ∧ og_MK h0 h1 (m_wS (m_save (m_wRf M 0)) (upd (q_pt (q_pt (m_s M) (q_dv 1 (m_quo (m_R M a9) (m_R M b9) o)) c9) (q_dv 1 (m_rem (m_R M a9) (m_R M b9) o)) e9) 66 ((q_pt (q_pt (m_s M) (q_dv 1 (m_quo (m_R M a9) (m_R M b9) o)) c9) (q_dv 1 (m_rem (m_R M a9) (m_R M b9) o)) e9) 66 + 1)))))))) no_x 0 0 X) 0 0 n7 g 109 [some (.ref 101), some (.int (nI a)), some (.int (nI b)), some (.int (nI c)), some (.int (nI e)), some (.int 1)] [.ref 101] := by
    intro g w5 hb
    have wm := w5.m
    refine og_iconst (pc := 109) (v := 4) dX8_divide_109 (by decide) ?_
    refine og_callV (pc := 110) (As := [.int 4]) (rest := []) (c_X8_throwsAt E d n7 g 4 wm) Y_X8_throwsAt I_X8_throwsAt V_X8_throwsAt wm (by omega) rfl rfl K_X8_125 dX8_divide_110 rfl rfl (Nat.le_of_ble_eq_true rfl) (by omega) (by omega) (by omega) (fun _ _ _ z => z) (fun v n8 h8 z => ?_)
    obtain ⟨hn, hh, y⟩ := z
    subst hn
    have w2 := w5.rf_ 4
    rcases y with ⟨rfl, y⟩ | ⟨rfl, y⟩
    rotate_left
    · exact absurd (by decide) y
    refine og_if_eq (pc := 113) (tgt := 118) dX8_divide_113 (by decide) (fun q => absurd q (by decide)) (fun _ => ?_)
    refine og_lconst (pc := 116) (v := 0) dX8_divide_116 (by decide) ?_
    exact og_lret (pc := 117) hr dX8_divide_117 (by omega) (by omega) ⟨rfl, Or.inr ⟨a, b, c, e, ha8, hb8, hc8, he8, rfl, rfl, rfl, rfl, Or.inr (Or.inr (Or.inl ⟨ce, z, hb, rfl, by rw [hh]; exact w2⟩))⟩⟩
  refine og_aload_n (pc := 82) dX8_divide_82 rfl ?_
  refine og_aload_n (pc := 83) dX8_divide_83 rfl ?_
  refine og_get (pc := 84) F_X8_51 dX8_divide_84 (by repeat (first | exact og_set_eq _ _ _ | assumption | refine (og_set_ne _ _ (by first | assumption | omega)).trans ?_)) (by omega) rfl ?_
  refine og_iconst (pc := 87) (v := 1) dX8_divide_87 (by decide) ?_
  refine og_callS (pc := 88) (As := [.ref 114, .int 1]) (rest := [.ref 101]) (c_X8_halves E d n7 114 h7 (m_quo (m_R M a) (m_R M b) o) 1 (by decide) e114 (by omega)) Y_X8_halves S_X8_halves K_X8_142 dX8_divide_88 rfl rfl (Nat.le_of_ble_eq_true rfl) (by omega) (by omega) (by omega) (fun _ _ _ z => z) (fun v n8 h8 z => ?_)
  obtain ⟨hn, y⟩ := z
  subst hn
  rcases y with ⟨rfl, hok, hh⟩ | ⟨rfl, hbad, hh⟩
  rotate_left
  · subst hh
    exact og_if_eq (pc := 91) (tgt := 109) dX8_divide_91 (by decide) (fun _ => rej4 _ w5 (fun q => hbad q.1)) (fun q => absurd rfl q)
  refine og_if_eq (pc := 91) (tgt := 109) dX8_divide_91 (by decide) (fun q => absurd q (by decide)) (fun _ => ?_)
  refine og_abs (P := fun g => og_MK h0 g (m_wRf M 0) ∧ g 114 = some (rowL (q_dv 1 (m_quo (m_R M a) (m_R M b) o))) ∧ g 115 = some (rowL (m_rem (m_R M a) (m_R M b) o))) (by rw [hh]; exact ⟨w5.row (q_dv 1 (m_quo (m_R M a) (m_R M b) o)) (by unfold q_ms; omega), og_set_eq _ _ _, (og_set_ne _ _ (by omega)).trans e115⟩) fun g ⟨w6, e114, e115⟩ => ?_
  have wm := w6.m
  refine og_aload_n (pc := 94) dX8_divide_94 rfl ?_
  refine og_get (pc := 95) F_X8_54 dX8_divide_95 (by repeat (first | exact og_set_eq _ _ _ | assumption | refine (og_set_ne _ _ (by first | assumption | omega)).trans ?_)) (by omega) rfl ?_
  refine og_iconst (pc := 98) (v := 1) dX8_divide_98 (by decide) ?_
  refine og_callS (pc := 99) (As := [.ref 115, .int 1]) (rest := [.ref 101]) (c_X8_halves E d n8 115 g (m_rem (m_R M a) (m_R M b) o) 1 (by decide) e115 (by omega)) Y_X8_halves S_X8_halves K_X8_142 dX8_divide_99 rfl rfl (Nat.le_of_ble_eq_true rfl) (by omega) (by omega) (by omega) (fun _ _ _ z => z) (fun v n9 h9 z => ?_)
  obtain ⟨hn, y⟩ := z
  subst hn
  rcases y with ⟨rfl, hok2, hh⟩ | ⟨rfl, hbad, hh⟩
  rotate_left
  · subst hh
    exact og_if_eq (pc := 102) (tgt := 109) dX8_divide_102 (by decide) (fun _ => rej4 _ w6 (fun q => hbad q.2)) (fun q => absurd rfl q)
  clear rej4
  refine og_if_eq (pc := 102) (tgt := 109) dX8_divide_102 (by decide) (fun q => absurd q (by decide)) (fun _ => ?_)
  refine og_abs (P := fun g => og_MK h0 g (m_wRf M 0) ∧ g 114 = some (rowL (q_dv 1 (m_quo (m_R M a) (m_R M b) o))) ∧ g 115 = some (rowL (q_dv 1 (m_rem (m_R M a) (m_R M b) o)))) (by rw [hh]; exact ⟨w6.row (q_dv 1 (m_rem (m_R M a) (m_R M b) o)) (by unfold q_ms; omega), (og_set_ne _ _ (by omega)).trans e114, og_set_eq _ _ _⟩) fun g ⟨w6, e114, e115⟩ => ?_
  have wm := w6.m
  refine og_iconst (pc := 105) (v := 0) dX8_divide_105 (by decide) ?_
  refine og_goto (pc := 106) (tgt := 110) dX8_divide_106 (by decide) ?_
  refine og_callV (pc := 110) (As := [.int 0]) (rest := []) (c_X8_throwsAt E d n9 g 0 wm) Y_X8_throwsAt I_X8_throwsAt V_X8_throwsAt wm (by omega) rfl rfl K_X8_125 dX8_divide_110 rfl rfl (Nat.le_of_ble_eq_true rfl) (by omega) (by omega) (by omega) (fun _ _ _ z => z) (fun v n10 h10 z => ?_)
  obtain ⟨hn, hh, y⟩ := z
  subst hn
  have w2 := w6.rf_ 0
  rcases y with ⟨rfl, y⟩ | ⟨rfl, -⟩
  · exact absurd y (by decide)
  refine og_if_eq (pc := 113) (tgt := 118) dX8_divide_113 (by decide) (fun _ => ?_) (fun q => absurd rfl q)
  refine og_abs (P := fun g => og_MK h0 g (m_wRf M 0) ∧ g 114 = some (rowL (q_dv 1 (m_quo (m_R M a) (m_R M b) o))) ∧ g 115 = some (rowL (q_dv 1 (m_rem (m_R M a) (m_R M b) o)))) (by rw [hh]; exact ⟨w2, (og_set_ne _ _ (by omega)).trans e114, (og_set_ne _ _ (by omega)).trans e115⟩) fun g ⟨w6, e114, e115⟩ => ?_
  have wm := w6.m
  refine og_aload_n (pc := 118) dX8_divide_118 rfl ?_
  refine og_callV (pc := 119) (As := []) (rest := []) (c_X8_saves E d n10 (m_ps M) g (m_p M) (m_s M) wm w6.s w6.p w6.ok.1) Y_X8_saves I_X8_saves V_X8_saves wm (by omega) rfl rfl K_X8_128 dX8_divide_119 rfl rfl (Nat.le_of_ble_eq_true rfl) (by omega) (by omega) (by omega) (fun _ _ _ z => z) (fun v n11 h11 z => ?_)
  obtain ⟨rfl, hn, y⟩ := z
  subst hn
  obtain ⟨w7, hfr⟩ := m_saved w6 y
  have ws : h11 102 = some (rowI 67 (m_s M)) := (hfr 102 (by omega) (by omega)).trans w6.s
  refine og_abs (P := fun g => og_MK h0 g (m_save (m_wRf M 0)) ∧ g 102 = some (rowI 67 (m_s M)) ∧ g 114 = some (rowL (q_dv 1 (m_quo (m_R M a) (m_R M b) o))) ∧ g 115 = some (rowL (q_dv 1 (m_rem (m_R M a) (m_R M b) o)))) ⟨w7, ws, (hfr 114 (by omega) (by omega)).trans e114, (hfr 115 (by omega) (by omega)).trans e115⟩ fun g ⟨w7, ws, e114, e115⟩ => ?_
  have wm := w7.m
  refine og_aload_n (pc := 122) dX8_divide_122 rfl ?_
  refine og_aload_n (pc := 123) dX8_divide_123 rfl ?_
  refine og_get (pc := 124) F_X8_51 dX8_divide_124 (by repeat (first | exact og_set_eq _ _ _ | assumption | refine (og_set_ne _ _ (by first | assumption | omega)).trans ?_)) (by omega) rfl ?_
  refine og_iload_n (pc := 127) dX8_divide_127 rfl ?_
  refine og_callV (pc := 128) (As := [.ref 114, .int (nI c)]) (rest := []) (c_X8_puts E d n11 114 c g (m_s M) _ wm ws e114 (by omega) hc8) Y_X8_puts I_X8_puts V_X8_puts wm (by omega) rfl rfl K_X8_139 dX8_divide_128 rfl rfl (Nat.le_of_ble_eq_true rfl) (by omega) (by omega) (by omega) (fun _ _ _ z => z) (fun v n12 h12 z => ?_)
  obtain ⟨rfl, hn, hh⟩ := z
  subst hn
  have w8 := w7.sS (q_pt (m_s M) (q_dv 1 (m_quo (m_R M a) (m_R M b) o)) c)
  refine og_abs (P := fun g => og_MK h0 g (m_wS (m_save (m_wRf M 0)) (q_pt (m_s M) (q_dv 1 (m_quo (m_R M a) (m_R M b) o)) c)) ∧ g 115 = some (rowL (q_dv 1 (m_rem (m_R M a) (m_R M b) o)))) (by rw [hh]; exact ⟨w8, (og_set_ne _ _ (by omega)).trans e115⟩) fun g ⟨w8, e115⟩ => ?_
  have wm := w8.m
  refine og_aload_n (pc := 131) dX8_divide_131 rfl ?_
  refine og_aload_n (pc := 132) dX8_divide_132 rfl ?_
  refine og_get (pc := 133) F_X8_54 dX8_divide_133 (by repeat (first | exact og_set_eq _ _ _ | assumption | refine (og_set_ne _ _ (by first | assumption | omega)).trans ?_)) (by omega) rfl ?_
  refine og_iload (pc := 136) dX8_divide_136 rfl ?_
  refine og_callV (pc := 138) (As := [.ref 115, .int (nI e)]) (rest := []) (c_X8_puts E d n12 115 e g (q_pt (m_s M) (q_dv 1 (m_quo (m_R M a) (m_R M b) o)) c) _ wm w8.s e115 (by omega) he8) Y_X8_puts I_X8_puts V_X8_puts wm (by omega) rfl rfl K_X8_139 dX8_divide_138 rfl rfl (Nat.le_of_ble_eq_true rfl) (by omega) (by omega) (by omega) (fun _ _ _ z => z) (fun v n13 h13 z => ?_)
  obtain ⟨rfl, hn, hh⟩ := z
  subst hn
  have w9 := w8.sS (q_pt (q_pt (m_s M) (q_dv 1 (m_quo (m_R M a) (m_R M b) o)) c) (q_dv 1 (m_rem (m_R M a) (m_R M b) o)) e)
  refine og_abs (P := fun g => og_MK h0 g (m_wS (m_save (m_wRf M 0)) (q_pt (q_pt (m_s M) (q_dv 1 (m_quo (m_R M a) (m_R M b) o)) c) (q_dv 1 (m_rem (m_R M a) (m_R M b) o)) e)) ∧ g 115 = some (rowL (q_dv 1 (m_rem (m_R M a) (m_R M b) o)))) (by rw [hh]; exact ⟨w9, (og_set_ne _ _ (by omega)).trans e115⟩) fun g ⟨w9, e115⟩ => ?_
  have wm := w9.m
  have ws : g 102 = some (rowI 67 (q_pt (q_pt (m_s M) (q_dv 1 (m_quo (m_R M a) (m_R M b) o)) c) (q_dv 1 (m_rem (m_R M a) (m_R M b) o)) e)) := w9.s
  refine og_aload_n (pc := 141) dX8_divide_141 rfl ?_
  refine og_get (pc := 142) F_X8_7 dX8_divide_142 (by repeat (first | exact og_set_eq _ _ _ | assumption | refine (og_set_ne _ _ (by first | assumption | omega)).trans ?_)) (by omega) rfl ?_
  refine og_bipush (pc := 145) (v := 66) dX8_divide_145 (by decide) ?_
  refine og_dup2 (pc := 147) dX8_divide_147 rfl rfl ?_
  refine og_ialdN (pc := 148) (j := 66) rfl dX8_divide_148 ws (by omega) (by omega) (by first | decide | assumption | omega) ?_
  refine og_iconst (pc := 149) (v := 1) dX8_divide_149 (by decide) ?_
  refine og_iadd (pc := 150) dX8_divide_150 ?_
  refine og_iastN (pc := 151) (j := 66) rfl dX8_divide_151 ws (by omega) (by omega) (by first | decide | assumption | omega) ?_
  refine og_aload_n (pc := 152) dX8_divide_152 rfl ?_
  refine og_get (pc := 153) F_X8_54 dX8_divide_153 ((og_set_ne _ _ (by omega)).trans wm) (by omega) rfl ?_
  refine og_callS (pc := 156) (As := [.ref 115]) (rest := []) (c_X8_square E d n13 115 _ _ ((og_set_ne _ _ (by omega)).trans e115) (by omega)) Y_X8_square S_X8_square K_X8_97 dX8_divide_156 rfl rfl (Nat.le_of_ble_eq_true rfl) (by omega) (by omega) (by omega) (fun _ _ _ z => z) (fun v n14 h14 z => ?_)
  obtain ⟨rfl, hn, hh⟩ := z
  subst hn hh
  exact og_lret (pc := 159) hr dX8_divide_159 (by omega) (by omega) ⟨rfl, Or.inr ⟨a, b, c, e, ha8, hb8, hc8, he8, rfl, rfl, rfl, rfl, Or.inr (Or.inr (Or.inr ⟨ce, z, hok, hok2, rfl, w9.sS _⟩))⟩⟩
