/-! ===== the model: steps, lastNorm ===== -/
/-- Euclid's rows: the dividend, the divisor, and then the remainders -/
noncomputable def m_eu (f g : Nat → Int64) (o : Nat) : Nat → (Nat → Int64)
  | 0 => f
  | 1 => g
  | k + 2 => m_rem (m_eu f g o k) (m_eu f g o (k + 1)) o
def m_euq (v : Nat → (Nat → Int64)) (vv : Option Value) (ls : Int64) : Prop := (∃ k, k < 41 ∧ (∀ j, j < k → q_nrm (v j) ≠ 0) ∧ q_nrm (v k) = 0 ∧ vv = some (.int (nI k)) ∧ ∀ k2, k = k2 + 1 → ls = q_nrm (v k2)) ∨ ((∀ j, j < 41 → q_nrm (v j) ≠ 0) ∧ vv = some (.int (-1)))
set_option maxRecDepth 4000 in
theorem c_X8_steps (E : og_E) (d n : Nat) (h : og_H) (x y : Int32) {h0 : og_H} {M : q_M} {o : Nat} (w : og_MK h0 h M) (ho : m_s M 64 = nI o) (ho8 : o < 8) :
    og_M E yX8_steps (.code yX8_steps cX8_steps 3 (some .int)) (d + 4) [.ref 101, .int x, .int y] n h 0 0 (fun v n1 h1 => n1 = n ∧ ((¬ (q_in8 x ∧ q_in8 y) ∧ v = some (.int 0) ∧ og_MK h0 h1 (m_wRf M 1)) ∨ (∃ a b, a < 8 ∧ b < 8 ∧ x = nI a ∧ y = nI b ∧ ((¬ (q_inP (m_R M a) o ∧ q_inP (m_R M b) o ∧ q_inner (m_R M b) (m_R M b) 8 ≠ 0) ∧ v = some (.int 0) ∧ og_MK h0 h1 (m_wRf M 2)) ∨ ((q_inP (m_R M a) o ∧ q_inP (m_R M b) o ∧ q_inner (m_R M b) (m_R M b) 8 ≠ 0) ∧ ∃ ls, og_MK h0 h1 (m_wLs (m_wRf M 0) ls) ∧ m_euq (fun k => m_eu (m_R M a) (m_R M b) o (k + 1)) v ls))))) no_x := by
  refine og_start (lv := [some (.ref 101), some (.int x), some (.int y)]) (by decide) rfl rfl (Nat.le_of_ble_eq_true rfl) fun X hr hnm htb => ?_
  have wm := w.m
  have rej : ¬ (q_in8 x ∧ q_in8 y) → og_G E yX8_steps.cls cX8_steps (d + 4) 0 0 3 X (og_Q E (fun v n1 h1 => n1 = n ∧ ((¬ (q_in8 x ∧ q_in8 y) ∧ v = some (.int 0) ∧ og_MK h0 h1 (m_wRf M 1)) ∨ (∃ a b, a < 8 ∧ b < 8 ∧ x = nI a ∧ y = nI b ∧ ((¬ (q_inP (m_R M a) o ∧ q_inP (m_R M b) o ∧ q_inner (m_R M b) (m_R M b) 8 ≠ 0) ∧ v = some (.int 0) ∧ og_MK h0 h1 (m_wRf M 2)) ∨ ((q_inP (m_R M a) o ∧ q_inP (m_R M b) o ∧ q_inner (m_R M b) (m_R M b) 8 ≠ 0) ∧ ∃ ls, og_MK h0 h1 (m_wLs (m_wRf M 0) ls) ∧ m_euq (fun k => m_eu (m_R M a) (m_R M b) o (k + 1)) v ls))))) no_x 0 0 X) 0 0 n h 15 [some (.ref 101), some (.int x), some (.int y)] [.ref 101] := by
    intro hb
    refine og_iconst (pc := 15) (v := 1) dX8_steps_15 (by decide) ?_
    refine og_goto (pc := 16) (tgt := 33) dX8_steps_16 (by decide) ?_
    refine og_callV (pc := 33) (As := [.int 1]) (rest := []) (c_X8_throwsAt E d n h 1 wm) Y_X8_throwsAt I_X8_throwsAt V_X8_throwsAt wm (by omega) rfl rfl K_X8_125 dX8_steps_33 rfl rfl (Nat.le_of_ble_eq_true rfl) (by omega) (by omega) (by omega) (fun _ _ _ z => z) (fun v n1 h1 z => ?_)
    obtain ⟨hn, hh, z⟩ := z
    subst hn
    have w2 := w.rf_ 1
    rcases z with ⟨rfl, z⟩ | ⟨rfl, z⟩
    rotate_left
    · exact absurd (by decide) z
    refine og_if_eq (pc := 36) (tgt := 43) dX8_steps_36 (by decide) (fun q => absurd q (by decide)) (fun _ => ?_)
    refine og_iconst (pc := 39) (v := 0) dX8_steps_39 (by decide) ?_
    refine og_goto (pc := 40) (tgt := 49) dX8_steps_40 (by decide) ?_
    exact og_iret (pc := 49) hr dX8_steps_49 (by omega) (by omega) ⟨rfl, Or.inl ⟨hb, rfl, by rw [hh]; exact w2⟩⟩
  refine og_aload_n (pc := 0) dX8_steps_0 rfl ?_
  refine og_iload_n (pc := 1) dX8_steps_1 rfl ?_
  refine og_callS (pc := 2) (As := [.int x]) (rest := [.ref 101]) (c_X8_isEight E d n h x) Y_X8_isEight S_X8_isEight K_X8_121 dX8_steps_2 rfl rfl (Nat.le_of_ble_eq_true rfl) (by omega) (by omega) (by omega) (fun _ _ _ z => z) (fun v n1 h1 z => ?_)
  obtain ⟨hn, hh, z⟩ := z
  subst hn hh
  rcases z with ⟨rfl, zx⟩ | ⟨rfl, zx⟩
  rotate_left
  · exact og_if_eq (pc := 5) (tgt := 15) dX8_steps_5 (by decide) (fun _ => rej (fun q => zx (q_in_e8 q.1))) (fun q => absurd rfl q)
  refine og_if_eq (pc := 5) (tgt := 15) dX8_steps_5 (by decide) (fun q => absurd q (by decide)) (fun _ => ?_)
  refine og_iload_n (pc := 8) dX8_steps_8 rfl ?_
  refine og_callS (pc := 9) (As := [.int y]) (rest := [.ref 101]) (c_X8_isEight E d n1 h1 y) Y_X8_isEight S_X8_isEight K_X8_121 dX8_steps_9 rfl rfl (Nat.le_of_ble_eq_true rfl) (by omega) (by omega) (by omega) (fun _ _ _ z => z) (fun v n2 h2 z => ?_)
  obtain ⟨hn, hh, z⟩ := z
  subst hn hh
  rcases z with ⟨rfl, zy⟩ | ⟨rfl, zy⟩
  rotate_left
  · exact og_if_ne (pc := 12) (tgt := 19) dX8_steps_12 (by decide) (fun q => absurd rfl q) (fun _ => rej (fun q => zy (q_in_e8 q.2)))
  refine og_if_ne (pc := 12) (tgt := 19) dX8_steps_12 (by decide) (fun _ => ?_) (fun q => absurd q (by decide))
  obtain ⟨a, ha8, rfl⟩ := q_e8_in zx
  obtain ⟨b, hb8, rfl⟩ := q_e8_in zy
  clear rej
  refine og_aload_n (pc := 19) dX8_steps_19 rfl ?_
  refine og_iload_n (pc := 20) dX8_steps_20 rfl ?_
  refine og_iload_n (pc := 21) dX8_steps_21 rfl ?_
  refine og_callV (pc := 22) (As := [.int (nI a), .int (nI b)]) (rest := [.ref 101]) (c_X8_cannotDivide E d n2 a b h2 w ha8 hb8 ho ho8) Y_X8_cannotDivide I_X8_cannotDivide V_X8_cannotDivide wm (by omega) rfl rfl K_X8_177 dX8_steps_22 rfl rfl (Nat.le_of_ble_eq_true rfl) (by omega) (by omega) (by omega) (fun _ _ _ z => z) (fun v n3 h3 z => ?_)
  obtain ⟨hn, w3, e107, e108, z⟩ := z
  subst hn
  have wm := w3.m
  rcases z with ⟨rfl, z⟩ | ⟨rfl, z⟩
  rotate_left
  · refine og_if_eq (pc := 25) (tgt := 32) dX8_steps_25 (by decide) (fun q => absurd q (by decide)) (fun _ => ?_)
    refine og_iconst (pc := 28) (v := 2) dX8_steps_28 (by decide) ?_
    refine og_goto (pc := 29) (tgt := 33) dX8_steps_29 (by decide) ?_
    refine og_callV (pc := 33) (As := [.int 2]) (rest := []) (c_X8_throwsAt E d n3 h3 2 wm) Y_X8_throwsAt I_X8_throwsAt V_X8_throwsAt wm (by omega) rfl rfl K_X8_125 dX8_steps_33 rfl rfl (Nat.le_of_ble_eq_true rfl) (by omega) (by omega) (by omega) (fun _ _ _ z => z) (fun v n4 h4 z => ?_)
    obtain ⟨hn, hh, y⟩ := z
    subst hn
    have w2 := w3.rf_ 2
    rcases y with ⟨rfl, y⟩ | ⟨rfl, y⟩
    rotate_left
    · exact absurd (by decide) y
    refine og_if_eq (pc := 36) (tgt := 43) dX8_steps_36 (by decide) (fun q => absurd q (by decide)) (fun _ => ?_)
    refine og_iconst (pc := 39) (v := 0) dX8_steps_39 (by decide) ?_
    refine og_goto (pc := 40) (tgt := 49) dX8_steps_40 (by decide) ?_
    exact og_iret (pc := 49) hr dX8_steps_49 (by omega) (by omega) ⟨rfl, Or.inr ⟨a, b, ha8, hb8, rfl, rfl, Or.inl ⟨z, rfl, by rw [hh]; exact w2⟩⟩⟩
  refine og_if_eq (pc := 25) (tgt := 32) dX8_steps_25 (by decide) (fun _ => ?_) (fun q => absurd rfl q)
  refine og_iconst (pc := 32) (v := 0) dX8_steps_32 (by decide) ?_
  refine og_callV (pc := 33) (As := [.int 0]) (rest := []) (c_X8_throwsAt E d n3 h3 0 wm) Y_X8_throwsAt I_X8_throwsAt V_X8_throwsAt wm (by omega) rfl rfl K_X8_125 dX8_steps_33 rfl rfl (Nat.le_of_ble_eq_true rfl) (by omega) (by omega) (by omega) (fun _ _ _ z => z) (fun v n4 h4 z => ?_)
  obtain ⟨hn, hh, y⟩ := z
  subst hn
  have w2 := w3.rf_ 0
  rcases y with ⟨rfl, y⟩ | ⟨rfl, -⟩
  · exact absurd y (by decide)
  refine og_if_eq (pc := 36) (tgt := 43) dX8_steps_36 (by decide) (fun _ => ?_) (fun q => absurd rfl q)
  refine og_abs (P := fun g => og_MK h0 g (m_wRf M 0)) (by rw [hh]; exact w2) fun g w4 => ?_
  have wm := w4.m
  refine og_aload_n (pc := 43) dX8_steps_43 rfl ?_
  refine og_iload_n (pc := 44) dX8_steps_44 rfl ?_
  refine og_iload_n (pc := 45) dX8_steps_45 rfl ?_
  refine og_callV (pc := 46) (As := [.int (nI a), .int (nI b)]) (rest := []) (c_X8_euclid E d n4 a b g w4 ha8 hb8 ho ho8 (fun k => m_eu (m_R M a) (m_R M b) o k) (fun k => m_eu (m_R M a) (m_R M b) o (k + 1)) rfl rfl (fun _ => rfl) (fun _ => rfl)) Y_X8_euclid I_X8_euclid V_X8_euclid wm (by omega) rfl rfl K_X8_187 dX8_steps_46 rfl rfl (Nat.le_of_ble_eq_true rfl) (by omega) (by omega) (by omega) (fun _ _ _ z => z) (fun v n5 h5 z => ?_)
  obtain ⟨hn, ls, w5, z5⟩ := z
  subst hn
  have z6 : m_euq (fun k => m_eu (m_R M a) (m_R M b) o (k + 1)) v ls := z5
  rcases z5 with ⟨k, z1, z2, z3, rfl, z4⟩ | ⟨z1, rfl⟩
  · exact og_iret (pc := 49) hr dX8_steps_49 (by omega) (by omega) ⟨rfl, Or.inr ⟨a, b, ha8, hb8, rfl, rfl, Or.inr ⟨z, ls, w5, z6⟩⟩⟩
  · exact og_iret (pc := 49) hr dX8_steps_49 (by omega) (by omega) ⟨rfl, Or.inr ⟨a, b, ha8, hb8, rfl, rfl, Or.inr ⟨z, ls, w5, z6⟩⟩⟩
set_option maxRecDepth 4000 in
theorem c_X8_lastNorm (E : og_E) (d n : Nat) (h : og_H) (x y : Int32) {h0 : og_H} {M : q_M} {o : Nat} (w : og_MK h0 h M) (ho : m_s M 64 = nI o) (ho8 : o < 8) :
    og_M E yX8_lastNorm (.code yX8_lastNorm cX8_lastNorm 3 (some .long)) (d + 4) [.ref 101, .int x, .int y] n h 0 0 (fun v n1 h1 => n1 = n ∧ ((¬ (q_in8 x ∧ q_in8 y) ∧ v = some (.long 0) ∧ og_MK h0 h1 (m_wRf M 1)) ∨ (∃ a b, a < 8 ∧ b < 8 ∧ x = nI a ∧ y = nI b ∧ ((¬ (q_inP (m_R M a) o ∧ q_inP (m_R M b) o ∧ q_inner (m_R M b) (m_R M b) 8 ≠ 0) ∧ v = some (.long 0) ∧ og_MK h0 h1 (m_wRf M 2)) ∨ ((q_inP (m_R M a) o ∧ q_inP (m_R M b) o ∧ q_inner (m_R M b) (m_R M b) 8 ≠ 0) ∧ ∃ vv ls, og_MK h0 h1 (m_wLs (m_wRf M 0) ls) ∧ m_euq (fun k => m_eu (m_R M a) (m_R M b) o (k + 1)) vv ls ∧ ((vv = some (.int (-1)) ∧ v = some (.long (-1))) ∨ (vv ≠ some (.int (-1)) ∧ v = some (.long ls)))))))) no_x := by
  refine og_start (lv := [some (.ref 101), some (.int x), some (.int y)]) (by decide) rfl rfl (Nat.le_of_ble_eq_true rfl) fun X hr hnm htb => ?_
  have wm := w.m
  have rej : ¬ (q_in8 x ∧ q_in8 y) → og_G E yX8_lastNorm.cls cX8_lastNorm (d + 4) 0 0 3 X (og_Q E (fun v n1 h1 => n1 = n ∧ ((¬ (q_in8 x ∧ q_in8 y) ∧ v = some (.long 0) ∧ og_MK h0 h1 (m_wRf M 1)) ∨ (∃ a b, a < 8 ∧ b < 8 ∧ x = nI a ∧ y = nI b ∧ ((¬ (q_inP (m_R M a) o ∧ q_inP (m_R M b) o ∧ q_inner (m_R M b) (m_R M b) 8 ≠ 0) ∧ v = some (.long 0) ∧ og_MK h0 h1 (m_wRf M 2)) ∨ ((q_inP (m_R M a) o ∧ q_inP (m_R M b) o ∧ q_inner (m_R M b) (m_R M b) 8 ≠ 0) ∧ ∃ vv ls, og_MK h0 h1 (m_wLs (m_wRf M 0) ls) ∧ m_euq (fun k => m_eu (m_R M a) (m_R M b) o (k + 1)) vv ls ∧ ((vv = some (.int (-1)) ∧ v = some (.long (-1))) ∨ (vv ≠ some (.int (-1)) ∧ v = some (.long ls)))))))) no_x 0 0 X) 0 0 n h 15 [some (.ref 101), some (.int x), some (.int y)] [.ref 101] := by
    intro hb
    refine og_iconst (pc := 15) (v := 1) dX8_lastNorm_15 (by decide) ?_
    refine og_goto (pc := 16) (tgt := 33) dX8_lastNorm_16 (by decide) ?_
    refine og_callV (pc := 33) (As := [.int 1]) (rest := []) (c_X8_throwsAt E d n h 1 wm) Y_X8_throwsAt I_X8_throwsAt V_X8_throwsAt wm (by omega) rfl rfl K_X8_125 dX8_lastNorm_33 rfl rfl (Nat.le_of_ble_eq_true rfl) (by omega) (by omega) (by omega) (fun _ _ _ z => z) (fun v n1 h1 z => ?_)
    obtain ⟨hn, hh, z⟩ := z
    subst hn
    have w2 := w.rf_ 1
    rcases z with ⟨rfl, z⟩ | ⟨rfl, z⟩
    rotate_left
    · exact absurd (by decide) z
    refine og_if_eq (pc := 36) (tgt := 41) dX8_lastNorm_36 (by decide) (fun q => absurd q (by decide)) (fun _ => ?_)
    refine og_lconst (pc := 39) (v := 0) dX8_lastNorm_39 (by decide) ?_
    exact og_lret (pc := 40) hr dX8_lastNorm_40 (by omega) (by omega) ⟨rfl, Or.inl ⟨hb, rfl, by rw [hh]; exact w2⟩⟩
  refine og_aload_n (pc := 0) dX8_lastNorm_0 rfl ?_
  refine og_iload_n (pc := 1) dX8_lastNorm_1 rfl ?_
  refine og_callS (pc := 2) (As := [.int x]) (rest := [.ref 101]) (c_X8_isEight E d n h x) Y_X8_isEight S_X8_isEight K_X8_121 dX8_lastNorm_2 rfl rfl (Nat.le_of_ble_eq_true rfl) (by omega) (by omega) (by omega) (fun _ _ _ z => z) (fun v n1 h1 z => ?_)
  obtain ⟨hn, hh, z⟩ := z
  subst hn hh
  rcases z with ⟨rfl, zx⟩ | ⟨rfl, zx⟩
  rotate_left
  · exact og_if_eq (pc := 5) (tgt := 15) dX8_lastNorm_5 (by decide) (fun _ => rej (fun q => zx (q_in_e8 q.1))) (fun q => absurd rfl q)
  refine og_if_eq (pc := 5) (tgt := 15) dX8_lastNorm_5 (by decide) (fun q => absurd q (by decide)) (fun _ => ?_)
  refine og_iload_n (pc := 8) dX8_lastNorm_8 rfl ?_
  refine og_callS (pc := 9) (As := [.int y]) (rest := [.ref 101]) (c_X8_isEight E d n1 h1 y) Y_X8_isEight S_X8_isEight K_X8_121 dX8_lastNorm_9 rfl rfl (Nat.le_of_ble_eq_true rfl) (by omega) (by omega) (by omega) (fun _ _ _ z => z) (fun v n2 h2 z => ?_)
  obtain ⟨hn, hh, z⟩ := z
  subst hn hh
  rcases z with ⟨rfl, zy⟩ | ⟨rfl, zy⟩
  rotate_left
  · exact og_if_ne (pc := 12) (tgt := 19) dX8_lastNorm_12 (by decide) (fun q => absurd rfl q) (fun _ => rej (fun q => zy (q_in_e8 q.2)))
  refine og_if_ne (pc := 12) (tgt := 19) dX8_lastNorm_12 (by decide) (fun _ => ?_) (fun q => absurd q (by decide))
  obtain ⟨a, ha8, rfl⟩ := q_e8_in zx
  obtain ⟨b, hb8, rfl⟩ := q_e8_in zy
  clear rej
  refine og_aload_n (pc := 19) dX8_lastNorm_19 rfl ?_
  refine og_iload_n (pc := 20) dX8_lastNorm_20 rfl ?_
  refine og_iload_n (pc := 21) dX8_lastNorm_21 rfl ?_
  refine og_callV (pc := 22) (As := [.int (nI a), .int (nI b)]) (rest := [.ref 101]) (c_X8_cannotDivide E d n2 a b h2 w ha8 hb8 ho ho8) Y_X8_cannotDivide I_X8_cannotDivide V_X8_cannotDivide wm (by omega) rfl rfl K_X8_177 dX8_lastNorm_22 rfl rfl (Nat.le_of_ble_eq_true rfl) (by omega) (by omega) (by omega) (fun _ _ _ z => z) (fun v n3 h3 z => ?_)
  obtain ⟨hn, w3, e107, e108, z⟩ := z
  subst hn
  have wm := w3.m
  rcases z with ⟨rfl, z⟩ | ⟨rfl, z⟩
  rotate_left
  · refine og_if_eq (pc := 25) (tgt := 32) dX8_lastNorm_25 (by decide) (fun q => absurd q (by decide)) (fun _ => ?_)
    refine og_iconst (pc := 28) (v := 2) dX8_lastNorm_28 (by decide) ?_
    refine og_goto (pc := 29) (tgt := 33) dX8_lastNorm_29 (by decide) ?_
    refine og_callV (pc := 33) (As := [.int 2]) (rest := []) (c_X8_throwsAt E d n3 h3 2 wm) Y_X8_throwsAt I_X8_throwsAt V_X8_throwsAt wm (by omega) rfl rfl K_X8_125 dX8_lastNorm_33 rfl rfl (Nat.le_of_ble_eq_true rfl) (by omega) (by omega) (by omega) (fun _ _ _ z => z) (fun v n4 h4 z => ?_)
    obtain ⟨hn, hh, y⟩ := z
    subst hn
    have w2 := w3.rf_ 2
    rcases y with ⟨rfl, y⟩ | ⟨rfl, y⟩
    rotate_left
    · exact absurd (by decide) y
    refine og_if_eq (pc := 36) (tgt := 41) dX8_lastNorm_36 (by decide) (fun q => absurd q (by decide)) (fun _ => ?_)
    refine og_lconst (pc := 39) (v := 0) dX8_lastNorm_39 (by decide) ?_
    exact og_lret (pc := 40) hr dX8_lastNorm_40 (by omega) (by omega) ⟨rfl, Or.inr ⟨a, b, ha8, hb8, rfl, rfl, Or.inl ⟨z, rfl, by rw [hh]; exact w2⟩⟩⟩
  refine og_if_eq (pc := 25) (tgt := 32) dX8_lastNorm_25 (by decide) (fun _ => ?_) (fun q => absurd rfl q)
  refine og_iconst (pc := 32) (v := 0) dX8_lastNorm_32 (by decide) ?_
  refine og_callV (pc := 33) (As := [.int 0]) (rest := []) (c_X8_throwsAt E d n3 h3 0 wm) Y_X8_throwsAt I_X8_throwsAt V_X8_throwsAt wm (by omega) rfl rfl K_X8_125 dX8_lastNorm_33 rfl rfl (Nat.le_of_ble_eq_true rfl) (by omega) (by omega) (by omega) (fun _ _ _ z => z) (fun v n4 h4 z => ?_)
  obtain ⟨hn, hh, y⟩ := z
  subst hn
  have w2 := w3.rf_ 0
  rcases y with ⟨rfl, y⟩ | ⟨rfl, -⟩
  · exact absurd y (by decide)
  refine og_if_eq (pc := 36) (tgt := 41) dX8_lastNorm_36 (by decide) (fun _ => ?_) (fun q => absurd rfl q)
  refine og_abs (P := fun g => og_MK h0 g (m_wRf M 0)) (by rw [hh]; exact w2) fun g w4 => ?_
  have wm := w4.m
  refine og_aload_n (pc := 41) dX8_lastNorm_41 rfl ?_
  refine og_iload_n (pc := 42) dX8_lastNorm_42 rfl ?_
  refine og_iload_n (pc := 43) dX8_lastNorm_43 rfl ?_
  refine og_callV (pc := 44) (As := [.int (nI a), .int (nI b)]) (rest := []) (c_X8_euclid E d n4 a b g w4 ha8 hb8 ho ho8 (fun k => m_eu (m_R M a) (m_R M b) o k) (fun k => m_eu (m_R M a) (m_R M b) o (k + 1)) rfl rfl (fun _ => rfl) (fun _ => rfl)) Y_X8_euclid I_X8_euclid V_X8_euclid wm (by omega) rfl rfl K_X8_187 dX8_lastNorm_44 rfl rfl (Nat.le_of_ble_eq_true rfl) (by omega) (by omega) (by omega) (fun _ _ _ z => z) (fun v n5 h5 z => ?_)
  obtain ⟨hn, ls, w5, z5⟩ := z
  subst hn
  have z6 : m_euq (fun k => m_eu (m_R M a) (m_R M b) o (k + 1)) v ls := z5
  have wm := w5.m
  rcases z5 with ⟨k, z1, z2, z3, rfl, z4⟩ | ⟨z1, rfl⟩
  · refine og_iconst (pc := 47) (v := (-1)) dX8_lastNorm_47 (by decide) ?_
    have hk : ¬ nI k = -1 := fun e => by
      have z : ¬ nI k < 0 := nI_pos (by omega)
      rw [e] at z
      exact z (by decide)
    refine og_icmp_ne (pc := 48) (tgt := 57) dX8_lastNorm_48 (by decide) (fun _ => ?_) (fun q => absurd (q) hk)
    refine og_aload_n (pc := 57) dX8_lastNorm_57 rfl ?_
    refine og_get (pc := 58) F_X8_183 dX8_lastNorm_58 wm (by omega) rfl ?_
    exact og_lret (pc := 61) hr dX8_lastNorm_61 (by omega) (by omega) ⟨rfl, Or.inr ⟨a, b, ha8, hb8, rfl, rfl, Or.inr ⟨z, _, ls, w5, z6, Or.inr ⟨fun e => hk (by injection e with e; injection e), rfl⟩⟩⟩⟩
  · refine og_iconst (pc := 47) (v := (-1)) dX8_lastNorm_47 (by decide) ?_
    refine og_icmp_ne (pc := 48) (tgt := 57) dX8_lastNorm_48 (by decide) (fun q => absurd rfl q) (fun _ => ?_)
    refine og_ldc2 (pc := 51) LC_X8_163 dX8_lastNorm_51 ?_
    refine og_goto (pc := 54) (tgt := 61) dX8_lastNorm_54 (by decide) ?_
    exact og_lret (pc := 61) hr dX8_lastNorm_61 (by omega) (by omega) ⟨rfl, Or.inr ⟨a, b, ha8, hb8, rfl, rfl, Or.inr ⟨z, _, ls, w5, z6, Or.inl ⟨rfl, rfl⟩⟩⟩⟩
