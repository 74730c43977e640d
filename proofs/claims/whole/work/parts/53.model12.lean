/-! ===== the model: append, undo, cannotDivide ===== -/
theorem q_inN_iff {m : Nat} (hm : m < 2147483647) (x : Int32) (a : 0 ≤ x) (b : x ≤ nI m) : q_inN (m + 1) x := by
  obtain ⟨j, hj, rfl⟩ := nI_of (x := x) (fun q => og_lel a q)
  exact ⟨j, by have := (nI_leI (b := m) hj (by omega)).mp b; omega, rfl⟩
theorem q_inN_of {m : Nat} (hm : m < 2147483647) {x : Int32} (h : q_inN (m + 1) x) : 0 ≤ x ∧ x ≤ nI m := by
  obtain ⟨j, hj, rfl⟩ := h
  exact ⟨nI_pos' (by omega), nI_le (by omega) (by omega)⟩
set_option maxRecDepth 4000 in
theorem c_X8_append (E : og_E) (d n : Nat) (h : og_H) (x : Int32) {h0 : og_H} {M : q_M} (w : og_MK h0 h M) :
    og_M E yX8_append (.code yX8_append cX8_append 2 (some .int)) (d + 1) [.ref 101, .int x] n h 0 0 (fun v n1 h1 => n1 = n ∧ ((¬ q_inN 128 x ∧ v = some (.int 0) ∧ og_MK h0 h1 (m_wRf M 1)) ∨ (q_inN 128 x ∧ m_ty M = 100 ∧ v = some (.int 0) ∧ og_MK h0 h1 (m_wRf M 2)) ∨ (∃ k, k < 128 ∧ x = nI k ∧ m_ty M < 100 ∧ v = some (.int (nI (m_ty M + 1))) ∧ og_MK h0 h1 (m_wO (m_wT M (upd (m_t M) (m_ty M) (nI k))) (m_ps M) (m_ty M + 1) 0 (m_la M) (m_un M) (m_ls M) (m_dp M) (m_wl M) (m_ct M))))) no_x := by
  refine og_start (lv := [some (.ref 101), some (.int x)]) (by decide) rfl rfl (Nat.le_of_ble_eq_true rfl) fun X hr hnm htb => ?_
  have ht := w.ok.2
  have wm := w.m
  have rej : ∀ k : Int32, 0 < k → ((¬ q_inN 128 x ∧ k = 1) ∨ (q_inN 128 x ∧ m_ty M = 100 ∧ k = 2)) → og_G E yX8_append.cls cX8_append (d + 1) 0 0 2 X (og_Q E (fun v n1 h1 => n1 = n ∧ ((¬ q_inN 128 x ∧ v = some (.int 0) ∧ og_MK h0 h1 (m_wRf M 1)) ∨ (q_inN 128 x ∧ m_ty M = 100 ∧ v = some (.int 0) ∧ og_MK h0 h1 (m_wRf M 2)) ∨ (∃ k, k < 128 ∧ x = nI k ∧ m_ty M < 100 ∧ v = some (.int (nI (m_ty M + 1))) ∧ og_MK h0 h1 (m_wO (m_wT M (upd (m_t M) (m_ty M) (nI k))) (m_ps M) (m_ty M + 1) 0 (m_la M) (m_un M) (m_ls M) (m_dp M) (m_wl M) (m_ct M))))) no_x 0 0 X) 0 0 n h 29 [some (.ref 101), some (.int x)] [.int k, .ref 101] := by
    intro k hk hb
    refine og_callV (pc := 29) (As := [.int k]) (rest := []) (c_X8_throwsAt E d n h k wm) Y_X8_throwsAt I_X8_throwsAt V_X8_throwsAt wm (by omega) rfl rfl K_X8_125 dX8_append_29 rfl rfl (Nat.le_of_ble_eq_true rfl) (by omega) (by omega) (by omega) (fun _ _ _ z => z) (fun v n1 h1 z => ?_)
    obtain ⟨hn, hh, z⟩ := z
    subst hn
    have w2 := w.rf_ k
    rcases z with ⟨rfl, z⟩ | ⟨rfl, z⟩
    · refine og_if_eq (pc := 32) (tgt := 37) dX8_append_32 (by decide) (fun q => absurd q (by decide)) (fun _ => ?_)
      refine og_iconst (pc := 35) (v := 0) dX8_append_35 (by decide) ?_
      rcases hb with ⟨b1, rfl⟩ | ⟨b1, b2, rfl⟩
      · exact og_iret (pc := 36) hr dX8_append_36 (by omega) (by omega) ⟨rfl, Or.inl ⟨b1, rfl, by rw [hh]; exact w2⟩⟩
      · exact og_iret (pc := 36) hr dX8_append_36 (by omega) (by omega) ⟨rfl, Or.inr (Or.inl ⟨b1, b2, rfl, by rw [hh]; exact w2⟩)⟩
    · exact absurd hk z
  refine og_aload_n (pc := 0) dX8_append_0 rfl ?_
  refine og_iload_n (pc := 1) dX8_append_1 rfl ?_
  refine og_iconst (pc := 2) (v := 0) dX8_append_2 (by decide) ?_
  refine og_bipush (pc := 3) (v := 127) dX8_append_3 (by decide) ?_
  refine og_callS (pc := 5) (As := [.int x, .int 0, .int 127]) (rest := [.ref 101]) (c_X8_in E d n h x 0 127) Y_X8_in S_X8_in K_X8_86 dX8_append_5 rfl rfl (Nat.le_of_ble_eq_true rfl) (by omega) (by omega) (by omega) (fun _ _ _ z => z) (fun v n1 h1 z => ?_)
  obtain ⟨hn, hh, z⟩ := z
  subst hn hh
  rcases z with ⟨rfl, z1, z2⟩ | ⟨rfl, z⟩
  rotate_left
  · refine og_if_ne (pc := 8) (tgt := 15) dX8_append_8 (by decide) (fun q => absurd rfl q) (fun _ => ?_)
    refine og_iconst (pc := 11) (v := 1) dX8_append_11 (by decide) ?_
    refine og_goto (pc := 12) (tgt := 29) dX8_append_12 (by decide) ?_
    exact rej 1 (by decide) (Or.inl ⟨fun q => z (q_inN_of (m := 127) (by omega) q), rfl⟩)
  have hin : q_inN 128 x := q_inN_iff (m := 127) (by omega) x z1 z2
  refine og_if_ne (pc := 8) (tgt := 15) dX8_append_8 (by decide) (fun _ => ?_) (fun q => absurd q (by decide))
  refine og_aload_n (pc := 15) dX8_append_15 rfl ?_
  refine og_get (pc := 16) F_X8_211 dX8_append_16 (by repeat (first | exact og_set_eq _ _ _ | assumption | refine (og_set_ne _ _ (by first | assumption | omega)).trans ?_)) (by omega) rfl ?_
  refine og_bipush (pc := 19) (v := 100) dX8_append_19 (by decide) ?_
  refine og_icmp_ne (pc := 21) (tgt := 28) dX8_append_21 (by decide) (fun c => ?_) (fun c => ?_)
  rotate_left
  · refine og_iconst (pc := 24) (v := 2) dX8_append_24 (by decide) ?_
    refine og_goto (pc := 25) (tgt := 29) dX8_append_25 (by decide) ?_
    exact rej 2 (by decide) (Or.inr ⟨hin, (nI_eq (by omega) (by omega)).mp c, rfl⟩)
  have hlt : m_ty M < 100 := by
    rcases Nat.lt_or_ge (m_ty M) 100 with q | q
    · exact q
    · exact absurd (show nI (m_ty M) = nI 100 by rw [show m_ty M = 100 by omega]) c
  refine og_iconst (pc := 28) (v := 0) dX8_append_28 (by decide) ?_
  refine og_callV (pc := 29) (As := [.int 0]) (rest := []) (c_X8_throwsAt E d n1 h1 0 wm) Y_X8_throwsAt I_X8_throwsAt V_X8_throwsAt wm (by omega) rfl rfl K_X8_125 dX8_append_29 rfl rfl (Nat.le_of_ble_eq_true rfl) (by omega) (by omega) (by omega) (fun _ _ _ z => z) (fun v n2 h2 z => ?_)
  obtain ⟨hn, hh, z⟩ := z
  subst hn
  have w2 := w.rf_ 0
  rcases z with ⟨rfl, z⟩ | ⟨rfl, -⟩
  · exact absurd z (by decide)
  refine og_if_eq (pc := 32) (tgt := 37) dX8_append_32 (by decide) (fun _ => ?_) (fun q => absurd rfl q)
  refine og_abs (P := fun g => og_MK h0 g (m_wRf M 0)) (by rw [hh]; exact w2) fun g w3 => ?_
  obtain ⟨k, hk, rfl⟩ := hin
  have wm := w3.m
  have wt := w3.t
  refine og_aload_n (pc := 37) dX8_append_37 rfl ?_
  refine og_get (pc := 38) F_X8_16 dX8_append_38 (by repeat (first | exact og_set_eq _ _ _ | assumption | refine (og_set_ne _ _ (by first | assumption | omega)).trans ?_)) (by omega) rfl ?_
  refine og_aload_n (pc := 41) dX8_append_41 rfl ?_
  refine og_get (pc := 42) F_X8_211 dX8_append_42 (by repeat (first | exact og_set_eq _ _ _ | assumption | refine (og_set_ne _ _ (by first | assumption | omega)).trans ?_)) (by omega) rfl ?_
  refine og_iload_n (pc := 45) dX8_append_45 rfl ?_
  refine og_iastN (pc := 46) rfl dX8_append_46 (by repeat (first | exact og_set_eq _ _ _ | assumption | refine (og_set_ne _ _ (by first | assumption | omega)).trans ?_)) (by omega) hlt (by first | decide | assumption | omega) ?_
  have w4 := w3.sT (upd (m_t M) (m_ty M) (nI k))
  have wm := w4.m
  refine og_aload_n (pc := 47) dX8_append_47 rfl ?_
  refine og_dup (pc := 48) dX8_append_48 rfl ?_
  refine og_get (pc := 49) F_X8_211 dX8_append_49 wm (by omega) rfl ?_
  refine og_iconst (pc := 52) (v := 1) dX8_append_52 (by decide) ?_
  refine og_iadd (pc := 53) dX8_append_53 ?_
  rw [nI_1]
  have w5 := w4.sO (m_ps M) (m_ty M + 1) 0 (m_la M) (m_un M) (m_ls M) (m_dp M) (m_wl M) (m_ct M) w.ok.1 (by omega)
  refine og_put (pc := 54) P_X8_211 dX8_append_54 wm (by omega) rfl rfl (Nat.le_of_ble_eq_true rfl) ?_
  have wm := w5.m
  refine og_aload_n (pc := 57) dX8_append_57 rfl ?_
  refine og_get (pc := 58) F_X8_211 dX8_append_58 wm (by omega) rfl ?_
  exact og_iret (pc := 61) hr dX8_append_61 (by omega) (by omega) ⟨rfl, Or.inr (Or.inr ⟨k, hk, rfl, hlt, rfl, w5⟩)⟩
def q_bk (s p : Nat → Int32) (k i : Nat) : Nat → Int32 := fun j => if j < i then p (67 * k + j) else s j
theorem q_i67 (r k : Nat) : (67 : Int32) * nI r + nI k = nI (67 * r + k) := by
  rw [show (67 : Int32) = nI 67 from rfl, pk_mul, nI_add]
set_option maxRecDepth 4000 in
theorem c_X8_undo (E : og_E) (d n : Nat) (h : og_H) {h0 : og_H} {M : q_M} (w : og_MK h0 h M) :
    og_M E yX8_undo (.code yX8_undo cX8_undo 2 (some .int)) (d + 1) [.ref 101] n h 0 0 (fun v n1 h1 => n1 = n ∧ ((m_ps M = 0 ∧ v = some (.int 0) ∧ og_MK h0 h1 (m_wRf M 1)) ∨ (∃ k, m_ps M = k + 1 ∧ v = some (.int (nI k)) ∧ og_MK h0 h1 (m_wS (m_wO M k (m_ty M) 0 (m_la M) (m_un M) (m_ls M) (m_dp M) (m_wl M) (m_ct M)) (q_bk (m_s M) (m_p M) k 67))))) no_x := by
  refine og_start (lv := [some (.ref 101), none]) (by decide) rfl rfl (Nat.le_of_ble_eq_true rfl) fun X hr hnm htb => ?_
  have h4 := w.ok.1
  have wm := w.m
  refine og_aload_n (pc := 0) dX8_undo_0 rfl ?_
  refine og_aload_n (pc := 1) dX8_undo_1 rfl ?_
  refine og_get (pc := 2) F_X8_90 dX8_undo_2 (by repeat (first | exact og_set_eq _ _ _ | assumption | refine (og_set_ne _ _ (by first | assumption | omega)).trans ?_)) (by omega) rfl ?_
  refine og_if_ne (pc := 5) (tgt := 12) dX8_undo_5 (by decide) (fun c => ?_) (fun c => ?_)
  rotate_left
  · have h0e : m_ps M = 0 := by
      rcases Nat.eq_zero_or_pos (m_ps M) with q | q
      · exact q
      · exact absurd c (nI_ne0 q (by omega))
    refine og_iconst (pc := 8) (v := 1) dX8_undo_8 (by decide) ?_
    refine og_goto (pc := 9) (tgt := 13) dX8_undo_9 (by decide) ?_
    refine og_callV (pc := 13) (As := [.int 1]) (rest := []) (c_X8_throwsAt E d n h 1 wm) Y_X8_throwsAt I_X8_throwsAt V_X8_throwsAt wm (by omega) rfl rfl K_X8_125 dX8_undo_13 rfl rfl (Nat.le_of_ble_eq_true rfl) (by omega) (by omega) (by omega) (fun _ _ _ z => z) (fun v n1 h1 z => ?_)
    obtain ⟨hn, hh, z⟩ := z
    subst hn
    have w2 := w.rf_ 1
    rcases z with ⟨rfl, z⟩ | ⟨rfl, z⟩
    · refine og_if_eq (pc := 16) (tgt := 21) dX8_undo_16 (by decide) (fun q => absurd q (by decide)) (fun _ => ?_)
      refine og_iconst (pc := 19) (v := 0) dX8_undo_19 (by decide) ?_
      exact og_iret (pc := 20) hr dX8_undo_20 (by omega) (by omega) ⟨rfl, Or.inl ⟨h0e, rfl, by rw [hh]; exact w2⟩⟩
    · exact absurd (by decide) z
  obtain ⟨k, hk⟩ : ∃ k, m_ps M = k + 1 := by
    match hq : m_ps M with
    | 0 =>
      exact absurd (show nI (m_ps M) = 0 by rw [hq]; rfl) c
    | k + 1 => exact ⟨k, rfl⟩
  refine og_iconst (pc := 12) (v := 0) dX8_undo_12 (by decide) ?_
  refine og_callV (pc := 13) (As := [.int 0]) (rest := []) (c_X8_throwsAt E d n h 0 wm) Y_X8_throwsAt I_X8_throwsAt V_X8_throwsAt wm (by omega) rfl rfl K_X8_125 dX8_undo_13 rfl rfl (Nat.le_of_ble_eq_true rfl) (by omega) (by omega) (by omega) (fun _ _ _ z => z) (fun v n1 h1 z => ?_)
  obtain ⟨hn, hh, z⟩ := z
  subst hn
  have w2 := w.rf_ 0
  rcases z with ⟨rfl, z⟩ | ⟨rfl, -⟩
  · exact absurd z (by decide)
  refine og_if_eq (pc := 16) (tgt := 21) dX8_undo_16 (by decide) (fun _ => ?_) (fun q => absurd rfl q)
  refine og_abs (P := fun g => og_MK h0 g (m_wRf M 0)) (by rw [hh]; exact w2) fun g w3 => ?_
  have wm : g 101 = some (og_mo (nI (k + 1)) (nI (m_ty M)) 0 (m_la M) (m_un M) (m_ls M) (m_dp M) (m_wl M) (m_ct M)) := by rw [← hk]; exact w3.m
  refine og_aload_n (pc := 21) dX8_undo_21 rfl ?_
  refine og_dup (pc := 22) dX8_undo_22 rfl ?_
  refine og_get (pc := 23) F_X8_90 dX8_undo_23 (by repeat (first | exact og_set_eq _ _ _ | assumption | refine (og_set_ne _ _ (by first | assumption | omega)).trans ?_)) (by omega) rfl ?_
  refine og_iconst (pc := 26) (v := 1) dX8_undo_26 (by decide) ?_
  refine og_isub (pc := 27) dX8_undo_27 ?_
  rw [nI_s1]
  have w4 := w3.sO k (m_ty M) 0 (m_la M) (m_un M) (m_ls M) (m_dp M) (m_wl M) (m_ct M) (by omega) w.ok.2
  refine og_put (pc := 28) P_X8_90 dX8_undo_28 (by repeat (first | exact og_set_eq _ _ _ | assumption | refine (og_set_ne _ _ (by first | assumption | omega)).trans ?_)) (by omega) rfl rfl (Nat.le_of_ble_eq_true rfl) ?_
  refine og_abs (P := fun g => og_MK h0 g (m_wO M k (m_ty M) 0 (m_la M) (m_un M) (m_ls M) (m_dp M) (m_wl M) (m_ct M))) w4 fun g w5 => ?_
  have ws := w5.s
  refine og_iconst (pc := 31) (v := 0) dX8_undo_31 (by decide) ?_
  refine og_istore_n_1 (pc := 32) dX8_undo_32 rfl ?_
  refine og_heq (og_set g 102 (rowI 67 (q_bk (m_s M) (m_p M) k 0))) (by rw [show q_bk (m_s M) (m_p M) k 0 = m_s M from funext fun j => if_neg (by omega)]; exact (og_set_same ws).symm) ?_
  refine og_for (i0 := 0) (N := 67) (by decide) (fun i => og_set g 102 (rowI 67 (q_bk (m_s M) (m_p M) k i))) (fun i => [some (.ref 101), some (.int (nI i))]) ?_ (fun i _ hi ih => ?_)
  · have w6 := w5.sS (q_bk (m_s M) (m_p M) k 67)
    have wm := w6.m
    refine og_iload_n (pc := 33) dX8_undo_33 rfl ?_
    refine og_bipush (pc := 34) (v := 67) dX8_undo_34 (by decide) ?_
    refine og_geN (pc := 36) (tgt := 65) (i := 67) (N := 67) dX8_undo_36 (by decide) rfl rfl (by omega) (by omega) (fun c_36 => ?_) (fun c_36 => ?_)
    · refine og_aload_n (pc := 65) dX8_undo_65 rfl ?_
      refine og_get (pc := 66) F_X8_90 dX8_undo_66 (by repeat (first | exact og_set_eq _ _ _ | assumption | refine (og_set_ne _ _ (by first | assumption | omega)).trans ?_)) (by omega) rfl ?_
      exact og_iret (pc := 69) hr dX8_undo_69 (by omega) (by omega) ⟨rfl, Or.inr ⟨k, hk, rfl, w6⟩⟩
    · omega
  · have w6 := w5.sS (q_bk (m_s M) (m_p M) k i)
    have wm := w6.m
    have wp : og_set g 102 (rowI 67 (q_bk (m_s M) (m_p M) k i)) 103 = some (rowI 268 (m_p M)) := w6.p
    refine og_iload_n (pc := 33) dX8_undo_33 rfl ?_
    refine og_bipush (pc := 34) (v := 67) dX8_undo_34 (by decide) ?_
    refine og_geN (pc := 36) (tgt := 65) (i := i) (N := 67) dX8_undo_36 (by decide) rfl rfl (by omega) (by omega) (fun c_36 => ?_) (fun c_36 => ?_)
    · omega
    refine og_aload_n (pc := 39) dX8_undo_39 rfl ?_
    refine og_get (pc := 40) F_X8_7 dX8_undo_40 (by repeat (first | exact og_set_eq _ _ _ | assumption | refine (og_set_ne _ _ (by first | assumption | omega)).trans ?_)) (by omega) rfl ?_
    refine og_iload_n (pc := 43) dX8_undo_43 rfl ?_
    refine og_aload_n (pc := 44) dX8_undo_44 rfl ?_
    refine og_get (pc := 45) F_X8_13 dX8_undo_45 (by repeat (first | exact og_set_eq _ _ _ | assumption | refine (og_set_ne _ _ (by first | assumption | omega)).trans ?_)) (by omega) rfl ?_
    refine og_bipush (pc := 48) (v := 67) dX8_undo_48 (by decide) ?_
    refine og_aload_n (pc := 50) dX8_undo_50 rfl ?_
    refine og_get (pc := 51) F_X8_90 dX8_undo_51 (by repeat (first | exact og_set_eq _ _ _ | assumption | refine (og_set_ne _ _ (by first | assumption | omega)).trans ?_)) (by omega) rfl ?_
    refine og_imul (pc := 54) dX8_undo_54 ?_
    refine og_iload_n (pc := 55) dX8_undo_55 rfl ?_
    refine og_iadd (pc := 56) dX8_undo_56 ?_
    refine og_ialdN (pc := 57) (q_i67 k i) dX8_undo_57 wp (by omega) (by omega) (by first | decide | assumption | omega) ?_
    refine og_iastN (pc := 58) rfl dX8_undo_58 (og_set_eq _ _ _) (by omega) (by omega) (by first | decide | assumption | omega) ?_
    refine og_iinc_1 (pc := 59) dX8_undo_59 (og_inc i) rfl ?_
    refine og_goto (pc := 62) (tgt := 33) dX8_undo_62 (by decide) ?_
    rw [og_set_set, show upd (q_bk (m_s M) (m_p M) k i) i (m_p M (67 * k + i)) = q_bk (m_s M) (m_p M) k (i + 1) from og_fillI rfl]
    exact ih
set_option maxRecDepth 4000 in
theorem c_X8_cannotDivide (E : og_E) (d n a b : Nat) (h : og_H) {h0 : og_H} {M : q_M} {o : Nat} (w : og_MK h0 h M) (ha8 : a < 8) (hb8 : b < 8) (ho : m_s M 64 = nI o) (ho8 : o < 8) :
    og_M E yX8_cannotDivide (.code yX8_cannotDivide cX8_cannotDivide 3 (some .boolean)) (d + 2) [.ref 101, .int (nI a), .int (nI b)] n h 0 0 (fun v n1 h1 => n1 = n ∧ og_MK h0 h1 M ∧ h1 107 = some (rowL (m_R M a)) ∧ h1 108 = some (rowL (m_R M b)) ∧ ((v = some (.int 0) ∧ q_inP (m_R M a) o ∧ q_inP (m_R M b) o ∧ q_inner (m_R M b) (m_R M b) 8 ≠ 0) ∨ (v = some (.int 1) ∧ ¬ (q_inP (m_R M a) o ∧ q_inP (m_R M b) o ∧ q_inner (m_R M b) (m_R M b) 8 ≠ 0)))) no_x := by
  refine og_start (lv := [some (.ref 101), some (.int (nI a)), some (.int (nI b))]) (by decide) rfl rfl (Nat.le_of_ble_eq_true rfl) fun X hr hnm htb => ?_
  have wm := w.m
  obtain ⟨f, e107⟩ := w.scr 107 (by unfold q_ms; omega)
  refine og_aload_n (pc := 0) dX8_cannotDivide_0 rfl ?_
  refine og_aload_n (pc := 1) dX8_cannotDivide_1 rfl ?_
  refine og_get (pc := 2) F_X8_25 dX8_cannotDivide_2 (by repeat (first | exact og_set_eq _ _ _ | assumption | refine (og_set_ne _ _ (by first | assumption | omega)).trans ?_)) (by omega) rfl ?_
  refine og_iload_n (pc := 5) dX8_cannotDivide_5 rfl ?_
  refine og_callV (pc := 6) (As := [.ref 107, .int (nI a)]) (rest := []) (c_X8_takes E d n 107 a h (m_s M) f wm w.s e107 (by omega) ha8) Y_X8_takes I_X8_takes V_X8_takes wm (by omega) rfl rfl K_X8_131 dX8_cannotDivide_6 rfl rfl (Nat.le_of_ble_eq_true rfl) (by omega) (by omega) (by omega) (fun _ _ _ z => z) (fun v n1 h1 z => ?_)
  obtain ⟨rfl, hn, hh⟩ := z
  subst hn
  refine og_abs (P := fun g => og_MK h0 g M ∧ g 107 = some (rowL (m_R M a))) (by rw [hh]; exact ⟨w.row _ (by unfold q_ms; omega), og_set_eq _ _ _⟩) fun g ⟨w, e107⟩ => ?_
  have wm := w.m
  obtain ⟨f8, e108⟩ := w.scr 108 (by unfold q_ms; omega)
  refine og_aload_n (pc := 9) dX8_cannotDivide_9 rfl ?_
  refine og_aload_n (pc := 10) dX8_cannotDivide_10 rfl ?_
  refine og_get (pc := 11) F_X8_29 dX8_cannotDivide_11 (by repeat (first | exact og_set_eq _ _ _ | assumption | refine (og_set_ne _ _ (by first | assumption | omega)).trans ?_)) (by omega) rfl ?_
  refine og_iload_n (pc := 14) dX8_cannotDivide_14 rfl ?_
  refine og_callV (pc := 15) (As := [.ref 108, .int (nI b)]) (rest := []) (c_X8_takes E d n1 108 b g (m_s M) f8 wm w.s e108 (by omega) hb8) Y_X8_takes I_X8_takes V_X8_takes wm (by omega) rfl rfl K_X8_131 dX8_cannotDivide_15 rfl rfl (Nat.le_of_ble_eq_true rfl) (by omega) (by omega) (by omega) (fun _ _ _ z => z) (fun v n2 h2 z => ?_)
  obtain ⟨rfl, hn, hh⟩ := z
  subst hn
  refine og_abs (P := fun g => og_MK h0 g M ∧ g 107 = some (rowL (m_R M a)) ∧ g 108 = some (rowL (m_R M b))) (by rw [hh]; exact ⟨w.row _ (by unfold q_ms; omega), (og_set_ne _ _ (by omega)).trans e107, og_set_eq _ _ _⟩) fun g ⟨w, e107, e108⟩ => ?_
  have wm := w.m
  have ws := w.s
  have bad : ¬ (q_inP (m_R M a) o ∧ q_inP (m_R M b) o ∧ q_inner (m_R M b) (m_R M b) 8 ≠ 0) → og_G E yX8_cannotDivide.cls cX8_cannotDivide (d + 2) 0 0 3 X (og_Q E (fun v n1 h1 => n1 = n2 ∧ og_MK h0 h1 M ∧ h1 107 = some (rowL (m_R M a)) ∧ h1 108 = some (rowL (m_R M b)) ∧ ((v = some (.int 0) ∧ q_inP (m_R M a) o ∧ q_inP (m_R M b) o ∧ q_inner (m_R M b) (m_R M b) 8 ≠ 0) ∨ (v = some (.int 1) ∧ ¬ (q_inP (m_R M a) o ∧ q_inP (m_R M b) o ∧ q_inner (m_R M b) (m_R M b) 8 ≠ 0)))) no_x 0 0 X) 0 0 n2 g 64 [some (.ref 101), some (.int (nI a)), some (.int (nI b))] [] := by
    intro hb
    refine og_iconst (pc := 64) (v := 1) dX8_cannotDivide_64 (by decide) ?_
    refine og_goto (pc := 65) (tgt := 69) dX8_cannotDivide_65 (by decide) ?_
    exact og_zret (pc := 69) hr rfl dX8_cannotDivide_69 (by omega) (by omega) ⟨rfl, w, e107, e108, Or.inr ⟨rfl, hb⟩⟩
  refine og_aload_n (pc := 18) dX8_cannotDivide_18 rfl ?_
  refine og_aload_n (pc := 19) dX8_cannotDivide_19 rfl ?_
  refine og_get (pc := 20) F_X8_25 dX8_cannotDivide_20 (by repeat (first | exact og_set_eq _ _ _ | assumption | refine (og_set_ne _ _ (by first | assumption | omega)).trans ?_)) (by omega) rfl ?_
  refine og_aload_n (pc := 23) dX8_cannotDivide_23 rfl ?_
  refine og_get (pc := 24) F_X8_7 dX8_cannotDivide_24 (by repeat (first | exact og_set_eq _ _ _ | assumption | refine (og_set_ne _ _ (by first | assumption | omega)).trans ?_)) (by omega) rfl ?_
  refine og_bipush (pc := 27) (v := 64) dX8_cannotDivide_27 (by decide) ?_
  refine og_ialdN (pc := 29) (j := 64) (show (64 : Int32) = nI 64 from rfl) dX8_cannotDivide_29 ws (by omega) (by omega) (by first | decide | assumption | omega) ?_
  rw [ho]
  refine og_callV (pc := 30) (As := [.ref 107, .int (nI o)]) (rest := []) (c_X8_isIn E d n2 107 o g _ wm e107 (by omega) ho8) Y_X8_isIn I_X8_isIn V_X8_isIn wm (by omega) rfl rfl K_X8_114 dX8_cannotDivide_30 rfl rfl (Nat.le_of_ble_eq_true rfl) (by omega) (by omega) (by omega) (fun _ _ _ z => z) (fun v n3 h3 z => ?_)
  obtain ⟨hn, hh, z⟩ := z
  subst hn hh
  rcases z with ⟨rfl, za⟩ | ⟨rfl, za⟩
  rotate_left
  · exact og_if_eq (pc := 33) (tgt := 64) dX8_cannotDivide_33 (by decide) (fun _ => bad fun q => za q.1) (fun q => absurd rfl q)
  refine og_if_eq (pc := 33) (tgt := 64) dX8_cannotDivide_33 (by decide) (fun q => absurd q (by decide)) (fun _ => ?_)
  refine og_aload_n (pc := 36) dX8_cannotDivide_36 rfl ?_
  refine og_aload_n (pc := 37) dX8_cannotDivide_37 rfl ?_
  refine og_get (pc := 38) F_X8_29 dX8_cannotDivide_38 (by repeat (first | exact og_set_eq _ _ _ | assumption | refine (og_set_ne _ _ (by first | assumption | omega)).trans ?_)) (by omega) rfl ?_
  refine og_aload_n (pc := 41) dX8_cannotDivide_41 rfl ?_
  refine og_get (pc := 42) F_X8_7 dX8_cannotDivide_42 (by repeat (first | exact og_set_eq _ _ _ | assumption | refine (og_set_ne _ _ (by first | assumption | omega)).trans ?_)) (by omega) rfl ?_
  refine og_bipush (pc := 45) (v := 64) dX8_cannotDivide_45 (by decide) ?_
  refine og_ialdN (pc := 47) (j := 64) (show (64 : Int32) = nI 64 from rfl) dX8_cannotDivide_47 ws (by omega) (by omega) (by first | decide | assumption | omega) ?_
  rw [ho]
  refine og_callV (pc := 48) (As := [.ref 108, .int (nI o)]) (rest := []) (c_X8_isIn E d n3 108 o h3 _ wm e108 (by omega) ho8) Y_X8_isIn I_X8_isIn V_X8_isIn wm (by omega) rfl rfl K_X8_114 dX8_cannotDivide_48 rfl rfl (Nat.le_of_ble_eq_true rfl) (by omega) (by omega) (by omega) (fun _ _ _ z => z) (fun v n4 h4 z => ?_)
  obtain ⟨hn, hh, z⟩ := z
  subst hn hh
  rcases z with ⟨rfl, zb⟩ | ⟨rfl, zb⟩
  rotate_left
  · exact og_if_eq (pc := 51) (tgt := 64) dX8_cannotDivide_51 (by decide) (fun _ => bad fun q => zb q.2.1) (fun q => absurd rfl q)
  refine og_if_eq (pc := 51) (tgt := 64) dX8_cannotDivide_51 (by decide) (fun q => absurd q (by decide)) (fun _ => ?_)
  refine og_aload_n (pc := 54) dX8_cannotDivide_54 rfl ?_
  refine og_get (pc := 55) F_X8_29 dX8_cannotDivide_55 (by repeat (first | exact og_set_eq _ _ _ | assumption | refine (og_set_ne _ _ (by first | assumption | omega)).trans ?_)) (by omega) rfl ?_
  refine og_callS (pc := 58) (As := [.ref 108]) (rest := []) (c_X8_isNought E d n4 108 h4 _ e108 (by omega)) Y_X8_isNought S_X8_isNought K_X8_173 dX8_cannotDivide_58 rfl rfl (Nat.le_of_ble_eq_true rfl) (by omega) (by omega) (by omega) (fun _ _ _ z => z) (fun v n5 h5 z => ?_)
  obtain ⟨hn, hh, z⟩ := z
  subst hn hh
  rcases z with ⟨rfl, z⟩ | ⟨rfl, z⟩
  · exact og_if_eq (pc := 61) (tgt := 68) dX8_cannotDivide_61 (by decide) (fun q => absurd q (by decide)) (fun _ => bad fun q => q.2.2 z)
  · refine og_if_eq (pc := 61) (tgt := 68) dX8_cannotDivide_61 (by decide) (fun _ => ?_) (fun q => absurd rfl q)
    refine og_iconst (pc := 68) (v := 0) dX8_cannotDivide_68 (by decide) ?_
    exact og_zret (pc := 69) hr rfl dX8_cannotDivide_69 (by omega) (by omega) ⟨rfl, w, e107, e108, Or.inl ⟨rfl, za, zb, z⟩⟩
