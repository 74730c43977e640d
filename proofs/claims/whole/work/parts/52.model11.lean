/-! ===== the model: clearText, append, undo, cut, nearest, isLower, cannotDivide ===== -/
theorem c_X8_clearText (E : og_E) (d n : Nat) (h : og_H) {h0 : og_H} {M : q_M} (w : og_MK h0 h M) :
    og_M E yX8_clearText (.code yX8_clearText cX8_clearText 2 (some .int)) d [.ref 101] n h 0 0 (fun v n1 h1 => n1 = n ∧ v = some (.int (nI (m_ty M))) ∧ og_MK h0 h1 (m_wO M (m_ps M) 0 0 (m_la M) (m_un M) (m_ls M) (m_dp M) (m_wl M) (m_ct M))) no_x := by
  refine og_start (lv := [some (.ref 101), none]) (by decide) rfl rfl (Nat.le_of_ble_eq_true rfl) fun X hr hnm htb => ?_
  have wm := w.m
  refine og_aload_n (pc := 0) dX8_clearText_0 rfl ?_
  refine og_iconst (pc := 1) (v := 0) dX8_clearText_1 (by decide) ?_
  refine og_put (pc := 2) P_X8_83 dX8_clearText_2 (by repeat (first | exact og_set_eq _ _ _ | assumption | refine (og_set_ne _ _ (by first | assumption | omega)).trans ?_)) (by omega) rfl rfl (Nat.le_of_ble_eq_true rfl) ?_
  refine og_aload_n (pc := 5) dX8_clearText_5 rfl ?_
  refine og_get (pc := 6) F_X8_211 dX8_clearText_6 (by repeat (first | exact og_set_eq _ _ _ | assumption | refine (og_set_ne _ _ (by first | assumption | omega)).trans ?_)) (by omega) rfl ?_
  refine og_istore_n_1 (pc := 9) dX8_clearText_9 rfl ?_
  refine og_aload_n (pc := 10) dX8_clearText_10 rfl ?_
  refine og_iconst (pc := 11) (v := 0) dX8_clearText_11 (by decide) ?_
  refine og_put (pc := 12) P_X8_211 dX8_clearText_12 (by repeat (first | exact og_set_eq _ _ _ | assumption | refine (og_set_ne _ _ (by first | assumption | omega)).trans ?_)) (by omega) rfl rfl (Nat.le_of_ble_eq_true rfl) ?_
  refine og_iload_n (pc := 15) dX8_clearText_15 rfl ?_
  rw [og_set_set]
  exact og_iret (pc := 16) hr dX8_clearText_16 (by omega) (by omega) ⟨rfl, rfl, w.sO (m_ps M) 0 0 (m_la M) (m_un M) (m_ls M) (m_dp M) (m_wl M) (m_ct M) w.ok.1 (by omega)⟩
def q_cut (x y : Int64) : Int64 := if x - x / y * y < 0 then x / y - 1 else x / y
theorem c_X8_cut (E : og_E) (d n : Nat) (h : og_H) (x y : Int64) (hy : ¬ y = 0) :
    og_M E yX8_cut (.code yX8_cut cX8_cut 6 (some .long)) d [.long x, .long y] n h 0 0 (fun v n1 h1 => n1 = n ∧ h1 = h ∧ v = some (.long (q_cut x y))) no_x := by
  refine og_start (lv := [some (.long x), none, some (.long y), none, none, none]) (by decide) rfl rfl (Nat.le_of_ble_eq_true rfl) fun X hr hnm htb => ?_
  refine og_lload_n (pc := 0) dX8_cut_0 rfl ?_
  refine og_lload_n (pc := 1) dX8_cut_1 rfl ?_
  refine og_ldiv (pc := 2) dX8_cut_2 hy ?_
  refine og_lstore_4 (pc := 3) dX8_cut_3 rfl ?_
  refine og_lload_n (pc := 5) dX8_cut_5 rfl ?_
  refine og_lload_n (pc := 6) dX8_cut_6 rfl ?_
  refine og_lrem (pc := 7) dX8_cut_7 hy ?_
  refine og_lconst (pc := 8) (v := 0) dX8_cut_8 (by decide) ?_
  refine og_lcmp (pc := 9) dX8_cut_9 ?_
  refine og_if_ge (pc := 10) (tgt := 20) dX8_cut_10 (by decide) (fun c => ?_) (fun c => ?_)
  · refine og_lload (pc := 20) dX8_cut_20 rfl ?_
    exact og_lret (pc := 22) hr dX8_cut_22 (by omega) (by omega) ⟨rfl, rfl, by rw [q_cut, if_neg (fun q => og_lel c ((og_cmpL _ _).mpr q))]⟩
  · refine og_lload (pc := 13) dX8_cut_13 rfl ?_
    refine og_lconst (pc := 15) (v := 1) dX8_cut_15 (by decide) ?_
    refine og_lsub (pc := 16) dX8_cut_16 ?_
    refine og_goto (pc := 17) (tgt := 22) dX8_cut_17 (by decide) ?_
    exact og_lret (pc := 22) hr dX8_cut_22 (by omega) (by omega) ⟨rfl, rfl, by rw [q_cut, if_pos ((og_cmpL _ _).mp (og_nle c))]⟩
def q_lw (p by1 : Int64) (w : Int32) : Int64 := if 2 * p < (2 * q_cut p by1 + w.toInt64) * by1 then 2 * q_cut p by1 + w.toInt64 - 2 else 2 * q_cut p by1 + w.toInt64
def q_nr (p by1 : Int64) (w : Int32) : Int64 := if (q_lw p by1 w + 2) * by1 - 2 * p < 2 * p - q_lw p by1 w * by1 then q_lw p by1 w + 2 else q_lw p by1 w
theorem c_X8_nearest (E : og_E) (d n : Nat) (h : og_H) (p b1 : Int64) (w : Int32) (hy : ¬ b1 = 0) :
    og_M E yX8_nearest (.code yX8_nearest cX8_nearest 7 (some .long)) (d + 1) [.long p, .long b1, .int w] n h 0 0 (fun v n1 h1 => n1 = n ∧ h1 = h ∧ v = some (.long (q_nr p b1 w))) no_x := by
  refine og_start (lv := [some (.long p), none, some (.long b1), none, some (.int w), none, none]) (by decide) rfl rfl (Nat.le_of_ble_eq_true rfl) fun X hr hnm htb => ?_
  refine og_ldc2 (pc := 0) LC_X8_101 dX8_nearest_0 ?_
  refine og_lload_n (pc := 3) dX8_nearest_3 rfl ?_
  refine og_lload_n (pc := 4) dX8_nearest_4 rfl ?_
  refine og_callS (pc := 5) (As := [.long p, .long b1]) (rest := [.long 2]) (c_X8_cut E d n h p b1 hy) Y_X8_cut S_X8_cut K_X8_159 dX8_nearest_5 rfl rfl (Nat.le_of_ble_eq_true rfl) (by omega) (by omega) (by omega) (fun _ _ _ z => z) (fun v n1 h1 z => ?_)
  obtain ⟨hn, hh, rfl⟩ := z
  subst hn hh
  have fin : og_G E yX8_nearest.cls cX8_nearest (d + 1) 0 0 7 X (og_Q E (fun v n9 h9 => n9 = n1 ∧ h9 = h1 ∧ v = some (.long (q_nr p b1 w))) no_x 0 0 X) (0 + 0) (0 + 0) n1 h1 39 [some (.long p), none, some (.long b1), none, some (.int w), some (.long (2 * q_cut p b1 + w.toInt64)), none] [.long (q_lw p b1 w)] := by
    refine og_lstore_5 (pc := 39) dX8_nearest_39 rfl ?_
    refine og_ldc2 (pc := 41) LC_X8_101 dX8_nearest_41 ?_
    refine og_lload_n (pc := 44) dX8_nearest_44 rfl ?_
    refine og_lmul (pc := 45) dX8_nearest_45 ?_
    refine og_lload (pc := 46) dX8_nearest_46 rfl ?_
    refine og_lload_n (pc := 48) dX8_nearest_48 rfl ?_
    refine og_lmul (pc := 49) dX8_nearest_49 ?_
    refine og_lsub (pc := 50) dX8_nearest_50 ?_
    refine og_lload (pc := 51) dX8_nearest_51 rfl ?_
    refine og_ldc2 (pc := 53) LC_X8_101 dX8_nearest_53 ?_
    refine og_ladd (pc := 56) dX8_nearest_56 ?_
    refine og_lload_n (pc := 57) dX8_nearest_57 rfl ?_
    refine og_lmul (pc := 58) dX8_nearest_58 ?_
    refine og_ldc2 (pc := 59) LC_X8_101 dX8_nearest_59 ?_
    refine og_lload_n (pc := 62) dX8_nearest_62 rfl ?_
    refine og_lmul (pc := 63) dX8_nearest_63 ?_
    refine og_lsub (pc := 64) dX8_nearest_64 ?_
    refine og_lcmp (pc := 65) dX8_nearest_65 ?_
    refine og_if_gt (pc := 66) (tgt := 74) dX8_nearest_66 (by decide) (fun c => ?_) (fun c => ?_)
    · refine og_lload (pc := 74) dX8_nearest_74 rfl ?_
      refine og_ldc2 (pc := 76) LC_X8_101 dX8_nearest_76 ?_
      refine og_ladd (pc := 79) dX8_nearest_79 ?_
      exact og_lret (pc := 80) hr dX8_nearest_80 (by omega) (by omega) ⟨rfl, rfl, by rw [q_nr, if_pos ((og_cmpG _ _).mp c)]⟩
    · refine og_lload (pc := 69) dX8_nearest_69 rfl ?_
      refine og_goto (pc := 71) (tgt := 80) dX8_nearest_71 (by decide) ?_
      exact og_lret (pc := 80) hr dX8_nearest_80 (by omega) (by omega) ⟨rfl, rfl, by rw [q_nr, if_neg (fun q => c ((og_cmpG _ _).mpr q))]⟩
  refine og_lmul (pc := 8) dX8_nearest_8 ?_
  refine og_iload (pc := 9) dX8_nearest_9 rfl ?_
  refine og_i2l (pc := 11) dX8_nearest_11 rfl ?_
  refine og_ladd (pc := 12) dX8_nearest_12 ?_
  refine og_lstore_5 (pc := 13) dX8_nearest_13 rfl ?_
  refine og_lload (pc := 15) dX8_nearest_15 rfl ?_
  refine og_lload_n (pc := 17) dX8_nearest_17 rfl ?_
  refine og_lmul (pc := 18) dX8_nearest_18 ?_
  refine og_ldc2 (pc := 19) LC_X8_101 dX8_nearest_19 ?_
  refine og_lload_n (pc := 22) dX8_nearest_22 rfl ?_
  refine og_lmul (pc := 23) dX8_nearest_23 ?_
  refine og_lcmp (pc := 24) dX8_nearest_24 ?_
  refine og_if_le (pc := 25) (tgt := 37) dX8_nearest_25 (by decide) (fun c => ?_) (fun c => ?_)
  · refine og_lload (pc := 37) dX8_nearest_37 rfl ?_
    rw [show q_lw p b1 w = 2 * q_cut p b1 + w.toInt64 from if_neg (fun q => og_lel c ((og_cmpG _ _).mpr q))] at fin
    exact fin
  · refine og_lload (pc := 28) dX8_nearest_28 rfl ?_
    refine og_ldc2 (pc := 30) LC_X8_101 dX8_nearest_30 ?_
    refine og_lsub (pc := 33) dX8_nearest_33 ?_
    refine og_goto (pc := 34) (tgt := 39) dX8_nearest_34 (by decide) ?_
    rw [show q_lw p b1 w = 2 * q_cut p b1 + w.toInt64 - 2 from if_pos ((og_cmpG _ _).mp (og_nle c))] at fin
    exact fin
theorem c_X8_isLower (E : og_E) (d n : Nat) (h : og_H) {h0 : og_H} {M : q_M} {f g : Nat → Int64} (w : og_MK h0 h M) (e114 : h 114 = some (rowL g)) (e116 : h 116 = some (rowL f)) :
    og_M E yX8_isLower (.code yX8_isLower cX8_isLower 2 (some .boolean)) d [.ref 101] n h 0 0 (fun v n1 h1 => n1 = n ∧ h1 = h ∧ ((v = some (.int 1) ∧ q_first f g) ∨ (v = some (.int 0) ∧ ¬ q_first f g))) no_x := by
  refine og_start (lv := [some (.ref 101), none]) (by decide) rfl rfl (Nat.le_of_ble_eq_true rfl) fun X hr hnm htb => ?_
  have wm := w.m
  refine og_iconst (pc := 0) (v := 0) dX8_isLower_0 (by decide) ?_
  refine og_istore_n_1 (pc := 1) dX8_isLower_1 rfl ?_
  refine og_forP (i0 := 0) (N := 8) (by decide) (fun _ => h) (fun i => [some (.ref 101), some (.int (nI i))]) (fun i => ∀ j, j < i → f j = g j) (fun j hj => absurd hj (by omega)) (fun hP => ?_) (fun i _ hi hP ih => ?_)
  · refine og_iload_n (pc := 2) dX8_isLower_2 rfl ?_
    refine og_bipush (pc := 3) (v := 8) dX8_isLower_3 (by decide) ?_
    refine og_geN (pc := 5) (tgt := 52) (i := 8) (N := 8) dX8_isLower_5 (by decide) rfl rfl (by omega) (by omega) (fun c_5 => ?_) (fun c_5 => ?_)
    · refine og_iconst (pc := 52) (v := 0) dX8_isLower_52 (by decide) ?_
      refine og_zret (pc := 53) hr rfl dX8_isLower_53 (by omega) (by omega) ⟨rfl, rfl, Or.inr ⟨rfl, ?_⟩⟩
      rintro ⟨i, hi, -, h2⟩
      rw [hP i hi] at h2
      exact absurd h2 (Int64.lt_irrefl)
    · omega
  · refine og_iload_n (pc := 2) dX8_isLower_2 rfl ?_
    refine og_bipush (pc := 3) (v := 8) dX8_isLower_3 (by decide) ?_
    refine og_geN (pc := 5) (tgt := 52) (i := i) (N := 8) dX8_isLower_5 (by decide) rfl rfl (by omega) (by omega) (fun c_5 => ?_) (fun c_5 => ?_)
    · omega
    refine og_aload_n (pc := 8) dX8_isLower_8 rfl ?_
    refine og_get (pc := 9) F_X8_57 dX8_isLower_9 (by repeat (first | exact og_set_eq _ _ _ | assumption | refine (og_set_ne _ _ (by first | assumption | omega)).trans ?_)) (by omega) rfl ?_
    refine og_iload_n (pc := 12) dX8_isLower_12 rfl ?_
    refine og_laldN (pc := 13) rfl dX8_isLower_13 (by repeat (first | exact og_set_eq _ _ _ | assumption | refine (og_set_ne _ _ (by first | assumption | omega)).trans ?_)) (by omega) (by omega) (by first | decide | assumption | omega) ?_
    refine og_aload_n (pc := 14) dX8_isLower_14 rfl ?_
    refine og_get (pc := 15) F_X8_51 dX8_isLower_15 (by repeat (first | exact og_set_eq _ _ _ | assumption | refine (og_set_ne _ _ (by first | assumption | omega)).trans ?_)) (by omega) rfl ?_
    refine og_iload_n (pc := 18) dX8_isLower_18 rfl ?_
    refine og_laldN (pc := 19) rfl dX8_isLower_19 (by repeat (first | exact og_set_eq _ _ _ | assumption | refine (og_set_ne _ _ (by first | assumption | omega)).trans ?_)) (by omega) (by omega) (by first | decide | assumption | omega) ?_
    refine og_lcmp (pc := 20) dX8_isLower_20 ?_
    refine og_if_eq (pc := 21) (tgt := 46) dX8_isLower_21 (by decide) (fun c => ?_) (fun c => ?_)
    · refine og_iinc_1 (pc := 46) dX8_isLower_46 (og_inc i) rfl ?_
      refine og_goto (pc := 49) (tgt := 2) dX8_isLower_49 (by decide) ?_
      exact ih fun j hj => by
        by_cases e : j = i
        · rw [e]; exact (og_cmp0 _ _).mp c
        · exact hP j (by omega)
    · have hne : f i ≠ g i := fun q => c ((og_cmp0 _ _).mpr q)
      refine og_aload_n (pc := 24) dX8_isLower_24 rfl ?_
      refine og_get (pc := 25) F_X8_57 dX8_isLower_25 (by repeat (first | exact og_set_eq _ _ _ | assumption | refine (og_set_ne _ _ (by first | assumption | omega)).trans ?_)) (by omega) rfl ?_
      refine og_iload_n (pc := 28) dX8_isLower_28 rfl ?_
      refine og_laldN (pc := 29) rfl dX8_isLower_29 (by repeat (first | exact og_set_eq _ _ _ | assumption | refine (og_set_ne _ _ (by first | assumption | omega)).trans ?_)) (by omega) (by omega) (by first | decide | assumption | omega) ?_
      refine og_aload_n (pc := 30) dX8_isLower_30 rfl ?_
      refine og_get (pc := 31) F_X8_51 dX8_isLower_31 (by repeat (first | exact og_set_eq _ _ _ | assumption | refine (og_set_ne _ _ (by first | assumption | omega)).trans ?_)) (by omega) rfl ?_
      refine og_iload_n (pc := 34) dX8_isLower_34 rfl ?_
      refine og_laldN (pc := 35) rfl dX8_isLower_35 (by repeat (first | exact og_set_eq _ _ _ | assumption | refine (og_set_ne _ _ (by first | assumption | omega)).trans ?_)) (by omega) (by omega) (by first | decide | assumption | omega) ?_
      refine og_lcmp (pc := 36) dX8_isLower_36 ?_
      refine og_if_ge (pc := 37) (tgt := 44) dX8_isLower_37 (by decide) (fun c2 => ?_) (fun c2 => ?_)
      · refine og_iconst (pc := 44) (v := 0) dX8_isLower_44 (by decide) ?_
        refine og_zret (pc := 45) hr rfl dX8_isLower_45 (by omega) (by omega) ⟨rfl, rfl, Or.inr ⟨rfl, ?_⟩⟩
        rintro ⟨k, hk, k1, k2⟩
        rcases Nat.lt_trichotomy k i with q | q | q
        · rw [hP k q] at k2
          exact absurd k2 (Int64.lt_irrefl)
        · subst q
          exact og_lel c2 ((og_cmpL _ _).mpr k2)
        · exact hne (k1 i q)
      · refine og_iconst (pc := 40) (v := 1) dX8_isLower_40 (by decide) ?_
        refine og_goto (pc := 41) (tgt := 45) dX8_isLower_41 (by decide) ?_
        exact og_zret (pc := 45) hr rfl dX8_isLower_45 (by omega) (by omega) ⟨rfl, rfl, Or.inl ⟨rfl, i, hi, hP, (og_cmpL _ _).mp (og_nle c2)⟩⟩
