/-! ===== Math.floorDiv; Division: findNearest, comesFirst, chooseQuotient, at its fixed cells 56..69 ===== -/
def q_fd (x y : Int64) : Int64 := if x ^^^ y < 0 ∧ x / y * y ≠ x then x / y - 1 else x / y
set_option maxRecDepth 4000 in
theorem c_J9_floorDiv (E : og_E) (d n : Nat) (h : og_H) (x y : Int64) (hy : ¬ y = 0) :
    og_M E yJ9_floorDiv_f86c9 (.code yJ9_floorDiv_f86c9 cJ9_floorDiv_f86c9 6 (some .long)) d [.long x, .long y] n h 0 0 (fun v n1 h1 => v = some (.long (q_fd x y)) ∧ n1 = n ∧ h1 = h) no_x := by
  refine og_start (lv := [some (.long x), none, some (.long y), none, none, none]) (by decide +kernel) rfl rfl (Nat.le_of_ble_eq_true rfl) fun X hr hnm htb => ?_
  refine og_lload_n (pc := 0) dJ9_floorDiv_f86c9_0 rfl ?_
  refine og_lload_n (pc := 1) dJ9_floorDiv_f86c9_1 rfl ?_
  refine og_ldiv (pc := 2) dJ9_floorDiv_f86c9_2 hy ?_
  refine og_lstore_4 (pc := 3) dJ9_floorDiv_f86c9_3 rfl ?_
  refine og_lload_n (pc := 5) dJ9_floorDiv_f86c9_5 rfl ?_
  refine og_lload_n (pc := 6) dJ9_floorDiv_f86c9_6 rfl ?_
  refine og_lxor (pc := 7) dJ9_floorDiv_f86c9_7 ?_
  refine og_lconst (pc := 8) (v := 0) dJ9_floorDiv_f86c9_8 (by decide) ?_
  refine og_lcmp (pc := 9) dJ9_floorDiv_f86c9_9 ?_
  refine og_if_ge (pc := 10) (tgt := 27) dJ9_floorDiv_f86c9_10 (by decide) (fun c_10 => ?_) (fun c_10 => ?_)
  · refine og_lload (pc := 27) dJ9_floorDiv_f86c9_27 rfl ?_
    refine og_lret (pc := 29) hr dJ9_floorDiv_f86c9_29 (by omega) (by omega) ⟨?_, rfl, rfl⟩
    rw [q_fd, if_neg (fun q => og_lel c_10 ((og_cmpL _ _).mpr q.1))]
  · refine og_lload (pc := 13) dJ9_floorDiv_f86c9_13 rfl ?_
    refine og_lload_n (pc := 15) dJ9_floorDiv_f86c9_15 rfl ?_
    refine og_lmul (pc := 16) dJ9_floorDiv_f86c9_16 ?_
    refine og_lload_n (pc := 17) dJ9_floorDiv_f86c9_17 rfl ?_
    refine og_lcmp (pc := 18) dJ9_floorDiv_f86c9_18 ?_
    refine og_if_eq (pc := 19) (tgt := 27) dJ9_floorDiv_f86c9_19 (by decide) (fun c_19 => ?_) (fun c_19 => ?_)
    · refine og_lload (pc := 27) dJ9_floorDiv_f86c9_27 rfl ?_
      refine og_lret (pc := 29) hr dJ9_floorDiv_f86c9_29 (by omega) (by omega) ⟨?_, rfl, rfl⟩
      rw [q_fd, if_neg (fun q => q.2 ((og_cmp0 _ _).mp c_19))]
    · refine og_lload (pc := 22) dJ9_floorDiv_f86c9_22 rfl ?_
      refine og_lconst (pc := 24) (v := 1) dJ9_floorDiv_f86c9_24 (by decide) ?_
      refine og_lsub (pc := 25) dJ9_floorDiv_f86c9_25 ?_
      refine og_lret (pc := 26) hr dJ9_floorDiv_f86c9_26 (by omega) (by omega) ⟨?_, rfl, rfl⟩
      rw [q_fd, if_pos ⟨(og_cmpL _ _).mp (og_nle c_10), fun q => c_19 ((og_cmp0 _ _).mpr q)⟩]
set_option maxRecDepth 4000 in
theorem c_X1_comesFirst (E : og_E) (d n a b : Nat) (h : og_H) (f g : Nat → Int64) (ha : h a = some (rowL f)) (hb : h b = some (rowL g)) (h3a : 3 ≤ a) (h3b : 3 ≤ b) :
    og_M E yX1_comesFirst (.code yX1_comesFirst cX1_comesFirst 3 (some .boolean)) d [.ref a, .ref b] n h 0 0 (fun v n1 h1 => n1 = n ∧ h1 = h ∧ ((v = some (.int 1) ∧ ∃ i, i < 8 ∧ (∀ j, j < i → f j = g j) ∧ f i < g i) ∨ (v = some (.int 0) ∧ ((∀ j, j < 8 → f j = g j) ∨ ∃ i, i < 8 ∧ (∀ j, j < i → f j = g j) ∧ f i ≠ g i ∧ ¬ f i < g i)))) no_x := by
  refine og_start (lv := [some (.ref a), some (.ref b), none]) (by decide) rfl rfl (Nat.le_of_ble_eq_true rfl) fun X hr hnm htb => ?_
  refine og_iconst (pc := 0) (v := 0) dX1_comesFirst_0 (by decide) ?_
  refine og_istore_n_2 (pc := 1) dX1_comesFirst_1 rfl ?_
  refine og_forP (i0 := 0) (N := 8) (by decide) (fun _ => h) (fun i => [some (.ref a), some (.ref b), some (.int (nI i))]) (fun i => ∀ j, j < i → f j = g j) (fun j h1 => absurd h1 (by omega)) (fun hP => ?_) (fun i hi1 hi hP ih => ?_)
  · refine og_iload_n (pc := 2) dX1_comesFirst_2 rfl ?_
    refine og_bipush (pc := 3) (v := 8) dX1_comesFirst_3 (by decide) ?_
    refine og_geN (pc := 5) (tgt := 40) (i := 8) (N := 8) dX1_comesFirst_5 (by decide) rfl rfl (by omega) (by omega) (fun c_5 => ?_) (fun c_5 => ?_)
    · refine og_iconst (pc := 40) (v := 0) dX1_comesFirst_40 (by decide) ?_
      exact og_zret (pc := 41) hr rfl dX1_comesFirst_41 (by omega) (by omega) ⟨rfl, rfl, Or.inr ⟨rfl, Or.inl hP⟩⟩
    · omega
  · refine og_iload_n (pc := 2) dX1_comesFirst_2 rfl ?_
    refine og_bipush (pc := 3) (v := 8) dX1_comesFirst_3 (by decide) ?_
    refine og_geN (pc := 5) (tgt := 40) (i := i) (N := 8) dX1_comesFirst_5 (by decide) rfl rfl (by omega) (by omega) (fun c_5 => ?_) (fun c_5 => ?_)
    · omega
    refine og_aload_n (pc := 8) dX1_comesFirst_8 rfl ?_
    refine og_iload_n (pc := 9) dX1_comesFirst_9 rfl ?_
    refine og_laldN (pc := 10) rfl dX1_comesFirst_10 (by repeat (first | exact og_set_eq _ _ _ | assumption | refine (og_set_ne _ _ (by first | assumption | omega)).trans ?_)) (by omega) (by omega) (by first | decide | assumption | omega) ?_
    refine og_aload_n (pc := 11) dX1_comesFirst_11 rfl ?_
    refine og_iload_n (pc := 12) dX1_comesFirst_12 rfl ?_
    refine og_laldN (pc := 13) rfl dX1_comesFirst_13 (by repeat (first | exact og_set_eq _ _ _ | assumption | refine (og_set_ne _ _ (by first | assumption | omega)).trans ?_)) (by omega) (by omega) (by first | decide | assumption | omega) ?_
    refine og_lcmp (pc := 14) dX1_comesFirst_14 ?_
    refine og_if_eq (pc := 15) (tgt := 34) dX1_comesFirst_15 (by decide) (fun c_15 => ?_) (fun c_15 => ?_)
    · refine og_iinc_2 (pc := 34) dX1_comesFirst_34 (og_inc i) rfl ?_
      refine og_goto (pc := 37) (tgt := 2) dX1_comesFirst_37 (by decide) ?_
      refine ih (fun j h1 => ?_)
      by_cases hj : j = i
      · subst hj
        exact (og_cmp0 _ _).mp c_15
      · exact hP j (by omega)
    · refine og_aload_n (pc := 18) dX1_comesFirst_18 rfl ?_
      refine og_iload_n (pc := 19) dX1_comesFirst_19 rfl ?_
      refine og_laldN (pc := 20) rfl dX1_comesFirst_20 (by repeat (first | exact og_set_eq _ _ _ | assumption | refine (og_set_ne _ _ (by first | assumption | omega)).trans ?_)) (by omega) (by omega) (by first | decide | assumption | omega) ?_
      refine og_aload_n (pc := 21) dX1_comesFirst_21 rfl ?_
      refine og_iload_n (pc := 22) dX1_comesFirst_22 rfl ?_
      refine og_laldN (pc := 23) rfl dX1_comesFirst_23 (by repeat (first | exact og_set_eq _ _ _ | assumption | refine (og_set_ne _ _ (by first | assumption | omega)).trans ?_)) (by omega) (by omega) (by first | decide | assumption | omega) ?_
      refine og_lcmp (pc := 24) dX1_comesFirst_24 ?_
      refine og_if_ge (pc := 25) (tgt := 32) dX1_comesFirst_25 (by decide) (fun c_25 => ?_) (fun c_25 => ?_)
      · refine og_iconst (pc := 32) (v := 0) dX1_comesFirst_32 (by decide) ?_
        exact og_zret (pc := 33) hr rfl dX1_comesFirst_33 (by omega) (by omega) ⟨rfl, rfl, Or.inr ⟨rfl, Or.inr ⟨i, hi, hP, fun q => c_15 ((og_cmp0 _ _).mpr q), fun q => og_lel c_25 ((og_cmpL _ _).mpr q)⟩⟩⟩
      · refine og_iconst (pc := 28) (v := 1) dX1_comesFirst_28 (by decide) ?_
        refine og_goto (pc := 29) (tgt := 33) dX1_comesFirst_29 (by decide) ?_
        exact og_zret (pc := 33) hr rfl dX1_comesFirst_33 (by omega) (by omega) ⟨rfl, rfl, Or.inl ⟨rfl, i, hi, hP, (og_cmpL _ _).mp (og_nle c_25)⟩⟩
/-- the halves that are nearest, even (w = 0) or odd (w = 1), and how far they are, squared -/
def q_pr (N : Int64) (p : Nat → Int64) (w i : Nat) : Int64 := -q_fd (N + (nI w).toInt64 * N - 2 * p i) (2 * N)
def q_hv (N : Int64) (p : Nat → Int64) (w i : Nat) : Int64 := 2 * q_pr N p w i + (nI w).toInt64
def q_of (N : Int64) (p : Nat → Int64) (w i : Nat) : Int64 := N * q_hv N p w i - 2 * p i
def q_ds (N : Int64) (p : Nat → Int64) (w i : Nat) : Int64 := q_of N p w i * q_of N p w i
def og_DV : og_N := .inr (1, [.ref 57, .ref 58, .ref 59, .ref 60, .ref 61, .ref 62, .ref 63, .ref 64, .ref 67])
def og_grid (b m : Nat) : og_N := .inl (6, m, .inr (.inr (.inr (.inr (fun i => if i < m then some (b + 1 + i) else none)))))
def q_FN (h : og_H) (N : Int64) (p : Nat → Int64) : Nat → og_H
  | 0 => h
  | w + 1 => og_set (og_set (q_FN h N p w) (65 + w) (rowL (q_hv N p w))) (68 + w) (rowL (q_ds N p w))
theorem q_FN_ne (h : og_H) (N : Int64) (p : Nat → Int64) (w a : Nat) (ha : a < 65 ∨ 65 + w ≤ a ∧ a < 68 ∨ 68 + w ≤ a) : q_FN h N p w a = h a := by
  induction w with
  | zero => rfl
  | succ w ih =>
    rw [q_FN, og_set_ne _ _ (by omega), og_set_ne _ _ (by omega)]
    exact ih (by omega)
set_option maxRecDepth 4000 in
theorem c_X1_findNearest (E : og_E) (d n : Nat) (h : og_H) (N : Int64) (p : Nat → Int64) (hD : h 56 = some og_DV) (hp : h 61 = some (rowL p)) (hn : h 64 = some (og_grid 64 2)) (hd : h 67 = some (og_grid 67 2)) (hr0 : ∀ k, (65 ≤ k ∧ k < 67) ∨ (68 ≤ k ∧ k < 70) → ∃ f, h k = some (rowL f)) (hN : 0 < N) (hN2 : ¬ (2 : Int64) * N = 0) :
    og_M E yX1_findNearest (.code yX1_findNearest cX1_findNearest 13 none) (d + 1) [.ref 56, .long N] n h 0 0 (fun v n1 h1 => v = none ∧ n1 = n ∧ h1 = q_FN h N p 2) no_x := by
  refine og_start (lv := [some (.ref 56), some (.long N), none, none, none, none, none, none, none, none, none, none, none]) (by decide) rfl rfl (Nat.le_of_ble_eq_true rfl) fun X hr hnm htb => ?_
  refine og_lload_n (pc := 0) dX1_findNearest_0 rfl ?_
  refine og_lconst (pc := 1) (v := 0) dX1_findNearest_1 (by decide) ?_
  refine og_lcmp (pc := 2) dX1_findNearest_2 ?_
  refine og_if_gt (pc := 3) (tgt := 7) dX1_findNearest_3 (by decide) (fun _ => ?_) (fun c_3 => absurd ((og_cmpG _ _).mpr hN) c_3)
  refine og_iconst (pc := 7) (v := 0) dX1_findNearest_7 (by decide) ?_
  refine og_istore_n_3 (pc := 8) dX1_findNearest_8 rfl ?_
  refine og_for (i0 := 0) (N := 2) (by decide) (fun w => q_FN h N p w) (fun w => [some (.ref 56), some (.long N), none, some (.int (nI w)), none, none, none, none, none, none, none, none, none]) ?_ (fun w hw1 hw ih => ?_)
  · refine og_iload_n (pc := 9) dX1_findNearest_9 rfl ?_
    refine og_iconst (pc := 10) (v := 2) dX1_findNearest_10 (by decide) ?_
    refine og_geN (pc := 11) (tgt := 114) (i := 2) (N := 2) dX1_findNearest_11 (by decide) rfl rfl (by omega) (by omega) (fun c_11 => ?_) (fun c_11 => ?_)
    · exact og_vret (pc := 114) hr dX1_findNearest_114 (by omega) (by omega) ⟨rfl, rfl, rfl⟩
    · omega
  · obtain ⟨fa, hfa⟩ := hr0 (65 + w) (by omega)
    obtain ⟨fb, hfb⟩ := hr0 (68 + w) (by omega)
    have g56 := (q_FN_ne h N p w 56 (by omega)).trans hD
    have g61 := (q_FN_ne h N p w 61 (by omega)).trans hp
    have g64 := (q_FN_ne h N p w 64 (by omega)).trans hn
    have g67 := (q_FN_ne h N p w 67 (by omega)).trans hd
    have ga := (q_FN_ne h N p w (65 + w) (by omega)).trans hfa
    have gb := (q_FN_ne h N p w (68 + w) (by omega)).trans hfb
    have ne1 : 56 ≠ 65 + w := by omega
    have iw : (if w < 2 then some (64 + 1 + w) else none) = some (65 + w) := by rw [if_pos hw]
    have iv : (if w < 2 then some (67 + 1 + w) else none) = some (68 + w) := by rw [if_pos hw]
    refine og_iload_n (pc := 9) dX1_findNearest_9 rfl ?_
    refine og_iconst (pc := 10) (v := 2) dX1_findNearest_10 (by decide) ?_
    refine og_geN (pc := 11) (tgt := 114) (i := w) (N := 2) dX1_findNearest_11 (by decide) rfl rfl (by omega) (by omega) (fun c_11 => ?_) (fun c_11 => ?_)
    · omega
    refine og_iconst (pc := 14) (v := 0) dX1_findNearest_14 (by decide) ?_
    refine og_istore_4 (pc := 15) dX1_findNearest_15 rfl ?_
    refine og_congL (fun j => if j < 0 then q_hv N p w j else fa j) ga (by omega) (fun j _ => by simp) ?_
    refine og_congL (fun j => if j < 0 then q_ds N p w j else fb j) ((og_set_ne _ _ (by omega)).trans gb) (by omega) (fun j _ => by simp) ?_
    refine og_for (i0 := 0) (N := 8) (by decide) (fun i => og_set (og_set (q_FN h N p w) (65 + w) (rowL (fun j => if j < i then q_hv N p w j else fa j))) (68 + w) (rowL (fun j => if j < i then q_ds N p w j else fb j))) (fun i => [some (.ref 56), some (.long N), none, some (.int (nI w)), some (.int (nI i)), none, none, none, none, none, none, none, none]) ?_ (fun i hi1 hi ih2 => ?_)
    · refine og_iload (pc := 17) dX1_findNearest_17 rfl ?_
      refine og_bipush (pc := 19) (v := 8) dX1_findNearest_19 (by decide) ?_
      refine og_geN (pc := 21) (tgt := 108) (i := 8) (N := 8) dX1_findNearest_21 (by decide) rfl rfl (by omega) (by omega) (fun c_21 => ?_) (fun c_21 => ?_)
      · refine og_congL (q_ds N p w) (og_set_eq _ _ _) (by omega) (fun j hj => by rw [if_pos (by omega)]) ?_
        rw [og_set_set, og_set_comm _ _ _ (by omega)]
        refine og_congL (q_hv N p w) (og_set_eq _ _ _) (by omega) (fun j hj => by rw [if_pos (by omega)]) ?_
        rw [og_set_set, og_set_comm _ _ _ (by omega)]
        refine og_forget_4 ?_
        refine og_iinc_3 (pc := 108) dX1_findNearest_108 (og_inc w) rfl ?_
        refine og_goto (pc := 111) (tgt := 9) dX1_findNearest_111 (by decide) ?_
        exact ih
      · omega
    · refine og_iload (pc := 17) dX1_findNearest_17 rfl ?_
      refine og_bipush (pc := 19) (v := 8) dX1_findNearest_19 (by decide) ?_
      refine og_geN (pc := 21) (tgt := 108) (i := i) (N := 8) dX1_findNearest_21 (by decide) rfl rfl (by omega) (by omega) (fun c_21 => ?_) (fun c_21 => ?_)
      · omega
      refine og_ldc2 (pc := 24) LC_X1_66 dX1_findNearest_24 ?_
      refine og_aload_n (pc := 27) dX1_findNearest_27 rfl ?_
      refine og_get (pc := 28) F_X1_26 dX1_findNearest_28 (by repeat (first | exact og_set_eq _ _ _ | assumption | refine (og_set_ne _ _ (by first | assumption | omega)).trans ?_)) (by omega) rfl ?_
      refine og_iload (pc := 31) dX1_findNearest_31 rfl ?_
      refine og_laldN (pc := 33) rfl dX1_findNearest_33 (by repeat (first | exact og_set_eq _ _ _ | assumption | refine (og_set_ne _ _ (by first | assumption | omega)).trans ?_)) (by omega) (by omega) (by first | decide | assumption | omega) ?_
      refine og_lmul (pc := 34) dX1_findNearest_34 ?_
      refine og_lstore_5 (pc := 35) dX1_findNearest_35 rfl ?_
      refine og_lload_n (pc := 37) dX1_findNearest_37 rfl ?_
      refine og_iload_n (pc := 38) dX1_findNearest_38 rfl ?_
      refine og_i2l (pc := 39) dX1_findNearest_39 rfl ?_
      refine og_lload_n (pc := 40) dX1_findNearest_40 rfl ?_
      refine og_lmul (pc := 41) dX1_findNearest_41 ?_
      refine og_ladd (pc := 42) dX1_findNearest_42 ?_
      refine og_lload (pc := 43) dX1_findNearest_43 rfl ?_
      refine og_lsub (pc := 45) dX1_findNearest_45 ?_
      refine og_ldc2 (pc := 46) LC_X1_66 dX1_findNearest_46 ?_
      refine og_lload_n (pc := 49) dX1_findNearest_49 rfl ?_
      refine og_lmul (pc := 50) dX1_findNearest_50 ?_
      refine og_callS (pc := 51) (As := [.long (N + (nI w).toInt64 * N - 2 * p i), .long (2 * N)]) (rest := []) (c_J9_floorDiv E d n _ _ _ hN2) Y_J9_floorDiv_f86c9 S_J9_floorDiv_f86c9 K_X1_68 dX1_findNearest_51 rfl rfl (Nat.le_of_ble_eq_true rfl) (by omega) (by omega) (by omega) (fun _ _ _ z => z) (fun v n1 h1 z => ?_)
      obtain ⟨rfl, rfl, rfl⟩ := z
      refine og_lneg (pc := 54) dX1_findNearest_54 ?_
      refine og_lstore_7 (pc := 55) dX1_findNearest_55 rfl ?_
      refine og_ldc2 (pc := 57) LC_X1_66 dX1_findNearest_57 ?_
      refine og_lload (pc := 60) dX1_findNearest_60 rfl ?_
      refine og_lmul (pc := 62) dX1_findNearest_62 ?_
      refine og_iload_n (pc := 63) dX1_findNearest_63 rfl ?_
      refine og_i2l (pc := 64) dX1_findNearest_64 rfl ?_
      refine og_ladd (pc := 65) dX1_findNearest_65 ?_
      refine og_lstore_9 (pc := 66) dX1_findNearest_66 rfl ?_
      refine og_lload_n (pc := 68) dX1_findNearest_68 rfl ?_
      refine og_lload (pc := 69) dX1_findNearest_69 rfl ?_
      refine og_lmul (pc := 71) dX1_findNearest_71 ?_
      refine og_lload (pc := 72) dX1_findNearest_72 rfl ?_
      refine og_lsub (pc := 74) dX1_findNearest_74 ?_
      refine og_lstore_11 (pc := 75) dX1_findNearest_75 rfl ?_
      refine og_aload_n (pc := 77) dX1_findNearest_77 rfl ?_
      refine og_get (pc := 78) F_X1_37 dX1_findNearest_78 (by repeat (first | exact og_set_eq _ _ _ | assumption | refine (og_set_ne _ _ (by first | assumption | omega)).trans ?_)) (by omega) rfl ?_
      refine og_iload_n (pc := 81) dX1_findNearest_81 rfl ?_
      refine og_aaldN (pc := 82) rfl dX1_findNearest_82 ((og_set_ne _ _ (by omega)).trans ((og_set_ne _ _ (by omega)).trans g64)) (by omega) (by decide) (by decide) (by omega) (by first | decide | assumption | omega) iw ?_
      refine og_iload (pc := 83) dX1_findNearest_83 rfl ?_
      refine og_lload (pc := 85) dX1_findNearest_85 rfl ?_
      refine og_lastN (pc := 87) rfl dX1_findNearest_87 (by repeat (first | exact og_set_eq _ _ _ | assumption | refine (og_set_ne _ _ (by first | assumption | omega)).trans ?_)) (by omega) (by omega) (by first | decide | assumption | omega) ?_
      rw [og_set_comm (og_set (q_FN h N p w) (65 + w) _) _ _ (by omega), og_set_set, og_fill (by rfl)]
      refine og_aload_n (pc := 88) dX1_findNearest_88 rfl ?_
      refine og_get (pc := 89) F_X1_40 dX1_findNearest_89 (by repeat (first | exact og_set_eq _ _ _ | assumption | refine (og_set_ne _ _ (by first | assumption | omega)).trans ?_)) (by omega) rfl ?_
      refine og_iload_n (pc := 92) dX1_findNearest_92 rfl ?_
      refine og_aaldN (pc := 93) rfl dX1_findNearest_93 ((og_set_ne _ _ (by omega)).trans ((og_set_ne _ _ (by omega)).trans g67)) (by omega) (by decide) (by decide) (by omega) (by first | decide | assumption | omega) iv ?_
      refine og_iload (pc := 94) dX1_findNearest_94 rfl ?_
      refine og_lload (pc := 96) dX1_findNearest_96 rfl ?_
      refine og_lload (pc := 98) dX1_findNearest_98 rfl ?_
      refine og_lmul (pc := 100) dX1_findNearest_100 ?_
      refine og_lastN (pc := 101) rfl dX1_findNearest_101 (by repeat (first | exact og_set_eq _ _ _ | assumption | refine (og_set_ne _ _ (by first | assumption | omega)).trans ?_)) (by omega) (by omega) (by first | decide | assumption | omega) ?_
      refine og_iinc_4 (pc := 102) dX1_findNearest_102 (og_inc i) rfl ?_
      refine og_goto (pc := 105) (tgt := 17) dX1_findNearest_105 (by decide) ?_
      rw [og_set_set, og_fill (by rfl)]
      exact og_forget_5 (og_forget_7 (og_forget_9 (og_forget_11 ih2)))
