/-! ===== the constructors of the class ===== -/
def q_one (r : Nat) : Nat → Int64 := vp_updL (fun _ => 0) r 2
def q_st0 : og_SD := (q_one, 1, 0, 0)
theorem og_mh_at (h : og_H) (n N K : Nat) : og_mh h n N K n = some (og_grid n N) := if_pos rfl
theorem og_mh_row (h : og_H) (n N K i : Nat) (hi : i < N) : og_mh h n N K (n + 1 + i) = some (og_zrow K) := by
  unfold og_mh
  rw [if_neg (by omega), if_pos (by omega)]
theorem og_mh_ne (h : og_H) (n N K a : Nat) (ha : a < n) : og_mh h n N K a = h a := by
  unfold og_mh
  rw [if_neg (by omega), if_neg (by omega)]
set_option maxRecDepth 4000 in
theorem c_X4_init (E : og_E) (d b : Nat) (h : og_H) (hb : h b = some (.inr (2, [.null, .int 0, .int 0, .int 0]))) (h3b : 3 ≤ b) :
    og_M E yX4_init (.code yX4_init cX4_init 2 none) d [.ref b] (b + 1) h 9 72 (fun v n1 h1 => v = none ∧ n1 = b + 10 ∧ og_Sat h1 b q_st0 ∧ ∀ a, a < b → h1 a = h a) no_x := by
  refine og_start (lv := [some (.ref b), none]) (by decide) rfl rfl (Nat.le_of_ble_eq_true rfl) fun X hr hnm htb => ?_
  refine og_aload_n (pc := 0) dX4_init_0 rfl ?_
  refine og_objInit (pc := 1) K_X4_3 I_obj C_obj dX4_init_1 (by decide) ?_
  refine og_aload_n (pc := 4) dX4_init_4 rfl ?_
  refine og_bipush (pc := 5) (v := 8) dX4_init_5 (by decide) ?_
  refine og_bipush (pc := 7) (v := 8) dX4_init_7 (by decide) ?_
  refine og_mna (pc := 9) 8 8 CL_X4_11 AC_long dX4_init_9 (by decide) (by decide) rfl rfl (by decide) (by decide) (by omega) (by omega) ?_
  have e0 : og_mh h (b + 1) 8 8 b = some (.inr (2, [.null, .int 0, .int 0, .int 0])) := (og_mh_ne _ _ _ _ _ (by omega)).trans hb
  refine og_putF (pc := 13) P_X4_13 dX4_init_13 (by repeat (first | exact og_set_eq _ _ _ | assumption | refine (og_set_ne _ _ (by first | assumption | omega)).trans ?_)) (by omega) hnm rfl rfl (Nat.le_of_ble_eq_true rfl) ?_
  refine og_aload_n (pc := 16) dX4_init_16 rfl ?_
  refine og_iconst (pc := 17) (v := 1) dX4_init_17 (by decide) ?_
  refine og_put (pc := 18) P_X4_18 dX4_init_18 (by repeat (first | exact og_set_eq _ _ _ | assumption | refine (og_set_ne _ _ (by first | assumption | omega)).trans ?_)) (by omega) rfl rfl (Nat.le_of_ble_eq_true rfl) ?_
  refine og_aload_n (pc := 21) dX4_init_21 rfl ?_
  refine og_iconst (pc := 22) (v := 0) dX4_init_22 (by decide) ?_
  refine og_put (pc := 23) P_X4_22 dX4_init_23 (by repeat (first | exact og_set_eq _ _ _ | assumption | refine (og_set_ne _ _ (by first | assumption | omega)).trans ?_)) (by omega) rfl rfl (Nat.le_of_ble_eq_true rfl) ?_
  refine og_aload_n (pc := 26) dX4_init_26 rfl ?_
  refine og_iconst (pc := 27) (v := 0) dX4_init_27 (by decide) ?_
  refine og_put (pc := 28) P_X4_25 dX4_init_28 (by repeat (first | exact og_set_eq _ _ _ | assumption | refine (og_set_ne _ _ (by first | assumption | omega)).trans ?_)) (by omega) rfl rfl (Nat.le_of_ble_eq_true rfl) ?_
  rw [og_set_set, og_set_set, og_set_set]
  refine og_abs (P := fun g => g b = some (og_so b q_st0) ∧ g (b + 1) = some (og_grid (b + 1) 8) ∧ (∀ r, r < 8 → g (b + 2 + r) = some (rowL (fun _ => 0))) ∧ ∀ a, a < b → g a = h a) ⟨og_set_eq _ _ _, (og_set_ne _ _ (by omega)).trans (og_mh_at _ _ _ _), fun r hr => (og_set_ne _ _ (by omega)).trans (by rw [show b + 2 + r = b + 1 + 1 + r by omega]; exact og_mh_row _ _ _ _ _ hr), fun a ha => (og_set_ne _ _ (by omega)).trans (og_mh_ne _ _ _ _ _ (by omega))⟩ fun g ⟨g1, g2, g3, g4⟩ => ?_
  refine og_iconst (pc := 31) (v := 0) dX4_init_31 (by decide) ?_
  refine og_istore_n_1 (pc := 32) dX4_init_32 rfl ?_
  have loop : ∀ k i : Nat, i + k = 8 → ∀ g : og_H, g b = some (og_so b q_st0) → g (b + 1) = some (og_grid (b + 1) 8) → (∀ r, r < 8 → g (b + 2 + r) = some (rowL (if r < i then q_one r else fun _ => 0))) → (∀ a, a < b → g a = h a) → og_G E yX4_init.cls cX4_init d 9 72 2 X (og_Q E (fun v n1 h1 => v = none ∧ n1 = b + 10 ∧ og_Sat h1 b q_st0 ∧ ∀ a, a < b → h1 a = h a) no_x 9 72 X) (0 + 1 + 8) (0 + 8 + 8 * 8) (b + 1 + 1 + 8) g 33 [some (.ref b), some (.int (nI i))] [] := by
    intro k
    induction k with
    | zero =>
      intro i hi g g1 g2 g3 g4
      have ei : i = 8 := by omega
      subst ei
      refine og_iload_n (pc := 33) dX4_init_33 rfl ?_
      refine og_bipush (pc := 34) (v := 8) dX4_init_34 (by decide) ?_
      refine og_geN (pc := 36) (tgt := 56) (i := 8) (N := 8) dX4_init_36 (by decide) rfl rfl (by omega) (by omega) (fun c_36 => ?_) (fun c_36 => ?_)
      · exact og_vret (pc := 56) hr dX4_init_56 (by omega) (by omega) ⟨rfl, rfl, ⟨g1, g2, fun r hr => by rw [g3 r hr, if_pos hr]; rfl⟩, g4⟩
      · omega
    | succ k ih =>
      intro i hi g g1 g2 g3 g4
      have hi8 : i < 8 := by omega
      have gi := g3 i hi8
      rw [if_neg (by omega)] at gi
      have gb : (if i < 8 then some (b + 1 + 1 + i) else none) = some (b + 2 + i) := if_pos hi8
      refine og_iload_n (pc := 33) dX4_init_33 rfl ?_
      refine og_bipush (pc := 34) (v := 8) dX4_init_34 (by decide) ?_
      refine og_geN (pc := 36) (tgt := 56) (i := i) (N := 8) dX4_init_36 (by decide) rfl rfl (by omega) (by omega) (fun c_36 => ?_) (fun c_36 => ?_)
      · omega
      refine og_aload_n (pc := 39) dX4_init_39 rfl ?_
      refine og_get (pc := 40) F_X4_13 dX4_init_40 (by repeat (first | exact og_set_eq _ _ _ | assumption | refine (og_set_ne _ _ (by first | assumption | omega)).trans ?_)) (by omega) rfl ?_
      refine og_iload_n (pc := 43) dX4_init_43 rfl ?_
      refine og_aaldN (pc := 44) rfl dX4_init_44 g2 (by omega) (by decide) (by decide) (by omega) (by first | decide | assumption | omega) gb ?_
      refine og_iload_n (pc := 45) dX4_init_45 rfl ?_
      refine og_ldc2 (pc := 46) LC_X4_28 dX4_init_46 ?_
      refine og_lastN (pc := 49) rfl dX4_init_49 gi (by omega) (by omega) (by first | decide | assumption | omega) ?_
      refine og_iinc_1 (pc := 50) dX4_init_50 (og_inc i) rfl ?_
      refine og_goto (pc := 53) (tgt := 33) dX4_init_53 (by decide) ?_
      refine ih (i + 1) (by omega) _ ((og_set_ne _ _ (by omega)).trans g1) ((og_set_ne _ _ (by omega)).trans g2) (fun r hr => ?_) (fun a ha => (og_set_ne _ _ (by omega)).trans (g4 a ha))
      by_cases e : r = i
      · subst e
        rw [og_set_eq, if_pos (by omega)]
        rfl
      · rw [og_set_ne _ _ (by omega), g3 r hr]
        by_cases q : r < i
        · rw [if_pos q, if_pos (by omega)]
        · rw [if_neg q, if_neg (by omega)]
  exact loop 8 0 rfl g g1 g2 (fun r hr => by rw [if_neg (by omega)]; exact g3 r hr) g4
theorem c_X5_init (E : og_E) (d : Nat) (h : og_H) (hb : h 70 = some (.inr (3, [.null, .int 0, .int 0]))) :
    og_M E yX5_init (.code yX5_init cX5_init 1 none) d [.ref 70] 71 h 1 100 (fun v n1 h1 => v = none ∧ n1 = 72 ∧ h1 70 = some (og_tx 0 0) ∧ h1 71 = some (rowB (fun _ => 0)) ∧ ∀ a, a < 70 → h1 a = h a) no_x := by
  refine og_start (lv := [some (.ref 70)]) (by decide) rfl rfl (Nat.le_of_ble_eq_true rfl) fun X hr hnm htb => ?_
  refine og_aload_n (pc := 0) dX5_init_0 rfl ?_
  refine og_objInit (pc := 1) K_X5_3 I_obj C_obj dX5_init_1 (by decide) ?_
  refine og_aload_n (pc := 4) dX5_init_4 rfl ?_
  refine og_bipush (pc := 5) (v := 100) dX5_init_5 (by decide) ?_
  refine og_newa (pc := 7) (k := 0) (N := 100) (x := (100, .inl (fun _ => 0))) (atype := .byte) AC_byte rfl (by decide) dX5_init_7 (fun _ => rfl) (by decide) (by decide) (by decide) (by omega) (by omega) ?_
  have e0 : og_set h 71 (rowB (fun _ => 0)) 70 = some (.inr (3, [.null, .int 0, .int 0])) := (og_set_ne _ _ (by omega)).trans hb
  refine og_putF (pc := 9) P_X5_11 dX5_init_9 (by repeat (first | exact og_set_eq _ _ _ | assumption | refine (og_set_ne _ _ (by first | assumption | omega)).trans ?_)) (by omega) hnm rfl rfl (Nat.le_of_ble_eq_true rfl) ?_
  refine og_aload_n (pc := 12) dX5_init_12 rfl ?_
  refine og_iconst (pc := 13) (v := 0) dX5_init_13 (by decide) ?_
  refine og_put (pc := 14) P_X5_15 dX5_init_14 (by repeat (first | exact og_set_eq _ _ _ | assumption | refine (og_set_ne _ _ (by first | assumption | omega)).trans ?_)) (by omega) rfl rfl (Nat.le_of_ble_eq_true rfl) ?_
  refine og_aload_n (pc := 17) dX5_init_17 rfl ?_
  refine og_iconst (pc := 18) (v := 0) dX5_init_18 (by decide) ?_
  refine og_put (pc := 19) P_X5_19 dX5_init_19 (by repeat (first | exact og_set_eq _ _ _ | assumption | refine (og_set_ne _ _ (by first | assumption | omega)).trans ?_)) (by omega) rfl rfl (Nat.le_of_ble_eq_true rfl) ?_
  rw [og_set_set, og_set_set]
  exact og_vret (pc := 22) hr dX5_init_22 (by omega) (by omega) ⟨rfl, rfl, og_set_eq _ _ _, (og_set_ne _ _ (by omega)).trans (og_set_eq _ _ _), fun a ha => (og_set_ne _ _ (by omega)).trans (og_set_ne _ _ (by omega))⟩
def og_z8 (h : og_H) (n : Nat) : og_H := og_set h n (rowL (fun _ => 0))
set_option maxRecDepth 4000 in
theorem c_X1_init (E : og_E) (d : Nat) (h : og_H) (hb : h 56 = some (.inr (1, [.null, .null, .null, .null, .null, .null, .null, .null, .null]))) :
    og_M E yX1_init (.code yX1_init cX1_init 1 none) d [.ref 56] 57 h 13 92 (fun v n1 h1 => v = none ∧ n1 = 70 ∧ h1 56 = some og_DV ∧ h1 64 = some (og_grid 64 2) ∧ h1 67 = some (og_grid 67 2) ∧ (∀ k, (57 ≤ k ∧ k < 64) ∨ (65 ≤ k ∧ k < 67) ∨ (68 ≤ k ∧ k < 70) → ∃ f, h1 k = some (rowL f)) ∧ ∀ a, a < 56 → h1 a = h a) no_x := by
  refine og_start (lv := [some (.ref 56)]) (by decide) rfl rfl (Nat.le_of_ble_eq_true rfl) fun X hr hnm htb => ?_
  refine og_aload_n (pc := 0) dX1_init_0 rfl ?_
  refine og_objInit (pc := 1) K_X1_3 I_obj C_obj dX1_init_1 (by decide) ?_
  refine og_aload_n (pc := 4) dX1_init_4 rfl ?_
  refine og_bipush (pc := 5) (v := 8) dX1_init_5 (by decide) ?_
  refine og_newa (pc := 7) (k := 2) (N := 8) (x := (8, .inr (.inl (fun _ => 0)))) (atype := .long) AC_long rfl (by decide) dX1_init_7 (fun _ => rfl) (by decide) (by decide) (by decide) (by omega) (by omega) ?_
  have e0 := (og_set_ne h (rowL (fun _ => 0)) (show 56 ≠ 57 by omega)).trans hb
  refine og_putF (pc := 9) P_X1_11 dX1_init_9 e0 (by omega) hnm rfl rfl (Nat.le_of_ble_eq_true rfl) ?_
  refine og_abs (P := fun g => g 56 = some (.inr (1, [.ref 57, .null, .null, .null, .null, .null, .null, .null, .null])) ∧ (∀ k, 57 ≤ k ∧ k < 58 → ∃ f, g k = some (rowL f)) ∧ ∀ a, a < 56 → g a = h a) ⟨og_set_eq _ _ _, fun k hk => ⟨fun _ => 0, by rw [show k = 57 by omega]; exact (og_set_ne _ _ (by omega)).trans (og_set_eq _ _ _)⟩, fun a ha => (og_set_ne _ _ (by omega)).trans (og_set_ne _ _ (by omega))⟩ fun g ⟨g0, g1, g2⟩ => ?_
  refine og_aload_n (pc := 12) dX1_init_12 rfl ?_
  refine og_bipush (pc := 13) (v := 8) dX1_init_13 (by decide) ?_
  refine og_newa (pc := 15) (k := 2) (N := 8) (x := (8, .inr (.inl (fun _ => 0)))) (atype := .long) AC_long rfl (by decide) dX1_init_15 (fun _ => rfl) (by decide) (by decide) (by decide) (by omega) (by omega) ?_
  have e0 := (og_set_ne g (rowL (fun _ => 0)) (show 56 ≠ 58 by omega)).trans g0
  refine og_putF (pc := 17) P_X1_17 dX1_init_17 e0 (by omega) hnm rfl rfl (Nat.le_of_ble_eq_true rfl) ?_
  refine og_abs (P := fun g => g 56 = some (.inr (1, [.ref 57, .ref 58, .null, .null, .null, .null, .null, .null, .null])) ∧ (∀ k, 57 ≤ k ∧ k < 59 → ∃ f, g k = some (rowL f)) ∧ ∀ a, a < 56 → g a = h a) ⟨og_set_eq _ _ _, fun k hk => ?_, fun a ha => (og_set_ne _ _ (by omega)).trans ((og_set_ne _ _ (by omega)).trans (g2 a ha))⟩ fun g ⟨g0, g1, g2⟩ => ?_
  · rw [og_set_ne _ _ (by omega)]
    by_cases q : k = 58
    · exact ⟨_, by rw [q, og_set_eq]⟩
    · rw [og_set_ne _ _ q]; exact g1 k (by omega)
  refine og_aload_n (pc := 20) dX1_init_20 rfl ?_
  refine og_bipush (pc := 21) (v := 8) dX1_init_21 (by decide) ?_
  refine og_newa (pc := 23) (k := 2) (N := 8) (x := (8, .inr (.inl (fun _ => 0)))) (atype := .long) AC_long rfl (by decide) dX1_init_23 (fun _ => rfl) (by decide) (by decide) (by decide) (by omega) (by omega) ?_
  have e0 := (og_set_ne g (rowL (fun _ => 0)) (show 56 ≠ 59 by omega)).trans g0
  refine og_putF (pc := 25) P_X1_20 dX1_init_25 e0 (by omega) hnm rfl rfl (Nat.le_of_ble_eq_true rfl) ?_
  refine og_abs (P := fun g => g 56 = some (.inr (1, [.ref 57, .ref 58, .ref 59, .null, .null, .null, .null, .null, .null])) ∧ (∀ k, 57 ≤ k ∧ k < 60 → ∃ f, g k = some (rowL f)) ∧ ∀ a, a < 56 → g a = h a) ⟨og_set_eq _ _ _, fun k hk => ?_, fun a ha => (og_set_ne _ _ (by omega)).trans ((og_set_ne _ _ (by omega)).trans (g2 a ha))⟩ fun g ⟨g0, g1, g2⟩ => ?_
  · rw [og_set_ne _ _ (by omega)]
    by_cases q : k = 59
    · exact ⟨_, by rw [q, og_set_eq]⟩
    · rw [og_set_ne _ _ q]; exact g1 k (by omega)
  refine og_aload_n (pc := 28) dX1_init_28 rfl ?_
  refine og_bipush (pc := 29) (v := 8) dX1_init_29 (by decide) ?_
  refine og_newa (pc := 31) (k := 2) (N := 8) (x := (8, .inr (.inl (fun _ => 0)))) (atype := .long) AC_long rfl (by decide) dX1_init_31 (fun _ => rfl) (by decide) (by decide) (by decide) (by omega) (by omega) ?_
  have e0 := (og_set_ne g (rowL (fun _ => 0)) (show 56 ≠ 60 by omega)).trans g0
  refine og_putF (pc := 33) P_X1_23 dX1_init_33 e0 (by omega) hnm rfl rfl (Nat.le_of_ble_eq_true rfl) ?_
  refine og_abs (P := fun g => g 56 = some (.inr (1, [.ref 57, .ref 58, .ref 59, .ref 60, .null, .null, .null, .null, .null])) ∧ (∀ k, 57 ≤ k ∧ k < 61 → ∃ f, g k = some (rowL f)) ∧ ∀ a, a < 56 → g a = h a) ⟨og_set_eq _ _ _, fun k hk => ?_, fun a ha => (og_set_ne _ _ (by omega)).trans ((og_set_ne _ _ (by omega)).trans (g2 a ha))⟩ fun g ⟨g0, g1, g2⟩ => ?_
  · rw [og_set_ne _ _ (by omega)]
    by_cases q : k = 60
    · exact ⟨_, by rw [q, og_set_eq]⟩
    · rw [og_set_ne _ _ q]; exact g1 k (by omega)
  refine og_aload_n (pc := 36) dX1_init_36 rfl ?_
  refine og_bipush (pc := 37) (v := 8) dX1_init_37 (by decide) ?_
  refine og_newa (pc := 39) (k := 2) (N := 8) (x := (8, .inr (.inl (fun _ => 0)))) (atype := .long) AC_long rfl (by decide) dX1_init_39 (fun _ => rfl) (by decide) (by decide) (by decide) (by omega) (by omega) ?_
  have e0 := (og_set_ne g (rowL (fun _ => 0)) (show 56 ≠ 61 by omega)).trans g0
  refine og_putF (pc := 41) P_X1_26 dX1_init_41 e0 (by omega) hnm rfl rfl (Nat.le_of_ble_eq_true rfl) ?_
  refine og_abs (P := fun g => g 56 = some (.inr (1, [.ref 57, .ref 58, .ref 59, .ref 60, .ref 61, .null, .null, .null, .null])) ∧ (∀ k, 57 ≤ k ∧ k < 62 → ∃ f, g k = some (rowL f)) ∧ ∀ a, a < 56 → g a = h a) ⟨og_set_eq _ _ _, fun k hk => ?_, fun a ha => (og_set_ne _ _ (by omega)).trans ((og_set_ne _ _ (by omega)).trans (g2 a ha))⟩ fun g ⟨g0, g1, g2⟩ => ?_
  · rw [og_set_ne _ _ (by omega)]
    by_cases q : k = 61
    · exact ⟨_, by rw [q, og_set_eq]⟩
    · rw [og_set_ne _ _ q]; exact g1 k (by omega)
  refine og_aload_n (pc := 44) dX1_init_44 rfl ?_
  refine og_bipush (pc := 45) (v := 8) dX1_init_45 (by decide) ?_
  refine og_newa (pc := 47) (k := 2) (N := 8) (x := (8, .inr (.inl (fun _ => 0)))) (atype := .long) AC_long rfl (by decide) dX1_init_47 (fun _ => rfl) (by decide) (by decide) (by decide) (by omega) (by omega) ?_
  have e0 := (og_set_ne g (rowL (fun _ => 0)) (show 56 ≠ 62 by omega)).trans g0
  refine og_putF (pc := 49) P_X1_29 dX1_init_49 e0 (by omega) hnm rfl rfl (Nat.le_of_ble_eq_true rfl) ?_
  refine og_abs (P := fun g => g 56 = some (.inr (1, [.ref 57, .ref 58, .ref 59, .ref 60, .ref 61, .ref 62, .null, .null, .null])) ∧ (∀ k, 57 ≤ k ∧ k < 63 → ∃ f, g k = some (rowL f)) ∧ ∀ a, a < 56 → g a = h a) ⟨og_set_eq _ _ _, fun k hk => ?_, fun a ha => (og_set_ne _ _ (by omega)).trans ((og_set_ne _ _ (by omega)).trans (g2 a ha))⟩ fun g ⟨g0, g1, g2⟩ => ?_
  · rw [og_set_ne _ _ (by omega)]
    by_cases q : k = 62
    · exact ⟨_, by rw [q, og_set_eq]⟩
    · rw [og_set_ne _ _ q]; exact g1 k (by omega)
  refine og_aload_n (pc := 52) dX1_init_52 rfl ?_
  refine og_bipush (pc := 53) (v := 8) dX1_init_53 (by decide) ?_
  refine og_newa (pc := 55) (k := 2) (N := 8) (x := (8, .inr (.inl (fun _ => 0)))) (atype := .long) AC_long rfl (by decide) dX1_init_55 (fun _ => rfl) (by decide) (by decide) (by decide) (by omega) (by omega) ?_
  have e0 := (og_set_ne g (rowL (fun _ => 0)) (show 56 ≠ 63 by omega)).trans g0
  refine og_putF (pc := 57) P_X1_32 dX1_init_57 e0 (by omega) hnm rfl rfl (Nat.le_of_ble_eq_true rfl) ?_
  refine og_abs (P := fun g => g 56 = some (.inr (1, [.ref 57, .ref 58, .ref 59, .ref 60, .ref 61, .ref 62, .ref 63, .null, .null])) ∧ (∀ k, 57 ≤ k ∧ k < 64 → ∃ f, g k = some (rowL f)) ∧ ∀ a, a < 56 → g a = h a) ⟨og_set_eq _ _ _, fun k hk => ?_, fun a ha => (og_set_ne _ _ (by omega)).trans ((og_set_ne _ _ (by omega)).trans (g2 a ha))⟩ fun g ⟨g0, g1, g2⟩ => ?_
  · rw [og_set_ne _ _ (by omega)]
    by_cases q : k = 63
    · exact ⟨_, by rw [q, og_set_eq]⟩
    · rw [og_set_ne _ _ q]; exact g1 k (by omega)
  refine og_aload_n (pc := 60) dX1_init_60 rfl ?_
  refine og_iconst (pc := 61) (v := 2) dX1_init_61 (by decide) ?_
  refine og_bipush (pc := 62) (v := 8) dX1_init_62 (by decide) ?_
  refine og_mna (pc := 64) 2 8 CL_X1_35 AC_long dX1_init_64 (by decide) (by decide) rfl rfl (by decide) (by decide) (by omega) (by omega) ?_
  refine og_abs (P := fun m => m 56 = some (.inr (1, [.ref 57, .ref 58, .ref 59, .ref 60, .ref 61, .ref 62, .ref 63, .null, .null])) ∧ m 64 = some (og_grid 64 2) ∧ (∀ k, (57 ≤ k ∧ k < 64) ∨ (65 ≤ k ∧ k < 67) → ∃ f, m k = some (rowL f)) ∧ ∀ a, a < 56 → m a = h a) ⟨(og_mh_ne _ _ _ _ _ (by omega)).trans g0, og_mh_at _ _ _ _, fun k hk => ?_, fun a ha => (og_mh_ne _ _ _ _ _ (by omega)).trans (g2 a ha)⟩ fun m ⟨m0, m1, m2, m3⟩ => ?_
  · by_cases q : k < 64
    · rw [og_mh_ne _ _ _ _ _ q]
      exact g1 k (by omega)
    · obtain ⟨i, rfl⟩ : ∃ i, k = 64 + 1 + i := ⟨k - 65, by omega⟩
      exact ⟨_, og_mh_row _ _ _ _ _ (by omega)⟩
  refine og_putF (pc := 68) P_X1_37 dX1_init_68 m0 (by omega) hnm rfl rfl (Nat.le_of_ble_eq_true rfl) ?_
  refine og_aload_n (pc := 71) dX1_init_71 rfl ?_
  refine og_iconst (pc := 72) (v := 2) dX1_init_72 (by decide) ?_
  refine og_bipush (pc := 73) (v := 8) dX1_init_73 (by decide) ?_
  refine og_mna (pc := 75) 2 8 CL_X1_35 AC_long dX1_init_75 (by decide) (by decide) rfl rfl (by decide) (by decide) (by omega) (by omega) ?_
  have e0 := (og_mh_ne (og_set m 56 (.inr (1, [.ref 57, .ref 58, .ref 59, .ref 60, .ref 61, .ref 62, .ref 63, .ref 64, .null]))) 67 2 8 56 (by omega)).trans (og_set_eq _ _ _)
  refine og_putF (pc := 79) P_X1_40 dX1_init_79 e0 (by omega) hnm rfl rfl (Nat.le_of_ble_eq_true rfl) ?_
  refine og_vret (pc := 82) hr dX1_init_82 (by omega) (by omega) ⟨rfl, rfl, og_set_eq _ _ _, (og_set_ne _ _ (by omega)).trans ((og_mh_ne _ _ _ _ _ (by omega)).trans ((og_set_ne _ _ (by omega)).trans m1)), (og_set_ne _ _ (by omega)).trans (og_mh_at _ _ _ _), fun k hk => ?_, fun a ha => (og_set_ne _ _ (by omega)).trans ((og_mh_ne _ _ _ _ _ (by omega)).trans ((og_set_ne _ _ (by omega)).trans (m3 a ha)))⟩
  rw [og_set_ne _ _ (by omega)]
  by_cases q : k < 67
  · rw [og_mh_ne _ _ _ _ _ q, og_set_ne _ _ (by omega)]
    exact m2 k (by omega)
  · obtain ⟨i, rfl⟩ : ∃ i, k = 67 + 1 + i := ⟨k - 68, by omega⟩
    exact ⟨_, og_mh_row _ _ _ _ _ (by omega)⟩

set_option maxRecDepth 4000 in
theorem c_X0_init (E : og_E) (d : Nat) (h : og_H) (hb : h 72 = some (.inr (0, [.null, .null, .null, .null, .null, .int 0, .int 0]))) :
    og_M E yX0_init (.code yX0_init cX0_init 2 none) d [.ref 72, .ref 70] 73 h 25 200 (fun v n1 h1 => v = none ∧ n1 = 98 ∧ h1 72 = some (og_ca 0 0) ∧ h1 73 = some (og_grid 73 7) ∧ h1 81 = some (og_grid 81 7) ∧ h1 89 = some (og_grid 89 7) ∧ (∀ k, (74 ≤ k ∧ k < 81) ∨ (82 ≤ k ∧ k < 89) ∨ (90 ≤ k ∧ k < 98) → ∃ f, h1 k = some (rowL f)) ∧ ∀ a, a < 72 → h1 a = h a) no_x := by
  refine og_start (lv := [some (.ref 72), some (.ref 70)]) (by decide) rfl rfl (Nat.le_of_ble_eq_true rfl) fun X hr hnm htb => ?_
  refine og_aload_n (pc := 0) dX0_init_0 rfl ?_
  refine og_objInit (pc := 1) K_X0_3 I_obj C_obj dX0_init_1 (by decide) ?_
  refine og_aload_n (pc := 4) dX0_init_4 rfl ?_
  refine og_bipush (pc := 5) (v := 7) dX0_init_5 (by decide) ?_
  refine og_bipush (pc := 7) (v := 8) dX0_init_7 (by decide) ?_
  refine og_mna (pc := 9) 7 8 CL_X0_13 AC_long dX0_init_9 (by decide) (by decide) rfl rfl (by decide) (by decide) (by omega) (by omega) ?_
  have e0 := (og_mh_ne h 73 7 8 72 (by omega)).trans hb
  refine og_putF (pc := 13) P_X0_15 dX0_init_13 e0 (by omega) hnm rfl rfl (Nat.le_of_ble_eq_true rfl) ?_
  refine og_aload_n (pc := 16) dX0_init_16 rfl ?_
  refine og_bipush (pc := 17) (v := 7) dX0_init_17 (by decide) ?_
  refine og_bipush (pc := 19) (v := 8) dX0_init_19 (by decide) ?_
  refine og_abs (P := fun m => m 72 = some (.inr (0, [.null, .ref 73, .null, .null, .null, .int 0, .int 0])) ∧ m 73 = some (og_grid 73 7) ∧ (∀ k, (74 ≤ k ∧ k < 81) → ∃ f, m k = some (rowL f)) ∧ ∀ a, a < 72 → m a = h a) ⟨og_set_eq _ _ _, (og_set_ne _ _ (by omega)).trans (og_mh_at _ _ _ _), fun k hk => ?_, fun a ha => (og_set_ne _ _ (by omega)).trans (og_mh_ne _ _ _ _ _ (by omega))⟩ fun m ⟨m0, m1, m2, m3⟩ => ?_
  · obtain ⟨i, rfl⟩ : ∃ i, k = 73 + 1 + i := ⟨k - 74, by omega⟩
    exact ⟨_, (og_set_ne _ _ (by omega)).trans (og_mh_row _ _ _ _ _ (by omega))⟩
  refine og_mna (pc := 21) 7 8 CL_X0_13 AC_long dX0_init_21 (by decide) (by decide) rfl rfl (by decide) (by decide) (by omega) (by omega) ?_
  have e0 := (og_mh_ne m 81 7 8 72 (by omega)).trans m0
  refine og_putF (pc := 25) P_X0_20 dX0_init_25 e0 (by omega) hnm rfl rfl (Nat.le_of_ble_eq_true rfl) ?_
  refine og_aload_n (pc := 28) dX0_init_28 rfl ?_
  refine og_bipush (pc := 29) (v := 7) dX0_init_29 (by decide) ?_
  refine og_bipush (pc := 31) (v := 8) dX0_init_31 (by decide) ?_
  refine og_abs (P := fun g => g 72 = some (.inr (0, [.null, .ref 73, .ref 81, .null, .null, .int 0, .int 0])) ∧ g 73 = some (og_grid 73 7) ∧ g 81 = some (og_grid 81 7) ∧ (∀ k, (74 ≤ k ∧ k < 81) ∨ (82 ≤ k ∧ k < 89) → ∃ f, g k = some (rowL f)) ∧ ∀ a, a < 72 → g a = h a) ⟨og_set_eq _ _ _, (og_set_ne _ _ (by omega)).trans ((og_mh_ne _ _ _ _ _ (by omega)).trans m1), (og_set_ne _ _ (by omega)).trans (og_mh_at _ _ _ _), fun k hk => ?_, fun a ha => (og_set_ne _ _ (by omega)).trans ((og_mh_ne _ _ _ _ _ (by omega)).trans (m3 a ha))⟩ fun g ⟨g0, g1, g2, g3, g4⟩ => ?_
  · by_cases q : k < 81
    · obtain ⟨f, hf⟩ := m2 k (by omega)
      exact ⟨f, (og_set_ne _ _ (by omega)).trans ((og_mh_ne _ _ _ _ _ (by omega)).trans hf)⟩
    · obtain ⟨i, rfl⟩ : ∃ i, k = 81 + 1 + i := ⟨k - 82, by omega⟩
      exact ⟨_, (og_set_ne _ _ (by omega)).trans (og_mh_row _ _ _ _ _ (by omega))⟩
  refine og_mna (pc := 33) 7 8 CL_X0_13 AC_long dX0_init_33 (by decide) (by decide) rfl rfl (by decide) (by decide) (by omega) (by omega) ?_
  have e0 := (og_mh_ne g 89 7 8 72 (by omega)).trans g0
  refine og_putF (pc := 37) P_X0_23 dX0_init_37 e0 (by omega) hnm rfl rfl (Nat.le_of_ble_eq_true rfl) ?_
  refine og_aload_n (pc := 40) dX0_init_40 rfl ?_
  refine og_bipush (pc := 41) (v := 8) dX0_init_41 (by decide) ?_
  refine og_abs (P := fun m => m 72 = some (.inr (0, [.null, .ref 73, .ref 81, .ref 89, .null, .int 0, .int 0])) ∧ m 73 = some (og_grid 73 7) ∧ m 81 = some (og_grid 81 7) ∧ m 89 = some (og_grid 89 7) ∧ (∀ k, (74 ≤ k ∧ k < 81) ∨ (82 ≤ k ∧ k < 89) ∨ (90 ≤ k ∧ k < 97) → ∃ f, m k = some (rowL f)) ∧ ∀ a, a < 72 → m a = h a) ⟨og_set_eq _ _ _, (og_set_ne _ _ (by omega)).trans ((og_mh_ne _ _ _ _ _ (by omega)).trans g1), (og_set_ne _ _ (by omega)).trans ((og_mh_ne _ _ _ _ _ (by omega)).trans g2), (og_set_ne _ _ (by omega)).trans (og_mh_at _ _ _ _), fun k hk => ?_, fun a ha => (og_set_ne _ _ (by omega)).trans ((og_mh_ne _ _ _ _ _ (by omega)).trans (g4 a ha))⟩ fun m ⟨m0, m1, m2, m3, m4, m5⟩ => ?_
  · by_cases q : k < 89
    · obtain ⟨f, hf⟩ := g3 k (by omega)
      exact ⟨f, (og_set_ne _ _ (by omega)).trans ((og_mh_ne _ _ _ _ _ (by omega)).trans hf)⟩
    · obtain ⟨i, rfl⟩ : ∃ i, k = 89 + 1 + i := ⟨k - 90, by omega⟩
      exact ⟨_, (og_set_ne _ _ (by omega)).trans (og_mh_row _ _ _ _ _ (by omega))⟩
  refine og_newa (pc := 43) (k := 2) (N := 8) (x := (8, .inr (.inl (fun _ => 0)))) (atype := .long) AC_long rfl (by decide) dX0_init_43 (fun _ => rfl) (by decide) (by decide) (by decide) (by omega) (by omega) ?_
  have e0 := (og_set_ne m (rowL (fun _ => 0)) (show 72 ≠ 97 by omega)).trans m0
  refine og_putF (pc := 45) P_X0_26 dX0_init_45 e0 (by omega) hnm rfl rfl (Nat.le_of_ble_eq_true rfl) ?_
  refine og_aload_n (pc := 48) dX0_init_48 rfl ?_
  refine og_iconst (pc := 49) (v := 0) dX0_init_49 (by decide) ?_
  refine og_put (pc := 50) P_X0_30 dX0_init_50 (by repeat (first | exact og_set_eq _ _ _ | assumption | refine (og_set_ne _ _ (by first | assumption | omega)).trans ?_)) (by omega) rfl rfl (Nat.le_of_ble_eq_true rfl) ?_
  refine og_aload_n (pc := 53) dX0_init_53 rfl ?_
  refine og_iconst (pc := 54) (v := 0) dX0_init_54 (by decide) ?_
  refine og_put (pc := 55) P_X0_34 dX0_init_55 (by repeat (first | exact og_set_eq _ _ _ | assumption | refine (og_set_ne _ _ (by first | assumption | omega)).trans ?_)) (by omega) rfl rfl (Nat.le_of_ble_eq_true rfl) ?_
  refine og_aload_n (pc := 58) dX0_init_58 rfl ?_
  refine og_aload_n (pc := 59) dX0_init_59 rfl ?_
  refine og_putF (pc := 60) P_X0_37 dX0_init_60 (by repeat (first | exact og_set_eq _ _ _ | assumption | refine (og_set_ne _ _ (by first | assumption | omega)).trans ?_)) (by omega) hnm rfl rfl (Nat.le_of_ble_eq_true rfl) ?_
  rw [og_set_set, og_set_set, og_set_set]
  refine og_vret (pc := 63) hr dX0_init_63 (by omega) (by omega) ⟨rfl, rfl, og_set_eq _ _ _, (og_set_ne _ _ (by omega)).trans ((og_set_ne _ _ (by omega)).trans m1), (og_set_ne _ _ (by omega)).trans ((og_set_ne _ _ (by omega)).trans m2), (og_set_ne _ _ (by omega)).trans ((og_set_ne _ _ (by omega)).trans m3), fun k hk => ?_, fun a ha => (og_set_ne _ _ (by omega)).trans ((og_set_ne _ _ (by omega)).trans (m5 a ha))⟩
  by_cases q : k = 97
  · exact ⟨fun _ => 0, by rw [q]; exact (og_set_ne _ _ (by omega)).trans (og_set_eq _ _ _)⟩
  · obtain ⟨f, hf⟩ := m4 k (by omega)
    exact ⟨f, (og_set_ne _ _ (by omega)).trans ((og_set_ne _ _ q).trans hf)⟩
