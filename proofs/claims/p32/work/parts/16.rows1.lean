/-! ===== Rows: copy, clear, mirror, scale, total ===== -/
def no_x : String → Nat → og_H → Prop := fun _ _ _ => False
set_option maxRecDepth 4000 in
theorem c_X3_copy (E : og_E) (d n a b : Nat) (h : og_H) (f g : Nat → Int64) (ha : h a = some (rowL f)) (hb : h b = some (rowL g)) (hab : a ≠ b) (h3a : 3 ≤ a) (h3b : 3 ≤ b) :
    og_M E yX3_copy (.code yX3_copy cX3_copy 3 none) d [.ref a, .ref b] n h 0 0 (fun v n1 h1 => v = none ∧ n1 = n ∧ h1 = og_set h b (rowL f)) no_x := by
  refine og_start (lv := [some (.ref a), some (.ref b), none]) (by decide) rfl rfl (Nat.le_of_ble_eq_true rfl) fun X hr hnm htb => ?_
  refine og_iconst (pc := 0) (v := 0) dX3_copy_0 (by decide) ?_
  refine og_istore_n_2 (pc := 1) dX3_copy_1 rfl ?_
  refine og_congL (fun j => if j < 0 then f j else g j) hb h3b (fun j _ => by simp) ?_
  refine og_for (i0 := 0) (N := 8) (by decide) (fun i => og_set h b (rowL (fun j => if j < i then f j else g j))) (fun i => [some (.ref a), some (.ref b), some (.int (nI i))]) ?_ (fun i _ hi ih => ?_)
  · refine og_iload_n (pc := 2) dX3_copy_2 rfl ?_
    refine og_bipush (pc := 3) (v := 8) dX3_copy_3 (by decide) ?_
    refine og_geN (pc := 5) (tgt := 20) (i := 8) (N := 8) dX3_copy_5 (by decide) rfl rfl (by omega) (by omega) (fun c_5 => ?_) (fun c_5 => ?_)
    · refine og_congL f (og_set_eq _ _ _) h3b (fun j hj => by rw [if_pos (by omega)]) ?_
      rw [og_set_set]
      exact og_vret (pc := 20) hr dX3_copy_20 (by omega) (by omega) ⟨rfl, rfl, rfl⟩
    · omega
  · refine og_iload_n (pc := 2) dX3_copy_2 rfl ?_
    refine og_bipush (pc := 3) (v := 8) dX3_copy_3 (by decide) ?_
    refine og_geN (pc := 5) (tgt := 20) (i := i) (N := 8) dX3_copy_5 (by decide) rfl rfl (by omega) (by omega) (fun c_5 => ?_) (fun c_5 => ?_)
    · omega
    refine og_aload_n (pc := 8) dX3_copy_8 rfl ?_
    refine og_iload_n (pc := 9) dX3_copy_9 rfl ?_
    refine og_aload_n (pc := 10) dX3_copy_10 rfl ?_
    refine og_iload_n (pc := 11) dX3_copy_11 rfl ?_
    refine og_laldN (pc := 12) rfl dX3_copy_12 (by repeat (first | exact og_set_eq _ _ _ | assumption | refine (og_set_ne _ _ (by first | assumption | omega)).trans ?_)) (by omega) (by omega) (by first | decide | assumption | omega) ?_
    refine og_lastN (pc := 13) rfl dX3_copy_13 (by repeat (first | exact og_set_eq _ _ _ | assumption | refine (og_set_ne _ _ (by first | assumption | omega)).trans ?_)) (by omega) (by omega) (by first | decide | assumption | omega) ?_
    refine og_iinc_2 (pc := 14) dX3_copy_14 (og_inc i) rfl ?_
    refine og_goto (pc := 17) (tgt := 2) dX3_copy_17 (by decide) ?_
    rw [og_set_set, og_fill rfl]
    exact ih
set_option maxRecDepth 4000 in
theorem c_X3_clear (E : og_E) (d n a : Nat) (h : og_H) (f : Nat → Int64) (ha : h a = some (rowL f)) (h3a : 3 ≤ a) :
    og_M E yX3_clear (.code yX3_clear cX3_clear 2 none) d [.ref a] n h 0 0 (fun v n1 h1 => v = none ∧ n1 = n ∧ h1 = og_set h a (rowL (fun _ => 0))) no_x := by
  refine og_start (lv := [some (.ref a), none]) (by decide) rfl rfl (Nat.le_of_ble_eq_true rfl) fun X hr hnm htb => ?_
  refine og_iconst (pc := 0) (v := 0) dX3_clear_0 (by decide) ?_
  refine og_istore_n_1 (pc := 1) dX3_clear_1 rfl ?_
  refine og_congL (fun j => if j < 0 then (fun _ => 0) j else f j) ha h3a (fun j _ => by simp) ?_
  refine og_for (i0 := 0) (N := 8) (by decide) (fun i => og_set h a (rowL (fun j => if j < i then (fun _ => 0) j else f j))) (fun i => [some (.ref a), some (.int (nI i))]) ?_ (fun i _ hi ih => ?_)
  · refine og_iload_n (pc := 2) dX3_clear_2 rfl ?_
    refine og_bipush (pc := 3) (v := 8) dX3_clear_3 (by decide) ?_
    refine og_geN (pc := 5) (tgt := 18) (i := 8) (N := 8) dX3_clear_5 (by decide) rfl rfl (by omega) (by omega) (fun c_5 => ?_) (fun c_5 => ?_)
    · refine og_congL (fun _ => 0) (og_set_eq _ _ _) h3a (fun j hj => by rw [if_pos (by omega)]) ?_
      rw [og_set_set]
      exact og_vret (pc := 18) hr dX3_clear_18 (by omega) (by omega) ⟨rfl, rfl, rfl⟩
    · omega
  · refine og_iload_n (pc := 2) dX3_clear_2 rfl ?_
    refine og_bipush (pc := 3) (v := 8) dX3_clear_3 (by decide) ?_
    refine og_geN (pc := 5) (tgt := 18) (i := i) (N := 8) dX3_clear_5 (by decide) rfl rfl (by omega) (by omega) (fun c_5 => ?_) (fun c_5 => ?_)
    · omega
    refine og_aload_n (pc := 8) dX3_clear_8 rfl ?_
    refine og_iload_n (pc := 9) dX3_clear_9 rfl ?_
    refine og_lconst (pc := 10) (v := 0) dX3_clear_10 (by decide) ?_
    refine og_lastN (pc := 11) rfl dX3_clear_11 (by repeat (first | exact og_set_eq _ _ _ | assumption | refine (og_set_ne _ _ (by first | assumption | omega)).trans ?_)) (by omega) (by omega) (by first | decide | assumption | omega) ?_
    refine og_iinc_1 (pc := 12) dX3_clear_12 (og_inc i) rfl ?_
    refine og_goto (pc := 15) (tgt := 2) dX3_clear_15 (by decide) ?_
    rw [og_set_set, og_fill (by rfl)]
    exact ih
def q_mirror (f : Nat → Int64) : Nat → Int64 := fun j => if j = 0 then f j else -f j
def q_scale (f : Nat → Int64) (t : Int64) : Nat → Int64 := fun j => f j * t
def q_total (f g : Nat → Int64) (s : Int32) : Nat → Int64 := fun j => if s = 0 then f j + g j else f j - g j
set_option maxRecDepth 4000 in
theorem c_X3_mirror (E : og_E) (d n a : Nat) (h : og_H) (f : Nat → Int64) (ha : h a = some (rowL f)) (h3a : 3 ≤ a) :
    og_M E yX3_mirror (.code yX3_mirror cX3_mirror 2 none) d [.ref a] n h 0 0 (fun v n1 h1 => v = none ∧ n1 = n ∧ h1 = og_set h a (rowL (q_mirror f))) no_x := by
  refine og_start (lv := [some (.ref a), none]) (by decide) rfl rfl (Nat.le_of_ble_eq_true rfl) fun X hr hnm htb => ?_
  refine og_iconst (pc := 0) (v := 1) dX3_mirror_0 (by decide) ?_
  refine og_istore_n_1 (pc := 1) dX3_mirror_1 rfl ?_
  refine og_congL (fun j => if j < 1 then q_mirror f j else f j) ha h3a (fun j _ => by by_cases hj : j = 0 <;> simp [hj, q_mirror]) ?_
  refine og_for (i0 := 1) (N := 8) (by decide) (fun i => og_set h a (rowL (fun j => if j < i then q_mirror f j else f j))) (fun i => [some (.ref a), some (.int (nI i))]) ?_ (fun i hi1 hi ih => ?_)
  · refine og_iload_n (pc := 2) dX3_mirror_2 rfl ?_
    refine og_bipush (pc := 3) (v := 8) dX3_mirror_3 (by decide) ?_
    refine og_geN (pc := 5) (tgt := 21) (i := 8) (N := 8) dX3_mirror_5 (by decide) rfl rfl (by omega) (by omega) (fun c_5 => ?_) (fun c_5 => ?_)
    · refine og_congL (q_mirror f) (og_set_eq _ _ _) h3a (fun j hj => by rw [if_pos (by omega)]) ?_
      rw [og_set_set]
      exact og_vret (pc := 21) hr dX3_mirror_21 (by omega) (by omega) ⟨rfl, rfl, rfl⟩
    · omega
  · refine og_iload_n (pc := 2) dX3_mirror_2 rfl ?_
    refine og_bipush (pc := 3) (v := 8) dX3_mirror_3 (by decide) ?_
    refine og_geN (pc := 5) (tgt := 21) (i := i) (N := 8) dX3_mirror_5 (by decide) rfl rfl (by omega) (by omega) (fun c_5 => ?_) (fun c_5 => ?_)
    · omega
    refine og_aload_n (pc := 8) dX3_mirror_8 rfl ?_
    refine og_iload_n (pc := 9) dX3_mirror_9 rfl ?_
    refine og_aload_n (pc := 10) dX3_mirror_10 rfl ?_
    refine og_iload_n (pc := 11) dX3_mirror_11 rfl ?_
    refine og_laldN (pc := 12) rfl dX3_mirror_12 (by repeat (first | exact og_set_eq _ _ _ | assumption | refine (og_set_ne _ _ (by first | assumption | omega)).trans ?_)) (by omega) (by omega) (by first | decide | assumption | omega) ?_
    refine og_lneg (pc := 13) dX3_mirror_13 ?_
    refine og_lastN (pc := 14) rfl dX3_mirror_14 (by repeat (first | exact og_set_eq _ _ _ | assumption | refine (og_set_ne _ _ (by first | assumption | omega)).trans ?_)) (by omega) (by omega) (by first | decide | assumption | omega) ?_
    refine og_iinc_1 (pc := 15) dX3_mirror_15 (og_inc i) rfl ?_
    refine og_goto (pc := 18) (tgt := 2) dX3_mirror_18 (by decide) ?_
    rw [og_set_set, og_fill (by rw [if_neg (by omega)]; unfold q_mirror; rw [if_neg (by omega)])]
    exact ih
set_option maxRecDepth 4000 in
theorem c_X3_total (E : og_E) (d n a b o : Nat) (h : og_H) (f g k : Nat → Int64) (s : Int32) (ha : h a = some (rowL f)) (hb : h b = some (rowL g)) (ho : h o = some (rowL k)) (hao : a ≠ o) (hbo : b ≠ o) (h3a : 3 ≤ a) (h3b : 3 ≤ b) (h3o : 3 ≤ o) :
    og_M E yX3_total (.code yX3_total cX3_total 5 none) d [.ref a, .ref b, .int s, .ref o] n h 0 0 (fun v n1 h1 => v = none ∧ n1 = n ∧ h1 = og_set h o (rowL (q_total f g s))) no_x := by
  refine og_start (lv := [some (.ref a), some (.ref b), some (.int s), some (.ref o), none]) (by decide) rfl rfl (Nat.le_of_ble_eq_true rfl) fun X hr hnm htb => ?_
  refine og_iconst (pc := 0) (v := 0) dX3_total_0 (by decide) ?_
  refine og_istore_4 (pc := 1) dX3_total_1 rfl ?_
  refine og_congL (fun j => if j < 0 then q_total f g s j else k j) ho h3o (fun j _ => by simp) ?_
  refine og_for (i0 := 0) (N := 8) (by decide) (fun i => og_set h o (rowL (fun j => if j < i then q_total f g s j else k j))) (fun i => [some (.ref a), some (.ref b), some (.int s), some (.ref o), some (.int (nI i))]) ?_ (fun i hi1 hi ih => ?_)
  · refine og_iload (pc := 3) dX3_total_3 rfl ?_
    refine og_bipush (pc := 5) (v := 8) dX3_total_5 (by decide) ?_
    refine og_geN (pc := 7) (tgt := 45) (i := 8) (N := 8) dX3_total_7 (by decide) rfl rfl (by omega) (by omega) (fun c_7 => ?_) (fun c_7 => ?_)
    · refine og_congL (q_total f g s) (og_set_eq _ _ _) h3o (fun j hj => by rw [if_pos (by omega)]) ?_
      rw [og_set_set]
      exact og_vret (pc := 45) hr dX3_total_45 (by omega) (by omega) ⟨rfl, rfl, rfl⟩
    · omega
  · refine og_iload (pc := 3) dX3_total_3 rfl ?_
    refine og_bipush (pc := 5) (v := 8) dX3_total_5 (by decide) ?_
    refine og_geN (pc := 7) (tgt := 45) (i := i) (N := 8) dX3_total_7 (by decide) rfl rfl (by omega) (by omega) (fun c_7 => ?_) (fun c_7 => ?_)
    · omega
    refine og_aload_n (pc := 10) dX3_total_10 rfl ?_
    refine og_iload (pc := 11) dX3_total_11 rfl ?_
    refine og_iload_n (pc := 13) dX3_total_13 rfl ?_
    refine og_if_eq (pc := 14) (tgt := 29) dX3_total_14 (by decide) (fun c_14 => ?_) (fun c_14 => ?_)
    · refine og_aload_n (pc := 29) dX3_total_29 rfl ?_
      refine og_iload (pc := 30) dX3_total_30 rfl ?_
      refine og_laldN (pc := 32) rfl dX3_total_32 (by repeat (first | exact og_set_eq _ _ _ | assumption | refine (og_set_ne _ _ (by first | assumption | omega)).trans ?_)) (by omega) (by omega) (by first | decide | assumption | omega) ?_
      refine og_aload_n (pc := 33) dX3_total_33 rfl ?_
      refine og_iload (pc := 34) dX3_total_34 rfl ?_
      refine og_laldN (pc := 36) rfl dX3_total_36 (by repeat (first | exact og_set_eq _ _ _ | assumption | refine (og_set_ne _ _ (by first | assumption | omega)).trans ?_)) (by omega) (by omega) (by first | decide | assumption | omega) ?_
      refine og_ladd (pc := 37) dX3_total_37 ?_
      refine og_lastN (pc := 38) rfl dX3_total_38 (by repeat (first | exact og_set_eq _ _ _ | assumption | refine (og_set_ne _ _ (by first | assumption | omega)).trans ?_)) (by omega) (by omega) (by first | decide | assumption | omega) ?_
      refine og_iinc_4 (pc := 39) dX3_total_39 (og_inc i) rfl ?_
      refine og_goto (pc := 42) (tgt := 3) dX3_total_42 (by decide) ?_
      rw [og_set_set, og_fill (by unfold q_total; rw [if_pos c_14])]
      exact ih
    · refine og_aload_n (pc := 17) dX3_total_17 rfl ?_
      refine og_iload (pc := 18) dX3_total_18 rfl ?_
      refine og_laldN (pc := 20) rfl dX3_total_20 (by repeat (first | exact og_set_eq _ _ _ | assumption | refine (og_set_ne _ _ (by first | assumption | omega)).trans ?_)) (by omega) (by omega) (by first | decide | assumption | omega) ?_
      refine og_aload_n (pc := 21) dX3_total_21 rfl ?_
      refine og_iload (pc := 22) dX3_total_22 rfl ?_
      refine og_laldN (pc := 24) rfl dX3_total_24 (by repeat (first | exact og_set_eq _ _ _ | assumption | refine (og_set_ne _ _ (by first | assumption | omega)).trans ?_)) (by omega) (by omega) (by first | decide | assumption | omega) ?_
      refine og_lsub (pc := 25) dX3_total_25 ?_
      refine og_goto (pc := 26) (tgt := 38) dX3_total_26 (by decide) ?_
      refine og_lastN (pc := 38) rfl dX3_total_38 (by repeat (first | exact og_set_eq _ _ _ | assumption | refine (og_set_ne _ _ (by first | assumption | omega)).trans ?_)) (by omega) (by omega) (by first | decide | assumption | omega) ?_
      refine og_iinc_4 (pc := 39) dX3_total_39 (og_inc i) rfl ?_
      refine og_goto (pc := 42) (tgt := 3) dX3_total_42 (by decide) ?_
      rw [og_set_set, og_fill (by unfold q_total; rw [if_neg c_14])]
      exact ih
set_option maxRecDepth 4000 in
/-- the sum goes into the first row -/
theorem c_X3_totalA (E : og_E) (d n a b : Nat) (h : og_H) (f g : Nat → Int64) (s : Int32) (ha : h a = some (rowL f)) (hb : h b = some (rowL g)) (hba : b ≠ a) (h3a : 3 ≤ a) (h3b : 3 ≤ b) :
    og_M E yX3_total (.code yX3_total cX3_total 5 none) d [.ref a, .ref b, .int s, .ref a] n h 0 0 (fun v n1 h1 => v = none ∧ n1 = n ∧ h1 = og_set h a (rowL (q_total f g s))) no_x := by
  refine og_start (lv := [some (.ref a), some (.ref b), some (.int s), some (.ref a), none]) (by decide) rfl rfl (Nat.le_of_ble_eq_true rfl) fun X hr hnm htb => ?_
  refine og_iconst (pc := 0) (v := 0) dX3_total_0 (by decide) ?_
  refine og_istore_4 (pc := 1) dX3_total_1 rfl ?_
  refine og_congL (fun j => if j < 0 then q_total f g s j else f j) ha h3a (fun j _ => by simp) ?_
  refine og_for (i0 := 0) (N := 8) (by decide) (fun i => og_set h a (rowL (fun j => if j < i then q_total f g s j else f j))) (fun i => [some (.ref a), some (.ref b), some (.int s), some (.ref a), some (.int (nI i))]) ?_ (fun i hi1 hi ih => ?_)
  · refine og_iload (pc := 3) dX3_total_3 rfl ?_
    refine og_bipush (pc := 5) (v := 8) dX3_total_5 (by decide) ?_
    refine og_geN (pc := 7) (tgt := 45) (i := 8) (N := 8) dX3_total_7 (by decide) rfl rfl (by omega) (by omega) (fun c_7 => ?_) (fun c_7 => ?_)
    · refine og_congL (q_total f g s) (og_set_eq _ _ _) h3a (fun j hj => by rw [if_pos (by omega)]) ?_
      rw [og_set_set]
      exact og_vret (pc := 45) hr dX3_total_45 (by omega) (by omega) ⟨rfl, rfl, rfl⟩
    · omega
  · refine og_iload (pc := 3) dX3_total_3 rfl ?_
    refine og_bipush (pc := 5) (v := 8) dX3_total_5 (by decide) ?_
    refine og_geN (pc := 7) (tgt := 45) (i := i) (N := 8) dX3_total_7 (by decide) rfl rfl (by omega) (by omega) (fun c_7 => ?_) (fun c_7 => ?_)
    · omega
    refine og_aload_n (pc := 10) dX3_total_10 rfl ?_
    refine og_iload (pc := 11) dX3_total_11 rfl ?_
    refine og_iload_n (pc := 13) dX3_total_13 rfl ?_
    refine og_if_eq (pc := 14) (tgt := 29) dX3_total_14 (by decide) (fun c_14 => ?_) (fun c_14 => ?_)
    · refine og_aload_n (pc := 29) dX3_total_29 rfl ?_
      refine og_iload (pc := 30) dX3_total_30 rfl ?_
      refine og_laldN (pc := 32) rfl dX3_total_32 (by repeat (first | exact og_set_eq _ _ _ | assumption | refine (og_set_ne _ _ (by first | assumption | omega)).trans ?_)) (by omega) (by omega) (by first | decide | assumption | omega) ?_
      refine og_aload_n (pc := 33) dX3_total_33 rfl ?_
      refine og_iload (pc := 34) dX3_total_34 rfl ?_
      refine og_laldN (pc := 36) rfl dX3_total_36 (by repeat (first | exact og_set_eq _ _ _ | assumption | refine (og_set_ne _ _ (by first | assumption | omega)).trans ?_)) (by omega) (by omega) (by first | decide | assumption | omega) ?_
      refine og_ladd (pc := 37) dX3_total_37 ?_
      refine og_lastN (pc := 38) rfl dX3_total_38 (by repeat (first | exact og_set_eq _ _ _ | assumption | refine (og_set_ne _ _ (by first | assumption | omega)).trans ?_)) (by omega) (by omega) (by first | decide | assumption | omega) ?_
      refine og_iinc_4 (pc := 39) dX3_total_39 (og_inc i) rfl ?_
      refine og_goto (pc := 42) (tgt := 3) dX3_total_42 (by decide) ?_
      rw [og_set_set, og_fill (by rw [if_neg (by omega)]; unfold q_total; rw [if_pos c_14])]
      exact ih
    · refine og_aload_n (pc := 17) dX3_total_17 rfl ?_
      refine og_iload (pc := 18) dX3_total_18 rfl ?_
      refine og_laldN (pc := 20) rfl dX3_total_20 (by repeat (first | exact og_set_eq _ _ _ | assumption | refine (og_set_ne _ _ (by first | assumption | omega)).trans ?_)) (by omega) (by omega) (by first | decide | assumption | omega) ?_
      refine og_aload_n (pc := 21) dX3_total_21 rfl ?_
      refine og_iload (pc := 22) dX3_total_22 rfl ?_
      refine og_laldN (pc := 24) rfl dX3_total_24 (by repeat (first | exact og_set_eq _ _ _ | assumption | refine (og_set_ne _ _ (by first | assumption | omega)).trans ?_)) (by omega) (by omega) (by first | decide | assumption | omega) ?_
      refine og_lsub (pc := 25) dX3_total_25 ?_
      refine og_goto (pc := 26) (tgt := 38) dX3_total_26 (by decide) ?_
      refine og_lastN (pc := 38) rfl dX3_total_38 (by repeat (first | exact og_set_eq _ _ _ | assumption | refine (og_set_ne _ _ (by first | assumption | omega)).trans ?_)) (by omega) (by omega) (by first | decide | assumption | omega) ?_
      refine og_iinc_4 (pc := 39) dX3_total_39 (og_inc i) rfl ?_
      refine og_goto (pc := 42) (tgt := 3) dX3_total_42 (by decide) ?_
      rw [og_set_set, og_fill (by rw [if_neg (by omega)]; unfold q_total; rw [if_neg c_14])]
      exact ih
