/-! ===== Rows: inner, quarters, oddSet, isReal, parallel, fit, product ===== -/
def q_inner (f g : Nat → Int64) : Nat → Int64
  | 0 => 0
  | k + 1 => q_inner f g k + f k * g k
def q_odd (f : Nat → Int64) : Nat → Int32
  | 0 => 0
  | k + 1 => if f k &&& 1 = 0 then q_odd f k else q_odd f k ||| ((1 : Int32) <<< (nI k &&& 31))
set_option maxRecDepth 4000 in
theorem c_X3_inner (E : og_E) (d n a b : Nat) (h : og_H) (f g : Nat → Int64) (ha : h a = some (rowL f)) (hb : h b = some (rowL g)) (h3a : 3 ≤ a) (h3b : 3 ≤ b) :
    og_M E yX3_inner (.code yX3_inner cX3_inner 5 (some .long)) d [.ref a, .ref b] n h 0 0 (fun v n1 h1 => v = some (.long (q_inner f g 8)) ∧ n1 = n ∧ h1 = h) no_x := by
  refine og_start (lv := [some (.ref a), some (.ref b), none, none, none]) (by decide) rfl rfl (Nat.le_of_ble_eq_true rfl) fun X hr hnm htb => ?_
  refine og_lconst (pc := 0) (v := 0) dX3_inner_0 (by decide) ?_
  refine og_lstore_n_2 (pc := 1) dX3_inner_1 rfl ?_
  refine og_iconst (pc := 2) (v := 0) dX3_inner_2 (by decide) ?_
  refine og_istore_4 (pc := 3) dX3_inner_3 rfl ?_
  refine og_for (i0 := 0) (N := 8) (by decide) (fun _ => h) (fun i => [some (.ref a), some (.ref b), some (.long (q_inner f g i)), none, some (.int (nI i))]) ?_ (fun i hi1 hi ih => ?_)
  · refine og_iload (pc := 5) dX3_inner_5 rfl ?_
    refine og_bipush (pc := 7) (v := 8) dX3_inner_7 (by decide) ?_
    refine og_geN (pc := 9) (tgt := 30) (i := 8) (N := 8) dX3_inner_9 (by decide) rfl rfl (by omega) (by omega) (fun c_9 => ?_) (fun c_9 => ?_)
    · refine og_lload_n (pc := 30) dX3_inner_30 rfl ?_
      exact og_lret (pc := 31) hr dX3_inner_31 (by omega) (by omega) ⟨rfl, rfl, rfl⟩
    · omega
  · refine og_iload (pc := 5) dX3_inner_5 rfl ?_
    refine og_bipush (pc := 7) (v := 8) dX3_inner_7 (by decide) ?_
    refine og_geN (pc := 9) (tgt := 30) (i := i) (N := 8) dX3_inner_9 (by decide) rfl rfl (by omega) (by omega) (fun c_9 => ?_) (fun c_9 => ?_)
    · omega
    refine og_lload_n (pc := 12) dX3_inner_12 rfl ?_
    refine og_aload_n (pc := 13) dX3_inner_13 rfl ?_
    refine og_iload (pc := 14) dX3_inner_14 rfl ?_
    refine og_laldN (pc := 16) rfl dX3_inner_16 (by repeat (first | exact og_set_eq _ _ _ | assumption | refine (og_set_ne _ _ (by first | assumption | omega)).trans ?_)) (by omega) (by omega) (by first | decide | assumption | omega) ?_
    refine og_aload_n (pc := 17) dX3_inner_17 rfl ?_
    refine og_iload (pc := 18) dX3_inner_18 rfl ?_
    refine og_laldN (pc := 20) rfl dX3_inner_20 (by repeat (first | exact og_set_eq _ _ _ | assumption | refine (og_set_ne _ _ (by first | assumption | omega)).trans ?_)) (by omega) (by omega) (by first | decide | assumption | omega) ?_
    refine og_lmul (pc := 21) dX3_inner_21 ?_
    refine og_ladd (pc := 22) dX3_inner_22 ?_
    refine og_lstore_n_2 (pc := 23) dX3_inner_23 rfl ?_
    refine og_iinc_4 (pc := 24) dX3_inner_24 (og_inc i) rfl ?_
    refine og_goto (pc := 27) (tgt := 5) dX3_inner_27 (by decide) ?_
    exact ih
theorem c_X3_quarters (E : og_E) (d n a : Nat) (h : og_H) (f : Nat → Int64) (ha : h a = some (rowL f)) (h3a : 3 ≤ a) :
    og_M E yX3_quarters (.code yX3_quarters cX3_quarters 1 (some .long)) (d + 1) [.ref a] n h 0 0 (fun v n1 h1 => v = some (.long (q_inner f f 8)) ∧ n1 = n ∧ h1 = h) no_x := by
  refine og_start (lv := [some (.ref a)]) (by decide) rfl rfl (Nat.le_of_ble_eq_true rfl) fun X hr hnm htb => ?_
  refine og_aload_n (pc := 0) dX3_quarters_0 rfl ?_
  refine og_aload_n (pc := 1) dX3_quarters_1 rfl ?_
  refine og_callS (pc := 2) (As := [.ref a, .ref a]) (rest := []) (c_X3_inner E d n a a h f f ha ha h3a h3a) Y_X3_inner S_X3_inner K_X3_17 dX3_quarters_2 rfl rfl (by decide) (by omega) (by omega) (by omega) (fun _ _ _ z => z) (fun v n1 h1 z => ?_)
  obtain ⟨rfl, rfl, rfl⟩ := z
  exact og_lret (pc := 5) hr dX3_quarters_5 (by omega) (by omega) ⟨rfl, rfl, rfl⟩
/-- each of the eight numbers is 0 -/
def q_zr (f : Nat → Int64) : Prop := ∀ j, j < 8 → f j = 0
set_option maxRecDepth 4000 in
theorem c_X3_isZero (E : og_E) (d n a : Nat) (h : og_H) (f : Nat → Int64) (ha : h a = some (rowL f)) (h3a : 3 ≤ a) :
    og_M E yX3_isZero (.code yX3_isZero cX3_isZero 2 (some .boolean)) d [.ref a] n h 0 0 (fun v n1 h1 => n1 = n ∧ h1 = h ∧ ((v = some (.int 1) ∧ q_zr f) ∨ (v = some (.int 0) ∧ ¬ q_zr f))) no_x := by
  refine og_start (lv := [some (.ref a), none]) (by decide) rfl rfl (Nat.le_of_ble_eq_true rfl) fun X hr hnm htb => ?_
  refine og_iconst (pc := 0) (v := 0) dX3_isZero_0 (by decide) ?_
  refine og_istore_n_1 (pc := 1) dX3_isZero_1 rfl ?_
  refine og_forP (i0 := 0) (N := 8) (by decide) (fun _ => h) (fun i => [some (.ref a), some (.int (nI i))]) (fun i => ∀ j, j < i → f j = 0) (fun j h1 => absurd h1 (by omega)) (fun hP => ?_) (fun i hi1 hi hP ih => ?_)
  · refine og_iload_n (pc := 2) dX3_isZero_2 rfl ?_
    refine og_bipush (pc := 3) (v := 8) dX3_isZero_3 (by decide) ?_
    refine og_geN (pc := 5) (tgt := 24) (i := 8) (N := 8) dX3_isZero_5 (by decide) rfl rfl (by omega) (by omega) (fun c_5 => ?_) (fun c_5 => ?_)
    · refine og_iconst (pc := 24) (v := 1) dX3_isZero_24 (by decide) ?_
      exact og_zret (pc := 25) hr rfl dX3_isZero_25 (by omega) (by omega) ⟨rfl, rfl, Or.inl ⟨rfl, hP⟩⟩
    · omega
  · refine og_iload_n (pc := 2) dX3_isZero_2 rfl ?_
    refine og_bipush (pc := 3) (v := 8) dX3_isZero_3 (by decide) ?_
    refine og_geN (pc := 5) (tgt := 24) (i := i) (N := 8) dX3_isZero_5 (by decide) rfl rfl (by omega) (by omega) (fun c_5 => ?_) (fun c_5 => ?_)
    · omega
    refine og_aload_n (pc := 8) dX3_isZero_8 rfl ?_
    refine og_iload_n (pc := 9) dX3_isZero_9 rfl ?_
    refine og_laldN (pc := 10) rfl dX3_isZero_10 (by repeat (first | exact og_set_eq _ _ _ | assumption | refine (og_set_ne _ _ (by first | assumption | omega)).trans ?_)) (by omega) (by omega) (by first | decide | assumption | omega) ?_
    refine og_lconst (pc := 11) (v := 0) dX3_isZero_11 (by decide) ?_
    refine og_lcmp (pc := 12) dX3_isZero_12 ?_
    refine og_if_eq (pc := 13) (tgt := 18) dX3_isZero_13 (by decide) (fun c => ?_) (fun c => ?_)
    · refine og_iinc_1 (pc := 18) dX3_isZero_18 (og_inc i) rfl ?_
      refine og_goto (pc := 21) (tgt := 2) dX3_isZero_21 (by decide) ?_
      refine ih (fun j hj => ?_)
      by_cases e : j = i
      · rw [e]; exact (og_cmp0 _ _).mp c
      · exact hP j (by omega)
    · refine og_iconst (pc := 16) (v := 0) dX3_isZero_16 (by decide) ?_
      exact og_zret (pc := 17) hr rfl dX3_isZero_17 (by omega) (by omega) ⟨rfl, rfl, Or.inr ⟨rfl, fun q => c ((og_cmp0 _ _).mpr (q i hi))⟩⟩
set_option maxRecDepth 4000 in
theorem c_X3_oddSet (E : og_E) (d n a : Nat) (h : og_H) (f : Nat → Int64) (ha : h a = some (rowL f)) (h3a : 3 ≤ a) :
    og_M E yX3_oddSet (.code yX3_oddSet cX3_oddSet 3 (some .int)) d [.ref a] n h 0 0 (fun v n1 h1 => v = some (.int (q_odd f 8)) ∧ n1 = n ∧ h1 = h) no_x := by
  refine og_start (lv := [some (.ref a), none, none]) (by decide) rfl rfl (Nat.le_of_ble_eq_true rfl) fun X hr hnm htb => ?_
  refine og_iconst (pc := 0) (v := 0) dX3_oddSet_0 (by decide) ?_
  refine og_istore_n_1 (pc := 1) dX3_oddSet_1 rfl ?_
  refine og_iconst (pc := 2) (v := 0) dX3_oddSet_2 (by decide) ?_
  refine og_istore_n_2 (pc := 3) dX3_oddSet_3 rfl ?_
  refine og_for (i0 := 0) (N := 8) (by decide) (fun _ => h) (fun i => [some (.ref a), some (.int (q_odd f i)), some (.int (nI i))]) ?_ (fun i hi1 hi ih => ?_)
  · refine og_iload_n (pc := 4) dX3_oddSet_4 rfl ?_
    refine og_bipush (pc := 5) (v := 8) dX3_oddSet_5 (by decide) ?_
    refine og_geN (pc := 7) (tgt := 32) (i := 8) (N := 8) dX3_oddSet_7 (by decide) rfl rfl (by omega) (by omega) (fun c_7 => ?_) (fun c_7 => ?_)
    · refine og_iload_n (pc := 32) dX3_oddSet_32 rfl ?_
      exact og_iret (pc := 33) hr dX3_oddSet_33 (by omega) (by omega) ⟨rfl, rfl, rfl⟩
    · omega
  · refine og_iload_n (pc := 4) dX3_oddSet_4 rfl ?_
    refine og_bipush (pc := 5) (v := 8) dX3_oddSet_5 (by decide) ?_
    refine og_geN (pc := 7) (tgt := 32) (i := i) (N := 8) dX3_oddSet_7 (by decide) rfl rfl (by omega) (by omega) (fun c_7 => ?_) (fun c_7 => ?_)
    · omega
    refine og_aload_n (pc := 10) dX3_oddSet_10 rfl ?_
    refine og_iload_n (pc := 11) dX3_oddSet_11 rfl ?_
    refine og_laldN (pc := 12) rfl dX3_oddSet_12 (by repeat (first | exact og_set_eq _ _ _ | assumption | refine (og_set_ne _ _ (by first | assumption | omega)).trans ?_)) (by omega) (by omega) (by first | decide | assumption | omega) ?_
    refine og_lconst (pc := 13) (v := 1) dX3_oddSet_13 (by decide) ?_
    refine og_land (pc := 14) dX3_oddSet_14 ?_
    refine og_lconst (pc := 15) (v := 0) dX3_oddSet_15 (by decide) ?_
    refine og_lcmp (pc := 16) dX3_oddSet_16 ?_
    refine og_if_eq (pc := 17) (tgt := 26) dX3_oddSet_17 (by decide) (fun c_17 => ?_) (fun c_17 => ?_)
    · refine og_iinc_2 (pc := 26) dX3_oddSet_26 (og_inc i) rfl ?_
      refine og_goto (pc := 29) (tgt := 4) dX3_oddSet_29 (by decide) ?_
      have e : q_odd f (i + 1) = q_odd f i := if_pos ((og_cmp0 _ _).mp c_17)
      rw [e] at ih
      exact ih
    · refine og_iload_n (pc := 20) dX3_oddSet_20 rfl ?_
      refine og_iconst (pc := 21) (v := 1) dX3_oddSet_21 (by decide) ?_
      refine og_iload_n (pc := 22) dX3_oddSet_22 rfl ?_
      refine og_ishl (pc := 23) dX3_oddSet_23 ?_
      refine og_ior (pc := 24) dX3_oddSet_24 ?_
      refine og_istore_n_1 (pc := 25) dX3_oddSet_25 rfl ?_
      refine og_iinc_2 (pc := 26) dX3_oddSet_26 (og_inc i) rfl ?_
      refine og_goto (pc := 29) (tgt := 4) dX3_oddSet_29 (by decide) ?_
      have e : q_odd f (i + 1) = q_odd f i ||| ((1 : Int32) <<< (nI i &&& 31)) := if_neg (fun q => c_17 ((og_cmp0 _ _).mpr q))
      rw [e] at ih
      exact ih
def q_sh (t : Int32) (x : Int64) : Int64 := x >>> (t.toInt64 &&& 63)
def q_wh (t : Int32) : Int64 := (1 : Int64) <<< (t.toInt64 &&& 63)
def q_okc (t : Int32) (x : Int64) : Prop := x &&& (q_wh t - 1) = 0 ∧ ¬ q_sh t x < -2000 ∧ ¬ 2000 < q_sh t x
set_option maxRecDepth 4000 in
theorem c_X3_fit (E : og_E) (d n a : Nat) (h : og_H) (f : Nat → Int64) (t : Int32) (ha : h a = some (rowL f)) (h3a : 3 ≤ a) :
    og_M E yX3_fit (.code yX3_fit cX3_fit 5 (some .boolean)) d [.ref a, .int t] n h 0 0 (fun v n1 h1 => n1 = n ∧ ((v = some (.int 1) ∧ (∀ j, j < 8 → q_okc t (f j)) ∧ h1 = og_set h a (rowL (fun j => q_sh t (f j)))) ∨ (v = some (.int 0) ∧ (∃ j, j < 8 ∧ ¬ q_okc t (f j)) ∧ ∃ g, h1 = og_set h a (rowL g)))) no_x := by
  refine og_start (lv := [some (.ref a), some (.int t), none, none, none]) (by decide) rfl rfl (Nat.le_of_ble_eq_true rfl) fun X hr hnm htb => ?_
  refine og_lconst (pc := 0) (v := 1) dX3_fit_0 (by decide) ?_
  refine og_iload_n (pc := 1) dX3_fit_1 rfl ?_
  refine og_lshl (pc := 2) dX3_fit_2 rfl ?_
  refine og_lstore_n_2 (pc := 3) dX3_fit_3 rfl ?_
  refine og_iconst (pc := 4) (v := 0) dX3_fit_4 (by decide) ?_
  refine og_istore_4 (pc := 5) dX3_fit_5 rfl ?_
  refine og_congL (fun j => if j < 0 then (fun j => q_sh t (f j)) j else f j) ha h3a (fun j _ => by simp) ?_
  refine og_forP (i0 := 0) (N := 8) (by decide) (fun i => og_set h a (rowL (fun j => if j < i then (fun j => q_sh t (f j)) j else f j))) (fun i => [some (.ref a), some (.int t), some (.long (q_wh t)), none, some (.int (nI i))]) (fun i => ∀ j, j < i → q_okc t (f j)) (fun j h2 => absurd h2 (by omega)) (fun hP => ?_) (fun i hi1 hi hP ih => ?_)
  · refine og_iload (pc := 7) dX3_fit_7 rfl ?_
    refine og_bipush (pc := 9) (v := 8) dX3_fit_9 (by decide) ?_
    refine og_geN (pc := 11) (tgt := 67) (i := 8) (N := 8) dX3_fit_11 (by decide) rfl rfl (by omega) (by omega) (fun c_11 => ?_) (fun c_11 => ?_)
    · refine og_congL (fun j => q_sh t (f j)) (og_set_eq _ _ _) h3a (fun j hj => by rw [if_pos (by omega)]) ?_
      rw [og_set_set]
      refine og_iconst (pc := 67) (v := 1) dX3_fit_67 (by decide) ?_
      exact og_zret (pc := 68) hr rfl dX3_fit_68 (by omega) (by omega) ⟨rfl, Or.inl ⟨rfl, hP, rfl⟩⟩
    · omega
  · refine og_iload (pc := 7) dX3_fit_7 rfl ?_
    refine og_bipush (pc := 9) (v := 8) dX3_fit_9 (by decide) ?_
    refine og_geN (pc := 11) (tgt := 67) (i := i) (N := 8) dX3_fit_11 (by decide) rfl rfl (by omega) (by omega) (fun c_11 => ?_) (fun c_11 => ?_)
    · omega
    refine og_aload_n (pc := 14) dX3_fit_14 rfl ?_
    refine og_iload (pc := 15) dX3_fit_15 rfl ?_
    refine og_laldN (pc := 17) rfl dX3_fit_17 (by repeat (first | exact og_set_eq _ _ _ | assumption | refine (og_set_ne _ _ (by first | assumption | omega)).trans ?_)) (by omega) (by omega) (by first | decide | assumption | omega) ?_
    refine og_lload_n (pc := 18) dX3_fit_18 rfl ?_
    refine og_lconst (pc := 19) (v := 1) dX3_fit_19 (by decide) ?_
    refine og_lsub (pc := 20) dX3_fit_20 ?_
    refine og_land (pc := 21) dX3_fit_21 ?_
    refine og_lconst (pc := 22) (v := 0) dX3_fit_22 (by decide) ?_
    refine og_lcmp (pc := 23) dX3_fit_23 ?_
    have e0 : (if i < i then (fun j => q_sh t (f j)) i else f i) = f i := if_neg (Nat.lt_irrefl _)
    have e1 : vp_updL (fun j => if j < i then (fun j => q_sh t (f j)) j else f j) i (q_sh t (f i)) i = q_sh t (f i) := if_pos rfl
    rw [e0]
    refine og_if_eq (pc := 24) (tgt := 29) dX3_fit_24 (by decide) (fun c_24 => ?_) (fun c_24 => ?_)
    · refine og_aload_n (pc := 29) dX3_fit_29 rfl ?_
      refine og_iload (pc := 30) dX3_fit_30 rfl ?_
      refine og_dup2 (pc := 32) dX3_fit_32 rfl rfl ?_
      refine og_laldN (pc := 33) rfl dX3_fit_33 (by repeat (first | exact og_set_eq _ _ _ | assumption | refine (og_set_ne _ _ (by first | assumption | omega)).trans ?_)) (by omega) (by omega) (by first | decide | assumption | omega) ?_
      refine og_iload_n (pc := 34) dX3_fit_34 rfl ?_
      refine og_lshr (pc := 35) dX3_fit_35 rfl ?_
      refine og_lastN (pc := 36) rfl dX3_fit_36 (by repeat (first | exact og_set_eq _ _ _ | assumption | refine (og_set_ne _ _ (by first | assumption | omega)).trans ?_)) (by omega) (by omega) (by first | decide | assumption | omega) ?_
      rw [e0, og_set_set]
      refine og_aload_n (pc := 37) dX3_fit_37 rfl ?_
      refine og_iload (pc := 38) dX3_fit_38 rfl ?_
      refine og_laldN (pc := 40) rfl dX3_fit_40 (by repeat (first | exact og_set_eq _ _ _ | assumption | refine (og_set_ne _ _ (by first | assumption | omega)).trans ?_)) (by omega) (by omega) (by first | decide | assumption | omega) ?_
      refine og_ldc2 (pc := 41) LC_X3_13 dX3_fit_41 ?_
      refine og_lcmp (pc := 44) dX3_fit_44 ?_
      have e2 : vp_updL (fun j => if j < i then (fun j => q_sh t (f j)) j else f j) i (f i >>> (t.toInt64 &&& 63)) i = q_sh t (f i) := if_pos rfl
      rw [e2]
      refine og_if_lt (pc := 45) (tgt := 59) dX3_fit_45 (by decide) (fun c_45 => ?_) (fun c_45 => ?_)
      · refine og_iconst (pc := 59) (v := 0) dX3_fit_59 (by decide) ?_
        exact og_zret (pc := 60) hr rfl dX3_fit_60 (by omega) (by omega) ⟨rfl, Or.inr ⟨rfl, ⟨i, hi, fun q => q.2.1 ((og_cmpL _ _).mp c_45)⟩, _, rfl⟩⟩
      · refine og_aload_n (pc := 48) dX3_fit_48 rfl ?_
        refine og_iload (pc := 49) dX3_fit_49 rfl ?_
        refine og_laldN (pc := 51) rfl dX3_fit_51 (by repeat (first | exact og_set_eq _ _ _ | assumption | refine (og_set_ne _ _ (by first | assumption | omega)).trans ?_)) (by omega) (by omega) (by first | decide | assumption | omega) ?_
        refine og_ldc2 (pc := 52) LC_X3_15 dX3_fit_52 ?_
        refine og_lcmp (pc := 55) dX3_fit_55 ?_
        rw [e2]
        refine og_if_le (pc := 56) (tgt := 61) dX3_fit_56 (by decide) (fun c_56 => ?_) (fun c_56 => ?_)
        · refine og_iinc_4 (pc := 61) dX3_fit_61 (og_inc i) rfl ?_
          refine og_goto (pc := 64) (tgt := 7) dX3_fit_64 (by decide) ?_
          rw [og_fill (by rfl)]
          refine ih (fun j hj => ?_)
          by_cases hji : j = i
          · subst hji
            exact ⟨(og_cmp0 _ _).mp c_24, fun q => c_45 ((og_cmpL _ _).mpr q), fun q => og_lel c_56 ((og_cmpG _ _).mpr q)⟩
          · exact hP j (by omega)
        · refine og_iconst (pc := 59) (v := 0) dX3_fit_59 (by decide) ?_
          exact og_zret (pc := 60) hr rfl dX3_fit_60 (by omega) (by omega) ⟨rfl, Or.inr ⟨rfl, ⟨i, hi, fun q => q.2.2 ((og_cmpG _ _).mp (og_nle c_56))⟩, _, rfl⟩⟩
    · refine og_iconst (pc := 27) (v := 0) dX3_fit_27 (by decide) ?_
      exact og_zret (pc := 28) hr rfl dX3_fit_28 (by omega) (by omega) ⟨rfl, Or.inr ⟨rfl, ⟨i, hi, fun q => c_24 ((og_cmp0 _ _).mpr q.1)⟩, _, rfl⟩⟩
def q_prod (f g : Nat → Int64) : Nat → Int64
  | 0 => f 0 * g 0 - f 1 * g 1 - f 2 * g 2 - f 3 * g 3 - f 4 * g 4 - f 5 * g 5 - f 6 * g 6 - f 7 * g 7
  | 1 => f 0 * g 1 + f 1 * g 0 + (f 2 * g 4 - f 4 * g 2) + (f 5 * g 6 - f 6 * g 5) + (f 3 * g 7 - f 7 * g 3)
  | 2 => f 0 * g 2 + f 2 * g 0 + (f 4 * g 1 - f 1 * g 4) + (f 3 * g 5 - f 5 * g 3) + (f 6 * g 7 - f 7 * g 6)
  | 3 => f 0 * g 3 + f 3 * g 0 + (f 5 * g 2 - f 2 * g 5) + (f 4 * g 6 - f 6 * g 4) + (f 7 * g 1 - f 1 * g 7)
  | 4 => f 0 * g 4 + f 4 * g 0 + (f 1 * g 2 - f 2 * g 1) + (f 6 * g 3 - f 3 * g 6) + (f 5 * g 7 - f 7 * g 5)
  | 5 => f 0 * g 5 + f 5 * g 0 + (f 2 * g 3 - f 3 * g 2) + (f 7 * g 4 - f 4 * g 7) + (f 6 * g 1 - f 1 * g 6)
  | 6 => f 0 * g 6 + f 6 * g 0 + (f 3 * g 4 - f 4 * g 3) + (f 1 * g 5 - f 5 * g 1) + (f 7 * g 2 - f 2 * g 7)
  | 7 => f 0 * g 7 + f 7 * g 0 + (f 4 * g 5 - f 5 * g 4) + (f 2 * g 6 - f 6 * g 2) + (f 1 * g 3 - f 3 * g 1)
  | _ => 0
def q_tr : Nat → Nat
  | 0 => 1
  | 1 => 2
  | 2 => 4
  | 3 => 2
  | 4 => 3
  | 5 => 5
  | 6 => 3
  | 7 => 4
  | 8 => 6
  | 9 => 4
  | 10 => 5
  | 11 => 7
  | 12 => 5
  | 13 => 6
  | 14 => 1
  | 15 => 6
  | 16 => 7
  | 17 => 2
  | 18 => 7
  | 19 => 1
  | 20 => 3
  | _ => 0
theorem q_tr_lt : ∀ j, j < 21 → q_tr j < 8 := by decide
def q_TR : og_N := .inl (1, 21, .inl (fun j => nI (q_tr j)))
def q_p0 (f g : Nat → Int64) : Nat → Int64
  | 0 => f 0 * g 0
  | k + 1 => q_p0 f g k - f (k + 1) * g (k + 1)
def q_p1 (f g k : Nat → Int64) (m : Nat) : Nat → Int64 := fun j => if j = 0 then q_p0 f g m else if j < m + 1 then f 0 * g j + f j * g 0 else k j
def q_tri (f g : Nat → Int64) (i j k : Nat) (r : Nat → Int64) : Nat → Int64 :=
  vp_updL (vp_updL (vp_updL r k (r k + (f i * g j - f j * g i))) i (vp_updL r k (r k + (f i * g j - f j * g i)) i + (f j * g k - f k * g j))) j (vp_updL (vp_updL r k (r k + (f i * g j - f j * g i))) i (vp_updL r k (r k + (f i * g j - f j * g i)) i + (f j * g k - f k * g j)) j + (f k * g i - f i * g k))
def q_p2 (f g r : Nat → Int64) : Nat → (Nat → Int64)
  | 0 => r
  | u + 1 => q_tri f g (q_tr (3 * u)) (q_tr (3 * u + 1)) (q_tr (3 * u + 2)) (q_p2 f g r u)
theorem q_p1_next (f g k : Nat → Int64) (m : Nat) : vp_updL (vp_updL (q_p1 f g k m) 0 (q_p1 f g k m 0 - f (m + 1) * g (m + 1))) (m + 1) (f 0 * g (m + 1) + f (m + 1) * g 0) = q_p1 f g k (m + 1) := by
  funext j
  unfold vp_updL q_p1
  by_cases h1 : j = m + 1
  · subst h1
    rw [if_pos rfl, if_neg (by omega), if_pos (by omega)]
  · rw [if_neg h1]
    by_cases h0 : j = 0
    · rw [if_pos h0, if_pos rfl, if_pos h0]
      rfl
    · rw [if_neg h0, if_neg h0, if_neg h0]
      by_cases h2 : j < m + 1
      · rw [if_pos h2, if_pos (by omega)]
      · rw [if_neg h2, if_neg (by omega)]
theorem q_prod_eq (f g k : Nat → Int64) : ∀ j, j < 8 → q_p2 f g (q_p1 f g k 7) 7 j = q_prod f g j
  | 0, _ => rfl
  | 1, _ => rfl
  | 2, _ => rfl
  | 3, _ => rfl
  | 4, _ => rfl
  | 5, _ => rfl
  | 6, _ => rfl
  | 7, _ => rfl
  | j + 8, h => absurd h (by omega)
set_option maxRecDepth 4000 in
theorem c_X3_product (E : og_E) (d n a b o : Nat) (h : og_H) (f g k : Nat → Int64) (hT : h 1 = some q_TR) (ha : h a = some (rowL f)) (hb : h b = some (rowL g)) (ho : h o = some (rowL k)) (hao : a ≠ o) (hbo : b ≠ o) (h3a : 3 ≤ a) (h3b : 3 ≤ b) (h3o : 3 ≤ o) :
    og_M E yX3_product (.code yX3_product cX3_product 7 none) d [.ref a, .ref b, .ref o] n h 0 0 (fun v n1 h1 => v = none ∧ n1 = n ∧ h1 = og_set h o (rowL (q_prod f g))) no_x := by
  refine og_start (lv := [some (.ref a), some (.ref b), some (.ref o), none, none, none, none]) (by decide) rfl rfl (Nat.le_of_ble_eq_true rfl) fun X hr hnm htb => ?_
  refine og_aload_n (pc := 0) dX3_product_0 rfl ?_
  refine og_iconst (pc := 1) (v := 0) dX3_product_1 (by decide) ?_
  refine og_aload_n (pc := 2) dX3_product_2 rfl ?_
  refine og_iconst (pc := 3) (v := 0) dX3_product_3 (by decide) ?_
  refine og_laldN (pc := 4) (j := 0) rfl dX3_product_4 (by repeat (first | exact og_set_eq _ _ _ | assumption | refine (og_set_ne _ _ (by first | assumption | omega)).trans ?_)) (by omega) (by omega) (by first | decide | assumption | omega) ?_
  refine og_aload_n (pc := 5) dX3_product_5 rfl ?_
  refine og_iconst (pc := 6) (v := 0) dX3_product_6 (by decide) ?_
  refine og_laldN (pc := 7) (j := 0) rfl dX3_product_7 (by repeat (first | exact og_set_eq _ _ _ | assumption | refine (og_set_ne _ _ (by first | assumption | omega)).trans ?_)) (by omega) (by omega) (by first | decide | assumption | omega) ?_
  refine og_lmul (pc := 8) dX3_product_8 ?_
  refine og_lastN (pc := 9) (j := 0) rfl dX3_product_9 (by repeat (first | exact og_set_eq _ _ _ | assumption | refine (og_set_ne _ _ (by first | assumption | omega)).trans ?_)) (by omega) (by omega) (by first | decide | assumption | omega) ?_
  refine og_iconst (pc := 10) (v := 1) dX3_product_10 (by decide) ?_
  refine og_istore_n_3 (pc := 11) dX3_product_11 rfl ?_
  refine og_congL (q_p1 f g k 0) (og_set_eq _ _ _) h3o (fun j hj => by
    unfold vp_updL q_p1
    by_cases h0 : j = 0
    · rw [if_pos h0, if_pos h0]; rfl
    · rw [if_neg h0, if_neg h0, if_neg (by omega)]) ?_
  rw [og_set_set]
  refine og_for (i0 := 0) (N := 7) (by decide) (fun m => og_set h o (rowL (q_p1 f g k m))) (fun m => [some (.ref a), some (.ref b), some (.ref o), some (.int (nI (m + 1))), none, none, none]) ?_ (fun m hm1 hm ih => ?_)
  · refine og_iload_n (pc := 12) dX3_product_12 rfl ?_
    refine og_bipush (pc := 13) (v := 8) dX3_product_13 (by decide) ?_
    refine og_geN (pc := 15) (tgt := 55) (i := (7+1)) (N := 8) dX3_product_15 (by decide) rfl rfl (by omega) (by omega) (fun c_15 => ?_) (fun c_15 => ?_)
    · refine og_iconst (pc := 55) (v := 0) dX3_product_55 (by decide) ?_
      refine og_istore_n_3 (pc := 56) dX3_product_56 rfl ?_
      refine og_for (i0 := 0) (N := 7) (by decide) (fun u => og_set h o (rowL (q_p2 f g (q_p1 f g k 7) u))) (fun u => [some (.ref a), some (.ref b), some (.ref o), some (.int (nI (3 * u))), none, none, none]) ?_ (fun u hu1 hu ih => ?_)
      · refine og_iload_n (pc := 57) dX3_product_57 rfl ?_
        refine og_iconst (pc := 58) (v := 2) dX3_product_58 (by decide) ?_
        refine og_iadd (pc := 59) dX3_product_59 ?_
        refine og_gsT (pc := 60) SF_X3_9 dX3_product_60 ?_
        refine og_slen (pc := 63) dX3_product_63 (by repeat (first | exact og_set_eq _ _ _ | assumption | refine (og_set_ne _ _ (by first | assumption | omega)).trans ?_)) (by omega) ?_
        refine og_geN (pc := 64) (tgt := 176) (i := 23) (N := 21) dX3_product_64 (by decide) (by decide) rfl (by omega) (by decide) (fun c_64 => ?_) (fun c_64 => ?_)
        · refine og_congL (q_prod f g) (og_set_eq _ _ _) h3o (q_prod_eq f g k) ?_
          rw [og_set_set]
          exact og_vret (pc := 176) hr dX3_product_176 (by omega) (by omega) ⟨rfl, rfl, rfl⟩
        · omega
      · have i2 : nI (3 * u) + 2 = nI (3 * u + 2) := by rw [show (2 : Int32) = nI 2 from rfl, nI_add]
        have i3 : nI (3 * u) + Int32.ofInt 3 = nI (3 * (u + 1)) := by rw [show Int32.ofInt 3 = nI 3 from rfl, nI_add]; rfl
        have g0 := q_tr_lt (3 * u) (by omega)
        have g1 := q_tr_lt (3 * u + 1) (by omega)
        have g2 := q_tr_lt (3 * u + 2) (by omega)
        refine og_iload_n (pc := 57) dX3_product_57 rfl ?_
        refine og_iconst (pc := 58) (v := 2) dX3_product_58 (by decide) ?_
        refine og_iadd (pc := 59) dX3_product_59 ?_
        refine og_gsT (pc := 60) SF_X3_9 dX3_product_60 ?_
        refine og_slen (pc := 63) dX3_product_63 (by repeat (first | exact og_set_eq _ _ _ | assumption | refine (og_set_ne _ _ (by first | assumption | omega)).trans ?_)) (by omega) ?_
        refine og_geN (pc := 64) (tgt := 176) (i := 3 * u + 2) (N := 21) dX3_product_64 (by decide) i2 rfl (by omega) (by decide) (fun c_64 => ?_) (fun c_64 => ?_)
        · omega
        refine og_gsT (pc := 67) SF_X3_9 dX3_product_67 ?_
        refine og_iload_n (pc := 70) dX3_product_70 rfl ?_
        refine og_saldN (pc := 71) rfl dX3_product_71 (by repeat (first | exact og_set_eq _ _ _ | assumption | refine (og_set_ne _ _ (by first | assumption | omega)).trans ?_)) (by omega) (by omega) (by first | decide | assumption | omega) ?_
        refine og_istore_4 (pc := 72) dX3_product_72 rfl ?_
        refine og_gsT (pc := 74) SF_X3_9 dX3_product_74 ?_
        refine og_iload_n (pc := 77) dX3_product_77 rfl ?_
        refine og_iconst (pc := 78) (v := 1) dX3_product_78 (by decide) ?_
        refine og_iadd (pc := 79) dX3_product_79 ?_
        refine og_saldN (pc := 80) (nI_1 _) dX3_product_80 (by repeat (first | exact og_set_eq _ _ _ | assumption | refine (og_set_ne _ _ (by first | assumption | omega)).trans ?_)) (by omega) (by omega) (by first | decide | assumption | omega) ?_
        refine og_istore_5 (pc := 81) dX3_product_81 rfl ?_
        refine og_gsT (pc := 83) SF_X3_9 dX3_product_83 ?_
        refine og_iload_n (pc := 86) dX3_product_86 rfl ?_
        refine og_iconst (pc := 87) (v := 2) dX3_product_87 (by decide) ?_
        refine og_iadd (pc := 88) dX3_product_88 ?_
        refine og_saldN (pc := 89) i2 dX3_product_89 (by repeat (first | exact og_set_eq _ _ _ | assumption | refine (og_set_ne _ _ (by first | assumption | omega)).trans ?_)) (by omega) (by omega) (by first | decide | assumption | omega) ?_
        refine og_istore_6 (pc := 90) dX3_product_90 rfl ?_
        refine og_aload_n (pc := 92) dX3_product_92 rfl ?_
        refine og_iload (pc := 93) dX3_product_93 rfl ?_
        refine og_dup2 (pc := 95) dX3_product_95 rfl rfl ?_
        refine og_laldN (pc := 96) rfl dX3_product_96 (by repeat (first | exact og_set_eq _ _ _ | assumption | refine (og_set_ne _ _ (by first | assumption | omega)).trans ?_)) (by omega) (by omega) (by first | decide | assumption | omega) ?_
        refine og_aload_n (pc := 97) dX3_product_97 rfl ?_
        refine og_iload (pc := 98) dX3_product_98 rfl ?_
        refine og_laldN (pc := 100) rfl dX3_product_100 (by repeat (first | exact og_set_eq _ _ _ | assumption | refine (og_set_ne _ _ (by first | assumption | omega)).trans ?_)) (by omega) (by omega) (by first | decide | assumption | omega) ?_
        refine og_aload_n (pc := 101) dX3_product_101 rfl ?_
        refine og_iload (pc := 102) dX3_product_102 rfl ?_
        refine og_laldN (pc := 104) rfl dX3_product_104 (by repeat (first | exact og_set_eq _ _ _ | assumption | refine (og_set_ne _ _ (by first | assumption | omega)).trans ?_)) (by omega) (by omega) (by first | decide | assumption | omega) ?_
        refine og_lmul (pc := 105) dX3_product_105 ?_
        refine og_aload_n (pc := 106) dX3_product_106 rfl ?_
        refine og_iload (pc := 107) dX3_product_107 rfl ?_
        refine og_laldN (pc := 109) rfl dX3_product_109 (by repeat (first | exact og_set_eq _ _ _ | assumption | refine (og_set_ne _ _ (by first | assumption | omega)).trans ?_)) (by omega) (by omega) (by first | decide | assumption | omega) ?_
        refine og_aload_n (pc := 110) dX3_product_110 rfl ?_
        refine og_iload (pc := 111) dX3_product_111 rfl ?_
        refine og_laldN (pc := 113) rfl dX3_product_113 (by repeat (first | exact og_set_eq _ _ _ | assumption | refine (og_set_ne _ _ (by first | assumption | omega)).trans ?_)) (by omega) (by omega) (by first | decide | assumption | omega) ?_
        refine og_lmul (pc := 114) dX3_product_114 ?_
        refine og_lsub (pc := 115) dX3_product_115 ?_
        refine og_ladd (pc := 116) dX3_product_116 ?_
        refine og_lastN (pc := 117) rfl dX3_product_117 (by repeat (first | exact og_set_eq _ _ _ | assumption | refine (og_set_ne _ _ (by first | assumption | omega)).trans ?_)) (by omega) (by omega) (by first | decide | assumption | omega) ?_
        rw [og_set_set]
        refine og_aload_n (pc := 118) dX3_product_118 rfl ?_
        refine og_iload (pc := 119) dX3_product_119 rfl ?_
        refine og_dup2 (pc := 121) dX3_product_121 rfl rfl ?_
        refine og_laldN (pc := 122) rfl dX3_product_122 (by repeat (first | exact og_set_eq _ _ _ | assumption | refine (og_set_ne _ _ (by first | assumption | omega)).trans ?_)) (by omega) (by omega) (by first | decide | assumption | omega) ?_
        refine og_aload_n (pc := 123) dX3_product_123 rfl ?_
        refine og_iload (pc := 124) dX3_product_124 rfl ?_
        refine og_laldN (pc := 126) rfl dX3_product_126 (by repeat (first | exact og_set_eq _ _ _ | assumption | refine (og_set_ne _ _ (by first | assumption | omega)).trans ?_)) (by omega) (by omega) (by first | decide | assumption | omega) ?_
        refine og_aload_n (pc := 127) dX3_product_127 rfl ?_
        refine og_iload (pc := 128) dX3_product_128 rfl ?_
        refine og_laldN (pc := 130) rfl dX3_product_130 (by repeat (first | exact og_set_eq _ _ _ | assumption | refine (og_set_ne _ _ (by first | assumption | omega)).trans ?_)) (by omega) (by omega) (by first | decide | assumption | omega) ?_
        refine og_lmul (pc := 131) dX3_product_131 ?_
        refine og_aload_n (pc := 132) dX3_product_132 rfl ?_
        refine og_iload (pc := 133) dX3_product_133 rfl ?_
        refine og_laldN (pc := 135) rfl dX3_product_135 (by repeat (first | exact og_set_eq _ _ _ | assumption | refine (og_set_ne _ _ (by first | assumption | omega)).trans ?_)) (by omega) (by omega) (by first | decide | assumption | omega) ?_
        refine og_aload_n (pc := 136) dX3_product_136 rfl ?_
        refine og_iload (pc := 137) dX3_product_137 rfl ?_
        refine og_laldN (pc := 139) rfl dX3_product_139 (by repeat (first | exact og_set_eq _ _ _ | assumption | refine (og_set_ne _ _ (by first | assumption | omega)).trans ?_)) (by omega) (by omega) (by first | decide | assumption | omega) ?_
        refine og_lmul (pc := 140) dX3_product_140 ?_
        refine og_lsub (pc := 141) dX3_product_141 ?_
        refine og_ladd (pc := 142) dX3_product_142 ?_
        refine og_lastN (pc := 143) rfl dX3_product_143 (by repeat (first | exact og_set_eq _ _ _ | assumption | refine (og_set_ne _ _ (by first | assumption | omega)).trans ?_)) (by omega) (by omega) (by first | decide | assumption | omega) ?_
        rw [og_set_set]
        refine og_aload_n (pc := 144) dX3_product_144 rfl ?_
        refine og_iload (pc := 145) dX3_product_145 rfl ?_
        refine og_dup2 (pc := 147) dX3_product_147 rfl rfl ?_
        refine og_laldN (pc := 148) rfl dX3_product_148 (by repeat (first | exact og_set_eq _ _ _ | assumption | refine (og_set_ne _ _ (by first | assumption | omega)).trans ?_)) (by omega) (by omega) (by first | decide | assumption | omega) ?_
        refine og_aload_n (pc := 149) dX3_product_149 rfl ?_
        refine og_iload (pc := 150) dX3_product_150 rfl ?_
        refine og_laldN (pc := 152) rfl dX3_product_152 (by repeat (first | exact og_set_eq _ _ _ | assumption | refine (og_set_ne _ _ (by first | assumption | omega)).trans ?_)) (by omega) (by omega) (by first | decide | assumption | omega) ?_
        refine og_aload_n (pc := 153) dX3_product_153 rfl ?_
        refine og_iload (pc := 154) dX3_product_154 rfl ?_
        refine og_laldN (pc := 156) rfl dX3_product_156 (by repeat (first | exact og_set_eq _ _ _ | assumption | refine (og_set_ne _ _ (by first | assumption | omega)).trans ?_)) (by omega) (by omega) (by first | decide | assumption | omega) ?_
        refine og_lmul (pc := 157) dX3_product_157 ?_
        refine og_aload_n (pc := 158) dX3_product_158 rfl ?_
        refine og_iload (pc := 159) dX3_product_159 rfl ?_
        refine og_laldN (pc := 161) rfl dX3_product_161 (by repeat (first | exact og_set_eq _ _ _ | assumption | refine (og_set_ne _ _ (by first | assumption | omega)).trans ?_)) (by omega) (by omega) (by first | decide | assumption | omega) ?_
        refine og_aload_n (pc := 162) dX3_product_162 rfl ?_
        refine og_iload (pc := 163) dX3_product_163 rfl ?_
        refine og_laldN (pc := 165) rfl dX3_product_165 (by repeat (first | exact og_set_eq _ _ _ | assumption | refine (og_set_ne _ _ (by first | assumption | omega)).trans ?_)) (by omega) (by omega) (by first | decide | assumption | omega) ?_
        refine og_lmul (pc := 166) dX3_product_166 ?_
        refine og_lsub (pc := 167) dX3_product_167 ?_
        refine og_ladd (pc := 168) dX3_product_168 ?_
        refine og_lastN (pc := 169) rfl dX3_product_169 (by repeat (first | exact og_set_eq _ _ _ | assumption | refine (og_set_ne _ _ (by first | assumption | omega)).trans ?_)) (by omega) (by omega) (by first | decide | assumption | omega) ?_
        rw [og_set_set]
        refine og_iinc_3 (pc := 170) dX3_product_170 i3 rfl ?_
        refine og_goto (pc := 173) (tgt := 57) dX3_product_173 (by decide) ?_
        exact og_forget_4 (og_forget_5 (og_forget_6 ih))
    · omega
  · refine og_iload_n (pc := 12) dX3_product_12 rfl ?_
    refine og_bipush (pc := 13) (v := 8) dX3_product_13 (by decide) ?_
    refine og_geN (pc := 15) (tgt := 55) (i := (m+1)) (N := 8) dX3_product_15 (by decide) rfl rfl (by omega) (by omega) (fun c_15 => ?_) (fun c_15 => ?_)
    · omega
    refine og_aload_n (pc := 18) dX3_product_18 rfl ?_
    refine og_iconst (pc := 19) (v := 0) dX3_product_19 (by decide) ?_
    refine og_dup2 (pc := 20) dX3_product_20 rfl rfl ?_
    refine og_laldN (pc := 21) (j := 0) rfl dX3_product_21 (by repeat (first | exact og_set_eq _ _ _ | assumption | refine (og_set_ne _ _ (by first | assumption | omega)).trans ?_)) (by omega) (by omega) (by first | decide | assumption | omega) ?_
    refine og_aload_n (pc := 22) dX3_product_22 rfl ?_
    refine og_iload_n (pc := 23) dX3_product_23 rfl ?_
    refine og_laldN (pc := 24) rfl dX3_product_24 (by repeat (first | exact og_set_eq _ _ _ | assumption | refine (og_set_ne _ _ (by first | assumption | omega)).trans ?_)) (by omega) (by omega) (by first | decide | assumption | omega) ?_
    refine og_aload_n (pc := 25) dX3_product_25 rfl ?_
    refine og_iload_n (pc := 26) dX3_product_26 rfl ?_
    refine og_laldN (pc := 27) rfl dX3_product_27 (by repeat (first | exact og_set_eq _ _ _ | assumption | refine (og_set_ne _ _ (by first | assumption | omega)).trans ?_)) (by omega) (by omega) (by first | decide | assumption | omega) ?_
    refine og_lmul (pc := 28) dX3_product_28 ?_
    refine og_lsub (pc := 29) dX3_product_29 ?_
    refine og_lastN (pc := 30) (j := 0) rfl dX3_product_30 (by repeat (first | exact og_set_eq _ _ _ | assumption | refine (og_set_ne _ _ (by first | assumption | omega)).trans ?_)) (by omega) (by omega) (by first | decide | assumption | omega) ?_
    rw [og_set_set]
    refine og_aload_n (pc := 31) dX3_product_31 rfl ?_
    refine og_iload_n (pc := 32) dX3_product_32 rfl ?_
    refine og_aload_n (pc := 33) dX3_product_33 rfl ?_
    refine og_iconst (pc := 34) (v := 0) dX3_product_34 (by decide) ?_
    refine og_laldN (pc := 35) (j := 0) rfl dX3_product_35 (by repeat (first | exact og_set_eq _ _ _ | assumption | refine (og_set_ne _ _ (by first | assumption | omega)).trans ?_)) (by omega) (by omega) (by first | decide | assumption | omega) ?_
    refine og_aload_n (pc := 36) dX3_product_36 rfl ?_
    refine og_iload_n (pc := 37) dX3_product_37 rfl ?_
    refine og_laldN (pc := 38) rfl dX3_product_38 (by repeat (first | exact og_set_eq _ _ _ | assumption | refine (og_set_ne _ _ (by first | assumption | omega)).trans ?_)) (by omega) (by omega) (by first | decide | assumption | omega) ?_
    refine og_lmul (pc := 39) dX3_product_39 ?_
    refine og_aload_n (pc := 40) dX3_product_40 rfl ?_
    refine og_iload_n (pc := 41) dX3_product_41 rfl ?_
    refine og_laldN (pc := 42) rfl dX3_product_42 (by repeat (first | exact og_set_eq _ _ _ | assumption | refine (og_set_ne _ _ (by first | assumption | omega)).trans ?_)) (by omega) (by omega) (by first | decide | assumption | omega) ?_
    refine og_aload_n (pc := 43) dX3_product_43 rfl ?_
    refine og_iconst (pc := 44) (v := 0) dX3_product_44 (by decide) ?_
    refine og_laldN (pc := 45) (j := 0) rfl dX3_product_45 (by repeat (first | exact og_set_eq _ _ _ | assumption | refine (og_set_ne _ _ (by first | assumption | omega)).trans ?_)) (by omega) (by omega) (by first | decide | assumption | omega) ?_
    refine og_lmul (pc := 46) dX3_product_46 ?_
    refine og_ladd (pc := 47) dX3_product_47 ?_
    refine og_lastN (pc := 48) rfl dX3_product_48 (by repeat (first | exact og_set_eq _ _ _ | assumption | refine (og_set_ne _ _ (by first | assumption | omega)).trans ?_)) (by omega) (by omega) (by first | decide | assumption | omega) ?_
    rw [og_set_set, q_p1_next]
    refine og_iinc_3 (pc := 49) dX3_product_49 (og_inc (m+1)) rfl ?_
    refine og_goto (pc := 52) (tgt := 12) dX3_product_52 (by decide) ?_
    exact ih
