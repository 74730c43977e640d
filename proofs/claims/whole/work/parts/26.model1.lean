/-! ===== OctavianDeskModel, at 101, its rows at 102..122: small methods ===== -/
def og_mo (ps ty rf la un : Int32) (ls : Int64) (dp wl ct : Int32) : og_N := .inr (6, [.ref 102, .ref 103, .int ps, .ref 104, .int ty, .int rf, .ref 105, .ref 106, .ref 107, .ref 108, .ref 109, .ref 110, .ref 111, .ref 112, .int la, .int un, .ref 113, .ref 114, .ref 115, .ref 116, .long ls, .int dp, .ref 117, .ref 118, .ref 119, .ref 120, .ref 121, .ref 122, .int wl, .int ct])
theorem c_X8_in (E : og_E) (d n : Nat) (h : og_H) (x a b : Int32) :
    og_M E yX8_in (.code yX8_in cX8_in 3 (some .boolean)) d [.int x, .int a, .int b] n h 0 0 (fun v n1 h1 => n1 = n ∧ h1 = h ∧ ((v = some (.int 1) ∧ a ≤ x ∧ x ≤ b) ∨ (v = some (.int 0) ∧ ¬ (a ≤ x ∧ x ≤ b)))) no_x := by
  refine og_start (lv := [some (.int x), some (.int a), some (.int b)]) (by decide) rfl rfl (Nat.le_of_ble_eq_true rfl) fun X hr hnm htb => ?_
  refine og_iload_n (pc := 0) dX8_in_0 rfl ?_
  refine og_iload_n (pc := 1) dX8_in_1 rfl ?_
  refine og_icmp_lt (pc := 2) (tgt := 14) dX8_in_2 (by decide) (fun c => ?_) (fun c => ?_)
  · refine og_iconst (pc := 14) (v := 0) dX8_in_14 (by decide) ?_
    exact og_zret (pc := 15) hr rfl dX8_in_15 (by omega) (by omega) ⟨rfl, rfl, Or.inr ⟨rfl, fun q => og_lel q.1 c⟩⟩
  · refine og_iload_n (pc := 5) dX8_in_5 rfl ?_
    refine og_iload_n (pc := 6) dX8_in_6 rfl ?_
    refine og_icmp_gt (pc := 7) (tgt := 14) dX8_in_7 (by decide) (fun c2 => ?_) (fun c2 => ?_)
    · refine og_iconst (pc := 14) (v := 0) dX8_in_14 (by decide) ?_
      exact og_zret (pc := 15) hr rfl dX8_in_15 (by omega) (by omega) ⟨rfl, rfl, Or.inr ⟨rfl, fun q => og_lel q.2 c2⟩⟩
    · refine og_iconst (pc := 10) (v := 1) dX8_in_10 (by decide) ?_
      refine og_goto (pc := 11) (tgt := 15) dX8_in_11 (by decide) ?_
      exact og_zret (pc := 15) hr rfl dX8_in_15 (by omega) (by omega) ⟨rfl, rfl, Or.inl ⟨rfl, og_nlt c, og_nlt c2⟩⟩
def q_e8 (x : Int32) : Prop := 0 ≤ x ∧ x ≤ 7
theorem c_X8_isEight (E : og_E) (d n : Nat) (h : og_H) (x : Int32) :
    og_M E yX8_isEight (.code yX8_isEight cX8_isEight 1 (some .boolean)) (d + 1) [.int x] n h 0 0 (fun v n1 h1 => n1 = n ∧ h1 = h ∧ ((v = some (.int 1) ∧ q_e8 x) ∨ (v = some (.int 0) ∧ ¬ q_e8 x))) no_x := by
  refine og_start (lv := [some (.int x)]) (by decide) rfl rfl (Nat.le_of_ble_eq_true rfl) fun X hr hnm htb => ?_
  refine og_iload_n (pc := 0) dX8_isEight_0 rfl ?_
  refine og_iconst (pc := 1) (v := 0) dX8_isEight_1 (by decide) ?_
  refine og_bipush (pc := 2) (v := 7) dX8_isEight_2 (by decide) ?_
  refine og_callS (pc := 4) (As := [.int x, .int 0, .int 7]) (rest := []) (c_X8_in E d n h x 0 7) Y_X8_in S_X8_in K_X8_86 dX8_isEight_4 rfl rfl (Nat.le_of_ble_eq_true rfl) (by omega) (by omega) (by omega) (fun _ _ _ z => z) (fun v n1 h1 z => ?_)
  obtain ⟨rfl, rfl, z⟩ := z
  rcases z with ⟨rfl, z⟩ | ⟨rfl, z⟩
  · exact og_zret (pc := 7) hr rfl dX8_isEight_7 (by omega) (by omega) ⟨rfl, rfl, Or.inl ⟨rfl, z⟩⟩
  · exact og_zret (pc := 7) hr rfl dX8_isEight_7 (by omega) (by omega) ⟨rfl, rfl, Or.inr ⟨rfl, z⟩⟩
theorem c_X8_throwsAt (E : og_E) (d n : Nat) (h : og_H) (x : Int32) {ps ty rf la un : Int32} {ls : Int64} {dp wl ct : Int32} (h0 : h 101 = some (og_mo ps ty rf la un ls dp wl ct)) :
    og_M E yX8_throwsAt (.code yX8_throwsAt cX8_throwsAt 2 (some .boolean)) d [.ref 101, .int x] n h 0 0 (fun v n1 h1 => n1 = n ∧ h1 = og_set h 101 (og_mo ps ty x la un ls dp wl ct) ∧ ((v = some (.int 1) ∧ 0 < x) ∨ (v = some (.int 0) ∧ ¬ 0 < x))) no_x := by
  refine og_start (lv := [some (.ref 101), some (.int x)]) (by decide) rfl rfl (Nat.le_of_ble_eq_true rfl) fun X hr hnm htb => ?_
  refine og_aload_n (pc := 0) dX8_throwsAt_0 rfl ?_
  refine og_iload_n (pc := 1) dX8_throwsAt_1 rfl ?_
  refine og_put (pc := 2) P_X8_83 dX8_throwsAt_2 (by repeat (first | exact og_set_eq _ _ _ | assumption | refine (og_set_ne _ _ (by first | assumption | omega)).trans ?_)) (by omega) rfl rfl (Nat.le_of_ble_eq_true rfl) ?_
  refine og_iload_n (pc := 5) dX8_throwsAt_5 rfl ?_
  refine og_if_le (pc := 6) (tgt := 13) dX8_throwsAt_6 (by decide) (fun c => ?_) (fun c => ?_)
  · refine og_iconst (pc := 13) (v := 0) dX8_throwsAt_13 (by decide) ?_
    exact og_zret (pc := 14) hr rfl dX8_throwsAt_14 (by omega) (by omega) ⟨rfl, rfl, Or.inr ⟨rfl, fun q => og_lel c q⟩⟩
  · refine og_iconst (pc := 9) (v := 1) dX8_throwsAt_9 (by decide) ?_
    refine og_goto (pc := 10) (tgt := 14) dX8_throwsAt_10 (by decide) ?_
    exact og_zret (pc := 14) hr rfl dX8_throwsAt_14 (by omega) (by omega) ⟨rfl, rfl, Or.inl ⟨rfl, og_nle c⟩⟩
theorem c_X8_thrown (E : og_E) (d n : Nat) (h : og_H) {ps ty rf la un : Int32} {ls : Int64} {dp wl ct : Int32} (h0 : h 101 = some (og_mo ps ty rf la un ls dp wl ct)) :
    og_M E yX8_thrown (.code yX8_thrown cX8_thrown 1 (some .int)) d [.ref 101] n h 0 0 (fun v n1 h1 => v = some (.int rf) ∧ n1 = n ∧ h1 = h) no_x := by
  refine og_start (lv := [some (.ref 101)]) (by decide) rfl rfl (Nat.le_of_ble_eq_true rfl) fun X hr hnm htb => ?_
  refine og_aload_n (pc := 0) dX8_thrown_0 rfl ?_
  refine og_get (pc := 1) F_X8_83 dX8_thrown_1 (by repeat (first | exact og_set_eq _ _ _ | assumption | refine (og_set_ne _ _ (by first | assumption | omega)).trans ?_)) (by omega) rfl ?_
  exact og_iret (pc := 4) hr dX8_thrown_4 (by omega) (by omega) ⟨rfl, rfl, rfl⟩
theorem og_i8 (r k : Nat) : (8 : Int32) * nI r + nI k = nI (8 * r + k) := by
  rw [show (8 : Int32) = nI 8 from rfl, pk_mul, nI_add]
/-- the register r out of the row s -/
def q_reg (s : Nat → Int32) (r : Nat) : Nat → Int64 := fun k => (s (8 * r + k)).toInt64
set_option maxRecDepth 4000 in
theorem c_X8_takes (E : og_E) (d n a r : Nat) (h : og_H) (s : Nat → Int32) (f : Nat → Int64) {ps ty rf la un : Int32} {ls : Int64} {dp wl ct : Int32} (h0 : h 101 = some (og_mo ps ty rf la un ls dp wl ct)) (hs : h 102 = some (rowI 67 s)) (ha : h a = some (rowL f)) (h3a : 102 < a) (hr8 : r < 8) :
    og_M E yX8_takes (.code yX8_takes cX8_takes 4 none) d [.ref 101, .ref a, .int (nI r)] n h 0 0 (fun v n1 h1 => v = none ∧ n1 = n ∧ h1 = og_set h a (rowL (q_reg s r))) no_x := by
  refine og_start (lv := [some (.ref 101), some (.ref a), some (.int (nI r)), none]) (by decide) rfl rfl (Nat.le_of_ble_eq_true rfl) fun X hr hnm htb => ?_
  have a1 : 101 ≠ a := by omega
  have a2 : 102 ≠ a := by omega
  refine og_iconst (pc := 0) (v := 0) dX8_takes_0 (by decide) ?_
  refine og_istore_n_3 (pc := 1) dX8_takes_1 rfl ?_
  refine og_congL (fun j => if j < 0 then q_reg s r j else f j) ha (by omega) (fun j _ => by simp) ?_
  refine og_for (i0 := 0) (N := 8) (by decide) (fun i => og_set h a (rowL (fun j => if j < i then q_reg s r j else f j))) (fun i => [some (.ref 101), some (.ref a), some (.int (nI r)), some (.int (nI i))]) ?_ (fun i _ hi ih => ?_)
  · refine og_iload_n (pc := 2) dX8_takes_2 rfl ?_
    refine og_bipush (pc := 3) (v := 8) dX8_takes_3 (by decide) ?_
    refine og_geN (pc := 5) (tgt := 29) (i := 8) (N := 8) dX8_takes_5 (by decide) rfl rfl (by omega) (by omega) (fun c_5 => ?_) (fun c_5 => ?_)
    · refine og_congL (q_reg s r) (og_set_eq _ _ _) (by omega) (fun j hj => by rw [if_pos (by omega)]) ?_
      rw [og_set_set]
      exact og_vret (pc := 29) hr dX8_takes_29 (by omega) (by omega) ⟨rfl, rfl, rfl⟩
    · omega
  · refine og_iload_n (pc := 2) dX8_takes_2 rfl ?_
    refine og_bipush (pc := 3) (v := 8) dX8_takes_3 (by decide) ?_
    refine og_geN (pc := 5) (tgt := 29) (i := i) (N := 8) dX8_takes_5 (by decide) rfl rfl (by omega) (by omega) (fun c_5 => ?_) (fun c_5 => ?_)
    · omega
    refine og_aload_n (pc := 8) dX8_takes_8 rfl ?_
    refine og_iload_n (pc := 9) dX8_takes_9 rfl ?_
    refine og_aload_n (pc := 10) dX8_takes_10 rfl ?_
    refine og_get (pc := 11) F_X8_7 dX8_takes_11 (by repeat (first | exact og_set_eq _ _ _ | assumption | refine (og_set_ne _ _ (by first | assumption | omega)).trans ?_)) (by omega) rfl ?_
    refine og_bipush (pc := 14) (v := 8) dX8_takes_14 (by decide) ?_
    refine og_iload_n (pc := 16) dX8_takes_16 rfl ?_
    refine og_imul (pc := 17) dX8_takes_17 ?_
    refine og_iload_n (pc := 18) dX8_takes_18 rfl ?_
    refine og_iadd (pc := 19) dX8_takes_19 ?_
    refine og_ialdN (pc := 20) (og_i8 r i) dX8_takes_20 (by repeat (first | exact og_set_eq _ _ _ | assumption | refine (og_set_ne _ _ (by first | assumption | omega)).trans ?_)) (by omega) (by omega) (by first | decide | assumption | omega) ?_
    refine og_i2l (pc := 21) dX8_takes_21 rfl ?_
    refine og_lastN (pc := 22) rfl dX8_takes_22 (by repeat (first | exact og_set_eq _ _ _ | assumption | refine (og_set_ne _ _ (by first | assumption | omega)).trans ?_)) (by omega) (by omega) (by first | decide | assumption | omega) ?_
    refine og_iinc_3 (pc := 23) dX8_takes_23 (og_inc i) rfl ?_
    refine og_goto (pc := 26) (tgt := 2) dX8_takes_26 (by decide) ?_
    rw [og_set_set, og_fill (by rfl)]
    exact ih
/-- the row s with f put into the register r -/
def q_pt (s : Nat → Int32) (f : Nat → Int64) (r : Nat) : Nat → Int32 := fun j => if 8 * r ≤ j ∧ j < 8 * r + 8 then (f (j - 8 * r)).toInt32 else s j
def q_pti (s : Nat → Int32) (f : Nat → Int64) (r i : Nat) : Nat → Int32 := fun j => if 8 * r ≤ j ∧ j < 8 * r + i then (f (j - 8 * r)).toInt32 else s j
theorem q_pti_next (s : Nat → Int32) (f : Nat → Int64) (r i : Nat) : upd (q_pti s f r i) (8 * r + i) (f i).toInt32 = q_pti s f r (i + 1) := by
  funext j
  unfold upd q_pti
  by_cases h : j = 8 * r + i
  · subst h
    rw [if_pos rfl, if_pos (by omega)]
    congr 2
    omega
  · rw [if_neg h]
    by_cases h2 : 8 * r ≤ j ∧ j < 8 * r + i
    · rw [if_pos h2, if_pos (by omega)]
    · rw [if_neg h2, if_neg (by omega)]
set_option maxRecDepth 4000 in
theorem c_X8_puts (E : og_E) (d n a r : Nat) (h : og_H) (s : Nat → Int32) (f : Nat → Int64) {ps ty rf la un : Int32} {ls : Int64} {dp wl ct : Int32} (h0 : h 101 = some (og_mo ps ty rf la un ls dp wl ct)) (hs : h 102 = some (rowI 67 s)) (ha : h a = some (rowL f)) (h3a : 102 < a) (hr8 : r < 8) :
    og_M E yX8_puts (.code yX8_puts cX8_puts 4 none) d [.ref 101, .ref a, .int (nI r)] n h 0 0 (fun v n1 h1 => v = none ∧ n1 = n ∧ h1 = og_set h 102 (rowI 67 (q_pt s f r))) no_x := by
  refine og_start (lv := [some (.ref 101), some (.ref a), some (.int (nI r)), none]) (by decide) rfl rfl (Nat.le_of_ble_eq_true rfl) fun X hr hnm htb => ?_
  have a1 : a ≠ 102 := by omega
  refine og_iconst (pc := 0) (v := 0) dX8_puts_0 (by decide) ?_
  refine og_istore_n_3 (pc := 1) dX8_puts_1 rfl ?_
  refine og_congI (q_pti s f r 0) hs (by omega) (fun j _ => by unfold q_pti; rw [if_neg (by omega)]) ?_
  refine og_for (i0 := 0) (N := 8) (by decide) (fun i => og_set h 102 (rowI 67 (q_pti s f r i))) (fun i => [some (.ref 101), some (.ref a), some (.int (nI r)), some (.int (nI i))]) ?_ (fun i _ hi ih => ?_)
  · refine og_iload_n (pc := 2) dX8_puts_2 rfl ?_
    refine og_bipush (pc := 3) (v := 8) dX8_puts_3 (by decide) ?_
    refine og_geN (pc := 5) (tgt := 29) (i := 8) (N := 8) dX8_puts_5 (by decide) rfl rfl (by omega) (by omega) (fun c_5 => ?_) (fun c_5 => ?_)
    · exact og_vret (pc := 29) hr dX8_puts_29 (by omega) (by omega) ⟨rfl, rfl, rfl⟩
    · omega
  · refine og_iload_n (pc := 2) dX8_puts_2 rfl ?_
    refine og_bipush (pc := 3) (v := 8) dX8_puts_3 (by decide) ?_
    refine og_geN (pc := 5) (tgt := 29) (i := i) (N := 8) dX8_puts_5 (by decide) rfl rfl (by omega) (by omega) (fun c_5 => ?_) (fun c_5 => ?_)
    · omega
    refine og_aload_n (pc := 8) dX8_puts_8 rfl ?_
    refine og_get (pc := 9) F_X8_7 dX8_puts_9 (by repeat (first | exact og_set_eq _ _ _ | assumption | refine (og_set_ne _ _ (by first | assumption | omega)).trans ?_)) (by omega) rfl ?_
    refine og_bipush (pc := 12) (v := 8) dX8_puts_12 (by decide) ?_
    refine og_iload_n (pc := 14) dX8_puts_14 rfl ?_
    refine og_imul (pc := 15) dX8_puts_15 ?_
    refine og_iload_n (pc := 16) dX8_puts_16 rfl ?_
    refine og_iadd (pc := 17) dX8_puts_17 ?_
    refine og_aload_n (pc := 18) dX8_puts_18 rfl ?_
    refine og_iload_n (pc := 19) dX8_puts_19 rfl ?_
    refine og_laldN (pc := 20) rfl dX8_puts_20 (by repeat (first | exact og_set_eq _ _ _ | assumption | refine (og_set_ne _ _ (by first | assumption | omega)).trans ?_)) (by omega) (by omega) (by first | decide | assumption | omega) ?_
    refine og_l2i (pc := 21) dX8_puts_21 rfl ?_
    refine og_iastN (pc := 22) (og_i8 r i) dX8_puts_22 (by repeat (first | exact og_set_eq _ _ _ | assumption | refine (og_set_ne _ _ (by first | assumption | omega)).trans ?_)) (by omega) (by omega) (by first | decide | assumption | omega) ?_
    refine og_iinc_3 (pc := 23) dX8_puts_23 (og_inc i) rfl ?_
    refine og_goto (pc := 26) (tgt := 2) dX8_puts_26 (by decide) ?_
    rw [og_set_set, q_pti_next]
    exact ih
theorem c_X8_square (E : og_E) (d n a : Nat) (h : og_H) (f : Nat → Int64) (ha : h a = some (rowL f)) (h3a : 3 ≤ a) :
    og_M E yX8_square (.code yX8_square cX8_square 4 (some .long)) d [.ref a] n h 0 0 (fun v n1 h1 => v = some (.long (q_inner f f 8)) ∧ n1 = n ∧ h1 = h) no_x := by
  refine og_start (lv := [some (.ref a), none, none, none]) (by decide) rfl rfl (Nat.le_of_ble_eq_true rfl) fun X hr hnm htb => ?_
  refine og_lconst (pc := 0) (v := 0) dX8_square_0 (by decide) ?_
  refine og_lstore_n_1 (pc := 1) dX8_square_1 rfl ?_
  refine og_iconst (pc := 2) (v := 0) dX8_square_2 (by decide) ?_
  refine og_istore_n_3 (pc := 3) dX8_square_3 rfl ?_
  refine og_for (i0 := 0) (N := 8) (by decide) (fun _ => h) (fun i => [some (.ref a), some (.long (q_inner f f i)), none, some (.int (nI i))]) ?_ (fun i hi1 hi ih => ?_)
  · refine og_iload_n (pc := 4) dX8_square_4 rfl ?_
    refine og_bipush (pc := 5) (v := 8) dX8_square_5 (by decide) ?_
    refine og_geN (pc := 7) (tgt := 26) (i := 8) (N := 8) dX8_square_7 (by decide) rfl rfl (by omega) (by omega) (fun c_7 => ?_) (fun c_7 => ?_)
    · refine og_lload_n (pc := 26) dX8_square_26 rfl ?_
      exact og_lret (pc := 27) hr dX8_square_27 (by omega) (by omega) ⟨rfl, rfl, rfl⟩
    · omega
  · refine og_iload_n (pc := 4) dX8_square_4 rfl ?_
    refine og_bipush (pc := 5) (v := 8) dX8_square_5 (by decide) ?_
    refine og_geN (pc := 7) (tgt := 26) (i := i) (N := 8) dX8_square_7 (by decide) rfl rfl (by omega) (by omega) (fun c_7 => ?_) (fun c_7 => ?_)
    · omega
    refine og_lload_n (pc := 10) dX8_square_10 rfl ?_
    refine og_aload_n (pc := 11) dX8_square_11 rfl ?_
    refine og_iload_n (pc := 12) dX8_square_12 rfl ?_
    refine og_laldN (pc := 13) rfl dX8_square_13 (by repeat (first | exact og_set_eq _ _ _ | assumption | refine (og_set_ne _ _ (by first | assumption | omega)).trans ?_)) (by omega) (by omega) (by first | decide | assumption | omega) ?_
    refine og_aload_n (pc := 14) dX8_square_14 rfl ?_
    refine og_iload_n (pc := 15) dX8_square_15 rfl ?_
    refine og_laldN (pc := 16) rfl dX8_square_16 (by repeat (first | exact og_set_eq _ _ _ | assumption | refine (og_set_ne _ _ (by first | assumption | omega)).trans ?_)) (by omega) (by omega) (by first | decide | assumption | omega) ?_
    refine og_lmul (pc := 17) dX8_square_17 ?_
    refine og_ladd (pc := 18) dX8_square_18 ?_
    refine og_lstore_n_1 (pc := 19) dX8_square_19 rfl ?_
    refine og_iinc_3 (pc := 20) dX8_square_20 (og_inc i) rfl ?_
    refine og_goto (pc := 23) (tgt := 4) dX8_square_23 (by decide) ?_
    exact ih
theorem c_X8_isNought (E : og_E) (d n a : Nat) (h : og_H) (f : Nat → Int64) (ha : h a = some (rowL f)) (h3a : 3 ≤ a) :
    og_M E yX8_isNought (.code yX8_isNought cX8_isNought 1 (some .boolean)) (d + 1) [.ref a] n h 0 0 (fun v n1 h1 => n1 = n ∧ h1 = h ∧ ((v = some (.int 1) ∧ q_inner f f 8 = 0) ∨ (v = some (.int 0) ∧ q_inner f f 8 ≠ 0))) no_x := by
  refine og_start (lv := [some (.ref a)]) (by decide) rfl rfl (Nat.le_of_ble_eq_true rfl) fun X hr hnm htb => ?_
  refine og_aload_n (pc := 0) dX8_isNought_0 rfl ?_
  refine og_callS (pc := 1) (As := [.ref a]) (rest := []) (c_X8_square E d n a h f ha h3a) Y_X8_square S_X8_square K_X8_97 dX8_isNought_1 rfl rfl (Nat.le_of_ble_eq_true rfl) (by omega) (by omega) (by omega) (fun _ _ _ z => z) (fun v n1 h1 z => ?_)
  obtain ⟨rfl, rfl, rfl⟩ := z
  refine og_lconst (pc := 4) (v := 0) dX8_isNought_4 (by decide) ?_
  refine og_lcmp (pc := 5) dX8_isNought_5 ?_
  refine og_if_ne (pc := 6) (tgt := 13) dX8_isNought_6 (by decide) (fun c => ?_) (fun c => ?_)
  · refine og_iconst (pc := 13) (v := 0) dX8_isNought_13 (by decide) ?_
    exact og_zret (pc := 14) hr rfl dX8_isNought_14 (by omega) (by omega) ⟨rfl, rfl, Or.inr ⟨rfl, fun q => c ((og_cmp0 _ _).mpr q)⟩⟩
  · refine og_iconst (pc := 9) (v := 1) dX8_isNought_9 (by decide) ?_
    refine og_goto (pc := 10) (tgt := 14) dX8_isNought_10 (by decide) ?_
    exact og_zret (pc := 14) hr rfl dX8_isNought_14 (by omega) (by omega) ⟨rfl, rfl, Or.inl ⟨rfl, (og_cmp0 _ _).mp c⟩⟩
def q_hok (p : Int64) (x : Int64) : Prop := x - x / p * p = 0 ∧ ¬ x / p < -2000 ∧ ¬ 2000 < x / p
set_option maxRecDepth 4000 in
theorem c_X8_halves (E : og_E) (d n a : Nat) (h : og_H) (f : Nat → Int64) (p : Int32) (hp : ¬ p.toInt64 = 0) (ha : h a = some (rowL f)) (h3a : 3 ≤ a) :
    og_M E yX8_halves (.code yX8_halves cX8_halves 4 (some .boolean)) d [.ref a, .int p] n h 0 0 (fun v n1 h1 => n1 = n ∧ ((v = some (.int 1) ∧ (∀ j, j < 8 → q_hok p.toInt64 (f j)) ∧ h1 = og_set h a (rowL (fun j => f j / p.toInt64))) ∨ (v = some (.int 0) ∧ ¬ (∀ j, j < 8 → q_hok p.toInt64 (f j)) ∧ h1 = h))) no_x := by
  refine og_start (lv := [some (.ref a), some (.int p), none, none]) (by decide) rfl rfl (Nat.le_of_ble_eq_true rfl) fun X hr hnm htb => ?_
  refine og_iconst (pc := 0) (v := 1) dX8_halves_0 (by decide) ?_
  refine og_istore_n_2 (pc := 1) dX8_halves_1 rfl ?_
  refine og_iconst (pc := 2) (v := 0) dX8_halves_2 (by decide) ?_
  refine og_istore_n_3 (pc := 3) dX8_halves_3 rfl ?_
  have e0 : q_if (∀ j, j < 0 → q_hok p.toInt64 (f j)) (1 : Int32) 0 = 1 := q_if_pos (fun j hj => absurd hj (by omega))
  refine og_to rfl rfl rfl (show [some (.ref a), some (.int p), some (.int (q_if (∀ j, j < 0 → q_hok p.toInt64 (f j)) (1 : Int32) 0)), some (.int (nI 0))] = _ by rw [e0]; rfl) rfl (og_for (i0 := 0) (N := 8) (by decide) (fun _ => h) (fun i => [some (.ref a), some (.int p), some (.int (q_if (∀ j, j < i → q_hok p.toInt64 (f j)) (1 : Int32) 0)), some (.int (nI i))]) ?_ (fun i hi1 hi ih => ?_))
  · refine og_iload_n (pc := 4) dX8_halves_4 rfl ?_
    refine og_bipush (pc := 5) (v := 8) dX8_halves_5 (by decide) ?_
    refine og_geN (pc := 7) (tgt := 63) (i := 8) (N := 8) dX8_halves_7 (by decide) rfl rfl (by omega) (by omega) (fun c_7 => ?_) (fun c_7 => ?_)
    · by_cases hP : ∀ j, j < 8 → q_hok p.toInt64 (f j)
      · rw [q_if_pos hP]
        refine og_iconst (pc := 63) (v := 0) dX8_halves_63 (by decide) ?_
        refine og_istore_n_3 (pc := 64) dX8_halves_64 rfl ?_
        refine og_congL (fun j => if j < 0 then (fun j => f j / p.toInt64) j else f j) ha h3a (fun j _ => by simp) ?_
        refine og_for (i0 := 0) (N := 8) (by decide) (fun i => og_set h a (rowL (fun j => if j < i then (fun j => f j / p.toInt64) j else f j))) (fun i => [some (.ref a), some (.int p), some (.int 1), some (.int (nI i))]) ?_ (fun i hi1 hi ih => ?_)
        · refine og_iload_n (pc := 65) dX8_halves_65 rfl ?_
          refine og_bipush (pc := 66) (v := 8) dX8_halves_66 (by decide) ?_
          refine og_geN (pc := 68) (tgt := 89) (i := 8) (N := 8) dX8_halves_68 (by decide) rfl rfl (by omega) (by omega) (fun c_68 => ?_) (fun c_68 => ?_)
          · refine og_congL (fun j => f j / p.toInt64) (og_set_eq _ _ _) h3a (fun j hj => by rw [if_pos (by omega)]) ?_
            rw [og_set_set]
            refine og_iload_n (pc := 89) dX8_halves_89 rfl ?_
            exact og_zret (pc := 90) hr rfl dX8_halves_90 (by omega) (by omega) ⟨rfl, Or.inl ⟨rfl, hP, rfl⟩⟩
          · omega
        · refine og_iload_n (pc := 65) dX8_halves_65 rfl ?_
          refine og_bipush (pc := 66) (v := 8) dX8_halves_66 (by decide) ?_
          refine og_geN (pc := 68) (tgt := 89) (i := i) (N := 8) dX8_halves_68 (by decide) rfl rfl (by omega) (by omega) (fun c_68 => ?_) (fun c_68 => ?_)
          · omega
          refine og_iload_n (pc := 71) dX8_halves_71 rfl ?_
          refine og_if_eq (pc := 72) (tgt := 89) dX8_halves_72 (by decide) (fun c => absurd c (by decide)) (fun _ => ?_)
          refine og_aload_n (pc := 75) dX8_halves_75 rfl ?_
          refine og_iload_n (pc := 76) dX8_halves_76 rfl ?_
          refine og_dup2 (pc := 77) dX8_halves_77 rfl rfl ?_
          refine og_laldN (pc := 78) rfl dX8_halves_78 (by repeat (first | exact og_set_eq _ _ _ | assumption | refine (og_set_ne _ _ (by first | assumption | omega)).trans ?_)) (by omega) (by omega) (by first | decide | assumption | omega) ?_
          refine og_iload_n (pc := 79) dX8_halves_79 rfl ?_
          refine og_i2l (pc := 80) dX8_halves_80 rfl ?_
          refine og_ldiv (pc := 81) dX8_halves_81 hp ?_
          refine og_lastN (pc := 82) rfl dX8_halves_82 (by repeat (first | exact og_set_eq _ _ _ | assumption | refine (og_set_ne _ _ (by first | assumption | omega)).trans ?_)) (by omega) (by omega) (by first | decide | assumption | omega) ?_
          refine og_iinc_3 (pc := 83) dX8_halves_83 (og_inc i) rfl ?_
          refine og_goto (pc := 86) (tgt := 65) dX8_halves_86 (by decide) ?_
          rw [og_set_set, og_fill (by rw [if_neg (Nat.lt_irrefl i)])]
          exact ih
      · rw [q_if_neg hP]
        refine og_iconst (pc := 63) (v := 0) dX8_halves_63 (by decide) ?_
        refine og_istore_n_3 (pc := 64) dX8_halves_64 rfl ?_
        refine og_iload_n (pc := 65) dX8_halves_65 rfl ?_
        refine og_bipush (pc := 66) (v := 8) dX8_halves_66 (by decide) ?_
        refine og_geN (pc := 68) (tgt := 89) (i := 0) (N := 8) dX8_halves_68 (by decide) rfl rfl (by omega) (by omega) (fun c_68 => ?_) (fun c_68 => ?_)
        · omega
        refine og_iload_n (pc := 71) dX8_halves_71 rfl ?_
        refine og_if_eq (pc := 72) (tgt := 89) dX8_halves_72 (by decide) (fun _ => ?_) (fun c => absurd rfl c)
        refine og_iload_n (pc := 89) dX8_halves_89 rfl ?_
        exact og_zret (pc := 90) hr rfl dX8_halves_90 (by omega) (by omega) ⟨rfl, Or.inr ⟨rfl, hP, rfl⟩⟩
    · omega
  · have bad : ¬ (∀ j, j < i + 1 → q_hok p.toInt64 (f j)) → og_G E yX8_halves.cls cX8_halves d 0 0 4 X (og_Q E (fun v n1 h1 => n1 = n ∧ ((v = some (.int 1) ∧ (∀ j, j < 8 → q_hok p.toInt64 (f j)) ∧ h1 = og_set h a (rowL (fun j => f j / p.toInt64))) ∨ (v = some (.int 0) ∧ ¬ (∀ j, j < 8 → q_hok p.toInt64 (f j)) ∧ h1 = h))) no_x 0 0 X) 0 0 n h 55 [some (.ref a), some (.int p), some (.int (q_if (∀ j, j < i → q_hok p.toInt64 (f j)) (1 : Int32) 0)), some (.int (nI i))] [] := by
      intro hb
      rw [q_if_neg hb] at ih
      refine og_iconst (pc := 55) (v := 0) dX8_halves_55 (by decide) ?_
      refine og_istore_n_2 (pc := 56) dX8_halves_56 rfl ?_
      refine og_iinc_3 (pc := 57) dX8_halves_57 (og_inc i) rfl ?_
      refine og_goto (pc := 60) (tgt := 4) dX8_halves_60 (by decide) ?_
      exact ih
    refine og_iload_n (pc := 4) dX8_halves_4 rfl ?_
    refine og_bipush (pc := 5) (v := 8) dX8_halves_5 (by decide) ?_
    refine og_geN (pc := 7) (tgt := 63) (i := i) (N := 8) dX8_halves_7 (by decide) rfl rfl (by omega) (by omega) (fun c_7 => ?_) (fun c_7 => ?_)
    · omega
    refine og_iload_n (pc := 10) dX8_halves_10 rfl ?_
    by_cases hP : ∀ j, j < i → q_hok p.toInt64 (f j)
    · have e1 : q_if (∀ j, j < i → q_hok p.toInt64 (f j)) (1 : Int32) 0 = 1 := q_if_pos hP
      rw [e1] at bad ⊢
      refine og_if_eq (pc := 11) (tgt := 55) dX8_halves_11 (by decide) (fun c => absurd c (by decide)) (fun _ => ?_)
      refine og_aload_n (pc := 14) dX8_halves_14 rfl ?_
      refine og_iload_n (pc := 15) dX8_halves_15 rfl ?_
      refine og_laldN (pc := 16) rfl dX8_halves_16 (by repeat (first | exact og_set_eq _ _ _ | assumption | refine (og_set_ne _ _ (by first | assumption | omega)).trans ?_)) (by omega) (by omega) (by first | decide | assumption | omega) ?_
      refine og_iload_n (pc := 17) dX8_halves_17 rfl ?_
      refine og_i2l (pc := 18) dX8_halves_18 rfl ?_
      refine og_lrem (pc := 19) dX8_halves_19 hp ?_
      refine og_lconst (pc := 20) (v := 0) dX8_halves_20 (by decide) ?_
      refine og_lcmp (pc := 21) dX8_halves_21 ?_
      refine og_if_ne (pc := 22) (tgt := 55) dX8_halves_22 (by decide) (fun c => bad (fun q => c ((og_cmp0 _ _).mpr (q i (by omega)).1))) (fun c => ?_)
      refine og_aload_n (pc := 25) dX8_halves_25 rfl ?_
      refine og_iload_n (pc := 26) dX8_halves_26 rfl ?_
      refine og_laldN (pc := 27) rfl dX8_halves_27 (by repeat (first | exact og_set_eq _ _ _ | assumption | refine (og_set_ne _ _ (by first | assumption | omega)).trans ?_)) (by omega) (by omega) (by first | decide | assumption | omega) ?_
      refine og_iload_n (pc := 28) dX8_halves_28 rfl ?_
      refine og_i2l (pc := 29) dX8_halves_29 rfl ?_
      refine og_ldiv (pc := 30) dX8_halves_30 hp ?_
      refine og_ldc2 (pc := 31) LC_X8_93 dX8_halves_31 ?_
      refine og_lcmp (pc := 34) dX8_halves_34 ?_
      refine og_if_lt (pc := 35) (tgt := 55) dX8_halves_35 (by decide) (fun c2 => bad (fun q => (q i (by omega)).2.1 ((og_cmpL _ _).mp c2))) (fun c2 => ?_)
      refine og_aload_n (pc := 38) dX8_halves_38 rfl ?_
      refine og_iload_n (pc := 39) dX8_halves_39 rfl ?_
      refine og_laldN (pc := 40) rfl dX8_halves_40 (by repeat (first | exact og_set_eq _ _ _ | assumption | refine (og_set_ne _ _ (by first | assumption | omega)).trans ?_)) (by omega) (by omega) (by first | decide | assumption | omega) ?_
      refine og_iload_n (pc := 41) dX8_halves_41 rfl ?_
      refine og_i2l (pc := 42) dX8_halves_42 rfl ?_
      refine og_ldiv (pc := 43) dX8_halves_43 hp ?_
      refine og_ldc2 (pc := 44) LC_X8_95 dX8_halves_44 ?_
      refine og_lcmp (pc := 47) dX8_halves_47 ?_
      refine og_if_gt (pc := 48) (tgt := 55) dX8_halves_48 (by decide) (fun c3 => bad (fun q => (q i (by omega)).2.2 ((og_cmpG _ _).mp c3))) (fun c3 => ?_)
      refine og_iconst (pc := 51) (v := 1) dX8_halves_51 (by decide) ?_
      refine og_goto (pc := 52) (tgt := 56) dX8_halves_52 (by decide) ?_
      refine og_istore_n_2 (pc := 56) dX8_halves_56 rfl ?_
      refine og_iinc_3 (pc := 57) dX8_halves_57 (og_inc i) rfl ?_
      refine og_goto (pc := 60) (tgt := 4) dX8_halves_60 (by decide) ?_
      have hP1 : ∀ j, j < i + 1 → q_hok p.toInt64 (f j) := fun j hj => by
        by_cases hji : j = i
        · rw [hji]
          exact ⟨(og_cmp0 _ _).mp c, fun q => c2 ((og_cmpL _ _).mpr q), fun q => c3 ((og_cmpG _ _).mpr q)⟩
        · exact hP j (by omega)
      rw [q_if_pos hP1] at ih
      exact ih
    · have e1 : q_if (∀ j, j < i → q_hok p.toInt64 (f j)) (1 : Int32) 0 = 0 := q_if_neg hP
      rw [e1] at bad ⊢
      exact og_if_eq (pc := 11) (tgt := 55) dX8_halves_11 (by decide) (fun _ => bad (fun q => hP (fun j hj => q j (by omega)))) (fun c => absurd rfl c)
