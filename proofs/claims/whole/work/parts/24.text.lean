/-! ===== State.takeFrom; Text, at its fixed cells 70 and 71 ===== -/
abbrev og_SD : Type := (Nat → Nat → Int64) × Nat × Int32 × Int32
def og_so (b : Nat) (s : og_SD) : og_N := .inr (2, [.ref (b + 1), .int (nI s.2.1), .int s.2.2.1, .int s.2.2.2])
/-- a State at b, its rows behind it -/
def og_Sat (h : og_H) (b : Nat) (s : og_SD) : Prop := h b = some (og_so b s) ∧ h (b + 1) = some (og_grid (b + 1) 8) ∧ ∀ r, r < 8 → h (b + 2 + r) = some (rowL (s.1 r))
theorem og_Sat.kept {h h1 : og_H} {b : Nat} {s : og_SD} (w : og_Sat h b s) (hk : ∀ k, b ≤ k → k < b + 10 → h1 k = h k) : og_Sat h1 b s :=
  ⟨(hk _ (by omega) (by omega)).trans w.1, (hk _ (by omega) (by omega)).trans w.2.1, fun r hr => (hk _ (by omega) (by omega)).trans (w.2.2 r hr)⟩
def q_tk (h : og_H) (b : Nat) (s : og_SD) : Nat → og_H
  | 0 => h
  | i + 1 => og_set (q_tk h b s i) (b + 2 + i) (rowL (s.1 i))
theorem q_tk_ne (h : og_H) (b : Nat) (s : og_SD) (i k : Nat) (hk : k < b + 2 ∨ b + 2 + i ≤ k) : q_tk h b s i k = h k := by
  induction i with
  | zero => rfl
  | succ i ih => rw [q_tk, og_set_ne _ _ (by omega)]; exact ih (by omega)
theorem q_tk_at (h : og_H) (b : Nat) (s : og_SD) (i r : Nat) (hr : r < i) : q_tk h b s i (b + 2 + r) = some (rowL (s.1 r)) := by
  induction i with
  | zero => omega
  | succ i ih =>
    rw [q_tk]
    by_cases h1 : r = i
    · rw [h1, og_set_eq]
    · rw [og_set_ne _ _ (by omega)]
      exact ih (by omega)
set_option maxRecDepth 4000 in
theorem c_X4_takeFrom (E : og_E) (d n b c : Nat) (h : og_H) (s t : og_SD) (hb : og_Sat h b s) (hc : og_Sat h c t) (h3b : 3 ≤ b) (h3c : 3 ≤ c) (hbc : b + 10 ≤ c ∨ c + 10 ≤ b) :
    og_M E yX4_takeFrom (.code yX4_takeFrom cX4_takeFrom 3 none) (d + 1) [.ref b, .ref c] n h 0 0 (fun v n1 h1 => v = none ∧ n1 = n ∧ og_Sat h1 b t ∧ ∀ k, ¬ (b ≤ k ∧ k < b + 10) → h1 k = h k) no_x := by
  refine og_start (lv := [some (.ref b), some (.ref c), none]) (by decide) rfl rfl (Nat.le_of_ble_eq_true rfl) fun X hr hnm htb => ?_
  have gb : ∀ i, i < 8 → (if i < 8 then some (b + 1 + 1 + i) else none) = some (b + 2 + i) := fun i hi => if_pos hi
  have gc : ∀ i, i < 8 → (if i < 8 then some (c + 1 + 1 + i) else none) = some (c + 2 + i) := fun i hi => if_pos hi
  refine og_iconst (pc := 0) (v := 0) dX4_takeFrom_0 (by decide) ?_
  refine og_istore_n_2 (pc := 1) dX4_takeFrom_1 rfl ?_
  refine og_for (i0 := 0) (N := 8) (by decide) (fun i => q_tk h b t i) (fun i => [some (.ref b), some (.ref c), some (.int (nI i))]) ?_ (fun i _ hi ih => ?_)
  · refine og_iload_n (pc := 2) dX4_takeFrom_2 rfl ?_
    refine og_bipush (pc := 3) (v := 8) dX4_takeFrom_3 (by decide) ?_
    refine og_geN (pc := 5) (tgt := 29) (i := 8) (N := 8) dX4_takeFrom_5 (by decide) rfl rfl (by omega) (by omega) (fun c_5 => ?_) (fun c_5 => ?_)
    · have e1 : q_tk h b t 8 c = some (og_so c t) := (q_tk_ne _ _ _ _ _ (by omega)).trans hc.1
      have e2 : q_tk h b t 8 b = some (og_so b s) := (q_tk_ne _ _ _ _ _ (by omega)).trans hb.1
      have hcb : c ≠ b := by omega
      refine og_aload_n (pc := 29) dX4_takeFrom_29 rfl ?_
      refine og_aload_n (pc := 30) dX4_takeFrom_30 rfl ?_
      refine og_get (pc := 31) F_X4_18 dX4_takeFrom_31 (by repeat (first | exact og_set_eq _ _ _ | assumption | refine (og_set_ne _ _ (by first | assumption | omega)).trans ?_)) (by omega) rfl ?_
      refine og_put (pc := 34) P_X4_18 dX4_takeFrom_34 (by repeat (first | exact og_set_eq _ _ _ | assumption | refine (og_set_ne _ _ (by first | assumption | omega)).trans ?_)) (by omega) rfl rfl (Nat.le_of_ble_eq_true rfl) ?_
      refine og_aload_n (pc := 37) dX4_takeFrom_37 rfl ?_
      refine og_aload_n (pc := 38) dX4_takeFrom_38 rfl ?_
      refine og_get (pc := 39) F_X4_22 dX4_takeFrom_39 (by repeat (first | exact og_set_eq _ _ _ | assumption | refine (og_set_ne _ _ (by first | assumption | omega)).trans ?_)) (by omega) rfl ?_
      refine og_put (pc := 42) P_X4_22 dX4_takeFrom_42 (by repeat (first | exact og_set_eq _ _ _ | assumption | refine (og_set_ne _ _ (by first | assumption | omega)).trans ?_)) (by omega) rfl rfl (Nat.le_of_ble_eq_true rfl) ?_
      refine og_aload_n (pc := 45) dX4_takeFrom_45 rfl ?_
      refine og_aload_n (pc := 46) dX4_takeFrom_46 rfl ?_
      refine og_get (pc := 47) F_X4_25 dX4_takeFrom_47 (by repeat (first | exact og_set_eq _ _ _ | assumption | refine (og_set_ne _ _ (by first | assumption | omega)).trans ?_)) (by omega) rfl ?_
      refine og_put (pc := 50) P_X4_25 dX4_takeFrom_50 (by repeat (first | exact og_set_eq _ _ _ | assumption | refine (og_set_ne _ _ (by first | assumption | omega)).trans ?_)) (by omega) rfl rfl (Nat.le_of_ble_eq_true rfl) ?_
      rw [og_set_set, og_set_set]
      refine og_vret (pc := 53) hr dX4_takeFrom_53 (by omega) (by omega) ⟨rfl, rfl, ⟨og_set_eq _ _ _, ?_, fun r hr => ?_⟩, fun k hk => ?_⟩
      · rw [og_set_ne _ _ (by omega), q_tk_ne _ _ _ _ _ (by omega)]
        exact hb.2.1
      · rw [og_set_ne _ _ (by omega)]
        exact q_tk_at _ _ _ _ _ hr
      · rw [og_set_ne _ _ (by omega), q_tk_ne _ _ _ _ _ (by omega)]
    · omega
  · have e1 : q_tk h b t i c = some (og_so c t) := (q_tk_ne _ _ _ _ _ (by omega)).trans hc.1
    have e2 : q_tk h b t i b = some (og_so b s) := (q_tk_ne _ _ _ _ _ (by omega)).trans hb.1
    have e3 : q_tk h b t i (c + 1) = some (og_grid (c + 1) 8) := (q_tk_ne _ _ _ _ _ (by omega)).trans hc.2.1
    have e4 : q_tk h b t i (b + 1) = some (og_grid (b + 1) 8) := (q_tk_ne _ _ _ _ _ (by omega)).trans hb.2.1
    have e5 : q_tk h b t i (c + 2 + i) = some (rowL (t.1 i)) := (q_tk_ne _ _ _ _ _ (by omega)).trans (hc.2.2 i hi)
    have e6 : q_tk h b t i (b + 2 + i) = some (rowL (s.1 i)) := (q_tk_ne _ _ _ _ _ (by omega)).trans (hb.2.2 i hi)
    refine og_iload_n (pc := 2) dX4_takeFrom_2 rfl ?_
    refine og_bipush (pc := 3) (v := 8) dX4_takeFrom_3 (by decide) ?_
    refine og_geN (pc := 5) (tgt := 29) (i := i) (N := 8) dX4_takeFrom_5 (by decide) rfl rfl (by omega) (by omega) (fun c_5 => ?_) (fun c_5 => ?_)
    · omega
    refine og_aload_n (pc := 8) dX4_takeFrom_8 rfl ?_
    refine og_get (pc := 9) F_X4_13 dX4_takeFrom_9 (by repeat (first | exact og_set_eq _ _ _ | assumption | refine (og_set_ne _ _ (by first | assumption | omega)).trans ?_)) (by omega) rfl ?_
    refine og_iload_n (pc := 12) dX4_takeFrom_12 rfl ?_
    refine og_aaldN (pc := 13) rfl dX4_takeFrom_13 e3 (by omega) (by decide) (by decide) (by omega) (by first | decide | assumption | omega) (gc i hi) ?_
    refine og_aload_n (pc := 14) dX4_takeFrom_14 rfl ?_
    refine og_get (pc := 15) F_X4_13 dX4_takeFrom_15 (by repeat (first | exact og_set_eq _ _ _ | assumption | refine (og_set_ne _ _ (by first | assumption | omega)).trans ?_)) (by omega) rfl ?_
    refine og_iload_n (pc := 18) dX4_takeFrom_18 rfl ?_
    refine og_aaldN (pc := 19) rfl dX4_takeFrom_19 e4 (by omega) (by decide) (by decide) (by omega) (by first | decide | assumption | omega) (gb i hi) ?_
    refine og_callS (pc := 20) (As := [.ref (c + 2 + i), .ref (b + 2 + i)]) (rest := []) (c_X3_copy E d n (c + 2 + i) (b + 2 + i) _ _ _ e5 e6 (by omega) (by omega) (by omega)) Y_X3_copy S_X3_copy K_X4_30 dX4_takeFrom_20 rfl rfl (by decide) (by omega) (by omega) (by omega) (fun _ _ _ z => z) (fun v n2 h2 z => ?_)
    obtain ⟨rfl, rfl, rfl⟩ := z
    refine og_iinc_2 (pc := 23) dX4_takeFrom_23 (og_inc i) rfl ?_
    refine og_goto (pc := 26) (tgt := 2) dX4_takeFrom_26 (by decide) ?_
    exact ih
def og_tx (L dp : Nat) : og_N := .inr (3, [.ref 71, .int (nI L), .int (nI dp)])
def q_letter (x : Int32) : Prop := 97 ≤ x ∧ x ≤ 104
def q_digit (x : Int32) : Prop := 49 ≤ x ∧ x ≤ 57
theorem c_X5_isLetter (E : og_E) (d n : Nat) (h : og_H) (x : Int32) :
    og_M E yX5_isLetter (.code yX5_isLetter cX5_isLetter 1 (some .boolean)) d [.int x] n h 0 0 (fun v n1 h1 => n1 = n ∧ h1 = h ∧ ((v = some (.int 1) ∧ q_letter x) ∨ (v = some (.int 0) ∧ ¬ q_letter x))) no_x := by
  refine og_start (lv := [some (.int x)]) (by decide) rfl rfl (Nat.le_of_ble_eq_true rfl) fun X hr hnm htb => ?_
  refine og_iload_n (pc := 0) dX5_isLetter_0 rfl ?_
  refine og_bipush (pc := 1) (v := 97) dX5_isLetter_1 (by decide) ?_
  refine og_icmp_lt (pc := 3) (tgt := 16) dX5_isLetter_3 (by decide) (fun c => ?_) (fun c => ?_)
  · refine og_iconst (pc := 16) (v := 0) dX5_isLetter_16 (by decide) ?_
    exact og_zret (pc := 17) hr rfl dX5_isLetter_17 (by omega) (by omega) ⟨rfl, rfl, Or.inr ⟨rfl, fun q => og_lel q.1 c⟩⟩
  · refine og_iload_n (pc := 6) dX5_isLetter_6 rfl ?_
    refine og_bipush (pc := 7) (v := 104) dX5_isLetter_7 (by decide) ?_
    refine og_icmp_gt (pc := 9) (tgt := 16) dX5_isLetter_9 (by decide) (fun c2 => ?_) (fun c2 => ?_)
    · refine og_iconst (pc := 16) (v := 0) dX5_isLetter_16 (by decide) ?_
      exact og_zret (pc := 17) hr rfl dX5_isLetter_17 (by omega) (by omega) ⟨rfl, rfl, Or.inr ⟨rfl, fun q => og_lel q.2 c2⟩⟩
    · refine og_iconst (pc := 12) (v := 1) dX5_isLetter_12 (by decide) ?_
      refine og_goto (pc := 13) (tgt := 17) dX5_isLetter_13 (by decide) ?_
      exact og_zret (pc := 17) hr rfl dX5_isLetter_17 (by omega) (by omega) ⟨rfl, rfl, Or.inl ⟨rfl, og_nlt c, og_nlt c2⟩⟩
theorem c_X5_isDigit (E : og_E) (d n : Nat) (h : og_H) (x : Int32) :
    og_M E yX5_isDigit (.code yX5_isDigit cX5_isDigit 1 (some .boolean)) d [.int x] n h 0 0 (fun v n1 h1 => n1 = n ∧ h1 = h ∧ ((v = some (.int 1) ∧ q_digit x) ∨ (v = some (.int 0) ∧ ¬ q_digit x))) no_x := by
  refine og_start (lv := [some (.int x)]) (by decide) rfl rfl (Nat.le_of_ble_eq_true rfl) fun X hr hnm htb => ?_
  refine og_iload_n (pc := 0) dX5_isDigit_0 rfl ?_
  refine og_bipush (pc := 1) (v := 49) dX5_isDigit_1 (by decide) ?_
  refine og_icmp_lt (pc := 3) (tgt := 16) dX5_isDigit_3 (by decide) (fun c => ?_) (fun c => ?_)
  · refine og_iconst (pc := 16) (v := 0) dX5_isDigit_16 (by decide) ?_
    exact og_zret (pc := 17) hr rfl dX5_isDigit_17 (by omega) (by omega) ⟨rfl, rfl, Or.inr ⟨rfl, fun q => og_lel q.1 c⟩⟩
  · refine og_iload_n (pc := 6) dX5_isDigit_6 rfl ?_
    refine og_bipush (pc := 7) (v := 57) dX5_isDigit_7 (by decide) ?_
    refine og_icmp_gt (pc := 9) (tgt := 16) dX5_isDigit_9 (by decide) (fun c2 => ?_) (fun c2 => ?_)
    · refine og_iconst (pc := 16) (v := 0) dX5_isDigit_16 (by decide) ?_
      exact og_zret (pc := 17) hr rfl dX5_isDigit_17 (by omega) (by omega) ⟨rfl, rfl, Or.inr ⟨rfl, fun q => og_lel q.2 c2⟩⟩
    · refine og_iconst (pc := 12) (v := 1) dX5_isDigit_12 (by decide) ?_
      refine og_goto (pc := 13) (tgt := 17) dX5_isDigit_13 (by decide) ?_
      exact og_zret (pc := 17) hr rfl dX5_isDigit_17 (by omega) (by omega) ⟨rfl, rfl, Or.inl ⟨rfl, og_nlt c, og_nlt c2⟩⟩
theorem c_X5_isFull (E : og_E) (d n L dp : Nat) (h : og_H) (h70 : h 70 = some (og_tx L dp)) (hL : L ≤ 100) :
    og_M E yX5_isFull (.code yX5_isFull cX5_isFull 1 (some .boolean)) d [.ref 70] n h 0 0 (fun v n1 h1 => n1 = n ∧ h1 = h ∧ ((v = some (.int 1) ∧ L = 100) ∨ (v = some (.int 0) ∧ L < 100))) no_x := by
  refine og_start (lv := [some (.ref 70)]) (by decide) rfl rfl (Nat.le_of_ble_eq_true rfl) fun X hr hnm htb => ?_
  refine og_aload_n (pc := 0) dX5_isFull_0 rfl ?_
  refine og_get (pc := 1) F_X5_15 dX5_isFull_1 (by repeat (first | exact og_set_eq _ _ _ | assumption | refine (og_set_ne _ _ (by first | assumption | omega)).trans ?_)) (by omega) rfl ?_
  refine og_bipush (pc := 4) (v := 100) dX5_isFull_4 (by decide) ?_
  refine og_icmp_lt (pc := 6) (tgt := 13) dX5_isFull_6 (by decide) (fun c => ?_) (fun c => ?_)
  · have hl : L < 100 := (nI_ltI (b := 100) (by omega) (by omega)).mp c
    refine og_iconst (pc := 13) (v := 0) dX5_isFull_13 (by decide) ?_
    exact og_zret (pc := 14) hr rfl dX5_isFull_14 (by omega) (by omega) ⟨rfl, rfl, Or.inr ⟨rfl, hl⟩⟩
  · have hl : ¬ L < 100 := fun q => c ((nI_ltI (b := 100) (by omega) (by omega)).mpr q)
    refine og_iconst (pc := 9) (v := 1) dX5_isFull_9 (by decide) ?_
    refine og_goto (pc := 10) (tgt := 14) dX5_isFull_10 (by decide) ?_
    exact og_zret (pc := 14) hr rfl dX5_isFull_14 (by omega) (by omega) ⟨rfl, rfl, Or.inl ⟨rfl, by omega⟩⟩
abbrev rowB (f : Nat → Int32) : og_N := .inl (0, 100, .inl f)
set_option maxRecDepth 4000 in
theorem c_X5_put (E : og_E) (d n L dp : Nat) (h : og_H) (bf : Nat → Int32) (x : Int32) (h70 : h 70 = some (og_tx L dp)) (h71 : h 71 = some (rowB bf)) (hL : L < 100) :
    og_M E yX5_put (.code yX5_put cX5_put 2 none) d [.ref 70, .int x] n h 0 0 (fun v n1 h1 => v = none ∧ n1 = n ∧ h1 = og_set (og_set h 71 (rowB (upd bf L (vp_nar .byte x.toInt8.toInt32)))) 70 (og_tx (L + 1) dp)) no_x := by
  refine og_start (lv := [some (.ref 70), some (.int x)]) (by decide) rfl rfl (Nat.le_of_ble_eq_true rfl) fun X hr hnm htb => ?_
  refine og_aload_n (pc := 0) dX5_put_0 rfl ?_
  refine og_get (pc := 1) F_X5_15 dX5_put_1 (by repeat (first | exact og_set_eq _ _ _ | assumption | refine (og_set_ne _ _ (by first | assumption | omega)).trans ?_)) (by omega) rfl ?_
  refine og_if_lt (pc := 4) (tgt := 37) dX5_put_4 (by decide) (fun c => absurd c (nI_pos (by omega))) (fun _ => ?_)
  refine og_aload_n (pc := 7) dX5_put_7 rfl ?_
  refine og_get (pc := 8) F_X5_15 dX5_put_8 (by repeat (first | exact og_set_eq _ _ _ | assumption | refine (og_set_ne _ _ (by first | assumption | omega)).trans ?_)) (by omega) rfl ?_
  refine og_bipush (pc := 11) (v := 100) dX5_put_11 (by decide) ?_
  refine og_geN (pc := 13) (tgt := 37) (i := L) (N := 100) dX5_put_13 (by decide) rfl rfl (by omega) (by omega) (fun c_13 => ?_) (fun c_13 => ?_)
  · omega
  refine og_aload_n (pc := 16) dX5_put_16 rfl ?_
  refine og_get (pc := 17) F_X5_11 dX5_put_17 (by repeat (first | exact og_set_eq _ _ _ | assumption | refine (og_set_ne _ _ (by first | assumption | omega)).trans ?_)) (by omega) rfl ?_
  refine og_aload_n (pc := 20) dX5_put_20 rfl ?_
  refine og_get (pc := 21) F_X5_15 dX5_put_21 (by repeat (first | exact og_set_eq _ _ _ | assumption | refine (og_set_ne _ _ (by first | assumption | omega)).trans ?_)) (by omega) rfl ?_
  refine og_iload_n (pc := 24) dX5_put_24 rfl ?_
  refine og_i2b (pc := 25) dX5_put_25 rfl ?_
  refine og_bastN (pc := 26) rfl dX5_put_26 (by repeat (first | exact og_set_eq _ _ _ | assumption | refine (og_set_ne _ _ (by first | assumption | omega)).trans ?_)) (by omega) (by omega) (by first | decide | assumption | omega) ?_
  refine og_aload_n (pc := 27) dX5_put_27 rfl ?_
  refine og_dup (pc := 28) dX5_put_28 rfl ?_
  refine og_get (pc := 29) F_X5_15 dX5_put_29 (by repeat (first | exact og_set_eq _ _ _ | assumption | refine (og_set_ne _ _ (by first | assumption | omega)).trans ?_)) (by omega) rfl ?_
  refine og_iconst (pc := 32) (v := 1) dX5_put_32 (by decide) ?_
  refine og_iadd (pc := 33) dX5_put_33 ?_
  refine og_put (pc := 34) P_X5_15 dX5_put_34 (by repeat (first | exact og_set_eq _ _ _ | assumption | refine (og_set_ne _ _ (by first | assumption | omega)).trans ?_)) (by omega) rfl rfl (Nat.le_of_ble_eq_true rfl) ?_
  rw [nI_1]
  exact og_vret (pc := 37) hr dX5_put_37 (by omega) (by omega) ⟨rfl, rfl, rfl⟩
def q_at (bf : Nat → Int32) (L c : Nat) : Int32 := if c < L then bf c else 0
theorem c_X5_at (E : og_E) (d n L dp c : Nat) (h : og_H) (bf : Nat → Int32) (h70 : h 70 = some (og_tx L dp)) (h71 : h 71 = some (rowB bf)) (hL : L ≤ 100) (hc : c < 1000000) :
    og_M E yX5_at (.code yX5_at cX5_at 2 (some .int)) d [.ref 70, .int (nI c)] n h 0 0 (fun v n1 h1 => v = some (.int (q_at bf L c)) ∧ n1 = n ∧ h1 = h) no_x := by
  refine og_start (lv := [some (.ref 70), some (.int (nI c))]) (by decide) rfl rfl (Nat.le_of_ble_eq_true rfl) fun X hr hnm htb => ?_
  refine og_iload_n (pc := 0) dX5_at_0 rfl ?_
  refine og_if_lt (pc := 1) (tgt := 27) dX5_at_1 (by decide) (fun c => absurd c (nI_pos (by omega))) (fun _ => ?_)
  refine og_iload_n (pc := 4) dX5_at_4 rfl ?_
  refine og_aload_n (pc := 5) dX5_at_5 rfl ?_
  refine og_get (pc := 6) F_X5_15 dX5_at_6 (by repeat (first | exact og_set_eq _ _ _ | assumption | refine (og_set_ne _ _ (by first | assumption | omega)).trans ?_)) (by omega) rfl ?_
  refine og_geN (pc := 9) (tgt := 27) (i := c) (N := L) dX5_at_9 (by decide) rfl rfl (by omega) (by omega) (fun c_9 => ?_) (fun c_9 => ?_)
  · refine og_iconst (pc := 27) (v := 0) dX5_at_27 (by decide) ?_
    refine og_iret (pc := 28) hr dX5_at_28 (by omega) (by omega) ⟨?_, rfl, rfl⟩
    rw [q_at, if_neg (by omega)]
  · refine og_iload_n (pc := 12) dX5_at_12 rfl ?_
    refine og_bipush (pc := 13) (v := 100) dX5_at_13 (by decide) ?_
    refine og_geN (pc := 15) (tgt := 27) (i := c) (N := 100) dX5_at_15 (by decide) rfl rfl (by omega) (by omega) (fun c_15 => ?_) (fun c_15 => ?_)
    · omega
    refine og_aload_n (pc := 18) dX5_at_18 rfl ?_
    refine og_get (pc := 19) F_X5_11 dX5_at_19 (by repeat (first | exact og_set_eq _ _ _ | assumption | refine (og_set_ne _ _ (by first | assumption | omega)).trans ?_)) (by omega) rfl ?_
    refine og_iload_n (pc := 22) dX5_at_22 rfl ?_
    refine og_baldN (pc := 23) rfl dX5_at_23 (by repeat (first | exact og_set_eq _ _ _ | assumption | refine (og_set_ne _ _ (by first | assumption | omega)).trans ?_)) (by omega) (by omega) (by first | decide | assumption | omega) ?_
    refine og_goto (pc := 24) (tgt := 28) dX5_at_24 (by decide) ?_
    refine og_iret (pc := 28) hr dX5_at_28 (by omega) (by omega) ⟨?_, rfl, rfl⟩
    rw [q_at, if_pos (by omega)]
/-- what is to come behind a byte, and how deep: none, where it cannot stand -/
noncomputable def q_fop (dp : Nat) (x : Int32) : Option (Nat × Nat) := q_if (x = 40 ∧ dp < 6) (some (2, dp + 1)) (q_if (q_letter x) (some (4, dp)) none)
noncomputable def q_ffa (dp : Nat) (x : Int32) : Option (Nat × Nat) := q_if (x = 39) (some (4, dp)) (q_if (x = 42 ∨ x = 43 ∨ x = 45) (some (2, dp)) (q_if (x = 41 ∧ 0 < dp) (some (4, dp - 1)) (q_if (x = 59 ∧ dp = 0) (some (0, dp)) none)))
noncomputable def q_fol (st dp : Nat) (x : Int32) : Option (Nat × Nat) := match st with
  | 0 => q_if (q_letter x) (some (1, dp)) none
  | 1 => q_if (x = 61) (some (2, dp)) none
  | 2 => q_if (q_digit x) (some (3, dp)) (q_fop dp x)
  | 3 => q_fop dp x
  | _ => q_ffa dp x
def q_rs : Option (Nat × Nat) → Int32
  | none => -1
  | some q => nI q.1
def q_rd (dp : Nat) : Option (Nat × Nat) → Nat
  | none => dp
  | some q => q.2
set_option maxRecDepth 4000 in
theorem c_X5_followOperand (E : og_E) (d n L dp : Nat) (h : og_H) (x : Int32) (h70 : h 70 = some (og_tx L dp)) (hdp : dp ≤ 6) :
    og_M E yX5_followOperand (.code yX5_followOperand cX5_followOperand 2 (some .int)) (d + 1) [.ref 70, .int x] n h 0 0 (fun v n1 h1 => v = some (.int (q_rs (q_fop dp x))) ∧ n1 = n ∧ h1 = og_set h 70 (og_tx L (q_rd dp (q_fop dp x)))) no_x := by
  refine og_start (lv := [some (.ref 70), some (.int x)]) (by decide) rfl rfl (Nat.le_of_ble_eq_true rfl) fun X hr hnm htb => ?_
  have key : ¬ (x = 40 ∧ dp < 6) → og_G E yX5_followOperand.cls cX5_followOperand (d + 1) 0 0 2 X (og_Q E (fun v n1 h1 => v = some (.int (q_rs (q_fop dp x))) ∧ n1 = n ∧ h1 = og_set h 70 (og_tx L (q_rd dp (q_fop dp x)))) no_x 0 0 X) 0 0 n h 27 [some (.ref 70), some (.int x)] [] := by
    intro hc
    refine og_iload_n (pc := 27) dX5_followOperand_27 rfl ?_
    refine og_callS (pc := 28) (As := [.int x]) (rest := []) (c_X5_isLetter E d n h x) Y_X5_isLetter S_X5_isLetter K_X5_30 dX5_followOperand_28 rfl rfl (by decide) (by omega) (by omega) (by omega) (fun _ _ _ z => z) (fun v n2 h2 z => ?_)
    obtain ⟨rfl, rfl, z⟩ := z
    rcases z with ⟨rfl, z⟩ | ⟨rfl, z⟩
    · refine og_if_eq (pc := 31) (tgt := 38) dX5_followOperand_31 (by decide) (fun c => absurd c (by decide)) (fun _ => ?_)
      refine og_iconst (pc := 34) (v := 4) dX5_followOperand_34 (by decide) ?_
      refine og_goto (pc := 35) (tgt := 39) dX5_followOperand_35 (by decide) ?_
      have e : q_fop dp x = some (4, dp) := by rw [q_fop, q_if_neg hc, q_if_pos z]
      exact og_iret (pc := 39) hr dX5_followOperand_39 (by omega) (by omega) ⟨by rw [e]; rfl, rfl, by rw [e]; exact (og_set_same h70).symm⟩
    · refine og_if_eq (pc := 31) (tgt := 38) dX5_followOperand_31 (by decide) (fun _ => ?_) (fun c => absurd rfl c)
      refine og_iconst (pc := 38) (v := (-1)) dX5_followOperand_38 (by decide) ?_
      have e : q_fop dp x = none := by rw [q_fop, q_if_neg hc, q_if_neg z]
      exact og_iret (pc := 39) hr dX5_followOperand_39 (by omega) (by omega) ⟨by rw [e]; rfl, rfl, by rw [e]; exact (og_set_same h70).symm⟩
  refine og_iload_n (pc := 0) dX5_followOperand_0 rfl ?_
  refine og_bipush (pc := 1) (v := 40) dX5_followOperand_1 (by decide) ?_
  refine og_icmp_ne (pc := 3) (tgt := 27) dX5_followOperand_3 (by decide) (fun c => key (fun q => c q.1)) (fun c => ?_)
  refine og_aload_n (pc := 6) dX5_followOperand_6 rfl ?_
  refine og_get (pc := 7) F_X5_19 dX5_followOperand_7 (by repeat (first | exact og_set_eq _ _ _ | assumption | refine (og_set_ne _ _ (by first | assumption | omega)).trans ?_)) (by omega) rfl ?_
  refine og_bipush (pc := 10) (v := 6) dX5_followOperand_10 (by decide) ?_
  refine og_geN (pc := 12) (tgt := 27) (i := dp) (N := 6) dX5_followOperand_12 (by decide) rfl rfl (by omega) (by omega) (fun c_12 => ?_) (fun c_12 => ?_)
  · exact key (fun q => by omega)
  refine og_aload_n (pc := 15) dX5_followOperand_15 rfl ?_
  refine og_dup (pc := 16) dX5_followOperand_16 rfl ?_
  refine og_get (pc := 17) F_X5_19 dX5_followOperand_17 (by repeat (first | exact og_set_eq _ _ _ | assumption | refine (og_set_ne _ _ (by first | assumption | omega)).trans ?_)) (by omega) rfl ?_
  refine og_iconst (pc := 20) (v := 1) dX5_followOperand_20 (by decide) ?_
  refine og_iadd (pc := 21) dX5_followOperand_21 ?_
  refine og_put (pc := 22) P_X5_19 dX5_followOperand_22 (by repeat (first | exact og_set_eq _ _ _ | assumption | refine (og_set_ne _ _ (by first | assumption | omega)).trans ?_)) (by omega) rfl rfl (Nat.le_of_ble_eq_true rfl) ?_
  refine og_iconst (pc := 25) (v := 2) dX5_followOperand_25 (by decide) ?_
  rw [nI_1]
  have e : q_fop dp x = some (2, dp + 1) := by rw [q_fop, q_if_pos ⟨c, c_12⟩]
  exact og_iret (pc := 26) hr dX5_followOperand_26 (by omega) (by omega) ⟨by rw [e]; rfl, rfl, by rw [e]; rfl⟩
set_option maxRecDepth 4000 in
theorem c_X5_followFactor (E : og_E) (d n L dp : Nat) (h : og_H) (x : Int32) (h70 : h 70 = some (og_tx L dp)) (hdp : dp ≤ 6) :
    og_M E yX5_followFactor (.code yX5_followFactor cX5_followFactor 2 (some .int)) d [.ref 70, .int x] n h 0 0 (fun v n1 h1 => v = some (.int (q_rs (q_ffa dp x))) ∧ n1 = n ∧ h1 = og_set h 70 (og_tx L (q_rd dp (q_ffa dp x)))) no_x := by
  refine og_start (lv := [some (.ref 70), some (.int x)]) (by decide) rfl rfl (Nat.le_of_ble_eq_true rfl) fun X hr hnm htb => ?_
  refine og_iload_n (pc := 0) dX5_followFactor_0 rfl ?_
  refine og_bipush (pc := 1) (v := 39) dX5_followFactor_1 (by decide) ?_
  refine og_icmp_ne (pc := 3) (tgt := 8) dX5_followFactor_3 (by decide) (fun c1 => ?_) (fun c1 => ?_)
  · have two : (x = 42 ∨ x = 43 ∨ x = 45) → og_G E yX5_followFactor.cls cX5_followFactor d 0 0 2 X (og_Q E (fun v n1 h1 => v = some (.int (q_rs (q_ffa dp x))) ∧ n1 = n ∧ h1 = og_set h 70 (og_tx L (q_rd dp (q_ffa dp x)))) no_x 0 0 X) 0 0 n h 26 [some (.ref 70), some (.int x)] [] := by
      intro hc
      have e : q_ffa dp x = some (2, dp) := by rw [q_ffa, q_if_neg c1, q_if_pos hc]
      refine og_iconst (pc := 26) (v := 2) dX5_followFactor_26 (by decide) ?_
      exact og_iret (pc := 27) hr dX5_followFactor_27 (by omega) (by omega) ⟨by rw [e]; rfl, rfl, by rw [e]; exact (og_set_same h70).symm⟩
    refine og_iload_n (pc := 8) dX5_followFactor_8 rfl ?_
    refine og_bipush (pc := 9) (v := 42) dX5_followFactor_9 (by decide) ?_
    refine og_icmp_eq (pc := 11) (tgt := 26) dX5_followFactor_11 (by decide) (fun c => two (Or.inl c)) (fun c2 => ?_)
    refine og_iload_n (pc := 14) dX5_followFactor_14 rfl ?_
    refine og_bipush (pc := 15) (v := 43) dX5_followFactor_15 (by decide) ?_
    refine og_icmp_eq (pc := 17) (tgt := 26) dX5_followFactor_17 (by decide) (fun c => two (Or.inr (Or.inl c))) (fun c3 => ?_)
    refine og_iload_n (pc := 20) dX5_followFactor_20 rfl ?_
    refine og_bipush (pc := 21) (v := 45) dX5_followFactor_21 (by decide) ?_
    refine og_icmp_ne (pc := 23) (tgt := 28) dX5_followFactor_23 (by decide) (fun c4 => ?_) (fun c => two (Or.inr (Or.inr c)))
    have n2 : ¬ (x = 42 ∨ x = 43 ∨ x = 45) := fun q => q.elim c2 (fun q => q.elim c3 c4)
    have last : ¬ (x = 41 ∧ 0 < dp) → og_G E yX5_followFactor.cls cX5_followFactor d 0 0 2 X (og_Q E (fun v n1 h1 => v = some (.int (q_rs (q_ffa dp x))) ∧ n1 = n ∧ h1 = og_set h 70 (og_tx L (q_rd dp (q_ffa dp x)))) no_x 0 0 X) 0 0 n h 53 [some (.ref 70), some (.int x)] [] := by
      intro hc
      have no : ¬ (x = 59 ∧ dp = 0) → og_G E yX5_followFactor.cls cX5_followFactor d 0 0 2 X (og_Q E (fun v n1 h1 => v = some (.int (q_rs (q_ffa dp x))) ∧ n1 = n ∧ h1 = og_set h 70 (og_tx L (q_rd dp (q_ffa dp x)))) no_x 0 0 X) 0 0 n h 70 [some (.ref 70), some (.int x)] [] := by
        intro hc2
        have e : q_ffa dp x = none := by rw [q_ffa, q_if_neg c1, q_if_neg n2, q_if_neg hc, q_if_neg hc2]
        refine og_iconst (pc := 70) (v := (-1)) dX5_followFactor_70 (by decide) ?_
        exact og_iret (pc := 71) hr dX5_followFactor_71 (by omega) (by omega) ⟨by rw [e]; rfl, rfl, by rw [e]; exact (og_set_same h70).symm⟩
      refine og_iload_n (pc := 53) dX5_followFactor_53 rfl ?_
      refine og_bipush (pc := 54) (v := 59) dX5_followFactor_54 (by decide) ?_
      refine og_icmp_ne (pc := 56) (tgt := 70) dX5_followFactor_56 (by decide) (fun c => no (fun q => c q.1)) (fun c5 => ?_)
      refine og_aload_n (pc := 59) dX5_followFactor_59 rfl ?_
      refine og_get (pc := 60) F_X5_19 dX5_followFactor_60 (by repeat (first | exact og_set_eq _ _ _ | assumption | refine (og_set_ne _ _ (by first | assumption | omega)).trans ?_)) (by omega) rfl ?_
      refine og_if_ne (pc := 63) (tgt := 70) dX5_followFactor_63 (by decide) (fun c => no (fun q => c (by rw [q.2]; rfl))) (fun c6 => ?_)
      have d0 : dp = 0 := by
        rcases Nat.eq_zero_or_pos dp with q | q
        · exact q
        · exact absurd c6 (nI_ne0 q (by omega))
      have e : q_ffa dp x = some (0, dp) := by rw [q_ffa, q_if_neg c1, q_if_neg n2, q_if_neg hc, q_if_pos ⟨c5, d0⟩]
      refine og_iconst (pc := 66) (v := 0) dX5_followFactor_66 (by decide) ?_
      refine og_goto (pc := 67) (tgt := 71) dX5_followFactor_67 (by decide) ?_
      exact og_iret (pc := 71) hr dX5_followFactor_71 (by omega) (by omega) ⟨by rw [e]; rfl, rfl, by rw [e]; exact (og_set_same h70).symm⟩
    refine og_iload_n (pc := 28) dX5_followFactor_28 rfl ?_
    refine og_bipush (pc := 29) (v := 41) dX5_followFactor_29 (by decide) ?_
    refine og_icmp_ne (pc := 31) (tgt := 53) dX5_followFactor_31 (by decide) (fun c => last (fun q => c q.1)) (fun c5 => ?_)
    refine og_aload_n (pc := 34) dX5_followFactor_34 rfl ?_
    refine og_get (pc := 35) F_X5_19 dX5_followFactor_35 (by repeat (first | exact og_set_eq _ _ _ | assumption | refine (og_set_ne _ _ (by first | assumption | omega)).trans ?_)) (by omega) rfl ?_
    refine og_if_le (pc := 38) (tgt := 53) dX5_followFactor_38 (by decide) (fun c => last (fun q => absurd c (nI_nle q.2 (by omega)))) (fun c6 => ?_)
    have d1 : 0 < dp := by
      rcases Nat.eq_zero_or_pos dp with q | q
      · rw [q] at c6
        exact absurd (by rw [nI_0]; exact Int32.le_refl 0) c6
      · exact q
    have e : q_ffa dp x = some (4, dp - 1) := by rw [q_ffa, q_if_neg c1, q_if_neg n2, q_if_pos ⟨c5, d1⟩]
    refine og_aload_n (pc := 41) dX5_followFactor_41 rfl ?_
    refine og_dup (pc := 42) dX5_followFactor_42 rfl ?_
    refine og_get (pc := 43) F_X5_19 dX5_followFactor_43 (by repeat (first | exact og_set_eq _ _ _ | assumption | refine (og_set_ne _ _ (by first | assumption | omega)).trans ?_)) (by omega) rfl ?_
    refine og_iconst (pc := 46) (v := 1) dX5_followFactor_46 (by decide) ?_
    refine og_isub (pc := 47) dX5_followFactor_47 ?_
    refine og_put (pc := 48) P_X5_19 dX5_followFactor_48 (by repeat (first | exact og_set_eq _ _ _ | assumption | refine (og_set_ne _ _ (by first | assumption | omega)).trans ?_)) (by omega) rfl rfl (Nat.le_of_ble_eq_true rfl) ?_
    refine og_iconst (pc := 51) (v := 4) dX5_followFactor_51 (by decide) ?_
    have ed : nI dp - 1 = nI (dp - 1) := by
      obtain ⟨k, rfl⟩ : ∃ k, dp = k + 1 := ⟨dp - 1, by omega⟩
      exact nI_pred k
    rw [ed]
    exact og_iret (pc := 52) hr dX5_followFactor_52 (by omega) (by omega) ⟨by rw [e]; rfl, rfl, by rw [e]; rfl⟩
  · have e : q_ffa dp x = some (4, dp) := by rw [q_ffa, q_if_pos c1]
    refine og_iconst (pc := 6) (v := 4) dX5_followFactor_6 (by decide) ?_
    exact og_iret (pc := 7) hr dX5_followFactor_7 (by omega) (by omega) ⟨by rw [e]; rfl, rfl, by rw [e]; exact (og_set_same h70).symm⟩
