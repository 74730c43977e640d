/-! ===== State.takeFrom; Text, at its fixed cells 70 and 71 ===== -/
abbrev og_SD : Type := (Nat → Nat → Int64) × Nat × Int32 × Int32
def og_so (b : Nat) (s : og_SD) : og_N := .inr (2, [.ref (b + 1), .int (nI s.2.1), .int s.2.2.1, .int s.2.2.2])
/-- a State at b, its rows behind it -/
def og_Sat (h : og_H) (b : Nat) (s : og_SD) : Prop := h b = some (og_so b s) ∧ h (b + 1) = some (og_grid (b + 1) 8) ∧ ∀ r, r < 8 → h (b + 2 + r) = some (rowL (s.1 r))
theorem og_Sat.kept {h h1 : og_H} {b : Nat} {s : og_SD} (w : og_Sat h b s) (hk : ∀ k, b ≤ k → k < b + 10 → h1 k = h k) : og_Sat h1 b s :=
  ⟨(hk _ (by omega) (by omega)).trans w.1, (hk _ (by omega) (by omega)).trans w.2.1, fun r hr => (hk _ (by omega) (by omega)).trans (w.2.2 r hr)⟩
def q_tk (h : og_H) (b : Nat) (s : og_SD) : Nat → og_H
  | 0 => h
  | i + 1 => og_set (q_tk h b s i) (b + 2 + i) (rowL (s.1 i))
theorem q_tk_ne (h : og_H) (b : Nat) (s : og_SD) (i k : Nat) (hk : k < b + 2 ∨ b + 2 + i ≤ k) : q_tk h b s i k = h k := by
  induction i with
  | zero => rfl
  | succ i ih => rw [q_tk, og_set_ne _ _ (by omega)]; exact ih (by omega)
theorem q_tk_at (h : og_H) (b : Nat) (s : og_SD) (i r : Nat) (hr : r < i) : q_tk h b s i (b + 2 + r) = some (rowL (s.1 r)) := by
  induction i with
  | zero => omega
  | succ i ih =>
    rw [q_tk]
    by_cases h1 : r = i
    · rw [h1, og_set_eq]
    · rw [og_set_ne _ _ (by omega)]
      exact ih (by omega)
set_option maxRecDepth 4000 in
theorem c_X4_takeFrom (E : og_E) (d n b c : Nat) (h : og_H) (s t : og_SD) (hb : og_Sat h b s) (hc : og_Sat h c t) (h3b : 3 ≤ b) (h3c : 3 ≤ c) (hbc : b + 10 ≤ c ∨ c + 10 ≤ b) :
    og_M E yX4_takeFrom (.code yX4_takeFrom cX4_takeFrom 3 none) (d + 1) [.ref b, .ref c] n h 0 0 (fun v n1 h1 => v = none ∧ n1 = n ∧ og_Sat h1 b t ∧ ∀ k, ¬ (b ≤ k ∧ k < b + 10) → h1 k = h k) no_x := by
  refine og_start (lv := [some (.ref b), some (.ref c), none]) (by decide) rfl rfl (Nat.le_of_ble_eq_true rfl) fun X hr hnm htb => ?_
  have gb : ∀ i, i < 8 → (if i < 8 then some (b + 1 + 1 + i) else none) = some (b + 2 + i) := fun i hi => if_pos hi
  have gc : ∀ i, i < 8 → (if i < 8 then some (c + 1 + 1 + i) else none) = some (c + 2 + i) := fun i hi => if_pos hi
  refine og_iconst (pc := 0) (v := 0) dX4_takeFrom_0 (by decide) ?_
  refine og_istore_n_2 (pc := 1) dX4_takeFrom_1 rfl ?_
  refine og_for (i0 := 0) (N := 8) (by decide) (fun i => q_tk h b t i) (fun i => [some (.ref b), some (.ref c), some (.int (nI i))]) ?_ (fun i _ hi ih => ?_)
  · refine og_iload_n (pc := 2) dX4_takeFrom_2 rfl ?_
    refine og_bipush (pc := 3) (v := 8) dX4_takeFrom_3 (by decide) ?_
    refine og_geN (pc := 5) (tgt := 29) (i := 8) (N := 8) dX4_takeFrom_5 (by decide) rfl rfl (by omega) (by omega) (fun c_5 => ?_) (fun c_5 => ?_)
    · have e1 : q_tk h b t 8 c = some (og_so c t) := (q_tk_ne _ _ _ _ _ (by omega)).trans hc.1
      have e2 : q_tk h b t 8 b = some (og_so b s) := (q_tk_ne _ _ _ _ _ (by omega)).trans hb.1
      have hcb : c ≠ b := by omega
      refine og_aload_n (pc := 29) dX4_takeFrom_29 rfl ?_
      refine og_aload_n (pc := 30) dX4_takeFrom_30 rfl ?_
      refine og_get (pc := 31) F_X4_18 dX4_takeFrom_31 (by repeat (first | exact og_set_eq _ _ _ | assumption | refine (og_set_ne _ _ (by first | assumption | omega)).trans ?_)) (by omega) rfl ?_
      refine og_put (pc := 34) P_X4_18 dX4_takeFrom_34 (by repeat (first | exact og_set_eq _ _ _ | assumption | refine (og_set_ne _ _ (by first | assumption | omega)).trans ?_)) (by omega) rfl rfl (Nat.le_of_ble_eq_true rfl) ?_
      refine og_aload_n (pc := 37) dX4_takeFrom_37 rfl ?_
      refine og_aload_n (pc := 38) dX4_takeFrom_38 rfl ?_
      refine og_get (pc := 39) F_X4_22 dX4_takeFrom_39 (by repeat (first | exact og_set_eq _ _ _ | assumption | refine (og_set_ne _ _ (by first | assumption | omega)).trans ?_)) (by omega) rfl ?_
      refine og_put (pc := 42) P_X4_22 dX4_takeFrom_42 (by repeat (first | exact og_set_eq _ _ _ | assumption | refine (og_set_ne _ _ (by first | assumption | omega)).trans ?_)) (by omega) rfl rfl (Nat.le_of_ble_eq_true rfl) ?_
      refine og_aload_n (pc := 45) dX4_takeFrom_45 rfl ?_
      refine og_aload_n (pc := 46) dX4_takeFrom_46 rfl ?_
      refine og_get (pc := 47) F_X4_25 dX4_takeFrom_47 (by repeat (first | exact og_set_eq _ _ _ | assumption | refine (og_set_ne _ _ (by first | assumption | omega)).trans ?_)) (by omega) rfl ?_
      refine og_put (pc := 50) P_X4_25 dX4_takeFrom_50 (by repeat (first | exact og_set_eq _ _ _ | assumption | refine (og_set_ne _ _ (by first | assumption | omega)).trans ?_)) (by omega) rfl rfl (Nat.le_of_ble_eq_true rfl) ?_
      rw [og_set_set, og_set_set]
      refine og_vret (pc := 53) hr dX4_takeFrom_53 (by omega) (by omega) ⟨rfl, rfl, ⟨og_set_eq _ _ _, ?_, fun r hr => ?_⟩, fun k hk => ?_⟩
      · rw [og_set_ne _ _ (by omega), q_tk_ne _ _ _ _ _ (by omega)]
        exact hb.2.1
      · rw [og_set_ne _ _ (by omega)]
        exact q_tk_at _ _ _ _ _ hr
      · rw [og_set_ne _ _ (by omega), q_tk_ne _ _ _ _ _ (by omega)]
    · omega
  · have e1 : q_tk h b t i c = some (og_so c t) := (q_tk_ne _ _ _ _ _ (by omega)).trans hc.1
    have e2 : q_tk h b t i b = some (og_so b s) := (q_tk_ne _ _ _ _ _ (by omega)).trans hb.1
    have e3 : q_tk h b t i (c + 1) = some (og_grid (c + 1) 8) := (q_tk_ne _ _ _ _ _ (by omega)).trans hc.2.1
    have e4 : q_tk h b t i (b + 1) = some (og_grid (b + 1) 8) := (q_tk_ne _ _ _ _ _ (by omega)).trans hb.2.1
    have e5 : q_tk h b t i (c + 2 + i) = some (rowL (t.1 i)) := (q_tk_ne _ _ _ _ _ (by omega)).trans (hc.2.2 i hi)
    have e6 : q_tk h b t i (b + 2 + i) = some (rowL (s.1 i)) := (q_tk_ne _ _ _ _ _ (by omega)).trans (hb.2.2 i hi)
    refine og_iload_n (pc := 2) dX4_takeFrom_2 rfl ?_
    refine og_bipush (pc := 3) (v := 8) dX4_takeFrom_3 (by decide) ?_
    refine og_geN (pc := 5) (tgt := 29) (i := i) (N := 8) dX4_takeFrom_5 (by decide) rfl rfl (by omega) (by omega) (fun c_5 => ?_) (fun c_5 => ?_)
    · omega
    refine og_aload_n (pc := 8) dX4_takeFrom_8 rfl ?_
    refine og_get (pc := 9) F_X4_13 dX4_takeFrom_9 (by repeat (first | exact og_set_eq _ _ _ | assumption | refine (og_set_ne _ _ (by first | assumption | omega)).trans ?_)) (by omega) rfl ?_
    refine og_iload_n (pc := 12) dX4_takeFrom_12 rfl ?_
    refine og_aaldN (pc := 13) rfl dX4_takeFrom_13 e3 (by omega) (by decide) (by decide) (by omega) (by first | decide | assumption | omega) (gc i hi) ?_
    refine og_aload_n (pc := 14) dX4_takeFrom_14 rfl ?_
    refine og_get (pc := 15) F_X4_13 dX4_takeFrom_15 (by repeat (first | exact og_set_eq _ _ _ | assumption | refine (og_set_ne _ _ (by first | assumption | omega)).trans ?_)) (by omega) rfl ?_
    refine og_iload_n (pc := 18) dX4_takeFrom_18 rfl ?_
    refine og_aaldN (pc := 19) rfl dX4_takeFrom_19 e4 (by omega) (by decide) (by decide) (by omega) (by first | decide | assumption | omega) (gb i hi) ?_
    refine og_callS (pc := 20) (As := [.ref (c + 2 + i), .ref (b + 2 + i)]) (rest := []) (c_X3_copy E d n (c + 2 + i) (b + 2 + i) _ _ _ e5 e6 (by omega) (by omega) (by omega)) Y_X3_copy S_X3_copy K_X4_30 dX4_takeFrom_20 rfl rfl (by decide) (by omega) (by omega) (by omega) (fun _ _ _ z => z) (fun v n2 h2 z => ?_)
    obtain ⟨rfl, rfl, rfl⟩ := z
    refine og_iinc_2 (pc := 23) dX4_takeFrom_23 (og_inc i) rfl ?_
    refine og_goto (pc := 26) (tgt := 2) dX4_takeFrom_26 (by decide) ?_
    exact ih
def og_tx (L dp : Nat) : og_N := .inr (3, [.ref 71, .int (nI L), .int (nI dp)])
abbrev rowB (f : Nat → Int32) : og_N := .inl (0, 100, .inl f)