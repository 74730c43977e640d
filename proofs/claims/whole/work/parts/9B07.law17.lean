/-! ===== the law: from its start ===== -/
theorem cp_0 : cp d_0 i_M := by
  refine ⟨⟨fun r hr k hk => ?_, rfl, by decide, rfl, rfl⟩, rfl, by decide, fun j hj => absurd hj (Nat.not_lt_zero j), fun i hi => absurd hi (Nat.not_lt_zero i), rfl, by decide, Or.inl rfl, fun j => (show 1 < 8 by omega)⟩
  have e : m_s i_M (8 * r + k) = ((d_st d_0).1 r k).toInt32 := by
    rcases (show r = 0 ∨ r = 1 ∨ r = 2 ∨ r = 3 ∨ r = 4 ∨ r = 5 ∨ r = 6 ∨ r = 7 by omega) with rfl | rfl | rfl | rfl | rfl | rfl | rfl | rfl <;> rcases (show k = 0 ∨ k = 1 ∨ k = 2 ∨ k = 3 ∨ k = 4 ∨ k = 5 ∨ k = 6 ∨ k = 7 by omega) with rfl | rfl | rfl | rfl | rfl | rfl | rfl | rfl <;> decide
  have b : -2000 ≤ ((d_st d_0).1 r k).toInt ∧ ((d_st d_0).1 r k).toInt ≤ 2000 := by
    rcases (show r = 0 ∨ r = 1 ∨ r = 2 ∨ r = 3 ∨ r = 4 ∨ r = 5 ∨ r = 6 ∨ r = 7 by omega) with rfl | rfl | rfl | rfl | rfl | rfl | rfl | rfl <;> rcases (show k = 0 ∨ k = 1 ∨ k = 2 ∨ k = 3 ∨ k = 4 ∨ k = 5 ∨ k = 6 ∨ k = 7 by omega) with rfl | rfl | rfl | rfl | rfl | rfl | rfl | rfl <;> decide
  exact ⟨e, b⟩
set_option maxRecDepth 4000 in
theorem law_enter {E : og_E} {X : og_X} {Q : State → Prop} {d mc ms L : Nat} {xs : Nat → Int32} {h : og_H} (h0 : h 0 = some (rowI L xs)) (h1 : h 1 = some q_TR) (h2 : h 2 = some q_SE) (hL : L ≤ 3584) (hd : 40 ≤ d) (hmc : 121 + 180 * 512 ≤ mc) (hms : 3567 + 3000 * 512 ≤ ms) (HA : lawStep E X Q d mc ms L xs 1581) (HD : lawStep E X Q d mc ms L xs 1450)
    (kend : ∀ (cells slots n : Nat) (h : og_H) (lv : List (Option Value)), cells ≤ mc → slots ≤ ms → og_G E RL cL_law d mc ms 8 X Q cells slots n h 2060 lv []) :
    og_G E RL cL_law d mc ms 8 X Q 0 0 3 h 0 [some (.ref 0), none, none, none, none, none, none, none] [] := by
  have hmc2 : 121 ≤ mc := Nat.le_trans (Nat.le_add_right _ _) hmc
  have hms2 : 3567 ≤ ms := Nat.le_trans (Nat.le_add_right _ _) hms
  refine og_new (pc := 0) (N := 10) N_L_8 dL_law_0 rfl rfl (by omega) (by omega) ?_
  refine og_dup (pc := 3) dL_law_3 rfl ?_
  refine og_callI (pc := 4) (As := []) (rest := [.ref 3]) (c_X7_init E 0 _ (og_set_eq _ _ _)) Y_X7_init I_X7_init rfl rfl K_L_107 dL_law_4 rfl rfl (Nat.le_of_ble_eq_true rfl) (by omega) (by omega) (by omega) (fun _ _ _ z => z) (fun v n1 g1 z => ?_)
  obtain ⟨rfl, hn, w⟩ := z
  subst hn
  refine og_astore_n_1 (pc := 7) dL_law_7 rfl ?_
  refine og_new (pc := 8) (N := 30) N_L_108 dL_law_8 rfl rfl (by omega) (by omega) ?_
  refine og_dup (pc := 11) dL_law_11 rfl ?_
  refine og_callI (pc := 12) (As := []) (rest := [.ref 101]) (c_X8_init E 0 _ (og_set_eq _ _ _)) Y_X8_init I_X8_init rfl rfl K_L_110 dL_law_12 rfl rfl (Nat.le_of_ble_eq_true rfl) (by omega) (by omega) (by omega) (fun _ _ _ z => z) (fun v n1 g2 z => ?_)
  obtain ⟨rfl, hn, w2⟩ := z
  subst hn
  refine og_astore_n_2 (pc := 15) dL_law_15 rfl ?_
  refine og_iconst (pc := 16) (v := 1) dL_law_16 (by decide) ?_
  refine og_newa (pc := 17) (k := 2) (N := 1) (x := (1, .inr (.inl (fun _ => 0)))) (atype := .long) AC_long rfl (by decide) dL_law_17 (fun _ => rfl) (by decide) (by decide) (by decide) (by omega) (by omega) ?_
  refine og_astore_n_3 (pc := 19) dL_law_19 rfl ?_
  refine og_iconst (pc := 20) (v := 0) dL_law_20 (by decide) ?_
  refine og_istore_4 (pc := 21) dL_law_21 rfl ?_
  have fr1 : ∀ a, a < 3 → g1 a = h a := fun a ha => (w.2.1.2.2.2 a ha).trans (og_set_ne _ _ (by omega))
  have fr2 : ∀ a, a < 101 → g2 a = g1 a := fun a ha => (w2.fr a (by omega)).trans (og_set_ne _ _ (by omega))
  have W : zW 124 (og_set g2 123 (.inl (2, 1, .inr (.inl (fun _ => 0))))) d_0 i_M := by
    refine ⟨w.DK (fun a ha => (og_set_ne _ _ (by omega)).trans (fr2 a ha)) (by omega) ?_ ?_, w2.mod fun a _ _ => og_set_ne _ _ (by omega), cp_0⟩
    · exact (og_set_ne _ _ (by omega)).trans h1
    · exact (og_set_ne _ _ (by omega)).trans h2
  refine law_loop hL hd HA HD kend 512 _ _ _ 0 _ _ _ _ W (og_set_eq _ _ _) ?_ (by omega) (by omega) ?_ ?_
  · exact (og_set_ne _ _ (by omega)).trans ((fr2 0 (by omega)).trans ((fr1 0 (by omega)).trans h0))
  · exact hmc
  · exact hms
