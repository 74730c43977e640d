/-! ===== the law: units, from its start to its end ===== -/
set_option maxHeartbeats 1000000 in
theorem y_lev {E : og_E} {X : og_X} {Q : State → Prop} {d mc ms n0 b o B : Nat} {num : Int32} {h : og_H} (hb : b < n0) (h3b : 3 ≤ b) (ho : o < 8) (hmc : 1 + B ≤ mc) (hms : 8 + 8 * B ≤ ms) :
    ∀ k m, m + k = 7 → ∀ (p : List Nat) (s : Nat), p.length = m → (∀ U : Nat → Int64, (∀ i, i < m → U i = q_row p i) → q_inner U U m = lN s) → s ≤ 4 → ∀ j c, c + j = 5 → ∀ S : y_S, (y_fd o num (q_ev (y_F k p s) j) S).1 ≤ B → y_At E X Q d mc ms n0 b o num h (y_fd o num (q_ev (y_F k p s) j) S) (nI m - 1) (fun U => ∀ i, i < m → U i = q_row p i) → y_At E X Q d mc ms n0 b o num h S (nI m) (fun U => (∀ i, i < m → U i = q_row p i) ∧ U m = lN c - 3) := by
  intro k
  induction k with
  | zero => exact fun m hmk p s hpl hs hs4 => y_lev1 hb h3b ho hmc hms hmk hpl hs hs4 (fun hm7 => absurd hm7 (by omega))
  | succ k ih =>
    intro m hmk p s hpl hs hs4
    refine y_lev1 hb h3b ho hmc hms hmk hpl hs hs4 (fun hm7 c hc h4 S hB K => ?_)
    have e : y_F (k + 1) p s c = q_ev (y_F k (p ++ [c]) (s + q_c2 c)) 5 := if_pos h4
    rw [e] at hB K
    refine ih (m + 1) (by omega) (p ++ [c]) (s + q_c2 c) (by rw [List.length_append, hpl]; rfl) (fun U hU => ?_) (by omega) 5 0 (by omega) S hB (by rw [nI_s1]; exact K)
    have h1 : ∀ i, i < m → U i = q_row p i := fun i hi => by rw [hU i (by omega), y_row_l p c i (by omega)]
    have h2 : U m = lN c - 2 := by rw [hU m (by omega), ← hpl, y_row_r]
    rw [q_inner, hs U h1, h2, (y_c5 c (by omega)).2.2.1 hc, lN_add]
theorem y_all : allL = q_ev (y_F 7 [] 0) 5 := rfl
/-- units: what it answers, by the fold over all rows of norm 4 -/
theorem c_L_units (E : og_E) (d n b o : Nat) (num : Int32) (h : og_H) (G : Nat → Int64) (hb : h b = some (rowL G)) (h3b : 3 ≤ b) (hbn : b < n) (ho : o < 8) (hB : (y_fd o num allL (0, -1, G)).1 ≤ 240) :
    og_M E yL_units (.code yL_units cL_units 11 (some .int)) (d + 2) [.int (nI o), .ref b, .ref b, .int num] n h 241 1928 (fun v n1 h1 => n ≤ n1 ∧ (∀ a, a < n → a ≠ b → h1 a = h a) ∧ h1 b = some (rowL (y_fd o num allL (0, -1, G)).2.2) ∧ ((num < 0 ∧ v = some (.int (y_fd o num allL (0, -1, G)).2.1)) ∨ (¬ num < 0 ∧ v = some (.int (nI (y_fd o num allL (0, -1, G)).1))))) no_x := by
  refine og_start (lv := [some (.int (nI o)), some (.ref b), some (.ref b), some (.int num), none, none, none, none, none, none, none]) (by decide) rfl rfl (Nat.le_of_ble_eq_true rfl) fun X hr hnm htb => ?_
  have h3n : 3 ≤ n := by omega
  refine og_iconst (pc := 0) (v := 0) dL_units_0 (by decide) ?_
  refine og_istore_4 (pc := 1) dL_units_1 rfl ?_
  refine og_iconst (pc := 3) (v := (-1)) dL_units_3 (by decide) ?_
  refine og_istore_5 (pc := 4) dL_units_4 rfl ?_
  refine og_bipush (pc := 6) (v := 8) dL_units_6 (by decide) ?_
  refine og_newa (pc := 8) (k := 2) (N := 8) (x := (8, .inr (.inl (fun _ => 0)))) (atype := .long) AC_long rfl (by decide) dL_units_8 (fun _ => rfl) (by decide) (by decide) (by decide) (by omega) (by omega) ?_
  refine og_astore_6 (pc := 10) dL_units_10 rfl ?_
  refine og_iconst (pc := 12) (v := 0) dL_units_12 (by decide) ?_
  refine og_istore_7 (pc := 13) dL_units_13 rfl ?_
  refine og_aload (pc := 15) dL_units_15 rfl ?_
  refine og_iconst (pc := 17) (v := 0) dL_units_17 (by decide) ?_
  refine og_ldc2 (pc := 18) LC_L_21 dL_units_18 ?_
  refine og_lastN (pc := 21) (j := 0) rfl dL_units_21 (by repeat (first | exact og_set_eq _ _ _ | assumption | refine (og_set_ne _ _ (by first | assumption | omega)).trans ?_)) (by omega) (by omega) (by first | decide | assumption | omega) ?_
  rw [og_set_set]
  have w0 : y_W h b n (og_set h n (rowL (vp_updL (fun _ => 0) 0 (-3)))) G (vp_updL (fun _ => 0) 0 (-3)) := ⟨fun a a1 _ => og_set_ne _ _ (by omega), (og_set_ne _ _ (by omega)).trans hb, og_set_eq _ _ _⟩
  rw [y_all] at hB ⊢
  refine y_lev (E := E) (X := X) (d := d) (mc := 241) (ms := 1928) (n0 := n) (num := num) (h := h) hbn h3b ho (B := 240) (by decide) (by decide) 7 0 rfl [] 0 rfl (fun U hU => rfl) (by omega) 5 0 rfl (0, -1, G) hB ?_ _ _ ⟨fun i hi => absurd hi (by omega), rfl⟩ w0
  intro h1 U _ w
  generalize y_fd o num (q_ev (y_F 7 [] 0) 5) (0, -1, G) = S at hB w ⊢
  have fin : n ≤ n + 1 + S.1 ∧ (∀ a, a < n → a ≠ b → h1 a = h a) ∧ h1 b = some (rowL S.2.2) := ⟨by omega, w.1, w.2.1⟩
  refine og_iload (pc := 22) dL_units_22 rfl ?_
  refine og_if_lt (pc := 24) (tgt := 202) dL_units_24 (by decide) (fun c => ?_) (fun c => absurd (by decide) c)
  refine og_iload_n (pc := 202) dL_units_202 rfl ?_
  refine og_if_ge (pc := 203) (tgt := 211) dL_units_203 (by decide) (fun c2 => ?_) (fun c2 => ?_)
  · refine og_iload (pc := 211) dL_units_211 rfl ?_
    exact og_iret (pc := 213) hr dL_units_213 (by omega) (by omega) ⟨fin.1, fin.2.1, fin.2.2, Or.inr ⟨fun q => og_lel c2 q, rfl⟩⟩
  · refine og_iload (pc := 206) dL_units_206 rfl ?_
    refine og_goto (pc := 208) (tgt := 213) dL_units_208 (by decide) ?_
    exact og_iret (pc := 213) hr dL_units_213 (by omega) (by omega) ⟨fin.1, fin.2.1, fin.2.2, Or.inl ⟨og_nle c2, rfl⟩⟩
