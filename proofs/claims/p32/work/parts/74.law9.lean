/-! ===== the law: quotient, whole; rest ===== -/
theorem y_qmir (g : Nat → Int64) : ∀ j, j < 8 → vp_updL (y_less (fun _ => 0) g) 0 (g 0) j = q_mirror g j := fun j _ => by
  unfold vp_updL q_mirror y_less
  by_cases e : j = 0
  · rw [if_pos e, if_pos e, e]
  · rw [if_neg e, if_neg e, Int64.zero_sub]
set_option maxHeartbeats 1000000 in
theorem c_L_quotient (E : og_E) (d n t a b o : Nat) (h : og_H) (f g : Nat → Int64) (ht : h t = some (rowI 64 y_T)) (ha : h a = some (rowL f)) (hb : h b = some (rowL g)) (h3t : 3 ≤ t) (h3a : 3 ≤ a) (h3b : 3 ≤ b) (htn : t < n) (han : a < n) (hbn : b < n) (ho : o < 8) (hf : zok f) (hg : zok g) (hN : 0 < (q_inner g g 8).toInt) :
    og_M E yL_quotient (.code yL_quotient cL_quotient 20 (some (.array .long))) (d + 1) [.ref t, .ref a, .ref b, .int (nI o)] n h 260 2080 (fun v n1 h1 => ∃ r, v = some (.ref r) ∧ n ≤ r ∧ r < n1 ∧ (∀ x, x < n → h1 x = h x) ∧ h1 r = some (rowL (m_quo f g o))) no_x := by
  refine og_start (lv := [some (.ref t), some (.ref a), some (.ref b), some (.int (nI o)), none, none, none, none, none, none, none, none, none, none, none, none, none, none, none, none]) (by decide) rfl rfl (Nat.le_of_ble_eq_true rfl) fun X hr hnm htb => ?_
  have h3n : 3 ≤ n := by omega
  have hN2 : zsm (q_inner g g 8) := by
    have hg0 : zn (zi g) ≤ 32000000 := hg
    have nN := zok_N hg
    have nn := zn_nn (zi g)
    unfold zsm
    rw [nN]
    omega
  have hP : ∀ k, k < 8 → zsm (q_prod f (q_mirror g) k) := fun k hk => by
    obtain ⟨p1, p2, p3⟩ := zP hf hg k hk
    unfold zsm
    rw [p1]
    omega
  refine og_bipush (pc := 0) (v := 8) dL_quotient_0 (by decide) ?_
  refine og_newa (pc := 2) (k := 2) (N := 8) (x := (8, .inr (.inl (fun _ => 0)))) (atype := .long) AC_long rfl (by decide) dL_quotient_2 (fun _ => rfl) (by decide) (by decide) (by decide) (by omega) (by omega) ?_
  refine og_aload_n (pc := 4) dL_quotient_4 rfl ?_
  refine og_callS (pc := 5) (As := [.ref n, .ref b]) (rest := []) (c_L_less E d (n + 1) n b _ (fun _ => 0) g (og_set_eq _ _ _) ((og_set_ne _ _ (by omega)).trans hb) h3n h3b (by omega) (by omega)) Y_L_less S_L_less K_L_31 dL_quotient_5 rfl rfl (Nat.le_of_ble_eq_true rfl) (by omega) (by omega) (by omega) (fun _ _ _ z => z) (fun v n1 h1 z => ?_)
  obtain ⟨rfl, rfl, e1⟩ := z
  have b1 : h1 b = some (rowL g) := by rw [e1]; exact (og_set_ne _ _ (by omega)).trans ((og_set_ne _ _ (by omega)).trans hb)
  have c1 : h1 (n + 1) = some (rowL (y_less (fun _ => 0) g)) := by rw [e1]; exact og_set_eq _ _ _
  have k1 : ∀ x, x < n → h1 x = h x := fun x hx => by rw [e1]; exact (og_set_ne _ _ (by omega)).trans (og_set_ne _ _ (by omega))
  clear e1
  refine og_astore_4 (pc := 8) dL_quotient_8 rfl ?_
  refine og_aload (pc := 10) dL_quotient_10 rfl ?_
  refine og_iconst (pc := 12) (v := 0) dL_quotient_12 (by decide) ?_
  refine og_aload_n (pc := 13) dL_quotient_13 rfl ?_
  refine og_iconst (pc := 14) (v := 0) dL_quotient_14 (by decide) ?_
  refine og_laldN (pc := 15) (j := 0) rfl dL_quotient_15 (by repeat (first | exact og_set_eq _ _ _ | assumption | refine (og_set_ne _ _ (by first | assumption | omega)).trans ?_)) (by omega) (by omega) (by first | decide | assumption | omega) ?_
  refine og_lastN (pc := 16) (j := 0) rfl dL_quotient_16 (by repeat (first | exact og_set_eq _ _ _ | assumption | refine (og_set_ne _ _ (by first | assumption | omega)).trans ?_)) (by omega) (by omega) (by first | decide | assumption | omega) ?_
  refine og_congL (q_mirror g) (og_set_eq _ _ _) (by omega) (y_qmir g) ?_
  rw [og_set_set]
  refine og_aload_n (pc := 17) dL_quotient_17 rfl ?_
  refine og_aload_n (pc := 18) dL_quotient_18 rfl ?_
  refine og_aload (pc := 19) dL_quotient_19 rfl ?_
  refine og_callS (pc := 21) (As := [.ref t, .ref a, .ref (n + 1)]) (rest := []) (c_L_product E d (n + 2) t a (n + 1) _ f (q_mirror g) ((og_set_ne _ _ (by omega)).trans ((k1 t htn).trans ht)) ((og_set_ne _ _ (by omega)).trans ((k1 a han).trans ha)) (og_set_eq _ _ _) h3t h3a (by omega) (by omega) (by omega) (by omega)) Y_L_product S_L_product K_L_39 dL_quotient_21 rfl rfl (Nat.le_of_ble_eq_true rfl) (by omega) (by omega) (by omega) (fun _ _ _ z => z) (fun v n2 h2 z => ?_)
  obtain ⟨rfl, rfl, e2⟩ := z
  have b2 : h2 b = some (rowL g) := by rw [e2]; exact (og_set_ne _ _ (by omega)).trans ((og_set_ne _ _ (by omega)).trans b1)
  have p2 : h2 (n + 2) = some (rowL (q_prod f (q_mirror g))) := by rw [e2]; exact og_set_eq _ _ _
  have k2 : ∀ x, x < n → h2 x = h x := fun x hx => by rw [e2]; exact (og_set_ne _ _ (by omega)).trans ((og_set_ne _ _ (by omega)).trans (k1 x hx))
  clear e2
  refine og_astore_5 (pc := 24) dL_quotient_24 rfl ?_
  refine og_aload_n (pc := 26) dL_quotient_26 rfl ?_
  refine og_callS (pc := 27) (As := [.ref b]) (rest := []) (c_L_square E d (n + 2 + 1) b h2 g b2 h3b) Y_L_square S_L_square K_L_43 dL_quotient_27 rfl rfl (Nat.le_of_ble_eq_true rfl) (by omega) (by omega) (by omega) (fun _ _ _ z => z) (fun v n3 h3 z => ?_)
  obtain ⟨rfl, e4, e3⟩ := z
  rw [e3, e4]
  refine og_lstore_6 (pc := 30) dL_quotient_30 rfl ?_
  refine og_bipush (pc := 32) (v := 8) dL_quotient_32 (by decide) ?_
  refine og_newa (pc := 34) (k := 2) (N := 8) (x := (8, .inr (.inl (fun _ => 0)))) (atype := .long) AC_long rfl (by decide) dL_quotient_34 (fun _ => rfl) (by decide) (by decide) (by decide) (by omega) (by omega) ?_
  refine og_astore_8 (pc := 36) dL_quotient_36 rfl ?_
  refine og_ldc2 (pc := 38) LC_L_9 dL_quotient_38 ?_
  refine og_lstore_9 (pc := 41) dL_quotient_41 rfl ?_
  refine og_iconst (pc := 43) (v := 0) dL_quotient_43 (by decide) ?_
  refine og_istore_11 (pc := 44) dL_quotient_44 rfl ?_
  have p5 : og_set h2 (n + 2 + 1) (rowL (fun _ => 0)) (n + 2) = some (rowL (q_prod f (q_mirror g))) := (og_set_ne _ _ (by omega)).trans p2
  have k5 : ∀ x, x < n → og_set h2 (n + 2 + 1) (rowL (fun _ => 0)) x = h x := fun x hx => (og_set_ne _ _ (by omega)).trans (k2 x hx)
  have r5 : og_set h2 (n + 2 + 1) (rowL (fun _ => 0)) (n + 2 + 1) = some (rowL (fun _ => 0)) := og_set_eq _ _ _
  generalize og_set h2 (n + 2 + 1) (rowL (fun _ => 0)) = h5 at p5 k5 r5 ⊢
  generalize hNN : q_inner g g 8 = N at hN hN2 ⊢
  generalize hPP : q_prod f (q_mirror g) = P at hP p5
  have hmq : m_quo f g o = (q_dvS N P o (fun _ => 0) 256).2 := by rw [← hNN, ← hPP]; rfl
  suffices hh : ∀ c w, w + c = 256 → ∀ (h6 : og_H) (n6 rb cells slots : Nat), n + 4 ≤ n6 → n + 3 ≤ rb → rb < n6 → cells ≤ 4 + w → slots ≤ 32 + 8 * w → h6 (n + 2) = some (rowL P) → (∀ x, x < n → h6 x = h x) → h6 rb = some (rowL (q_dvS N P o (fun _ => 0) w).2) → og_G E RL cL_quotient (d + 1) 260 2080 20 X (og_Q E (fun v n1 h1 => ∃ r, v = some (.ref r) ∧ n ≤ r ∧ r < n1 ∧ (∀ x, x < n → h1 x = h x) ∧ h1 r = some (rowL (m_quo f g o))) no_x 260 2080 X) cells slots n6 h6 46 (y_lq t a b o (n + 1) (n + 2) N rb (q_dvS N P o (fun _ => 0) w).1 w [none, none, none, none, none, none, none, none]) [] from
    hh 256 0 rfl h5 _ _ _ _ (by omega) (by omega) (by omega) (by omega) (by omega) p5 k5 r5
  intro c
  induction c with
  | zero =>
    intro w hw h6 n6 rb cells slots i1 i2 i3 i4 i5 i6 i7 i8
    obtain rfl : w = 256 := by omega
    refine og_iload (pc := 46) dL_quotient_46 rfl ?_
    refine og_sipush (pc := 48) (v := 256) dL_quotient_48 (by decide) ?_
    refine og_geN (pc := 51) (tgt := 350) (i := 256) (N := 256) dL_quotient_51 (by decide) rfl rfl (by omega) (by omega) (fun c_51 => ?_) (fun c_51 => ?_)
    · refine og_aload (pc := 350) dL_quotient_350 rfl ?_
      exact og_aretA (pc := 352) hr dL_quotient_352 (by omega) (by omega) ⟨rb, rfl, by omega, i3, i7, by rw [hmq]; exact i8⟩
    · omega
  | succ c ih =>
    intro w hw h6 n6 rb cells slots i1 i2 i3 i4 i5 i6 i7 i8
    refine og_iload (pc := 46) dL_quotient_46 rfl ?_
    refine og_sipush (pc := 48) (v := 256) dL_quotient_48 (by decide) ?_
    refine og_geN (pc := 51) (tgt := 350) (i := w) (N := 256) dL_quotient_51 (by decide) rfl rfl (by omega) (by omega) (fun c_51 => ?_) (fun c_51 => ?_)
    · omega
    refine og_iload (pc := 54) dL_quotient_54 rfl ?_
    refine og_iload_n (pc := 56) dL_quotient_56 rfl ?_
    refine og_callS (pc := 57) (As := [.int (nI w), .int (nI o)]) (rest := []) (c_L_isOne E d n6 w o h6 (by omega) ho) Y_L_isOne S_L_isOne K_L_15 dL_quotient_57 rfl rfl (Nat.le_of_ble_eq_true rfl) (by omega) (by omega) (by omega) (fun _ _ _ z => z) (fun v n7 h7 z => ?_)
    obtain ⟨e4, e3, z⟩ := z
    rw [e3, e4]
    have hw2 : w < 256 := by omega
    rcases z with ⟨rfl, z⟩ | ⟨rfl, z⟩
    · have hok := (okS_ok ho hw2).mpr z
      refine og_if_eq (pc := 60) (tgt := 344) dL_quotient_60 (by decide) (fun q => absurd q (by decide)) (fun _ => ?_)
      refine og_bipush (pc := 63) (v := 8) dL_quotient_63 (by decide) ?_
      refine og_newa (pc := 65) (k := 2) (N := 8) (x := (8, .inr (.inl (fun _ => 0)))) (atype := .long) AC_long rfl (by decide) dL_quotient_65 (fun _ => rfl) (by decide) (by decide) (by decide) (by omega) (by omega) ?_
      refine og_astore_12 (pc := 67) dL_quotient_67 rfl ?_
      refine og_lconst (pc := 69) (v := 0) dL_quotient_69 (by decide) ?_
      refine og_lstore_13 (pc := 70) dL_quotient_70 rfl ?_
      refine og_iconst (pc := 72) (v := 0) dL_quotient_72 (by decide) ?_
      refine og_istore_15 (pc := 73) dL_quotient_73 rfl ?_
      refine y_cols hN hN2 hP (rh := n6) ((og_set_ne _ _ (by omega)).trans i6) (by omega) (by omega) (by omega) (og_set_eq _ _ _) ?_
      rw [og_set_set]
      have r7 : og_set h6 n6 (rowL (q_ner N P w)) rb = some (rowL (q_dvS N P o (fun _ => 0) w).2) := (og_set_ne _ _ (by omega)).trans i8
      have n7 : og_set h6 n6 (rowL (q_ner N P w)) n6 = some (rowL (q_ner N P w)) := og_set_eq _ _ _
      have k7 : ∀ x, x < n → og_set h6 n6 (rowL (q_ner N P w)) x = h x := fun x hx => (og_set_ne _ _ (by omega)).trans (i7 x hx)
      have p7 : og_set h6 n6 (rowL (q_ner N P w)) (n + 2) = some (rowL P) := (og_set_ne _ _ (by omega)).trans i6
      generalize og_set h6 n6 (rowL (q_ner N P w)) = h8 at r7 n7 k7 p7 ⊢
      refine y_pick (by omega) (by omega) n7 r7 (fun q => ?_) (fun q => ?_)
      · refine og_iinc_11 (pc := 344) dL_quotient_344 (og_inc w) rfl ?_
        refine og_goto (pc := 347) (tgt := 46) dL_quotient_347 (by decide) ?_
        have e9 := q_dvS_new (q0 := fun _ => 0) hok (show q_btr N P w (q_dvS N P o (fun _ => 0) w) from q)
        have g9 := ih (w + 1) (by omega) h8 (n6 + 1) n6 (cells + 0 + 1) (slots + 0 + 8) (by omega) (by omega) (by omega) (by omega) (by omega) p7 k7 (by rw [e9]; exact n7)
        rw [e9] at g9
        exact g9
      · refine og_iinc_11 (pc := 344) dL_quotient_344 (og_inc w) rfl ?_
        refine og_goto (pc := 347) (tgt := 46) dL_quotient_347 (by decide) ?_
        have e9 := q_dvS_keep (q0 := fun _ => 0) hok (show ¬ q_btr N P w (q_dvS N P o (fun _ => 0) w) from q)
        have g9 := ih (w + 1) (by omega) h8 (n6 + 1) rb (cells + 0 + 1) (slots + 0 + 8) (by omega) (by omega) (by omega) (by omega) (by omega) p7 k7 (by rw [e9]; exact r7)
        rw [e9] at g9
        exact g9
    · have hok : ¬ q_okS o w := fun q => z ((okS_ok ho hw2).mp q)
      refine og_if_eq (pc := 60) (tgt := 344) dL_quotient_60 (by decide) (fun _ => ?_) (fun q => absurd rfl q)
      refine og_iinc_11 (pc := 344) dL_quotient_344 (og_inc w) rfl ?_
      refine og_goto (pc := 347) (tgt := 46) dL_quotient_347 (by decide) ?_
      have e9 := q_dvS_no (N := N) (kp := P) (q0 := fun _ => 0) hok
      have g9 := ih (w + 1) (by omega) h6 n6 rb (cells + 0) (slots + 0) (by omega) (by omega) (by omega) (by omega) (by omega) i6 i7 (by rw [e9]; exact i8)
      rw [e9] at g9
      exact g9
theorem c_L_rest (E : og_E) (d n t a b r : Nat) (h : og_H) (f g q : Nat → Int64) (ht : h t = some (rowI 64 y_T)) (ha : h a = some (rowL f)) (hb : h b = some (rowL g)) (hq : h r = some (rowL q)) (h3t : 3 ≤ t) (h3a : 3 ≤ a) (h3b : 3 ≤ b) (h3r : 3 ≤ r) (htn : t < n) (han : a < n) (hbn : b < n) (hrn : r < n) :
    og_M E yL_rest (.code yL_rest cL_rest 6 (some (.array .long))) (d + 1) [.ref t, .ref a, .ref b, .ref r] n h 1 8 (fun v n1 h1 => v = some (.ref n) ∧ n1 = n + 1 ∧ h1 = og_set h n (rowL (fun k => f k - q_prod q g k / 2))) no_x := by
  refine og_start (lv := [some (.ref t), some (.ref a), some (.ref b), some (.ref r), none, none]) (by decide) rfl rfl (Nat.le_of_ble_eq_true rfl) fun X hr hnm htb => ?_
  have h3n : 3 ≤ n := by omega
  refine og_aload_n (pc := 0) dL_rest_0 rfl ?_
  refine og_aload_n (pc := 1) dL_rest_1 rfl ?_
  refine og_aload_n (pc := 2) dL_rest_2 rfl ?_
  refine og_callS (pc := 3) (As := [.ref t, .ref r, .ref b]) (rest := []) (c_L_product E d n t r b h q g ht hq hb h3t h3r h3b htn hrn hbn) Y_L_product S_L_product K_L_39 dL_rest_3 rfl rfl (Nat.le_of_ble_eq_true rfl) (by omega) (by omega) (by omega) (fun _ _ _ z => z) (fun v n2 h2 z => ?_)
  obtain ⟨rfl, rfl, e2⟩ := z
  rw [e2]
  refine og_astore_4 (pc := 6) dL_rest_6 rfl ?_
  refine og_iconst (pc := 8) (v := 0) dL_rest_8 (by decide) ?_
  refine og_istore_5 (pc := 9) dL_rest_9 rfl ?_
  refine og_congL (fun j => if j < 0 then f j - q_prod q g j / 2 else q_prod q g j) (og_set_eq _ _ _) h3n (fun j _ => by simp) ?_
  rw [og_set_set]
  refine og_for (i0 := 0) (N := 8) (by decide) (fun i => og_set h n (rowL (fun j => if j < i then f j - q_prod q g j / 2 else q_prod q g j))) (fun i => [some (.ref t), some (.ref a), some (.ref b), some (.ref r), some (.ref n), some (.int (nI i))]) ?_ (fun i hi1 hi ih => ?_)
  · refine og_iload (pc := 11) dL_rest_11 rfl ?_
    refine og_bipush (pc := 13) (v := 8) dL_rest_13 (by decide) ?_
    refine og_geN (pc := 15) (tgt := 43) (i := 8) (N := 8) dL_rest_15 (by decide) rfl rfl (by omega) (by omega) (fun c_15 => ?_) (fun c_15 => ?_)
    · refine og_congL (fun k => f k - q_prod q g k / 2) (og_set_eq _ _ _) h3n (fun j hj => by rw [if_pos (by omega)]) ?_
      rw [og_set_set]
      refine og_aload (pc := 43) dL_rest_43 rfl ?_
      exact og_aretA (pc := 45) hr dL_rest_45 (by omega) (by omega) ⟨rfl, rfl, rfl⟩
    · omega
  · refine og_iload (pc := 11) dL_rest_11 rfl ?_
    refine og_bipush (pc := 13) (v := 8) dL_rest_13 (by decide) ?_
    refine og_geN (pc := 15) (tgt := 43) (i := i) (N := 8) dL_rest_15 (by decide) rfl rfl (by omega) (by omega) (fun c_15 => ?_) (fun c_15 => ?_)
    · omega
    refine og_aload (pc := 18) dL_rest_18 rfl ?_
    refine og_iload (pc := 20) dL_rest_20 rfl ?_
    refine og_aload_n (pc := 22) dL_rest_22 rfl ?_
    refine og_iload (pc := 23) dL_rest_23 rfl ?_
    refine og_laldN (pc := 25) (j := i) rfl dL_rest_25 (by repeat (first | exact og_set_eq _ _ _ | assumption | refine (og_set_ne _ _ (by first | assumption | omega)).trans ?_)) (by omega) (by omega) (by first | decide | assumption | omega) ?_
    refine og_aload (pc := 26) dL_rest_26 rfl ?_
    refine og_iload (pc := 28) dL_rest_28 rfl ?_
    refine og_laldN (pc := 30) (j := i) rfl dL_rest_30 (by repeat (first | exact og_set_eq _ _ _ | assumption | refine (og_set_ne _ _ (by first | assumption | omega)).trans ?_)) (by omega) (by omega) (by first | decide | assumption | omega) ?_
    refine og_ldc2 (pc := 31) LC_L_23 dL_rest_31 ?_
    refine og_ldiv (pc := 34) dL_rest_34 (by decide) ?_
    refine og_lsub (pc := 35) dL_rest_35 ?_
    refine og_lastN (pc := 36) rfl dL_rest_36 (by repeat (first | exact og_set_eq _ _ _ | assumption | refine (og_set_ne _ _ (by first | assumption | omega)).trans ?_)) (by omega) (by omega) (by first | decide | assumption | omega) ?_
    refine og_iinc_5 (pc := 37) dL_rest_37 (og_inc i) rfl ?_
    refine og_goto (pc := 40) (tgt := 11) dL_rest_40 (by decide) ?_
    rw [og_set_set, if_neg (Nat.lt_irrefl i), og_fill (by rfl)]
    exact ih
