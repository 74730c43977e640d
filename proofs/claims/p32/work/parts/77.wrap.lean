/-! ===== the law: its helpers with tables of handlers ===== -/
set_option maxRecDepth 4000 in
theorem c_L_sets (E : og_E) (d n : Nat) (h : og_H) (x1 x2 x3 : Int32) {mc1 ms1 : Nat} {Po1 : Option Value → Nat → og_H → Prop} {Px1 : String → Nat → og_H → Prop} {fs : List Value} (h3 : h 3 = some (.inr (5, fs)))
    (hM : og_M E yX7_set (.code yX7_set cX7_set 6 (some .int)) d [.ref 3, .int x1, .int x2, .int x3] n h mc1 ms1 Po1 Px1) (hv : ∀ v n1 h1, Po1 v n1 h1 → ∃ r : Int32, v = some (.int r)) (hx : ∀ En n1 h1, Px1 En n1 h1 → En = q_io ∨ En = q_ia) :
    og_M E yL_sets (.codeWith yL_sets cL_sets 5 (some .int) [(0, 7, 8, 53), (0, 7, 13, 56)]) (d + 1) [.ref 3, .int x1, .int x2, .int x3] n h mc1 ms1 (fun v n1 h1 => Po1 v n1 h1 ∨ (Px1 q_io n1 h1 ∧ v = some (.int (-2000001))) ∨ (Px1 q_ia n1 h1 ∧ v = some (.int (-2000002)))) no_x := by
  refine og_startH (lv := [some (.ref 3), some (.int x1), some (.int x2), some (.int x3), none]) (by decide) rfl rfl (Nat.le_of_ble_eq_true rfl) fun X hr hnm htb => ?_
  refine og_aload_n (pc := 0) dL_sets_0 rfl ?_
  refine og_iload_n (pc := 1) dL_sets_1 rfl ?_
  refine og_iload_n (pc := 2) dL_sets_2 rfl ?_
  refine og_iload_n (pc := 3) dL_sets_3 rfl ?_
  refine og_callVC (pc := 4) (As := [.int x1, .int x2, .int x3]) (rest := []) hM Y_X7_set I_X7_set V_X7_set h3 (by omega) rfl rfl K_L_47 dL_sets_4 rfl rfl (Nat.le_of_ble_eq_true rfl) (by omega) (by omega) (by omega) (fun En n1 h1 hp => ?_) (fun v n1 h1 hp => ?_)
  · rcases hx En n1 h1 hp with rfl | rfl
    · refine ⟨[], ⟨0, 7, 8, 53⟩, [⟨0, 7, 13, 56⟩], 4, 2, htb, fun z hz => absurd hz List.not_mem_nil, rfl, by decide, by decide, CL_L_53, Or.inl ⟨dL_sets_8, rfl⟩, by omega, fun j v hj hv => ?_, ?_⟩
      · obtain rfl : j = 3 := by omega
        cases hv <;> (show (1 : Nat) ≠ 2; decide)
      · refine og_ldc (pc := 10) IC_L_55 dL_sets_10 ?_
        exact og_iret (pc := 12) hr dL_sets_12 (by omega) (by omega) (Or.inr (Or.inl ⟨hp, rfl⟩))
    · refine ⟨[⟨0, 7, 8, 53⟩], ⟨0, 7, 13, 56⟩, [], 4, 2, htb, fun z hz => Or.inr ?_, rfl, by decide, by decide, CL_L_56, Or.inl ⟨dL_sets_13, rfl⟩, by omega, fun j v hj hv => ?_, ?_⟩
      · simp only [List.mem_cons, List.not_mem_nil, or_false] at hz
        subst hz
        exact ⟨by decide, "java/lang/IndexOutOfBoundsException", CL_L_53, by decide, by decide⟩
      · obtain rfl : j = 3 := by omega
        cases hv <;> (show (1 : Nat) ≠ 2; decide)
      · refine og_ldc (pc := 15) IC_L_58 dL_sets_15 ?_
        exact og_iret (pc := 17) hr dL_sets_17 (by omega) (by omega) (Or.inr (Or.inr (⟨hp, rfl⟩)))
  · obtain ⟨r, rfl⟩ := hv v n1 h1 hp
    exact og_iret (pc := 7) hr dL_sets_7 (by omega) (by omega) (Or.inl hp)
set_option maxRecDepth 4000 in
theorem c_L_fours (E : og_E) (d n : Nat) (h : og_H) (x1 x2 x3 x4 x5 x6 : Int32) {mc1 ms1 : Nat} {Po1 : Option Value → Nat → og_H → Prop} {Px1 : String → Nat → og_H → Prop} {fs : List Value} (h3 : h 3 = some (.inr (5, fs)))
    (hM : og_M E yX7_setFour (.code yX7_setFour cX7_setFour 9 (some .long)) d [.ref 3, .int x1, .int x2, .int x3, .int x4, .int x5, .int x6] n h mc1 ms1 Po1 Px1) (hv : ∀ v n1 h1, Po1 v n1 h1 → ∃ r : Int64, v = some (.long r)) (hx : ∀ En n1 h1, Px1 En n1 h1 → En = q_io ∨ En = q_ia) :
    og_M E yL_fours (.codeWith yL_fours cL_fours 8 (some .long) [(0, 13, 14, 53), (0, 13, 20, 56)]) (d + 1) [.ref 3, .int x1, .int x2, .int x3, .int x4, .int x5, .int x6] n h mc1 ms1 (fun v n1 h1 => Po1 v n1 h1 ∨ (Px1 q_io n1 h1 ∧ v = some (.long (-2000001))) ∨ (Px1 q_ia n1 h1 ∧ v = some (.long (-2000002)))) no_x := by
  refine og_startH (lv := [some (.ref 3), some (.int x1), some (.int x2), some (.int x3), some (.int x4), some (.int x5), some (.int x6), none]) (by decide) rfl rfl (Nat.le_of_ble_eq_true rfl) fun X hr hnm htb => ?_
  refine og_aload_n (pc := 0) dL_fours_0 rfl ?_
  refine og_iload_n (pc := 1) dL_fours_1 rfl ?_
  refine og_iload_n (pc := 2) dL_fours_2 rfl ?_
  refine og_iload_n (pc := 3) dL_fours_3 rfl ?_
  refine og_iload (pc := 4) dL_fours_4 rfl ?_
  refine og_iload (pc := 6) dL_fours_6 rfl ?_
  refine og_iload (pc := 8) dL_fours_8 rfl ?_
  refine og_callVC (pc := 10) (As := [.int x1, .int x2, .int x3, .int x4, .int x5, .int x6]) (rest := []) hM Y_X7_setFour I_X7_setFour V_X7_setFour h3 (by omega) rfl rfl K_L_59 dL_fours_10 rfl rfl (Nat.le_of_ble_eq_true rfl) (by omega) (by omega) (by omega) (fun En n1 h1 hp => ?_) (fun v n1 h1 hp => ?_)
  · rcases hx En n1 h1 hp with rfl | rfl
    · refine ⟨[], ⟨0, 13, 14, 53⟩, [⟨0, 13, 20, 56⟩], 7, 2, htb, fun z hz => absurd hz List.not_mem_nil, rfl, by decide, by decide, CL_L_53, Or.inl ⟨dL_fours_14, rfl⟩, by omega, fun j v hj hv => ?_, ?_⟩
      · obtain rfl : j = 6 := by omega
        cases hv <;> (show (1 : Nat) ≠ 2; decide)
      · refine og_ldc2 (pc := 16) LC_L_63 dL_fours_16 ?_
        exact og_lret (pc := 19) hr dL_fours_19 (by omega) (by omega) (Or.inr (Or.inl ⟨hp, rfl⟩))
    · refine ⟨[⟨0, 13, 14, 53⟩], ⟨0, 13, 20, 56⟩, [], 7, 2, htb, fun z hz => Or.inr ?_, rfl, by decide, by decide, CL_L_56, Or.inl ⟨dL_fours_20, rfl⟩, by omega, fun j v hj hv => ?_, ?_⟩
      · simp only [List.mem_cons, List.not_mem_nil, or_false] at hz
        subst hz
        exact ⟨by decide, "java/lang/IndexOutOfBoundsException", CL_L_53, by decide, by decide⟩
      · obtain rfl : j = 6 := by omega
        cases hv <;> (show (1 : Nat) ≠ 2; decide)
      · refine og_ldc2 (pc := 22) LC_L_65 dL_fours_22 ?_
        exact og_lret (pc := 25) hr dL_fours_25 (by omega) (by omega) (Or.inr (Or.inr (⟨hp, rfl⟩)))
  · obtain ⟨r, rfl⟩ := hv v n1 h1 hp
    exact og_lret (pc := 13) hr dL_fours_13 (by omega) (by omega) (Or.inl hp)
set_option maxRecDepth 4000 in
theorem c_L_ordered (E : og_E) (d n : Nat) (h : og_H) (x1 : Int32) {mc1 ms1 : Nat} {Po1 : Option Value → Nat → og_H → Prop} {Px1 : String → Nat → og_H → Prop} {fs : List Value} (h3 : h 3 = some (.inr (5, fs)))
    (hM : og_M E yX7_setOrder (.code yX7_setOrder cX7_setOrder 3 (some .int)) d [.ref 3, .int x1] n h mc1 ms1 Po1 Px1) (hv : ∀ v n1 h1, Po1 v n1 h1 → ∃ r : Int32, v = some (.int r)) (hx : ∀ En n1 h1, Px1 En n1 h1 → En = q_ia) :
    og_M E yL_ordered (.codeWith yL_ordered cL_ordered 3 (some .int) [(0, 5, 6, 56)]) (d + 1) [.ref 3, .int x1] n h mc1 ms1 (fun v n1 h1 => Po1 v n1 h1 ∨ (Px1 q_ia n1 h1 ∧ v = some (.int (-2000002)))) no_x := by
  refine og_startH (lv := [some (.ref 3), some (.int x1), none]) (by decide) rfl rfl (Nat.le_of_ble_eq_true rfl) fun X hr hnm htb => ?_
  refine og_aload_n (pc := 0) dL_ordered_0 rfl ?_
  refine og_iload_n (pc := 1) dL_ordered_1 rfl ?_
  refine og_callVC (pc := 2) (As := [.int x1]) (rest := []) hM Y_X7_setOrder I_X7_setOrder V_X7_setOrder h3 (by omega) rfl rfl K_L_67 dL_ordered_2 rfl rfl (Nat.le_of_ble_eq_true rfl) (by omega) (by omega) (by omega) (fun En n1 h1 hp => ?_) (fun v n1 h1 hp => ?_)
  · obtain rfl := hx En n1 h1 hp
    refine ⟨[], ⟨0, 5, 6, 56⟩, [], 2, 1, htb, fun z hz => absurd hz List.not_mem_nil, rfl, by decide, by decide, CL_L_56, Or.inr ⟨2, dL_ordered_6, rfl, rfl⟩, by omega, fun j v hj hv => ?_, ?_⟩
    · obtain rfl : j = 1 := by omega
      cases hv <;> (show (1 : Nat) ≠ 2; decide)
    · refine og_ldc (pc := 7) IC_L_58 dL_ordered_7 ?_
      exact og_iret (pc := 9) hr dL_ordered_9 (by omega) (by omega) (Or.inr (⟨hp, rfl⟩))
  · obtain ⟨r, rfl⟩ := hv v n1 h1 hp
    exact og_iret (pc := 5) hr dL_ordered_5 (by omega) (by omega) (Or.inl hp)
set_option maxRecDepth 4000 in
theorem c_L_loads (E : og_E) (d n : Nat) (h : og_H) (x1 x2 : Int32) {mc1 ms1 : Nat} {Po1 : Option Value → Nat → og_H → Prop} {Px1 : String → Nat → og_H → Prop} {fs : List Value} (h3 : h 3 = some (.inr (5, fs)))
    (hM : og_M E yX7_load (.code yX7_load cX7_load 3 (some .int)) d [.ref 3, .int x1, .int x2] n h mc1 ms1 Po1 Px1) (hv : ∀ v n1 h1, Po1 v n1 h1 → ∃ r : Int32, v = some (.int r)) (hx : ∀ En n1 h1, Px1 En n1 h1 → En = q_io) :
    og_M E yL_loads (.codeWith yL_loads cL_loads 4 (some .int) [(0, 6, 7, 53)]) (d + 1) [.ref 3, .int x1, .int x2] n h mc1 ms1 (fun v n1 h1 => Po1 v n1 h1 ∨ (Px1 q_io n1 h1 ∧ v = some (.int (-2000001)))) no_x := by
  refine og_startH (lv := [some (.ref 3), some (.int x1), some (.int x2), none]) (by decide) rfl rfl (Nat.le_of_ble_eq_true rfl) fun X hr hnm htb => ?_
  refine og_aload_n (pc := 0) dL_loads_0 rfl ?_
  refine og_iload_n (pc := 1) dL_loads_1 rfl ?_
  refine og_iload_n (pc := 2) dL_loads_2 rfl ?_
  refine og_callVC (pc := 3) (As := [.int x1, .int x2]) (rest := []) hM Y_X7_load I_X7_load V_X7_load h3 (by omega) rfl rfl K_L_71 dL_loads_3 rfl rfl (Nat.le_of_ble_eq_true rfl) (by omega) (by omega) (by omega) (fun En n1 h1 hp => ?_) (fun v n1 h1 hp => ?_)
  · obtain rfl := hx En n1 h1 hp
    refine ⟨[], ⟨0, 6, 7, 53⟩, [], 3, 1, htb, fun z hz => absurd hz List.not_mem_nil, rfl, by decide, by decide, CL_L_53, Or.inr ⟨3, dL_loads_7, rfl, rfl⟩, by omega, fun j v hj hv => ?_, ?_⟩
    · obtain rfl : j = 2 := by omega
      cases hv <;> (show (1 : Nat) ≠ 2; decide)
    · refine og_ldc (pc := 8) IC_L_55 dL_loads_8 ?_
      exact og_iret (pc := 10) hr dL_loads_10 (by omega) (by omega) (Or.inr (⟨hp, rfl⟩))
  · obtain ⟨r, rfl⟩ := hv v n1 h1 hp
    exact og_iret (pc := 6) hr dL_loads_6 (by omega) (by omega) (Or.inl hp)
set_option maxRecDepth 4000 in
theorem c_L_adds (E : og_E) (d n : Nat) (h : og_H) (x1 x2 x3 x4 : Int32) {mc1 ms1 : Nat} {Po1 : Option Value → Nat → og_H → Prop} {Px1 : String → Nat → og_H → Prop} {fs : List Value} (h3 : h 3 = some (.inr (5, fs)))
    (hM : og_M E yX7_add (.code yX7_add cX7_add 5 (some .long)) d [.ref 3, .int x1, .int x2, .int x3, .int x4] n h mc1 ms1 Po1 Px1) (hv : ∀ v n1 h1, Po1 v n1 h1 → ∃ r : Int64, v = some (.long r)) (hx : ∀ En n1 h1, Px1 En n1 h1 → En = q_io ∨ En = q_ae) :
    og_M E yL_adds (.codeWith yL_adds cL_adds 6 (some .long) [(0, 9, 10, 53), (0, 9, 16, 79)]) (d + 1) [.ref 3, .int x1, .int x2, .int x3, .int x4] n h mc1 ms1 (fun v n1 h1 => Po1 v n1 h1 ∨ (Px1 q_io n1 h1 ∧ v = some (.long (-2000001))) ∨ (Px1 q_ae n1 h1 ∧ v = some (.long (-2000004)))) no_x := by
  refine og_startH (lv := [some (.ref 3), some (.int x1), some (.int x2), some (.int x3), some (.int x4), none]) (by decide) rfl rfl (Nat.le_of_ble_eq_true rfl) fun X hr hnm htb => ?_
  refine og_aload_n (pc := 0) dL_adds_0 rfl ?_
  refine og_iload_n (pc := 1) dL_adds_1 rfl ?_
  refine og_iload_n (pc := 2) dL_adds_2 rfl ?_
  refine og_iload_n (pc := 3) dL_adds_3 rfl ?_
  refine og_iload (pc := 4) dL_adds_4 rfl ?_
  refine og_callVC (pc := 6) (As := [.int x1, .int x2, .int x3, .int x4]) (rest := []) hM Y_X7_add I_X7_add V_X7_add h3 (by omega) rfl rfl K_L_75 dL_adds_6 rfl rfl (Nat.le_of_ble_eq_true rfl) (by omega) (by omega) (by omega) (fun En n1 h1 hp => ?_) (fun v n1 h1 hp => ?_)
  · rcases hx En n1 h1 hp with rfl | rfl
    · refine ⟨[], ⟨0, 9, 10, 53⟩, [⟨0, 9, 16, 79⟩], 5, 2, htb, fun z hz => absurd hz List.not_mem_nil, rfl, by decide, by decide, CL_L_53, Or.inl ⟨dL_adds_10, rfl⟩, by omega, fun j v hj hv => ?_, ?_⟩
      · obtain rfl : j = 4 := by omega
        cases hv <;> (show (1 : Nat) ≠ 2; decide)
      · refine og_ldc2 (pc := 12) LC_L_63 dL_adds_12 ?_
        exact og_lret (pc := 15) hr dL_adds_15 (by omega) (by omega) (Or.inr (Or.inl ⟨hp, rfl⟩))
    · refine ⟨[⟨0, 9, 10, 53⟩], ⟨0, 9, 16, 79⟩, [], 5, 2, htb, fun z hz => Or.inr ?_, rfl, by decide, by decide, CL_L_79, Or.inl ⟨dL_adds_16, rfl⟩, by omega, fun j v hj hv => ?_, ?_⟩
      · simp only [List.mem_cons, List.not_mem_nil, or_false] at hz
        subst hz
        exact ⟨by decide, "java/lang/IndexOutOfBoundsException", CL_L_53, by decide, by decide⟩
      · obtain rfl : j = 4 := by omega
        cases hv <;> (show (1 : Nat) ≠ 2; decide)
      · refine og_ldc2 (pc := 18) LC_L_81 dL_adds_18 ?_
        exact og_lret (pc := 21) hr dL_adds_21 (by omega) (by omega) (Or.inr (Or.inr (⟨hp, rfl⟩)))
  · obtain ⟨r, rfl⟩ := hv v n1 h1 hp
    exact og_lret (pc := 9) hr dL_adds_9 (by omega) (by omega) (Or.inl hp)
set_option maxRecDepth 4000 in
theorem c_L_multiplies (E : og_E) (d n : Nat) (h : og_H) (x1 x2 x3 : Int32) {mc1 ms1 : Nat} {Po1 : Option Value → Nat → og_H → Prop} {Px1 : String → Nat → og_H → Prop} {fs : List Value} (h3 : h 3 = some (.inr (5, fs)))
    (hM : og_M E yX7_multiply (.code yX7_multiply cX7_multiply 4 (some .long)) d [.ref 3, .int x1, .int x2, .int x3] n h mc1 ms1 Po1 Px1) (hv : ∀ v n1 h1, Po1 v n1 h1 → ∃ r : Int64, v = some (.long r)) (hx : ∀ En n1 h1, Px1 En n1 h1 → En = q_io ∨ En = q_ae) :
    og_M E yL_multiplies (.codeWith yL_multiplies cL_multiplies 5 (some .long) [(0, 7, 8, 53), (0, 7, 14, 79)]) (d + 1) [.ref 3, .int x1, .int x2, .int x3] n h mc1 ms1 (fun v n1 h1 => Po1 v n1 h1 ∨ (Px1 q_io n1 h1 ∧ v = some (.long (-2000001))) ∨ (Px1 q_ae n1 h1 ∧ v = some (.long (-2000004)))) no_x := by
  refine og_startH (lv := [some (.ref 3), some (.int x1), some (.int x2), some (.int x3), none]) (by decide) rfl rfl (Nat.le_of_ble_eq_true rfl) fun X hr hnm htb => ?_
  refine og_aload_n (pc := 0) dL_multiplies_0 rfl ?_
  refine og_iload_n (pc := 1) dL_multiplies_1 rfl ?_
  refine og_iload_n (pc := 2) dL_multiplies_2 rfl ?_
  refine og_iload_n (pc := 3) dL_multiplies_3 rfl ?_
  refine og_callVC (pc := 4) (As := [.int x1, .int x2, .int x3]) (rest := []) hM Y_X7_multiply I_X7_multiply V_X7_multiply h3 (by omega) rfl rfl K_L_83 dL_multiplies_4 rfl rfl (Nat.le_of_ble_eq_true rfl) (by omega) (by omega) (by omega) (fun En n1 h1 hp => ?_) (fun v n1 h1 hp => ?_)
  · rcases hx En n1 h1 hp with rfl | rfl
    · refine ⟨[], ⟨0, 7, 8, 53⟩, [⟨0, 7, 14, 79⟩], 4, 2, htb, fun z hz => absurd hz List.not_mem_nil, rfl, by decide, by decide, CL_L_53, Or.inl ⟨dL_multiplies_8, rfl⟩, by omega, fun j v hj hv => ?_, ?_⟩
      · obtain rfl : j = 3 := by omega
        cases hv <;> (show (1 : Nat) ≠ 2; decide)
      · refine og_ldc2 (pc := 10) LC_L_63 dL_multiplies_10 ?_
        exact og_lret (pc := 13) hr dL_multiplies_13 (by omega) (by omega) (Or.inr (Or.inl ⟨hp, rfl⟩))
    · refine ⟨[⟨0, 7, 8, 53⟩], ⟨0, 7, 14, 79⟩, [], 4, 2, htb, fun z hz => Or.inr ?_, rfl, by decide, by decide, CL_L_79, Or.inl ⟨dL_multiplies_14, rfl⟩, by omega, fun j v hj hv => ?_, ?_⟩
      · simp only [List.mem_cons, List.not_mem_nil, or_false] at hz
        subst hz
        exact ⟨by decide, "java/lang/IndexOutOfBoundsException", CL_L_53, by decide, by decide⟩
      · obtain rfl : j = 3 := by omega
        cases hv <;> (show (1 : Nat) ≠ 2; decide)
      · refine og_ldc2 (pc := 16) LC_L_81 dL_multiplies_16 ?_
        exact og_lret (pc := 19) hr dL_multiplies_19 (by omega) (by omega) (Or.inr (Or.inr (⟨hp, rfl⟩)))
  · obtain ⟨r, rfl⟩ := hv v n1 h1 hp
    exact og_lret (pc := 7) hr dL_multiplies_7 (by omega) (by omega) (Or.inl hp)
set_option maxRecDepth 4000 in
theorem c_L_conjugates (E : og_E) (d n : Nat) (h : og_H) (x1 : Int32) {mc1 ms1 : Nat} {Po1 : Option Value → Nat → og_H → Prop} {Px1 : String → Nat → og_H → Prop} {fs : List Value} (h3 : h 3 = some (.inr (5, fs)))
    (hM : og_M E yX7_conjugate (.code yX7_conjugate cX7_conjugate 2 (some .int)) d [.ref 3, .int x1] n h mc1 ms1 Po1 Px1) (hv : ∀ v n1 h1, Po1 v n1 h1 → ∃ r : Int32, v = some (.int r)) (hx : ∀ En n1 h1, Px1 En n1 h1 → En = q_io) :
    og_M E yL_conjugates (.codeWith yL_conjugates cL_conjugates 3 (some .int) [(0, 5, 6, 53)]) (d + 1) [.ref 3, .int x1] n h mc1 ms1 (fun v n1 h1 => Po1 v n1 h1 ∨ (Px1 q_io n1 h1 ∧ v = some (.int (-2000001)))) no_x := by
  refine og_startH (lv := [some (.ref 3), some (.int x1), none]) (by decide) rfl rfl (Nat.le_of_ble_eq_true rfl) fun X hr hnm htb => ?_
  refine og_aload_n (pc := 0) dL_conjugates_0 rfl ?_
  refine og_iload_n (pc := 1) dL_conjugates_1 rfl ?_
  refine og_callVC (pc := 2) (As := [.int x1]) (rest := []) hM Y_X7_conjugate I_X7_conjugate V_X7_conjugate h3 (by omega) rfl rfl K_L_87 dL_conjugates_2 rfl rfl (Nat.le_of_ble_eq_true rfl) (by omega) (by omega) (by omega) (fun En n1 h1 hp => ?_) (fun v n1 h1 hp => ?_)
  · obtain rfl := hx En n1 h1 hp
    refine ⟨[], ⟨0, 5, 6, 53⟩, [], 2, 1, htb, fun z hz => absurd hz List.not_mem_nil, rfl, by decide, by decide, CL_L_53, Or.inr ⟨2, dL_conjugates_6, rfl, rfl⟩, by omega, fun j v hj hv => ?_, ?_⟩
    · obtain rfl : j = 1 := by omega
      cases hv <;> (show (1 : Nat) ≠ 2; decide)
    · refine og_ldc (pc := 7) IC_L_55 dL_conjugates_7 ?_
      exact og_iret (pc := 9) hr dL_conjugates_9 (by omega) (by omega) (Or.inr (⟨hp, rfl⟩))
  · obtain ⟨r, rfl⟩ := hv v n1 h1 hp
    exact og_iret (pc := 5) hr dL_conjugates_5 (by omega) (by omega) (Or.inl hp)
set_option maxRecDepth 4000 in
theorem c_L_commutes (E : og_E) (d n : Nat) (h : og_H) (x1 x2 x3 : Int32) {mc1 ms1 : Nat} {Po1 : Option Value → Nat → og_H → Prop} {Px1 : String → Nat → og_H → Prop} {fs : List Value} (h3 : h 3 = some (.inr (5, fs)))
    (hM : og_M E yX7_commutator (.code yX7_commutator cX7_commutator 4 (some .long)) d [.ref 3, .int x1, .int x2, .int x3] n h mc1 ms1 Po1 Px1) (hv : ∀ v n1 h1, Po1 v n1 h1 → ∃ r : Int64, v = some (.long r)) (hx : ∀ En n1 h1, Px1 En n1 h1 → En = q_io ∨ En = q_ae) :
    og_M E yL_commutes (.codeWith yL_commutes cL_commutes 5 (some .long) [(0, 7, 8, 53), (0, 7, 14, 79)]) (d + 1) [.ref 3, .int x1, .int x2, .int x3] n h mc1 ms1 (fun v n1 h1 => Po1 v n1 h1 ∨ (Px1 q_io n1 h1 ∧ v = some (.long (-2000001))) ∨ (Px1 q_ae n1 h1 ∧ v = some (.long (-2000004)))) no_x := by
  refine og_startH (lv := [some (.ref 3), some (.int x1), some (.int x2), some (.int x3), none]) (by decide) rfl rfl (Nat.le_of_ble_eq_true rfl) fun X hr hnm htb => ?_
  refine og_aload_n (pc := 0) dL_commutes_0 rfl ?_
  refine og_iload_n (pc := 1) dL_commutes_1 rfl ?_
  refine og_iload_n (pc := 2) dL_commutes_2 rfl ?_
  refine og_iload_n (pc := 3) dL_commutes_3 rfl ?_
  refine og_callVC (pc := 4) (As := [.int x1, .int x2, .int x3]) (rest := []) hM Y_X7_commutator I_X7_commutator V_X7_commutator h3 (by omega) rfl rfl K_L_90 dL_commutes_4 rfl rfl (Nat.le_of_ble_eq_true rfl) (by omega) (by omega) (by omega) (fun En n1 h1 hp => ?_) (fun v n1 h1 hp => ?_)
  · rcases hx En n1 h1 hp with rfl | rfl
    · refine ⟨[], ⟨0, 7, 8, 53⟩, [⟨0, 7, 14, 79⟩], 4, 2, htb, fun z hz => absurd hz List.not_mem_nil, rfl, by decide, by decide, CL_L_53, Or.inl ⟨dL_commutes_8, rfl⟩, by omega, fun j v hj hv => ?_, ?_⟩
      · obtain rfl : j = 3 := by omega
        cases hv <;> (show (1 : Nat) ≠ 2; decide)
      · refine og_ldc2 (pc := 10) LC_L_63 dL_commutes_10 ?_
        exact og_lret (pc := 13) hr dL_commutes_13 (by omega) (by omega) (Or.inr (Or.inl ⟨hp, rfl⟩))
    · refine ⟨[⟨0, 7, 8, 53⟩], ⟨0, 7, 14, 79⟩, [], 4, 2, htb, fun z hz => Or.inr ?_, rfl, by decide, by decide, CL_L_79, Or.inl ⟨dL_commutes_14, rfl⟩, by omega, fun j v hj hv => ?_, ?_⟩
      · simp only [List.mem_cons, List.not_mem_nil, or_false] at hz
        subst hz
        exact ⟨by decide, "java/lang/IndexOutOfBoundsException", CL_L_53, by decide, by decide⟩
      · obtain rfl : j = 3 := by omega
        cases hv <;> (show (1 : Nat) ≠ 2; decide)
      · refine og_ldc2 (pc := 16) LC_L_81 dL_commutes_16 ?_
        exact og_lret (pc := 19) hr dL_commutes_19 (by omega) (by omega) (Or.inr (Or.inr (⟨hp, rfl⟩)))
  · obtain ⟨r, rfl⟩ := hv v n1 h1 hp
    exact og_lret (pc := 7) hr dL_commutes_7 (by omega) (by omega) (Or.inl hp)
set_option maxRecDepth 4000 in
theorem c_L_associates (E : og_E) (d n : Nat) (h : og_H) (x1 x2 x3 x4 : Int32) {mc1 ms1 : Nat} {Po1 : Option Value → Nat → og_H → Prop} {Px1 : String → Nat → og_H → Prop} {fs : List Value} (h3 : h 3 = some (.inr (5, fs)))
    (hM : og_M E yX7_associator (.code yX7_associator cX7_associator 5 (some .long)) d [.ref 3, .int x1, .int x2, .int x3, .int x4] n h mc1 ms1 Po1 Px1) (hv : ∀ v n1 h1, Po1 v n1 h1 → ∃ r : Int64, v = some (.long r)) (hx : ∀ En n1 h1, Px1 En n1 h1 → En = q_io ∨ En = q_ae) :
    og_M E yL_associates (.codeWith yL_associates cL_associates 6 (some .long) [(0, 9, 10, 53), (0, 9, 16, 79)]) (d + 1) [.ref 3, .int x1, .int x2, .int x3, .int x4] n h mc1 ms1 (fun v n1 h1 => Po1 v n1 h1 ∨ (Px1 q_io n1 h1 ∧ v = some (.long (-2000001))) ∨ (Px1 q_ae n1 h1 ∧ v = some (.long (-2000004)))) no_x := by
  refine og_startH (lv := [some (.ref 3), some (.int x1), some (.int x2), some (.int x3), some (.int x4), none]) (by decide) rfl rfl (Nat.le_of_ble_eq_true rfl) fun X hr hnm htb => ?_
  refine og_aload_n (pc := 0) dL_associates_0 rfl ?_
  refine og_iload_n (pc := 1) dL_associates_1 rfl ?_
  refine og_iload_n (pc := 2) dL_associates_2 rfl ?_
  refine og_iload_n (pc := 3) dL_associates_3 rfl ?_
  refine og_iload (pc := 4) dL_associates_4 rfl ?_
  refine og_callVC (pc := 6) (As := [.int x1, .int x2, .int x3, .int x4]) (rest := []) hM Y_X7_associator I_X7_associator V_X7_associator h3 (by omega) rfl rfl K_L_93 dL_associates_6 rfl rfl (Nat.le_of_ble_eq_true rfl) (by omega) (by omega) (by omega) (fun En n1 h1 hp => ?_) (fun v n1 h1 hp => ?_)
  · rcases hx En n1 h1 hp with rfl | rfl
    · refine ⟨[], ⟨0, 9, 10, 53⟩, [⟨0, 9, 16, 79⟩], 5, 2, htb, fun z hz => absurd hz List.not_mem_nil, rfl, by decide, by decide, CL_L_53, Or.inl ⟨dL_associates_10, rfl⟩, by omega, fun j v hj hv => ?_, ?_⟩
      · obtain rfl : j = 4 := by omega
        cases hv <;> (show (1 : Nat) ≠ 2; decide)
      · refine og_ldc2 (pc := 12) LC_L_63 dL_associates_12 ?_
        exact og_lret (pc := 15) hr dL_associates_15 (by omega) (by omega) (Or.inr (Or.inl ⟨hp, rfl⟩))
    · refine ⟨[⟨0, 9, 10, 53⟩], ⟨0, 9, 16, 79⟩, [], 5, 2, htb, fun z hz => Or.inr ?_, rfl, by decide, by decide, CL_L_79, Or.inl ⟨dL_associates_16, rfl⟩, by omega, fun j v hj hv => ?_, ?_⟩
      · simp only [List.mem_cons, List.not_mem_nil, or_false] at hz
        subst hz
        exact ⟨by decide, "java/lang/IndexOutOfBoundsException", CL_L_53, by decide, by decide⟩
      · obtain rfl : j = 4 := by omega
        cases hv <;> (show (1 : Nat) ≠ 2; decide)
      · refine og_ldc2 (pc := 18) LC_L_81 dL_associates_18 ?_
        exact og_lret (pc := 21) hr dL_associates_21 (by omega) (by omega) (Or.inr (Or.inr (⟨hp, rfl⟩)))
  · obtain ⟨r, rfl⟩ := hv v n1 h1 hp
    exact og_lret (pc := 9) hr dL_associates_9 (by omega) (by omega) (Or.inl hp)
set_option maxRecDepth 4000 in
theorem c_L_divides (E : og_E) (d n : Nat) (h : og_H) (x1 x2 x3 x4 : Int32) {mc1 ms1 : Nat} {Po1 : Option Value → Nat → og_H → Prop} {Px1 : String → Nat → og_H → Prop} {fs : List Value} (h3 : h 3 = some (.inr (5, fs)))
    (hM : og_M E yX7_divide (.code yX7_divide cX7_divide 5 (some .long)) d [.ref 3, .int x1, .int x2, .int x3, .int x4] n h mc1 ms1 Po1 Px1) (hv : ∀ v n1 h1, Po1 v n1 h1 → ∃ r : Int64, v = some (.long r)) (hx : ∀ En n1 h1, Px1 En n1 h1 → En = q_io ∨ En = q_ia ∨ En = q_ist ∨ En = q_ae) :
    og_M E yL_divides (.codeWith yL_divides cL_divides 6 (some .long) [(0, 9, 10, 53), (0, 9, 16, 56), (0, 9, 22, 100), (0, 9, 28, 79)]) (d + 1) [.ref 3, .int x1, .int x2, .int x3, .int x4] n h mc1 ms1 (fun v n1 h1 => Po1 v n1 h1 ∨ (Px1 q_io n1 h1 ∧ v = some (.long (-2000001))) ∨ (Px1 q_ia n1 h1 ∧ v = some (.long (-2000002))) ∨ (Px1 q_ist n1 h1 ∧ v = some (.long (-2000003))) ∨ (Px1 q_ae n1 h1 ∧ v = some (.long (-2000004)))) no_x := by
  refine og_startH (lv := [some (.ref 3), some (.int x1), some (.int x2), some (.int x3), some (.int x4), none]) (by decide) rfl rfl (Nat.le_of_ble_eq_true rfl) fun X hr hnm htb => ?_
  refine og_aload_n (pc := 0) dL_divides_0 rfl ?_
  refine og_iload_n (pc := 1) dL_divides_1 rfl ?_
  refine og_iload_n (pc := 2) dL_divides_2 rfl ?_
  refine og_iload_n (pc := 3) dL_divides_3 rfl ?_
  refine og_iload (pc := 4) dL_divides_4 rfl ?_
  refine og_callVC (pc := 6) (As := [.int x1, .int x2, .int x3, .int x4]) (rest := []) hM Y_X7_divide I_X7_divide V_X7_divide h3 (by omega) rfl rfl K_L_97 dL_divides_6 rfl rfl (Nat.le_of_ble_eq_true rfl) (by omega) (by omega) (by omega) (fun En n1 h1 hp => ?_) (fun v n1 h1 hp => ?_)
  · rcases hx En n1 h1 hp with rfl | rfl | rfl | rfl
    · refine ⟨[], ⟨0, 9, 10, 53⟩, [⟨0, 9, 16, 56⟩, ⟨0, 9, 22, 100⟩, ⟨0, 9, 28, 79⟩], 5, 2, htb, fun z hz => absurd hz List.not_mem_nil, rfl, by decide, by decide, CL_L_53, Or.inl ⟨dL_divides_10, rfl⟩, by omega, fun j v hj hv => ?_, ?_⟩
      · obtain rfl : j = 4 := by omega
        cases hv <;> (show (1 : Nat) ≠ 2; decide)
      · refine og_ldc2 (pc := 12) LC_L_63 dL_divides_12 ?_
        exact og_lret (pc := 15) hr dL_divides_15 (by omega) (by omega) (Or.inr (Or.inl ⟨hp, rfl⟩))
    · refine ⟨[⟨0, 9, 10, 53⟩], ⟨0, 9, 16, 56⟩, [⟨0, 9, 22, 100⟩, ⟨0, 9, 28, 79⟩], 5, 2, htb, fun z hz => Or.inr ?_, rfl, by decide, by decide, CL_L_56, Or.inl ⟨dL_divides_16, rfl⟩, by omega, fun j v hj hv => ?_, ?_⟩
      · simp only [List.mem_cons, List.not_mem_nil, or_false] at hz
        subst hz
        exact ⟨by decide, "java/lang/IndexOutOfBoundsException", CL_L_53, by decide, by decide⟩
      · obtain rfl : j = 4 := by omega
        cases hv <;> (show (1 : Nat) ≠ 2; decide)
      · refine og_ldc2 (pc := 18) LC_L_65 dL_divides_18 ?_
        exact og_lret (pc := 21) hr dL_divides_21 (by omega) (by omega) (Or.inr (Or.inr (Or.inl ⟨hp, rfl⟩)))
    · refine ⟨[⟨0, 9, 10, 53⟩, ⟨0, 9, 16, 56⟩], ⟨0, 9, 22, 100⟩, [⟨0, 9, 28, 79⟩], 5, 2, htb, fun z hz => Or.inr ?_, rfl, by decide, by decide, CL_L_100, Or.inl ⟨dL_divides_22, rfl⟩, by omega, fun j v hj hv => ?_, ?_⟩
      · simp only [List.mem_cons, List.not_mem_nil, or_false] at hz
        rcases hz with rfl | rfl
        · exact ⟨by decide, "java/lang/IndexOutOfBoundsException", CL_L_53, by decide, by decide⟩
        · exact ⟨by decide, "java/lang/IllegalArgumentException", CL_L_56, by decide, by decide⟩
      · obtain rfl : j = 4 := by omega
        cases hv <;> (show (1 : Nat) ≠ 2; decide)
      · refine og_ldc2 (pc := 24) LC_L_102 dL_divides_24 ?_
        exact og_lret (pc := 27) hr dL_divides_27 (by omega) (by omega) (Or.inr (Or.inr (Or.inr (Or.inl ⟨hp, rfl⟩))))
    · refine ⟨[⟨0, 9, 10, 53⟩, ⟨0, 9, 16, 56⟩, ⟨0, 9, 22, 100⟩], ⟨0, 9, 28, 79⟩, [], 5, 2, htb, fun z hz => Or.inr ?_, rfl, by decide, by decide, CL_L_79, Or.inl ⟨dL_divides_28, rfl⟩, by omega, fun j v hj hv => ?_, ?_⟩
      · simp only [List.mem_cons, List.not_mem_nil, or_false] at hz
        rcases hz with rfl | rfl | rfl
        · exact ⟨by decide, "java/lang/IndexOutOfBoundsException", CL_L_53, by decide, by decide⟩
        · exact ⟨by decide, "java/lang/IllegalArgumentException", CL_L_56, by decide, by decide⟩
        · exact ⟨by decide, "java/lang/IllegalStateException", CL_L_100, by decide, by decide⟩
      · obtain rfl : j = 4 := by omega
        cases hv <;> (show (1 : Nat) ≠ 2; decide)
      · refine og_ldc2 (pc := 30) LC_L_81 dL_divides_30 ?_
        exact og_lret (pc := 33) hr dL_divides_33 (by omega) (by omega) (Or.inr (Or.inr (Or.inr (Or.inr (⟨hp, rfl⟩)))))
  · obtain ⟨r, rfl⟩ := hv v n1 h1 hp
    exact og_lret (pc := 9) hr dL_divides_9 (by omega) (by omega) (Or.inl hp)
set_option maxRecDepth 4000 in
theorem c_L_coordinateOf (E : og_E) (d n : Nat) (h : og_H) (x1 x2 : Int32) {mc1 ms1 : Nat} {Po1 : Option Value → Nat → og_H → Prop} {Px1 : String → Nat → og_H → Prop} {fs : List Value} (h3 : h 3 = some (.inr (5, fs)))
    (hM : og_M E yX7_coordinate (.code yX7_coordinate cX7_coordinate 3 (some .int)) d [.ref 3, .int x1, .int x2] n h mc1 ms1 Po1 Px1) (hv : ∀ v n1 h1, Po1 v n1 h1 → ∃ r : Int32, v = some (.int r)) (hx : ∀ En n1 h1, Px1 En n1 h1 → En = q_io) :
    og_M E yL_coordinateOf (.codeWith yL_coordinateOf cL_coordinateOf 4 (some .int) [(0, 6, 7, 53)]) (d + 1) [.ref 3, .int x1, .int x2] n h mc1 ms1 (fun v n1 h1 => Po1 v n1 h1 ∨ (Px1 q_io n1 h1 ∧ v = some (.int (-2000001)))) no_x := by
  refine og_startH (lv := [some (.ref 3), some (.int x1), some (.int x2), none]) (by decide) rfl rfl (Nat.le_of_ble_eq_true rfl) fun X hr hnm htb => ?_
  refine og_aload_n (pc := 0) dL_coordinateOf_0 rfl ?_
  refine og_iload_n (pc := 1) dL_coordinateOf_1 rfl ?_
  refine og_iload_n (pc := 2) dL_coordinateOf_2 rfl ?_
  refine og_callVC (pc := 3) (As := [.int x1, .int x2]) (rest := []) hM Y_X7_coordinate I_X7_coordinate V_X7_coordinate h3 (by omega) rfl rfl K_L_168 dL_coordinateOf_3 rfl rfl (Nat.le_of_ble_eq_true rfl) (by omega) (by omega) (by omega) (fun En n1 h1 hp => ?_) (fun v n1 h1 hp => ?_)
  · obtain rfl := hx En n1 h1 hp
    refine ⟨[], ⟨0, 6, 7, 53⟩, [], 3, 1, htb, fun z hz => absurd hz List.not_mem_nil, rfl, by decide, by decide, CL_L_53, Or.inr ⟨3, dL_coordinateOf_7, rfl, rfl⟩, by omega, fun j v hj hv => ?_, ?_⟩
    · obtain rfl : j = 2 := by omega
      cases hv <;> (show (1 : Nat) ≠ 2; decide)
    · refine og_ldc (pc := 8) IC_L_55 dL_coordinateOf_8 ?_
      exact og_iret (pc := 10) hr dL_coordinateOf_10 (by omega) (by omega) (Or.inr (⟨hp, rfl⟩))
  · obtain ⟨r, rfl⟩ := hv v n1 h1 hp
    exact og_iret (pc := 6) hr dL_coordinateOf_6 (by omega) (by omega) (Or.inl hp)
set_option maxRecDepth 4000 in
theorem c_L_normOf (E : og_E) (d n : Nat) (h : og_H) (x1 : Int32) {mc1 ms1 : Nat} {Po1 : Option Value → Nat → og_H → Prop} {Px1 : String → Nat → og_H → Prop} {fs : List Value} (h3 : h 3 = some (.inr (5, fs)))
    (hM : og_M E yX7_norm (.code yX7_norm cX7_norm 2 (some .long)) d [.ref 3, .int x1] n h mc1 ms1 Po1 Px1) (hv : ∀ v n1 h1, Po1 v n1 h1 → ∃ r : Int64, v = some (.long r)) (hx : ∀ En n1 h1, Px1 En n1 h1 → En = q_io) :
    og_M E yL_normOf (.codeWith yL_normOf cL_normOf 3 (some .long) [(0, 5, 6, 53)]) (d + 1) [.ref 3, .int x1] n h mc1 ms1 (fun v n1 h1 => Po1 v n1 h1 ∨ (Px1 q_io n1 h1 ∧ v = some (.long (-2000001)))) no_x := by
  refine og_startH (lv := [some (.ref 3), some (.int x1), none]) (by decide) rfl rfl (Nat.le_of_ble_eq_true rfl) fun X hr hnm htb => ?_
  refine og_aload_n (pc := 0) dL_normOf_0 rfl ?_
  refine og_iload_n (pc := 1) dL_normOf_1 rfl ?_
  refine og_callVC (pc := 2) (As := [.int x1]) (rest := []) hM Y_X7_norm I_X7_norm V_X7_norm h3 (by omega) rfl rfl K_L_171 dL_normOf_2 rfl rfl (Nat.le_of_ble_eq_true rfl) (by omega) (by omega) (by omega) (fun En n1 h1 hp => ?_) (fun v n1 h1 hp => ?_)
  · obtain rfl := hx En n1 h1 hp
    refine ⟨[], ⟨0, 5, 6, 53⟩, [], 2, 1, htb, fun z hz => absurd hz List.not_mem_nil, rfl, by decide, by decide, CL_L_53, Or.inr ⟨2, dL_normOf_6, rfl, rfl⟩, by omega, fun j v hj hv => ?_, ?_⟩
    · obtain rfl : j = 1 := by omega
      cases hv <;> (show (1 : Nat) ≠ 2; decide)
    · refine og_ldc2 (pc := 7) LC_L_63 dL_normOf_7 ?_
      exact og_lret (pc := 10) hr dL_normOf_10 (by omega) (by omega) (Or.inr (⟨hp, rfl⟩))
  · obtain ⟨r, rfl⟩ := hv v n1 h1 hp
    exact og_lret (pc := 5) hr dL_normOf_5 (by omega) (by omega) (Or.inl hp)
set_option maxRecDepth 4000 in
theorem c_L_dotOf (E : og_E) (d n : Nat) (h : og_H) (x1 x2 : Int32) {mc1 ms1 : Nat} {Po1 : Option Value → Nat → og_H → Prop} {Px1 : String → Nat → og_H → Prop} {fs : List Value} (h3 : h 3 = some (.inr (5, fs)))
    (hM : og_M E yX7_dot (.code yX7_dot cX7_dot 3 (some .long)) d [.ref 3, .int x1, .int x2] n h mc1 ms1 Po1 Px1) (hv : ∀ v n1 h1, Po1 v n1 h1 → ∃ r : Int64, v = some (.long r)) (hx : ∀ En n1 h1, Px1 En n1 h1 → En = q_io) :
    og_M E yL_dotOf (.codeWith yL_dotOf cL_dotOf 4 (some .long) [(0, 6, 7, 53)]) (d + 1) [.ref 3, .int x1, .int x2] n h mc1 ms1 (fun v n1 h1 => Po1 v n1 h1 ∨ (Px1 q_io n1 h1 ∧ v = some (.long (-2000001)))) no_x := by
  refine og_startH (lv := [some (.ref 3), some (.int x1), some (.int x2), none]) (by decide) rfl rfl (Nat.le_of_ble_eq_true rfl) fun X hr hnm htb => ?_
  refine og_aload_n (pc := 0) dL_dotOf_0 rfl ?_
  refine og_iload_n (pc := 1) dL_dotOf_1 rfl ?_
  refine og_iload_n (pc := 2) dL_dotOf_2 rfl ?_
  refine og_callVC (pc := 3) (As := [.int x1, .int x2]) (rest := []) hM Y_X7_dot I_X7_dot V_X7_dot h3 (by omega) rfl rfl K_L_175 dL_dotOf_3 rfl rfl (Nat.le_of_ble_eq_true rfl) (by omega) (by omega) (by omega) (fun En n1 h1 hp => ?_) (fun v n1 h1 hp => ?_)
  · obtain rfl := hx En n1 h1 hp
    refine ⟨[], ⟨0, 6, 7, 53⟩, [], 3, 1, htb, fun z hz => absurd hz List.not_mem_nil, rfl, by decide, by decide, CL_L_53, Or.inr ⟨3, dL_dotOf_7, rfl, rfl⟩, by omega, fun j v hj hv => ?_, ?_⟩
    · obtain rfl : j = 2 := by omega
      cases hv <;> (show (1 : Nat) ≠ 2; decide)
    · refine og_ldc2 (pc := 8) LC_L_63 dL_dotOf_8 ?_
      exact og_lret (pc := 11) hr dL_dotOf_11 (by omega) (by omega) (Or.inr (⟨hp, rfl⟩))
  · obtain ⟨r, rfl⟩ := hv v n1 h1 hp
    exact og_lret (pc := 6) hr dL_dotOf_6 (by omega) (by omega) (Or.inl hp)
set_option maxRecDepth 4000 in
theorem c_L_ordersOf (E : og_E) (d n : Nat) (h : og_H) (x1 : Int32) {mc1 ms1 : Nat} {Po1 : Option Value → Nat → og_H → Prop} {Px1 : String → Nat → og_H → Prop} {fs : List Value} (h3 : h 3 = some (.inr (5, fs)))
    (hM : og_M E yX7_ordersOf (.code yX7_ordersOf cX7_ordersOf 5 (some .int)) d [.ref 3, .int x1] n h mc1 ms1 Po1 Px1) (hv : ∀ v n1 h1, Po1 v n1 h1 → ∃ r : Int32, v = some (.int r)) (hx : ∀ En n1 h1, Px1 En n1 h1 → En = q_io) :
    og_M E yL_ordersOf (.codeWith yL_ordersOf cL_ordersOf 3 (some .int) [(0, 5, 6, 53)]) (d + 1) [.ref 3, .int x1] n h mc1 ms1 (fun v n1 h1 => Po1 v n1 h1 ∨ (Px1 q_io n1 h1 ∧ v = some (.int (-2000001)))) no_x := by
  refine og_startH (lv := [some (.ref 3), some (.int x1), none]) (by decide) rfl rfl (Nat.le_of_ble_eq_true rfl) fun X hr hnm htb => ?_
  refine og_aload_n (pc := 0) dL_ordersOf_0 rfl ?_
  refine og_iload_n (pc := 1) dL_ordersOf_1 rfl ?_
  refine og_callVC (pc := 2) (As := [.int x1]) (rest := []) hM Y_X7_ordersOf I_X7_ordersOf V_X7_ordersOf h3 (by omega) rfl rfl K_L_179 dL_ordersOf_2 rfl rfl (Nat.le_of_ble_eq_true rfl) (by omega) (by omega) (by omega) (fun En n1 h1 hp => ?_) (fun v n1 h1 hp => ?_)
  · obtain rfl := hx En n1 h1 hp
    refine ⟨[], ⟨0, 5, 6, 53⟩, [], 2, 1, htb, fun z hz => absurd hz List.not_mem_nil, rfl, by decide, by decide, CL_L_53, Or.inr ⟨2, dL_ordersOf_6, rfl, rfl⟩, by omega, fun j v hj hv => ?_, ?_⟩
    · obtain rfl : j = 1 := by omega
      cases hv <;> (show (1 : Nat) ≠ 2; decide)
    · refine og_ldc (pc := 7) IC_L_55 dL_ordersOf_7 ?_
      exact og_iret (pc := 9) hr dL_ordersOf_9 (by omega) (by omega) (Or.inr (⟨hp, rfl⟩))
  · obtain ⟨r, rfl⟩ := hv v n1 h1 hp
    exact og_iret (pc := 5) hr dL_ordersOf_5 (by omega) (by omega) (Or.inl hp)
set_option maxRecDepth 4000 in
theorem c_L_leftOf (E : og_E) (d n : Nat) (h : og_H) (x1 x2 x3 : Int32) {mc1 ms1 : Nat} {Po1 : Option Value → Nat → og_H → Prop} {Px1 : String → Nat → og_H → Prop} {fs : List Value} (h3 : h 3 = some (.inr (5, fs)))
    (hM : og_M E yX7_left (.code yX7_left cX7_left 4 (some .int)) d [.ref 3, .int x1, .int x2, .int x3] n h mc1 ms1 Po1 Px1) (hv : ∀ v n1 h1, Po1 v n1 h1 → ∃ r : Int32, v = some (.int r)) (hx : ∀ En n1 h1, Px1 En n1 h1 → En = q_io) :
    og_M E yL_leftOf (.codeWith yL_leftOf cL_leftOf 5 (some .int) [(0, 7, 8, 53)]) (d + 1) [.ref 3, .int x1, .int x2, .int x3] n h mc1 ms1 (fun v n1 h1 => Po1 v n1 h1 ∨ (Px1 q_io n1 h1 ∧ v = some (.int (-2000001)))) no_x := by
  refine og_startH (lv := [some (.ref 3), some (.int x1), some (.int x2), some (.int x3), none]) (by decide) rfl rfl (Nat.le_of_ble_eq_true rfl) fun X hr hnm htb => ?_
  refine og_aload_n (pc := 0) dL_leftOf_0 rfl ?_
  refine og_iload_n (pc := 1) dL_leftOf_1 rfl ?_
  refine og_iload_n (pc := 2) dL_leftOf_2 rfl ?_
  refine og_iload_n (pc := 3) dL_leftOf_3 rfl ?_
  refine og_callVC (pc := 4) (As := [.int x1, .int x2, .int x3]) (rest := []) hM Y_X7_left I_X7_left V_X7_left h3 (by omega) rfl rfl K_L_182 dL_leftOf_4 rfl rfl (Nat.le_of_ble_eq_true rfl) (by omega) (by omega) (by omega) (fun En n1 h1 hp => ?_) (fun v n1 h1 hp => ?_)
  · obtain rfl := hx En n1 h1 hp
    refine ⟨[], ⟨0, 7, 8, 53⟩, [], 4, 2, htb, fun z hz => absurd hz List.not_mem_nil, rfl, by decide, by decide, CL_L_53, Or.inl ⟨dL_leftOf_8, rfl⟩, by omega, fun j v hj hv => ?_, ?_⟩
    · obtain rfl : j = 3 := by omega
      cases hv <;> (show (1 : Nat) ≠ 2; decide)
    · refine og_ldc (pc := 10) IC_L_55 dL_leftOf_10 ?_
      exact og_iret (pc := 12) hr dL_leftOf_12 (by omega) (by omega) (Or.inr (⟨hp, rfl⟩))
  · obtain ⟨r, rfl⟩ := hv v n1 h1 hp
    exact og_iret (pc := 7) hr dL_leftOf_7 (by omega) (by omega) (Or.inl hp)
set_option maxRecDepth 4000 in
theorem c_L_unitOf (E : og_E) (d n : Nat) (h : og_H) (x1 : Int32) {mc1 ms1 : Nat} {Po1 : Option Value → Nat → og_H → Prop} {Px1 : String → Nat → og_H → Prop} {fs : List Value} (h3 : h 3 = some (.inr (5, fs)))
    (hM : og_M E yX7_unitOf (.code yX7_unitOf cX7_unitOf 2 (some .int)) d [.ref 3, .int x1] n h mc1 ms1 Po1 Px1) (hv : ∀ v n1 h1, Po1 v n1 h1 → ∃ r : Int32, v = some (.int r)) (hx : ∀ En n1 h1, Px1 En n1 h1 → En = q_io) :
    og_M E yL_unitOf (.codeWith yL_unitOf cL_unitOf 3 (some .int) [(0, 5, 6, 53)]) (d + 1) [.ref 3, .int x1] n h mc1 ms1 (fun v n1 h1 => Po1 v n1 h1 ∨ (Px1 q_io n1 h1 ∧ v = some (.int (-2000001)))) no_x := by
  refine og_startH (lv := [some (.ref 3), some (.int x1), none]) (by decide) rfl rfl (Nat.le_of_ble_eq_true rfl) fun X hr hnm htb => ?_
  refine og_aload_n (pc := 0) dL_unitOf_0 rfl ?_
  refine og_iload_n (pc := 1) dL_unitOf_1 rfl ?_
  refine og_callVC (pc := 2) (As := [.int x1]) (rest := []) hM Y_X7_unitOf I_X7_unitOf V_X7_unitOf h3 (by omega) rfl rfl K_L_185 dL_unitOf_2 rfl rfl (Nat.le_of_ble_eq_true rfl) (by omega) (by omega) (by omega) (fun En n1 h1 hp => ?_) (fun v n1 h1 hp => ?_)
  · obtain rfl := hx En n1 h1 hp
    refine ⟨[], ⟨0, 5, 6, 53⟩, [], 2, 1, htb, fun z hz => absurd hz List.not_mem_nil, rfl, by decide, by decide, CL_L_53, Or.inr ⟨2, dL_unitOf_6, rfl, rfl⟩, by omega, fun j v hj hv => ?_, ?_⟩
    · obtain rfl : j = 1 := by omega
      cases hv <;> (show (1 : Nat) ≠ 2; decide)
    · refine og_ldc (pc := 7) IC_L_55 dL_unitOf_7 ?_
      exact og_iret (pc := 9) hr dL_unitOf_9 (by omega) (by omega) (Or.inr (⟨hp, rfl⟩))
  · obtain ⟨r, rfl⟩ := hv v n1 h1 hp
    exact og_iret (pc := 5) hr dL_unitOf_5 (by omega) (by omega) (Or.inl hp)
set_option maxRecDepth 4000 in
theorem c_L_valueOf (E : og_E) (d n : Nat) (h : og_H) (x1 : Int32) {mc1 ms1 : Nat} {Po1 : Option Value → Nat → og_H → Prop} {Px1 : String → Nat → og_H → Prop} {fs : List Value} (h3 : h 3 = some (.inr (5, fs)))
    (hM : og_M E yX7_value (.code yX7_value cX7_value 2 (some .int)) d [.ref 3, .int x1] n h mc1 ms1 Po1 Px1) (hv : ∀ v n1 h1, Po1 v n1 h1 → ∃ r : Int32, v = some (.int r)) (hx : ∀ En n1 h1, Px1 En n1 h1 → En = q_ia) :
    og_M E yL_valueOf (.codeWith yL_valueOf cL_valueOf 3 (some .int) [(0, 5, 6, 56)]) (d + 1) [.ref 3, .int x1] n h mc1 ms1 (fun v n1 h1 => Po1 v n1 h1 ∨ (Px1 q_ia n1 h1 ∧ v = some (.int (-2000002)))) no_x := by
  refine og_startH (lv := [some (.ref 3), some (.int x1), none]) (by decide) rfl rfl (Nat.le_of_ble_eq_true rfl) fun X hr hnm htb => ?_
  refine og_aload_n (pc := 0) dL_valueOf_0 rfl ?_
  refine og_iload_n (pc := 1) dL_valueOf_1 rfl ?_
  refine og_callVC (pc := 2) (As := [.int x1]) (rest := []) hM Y_X7_value I_X7_value V_X7_value h3 (by omega) rfl rfl K_L_188 dL_valueOf_2 rfl rfl (Nat.le_of_ble_eq_true rfl) (by omega) (by omega) (by omega) (fun En n1 h1 hp => ?_) (fun v n1 h1 hp => ?_)
  · obtain rfl := hx En n1 h1 hp
    refine ⟨[], ⟨0, 5, 6, 56⟩, [], 2, 1, htb, fun z hz => absurd hz List.not_mem_nil, rfl, by decide, by decide, CL_L_56, Or.inr ⟨2, dL_valueOf_6, rfl, rfl⟩, by omega, fun j v hj hv => ?_, ?_⟩
    · obtain rfl : j = 1 := by omega
      cases hv <;> (show (1 : Nat) ≠ 2; decide)
    · refine og_ldc (pc := 7) IC_L_58 dL_valueOf_7 ?_
      exact og_iret (pc := 9) hr dL_valueOf_9 (by omega) (by omega) (Or.inr (⟨hp, rfl⟩))
  · obtain ⟨r, rfl⟩ := hv v n1 h1 hp
    exact og_iret (pc := 5) hr dL_valueOf_5 (by omega) (by omega) (Or.inl hp)
