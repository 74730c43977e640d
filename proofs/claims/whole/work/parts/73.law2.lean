/-! ===== the law: its helpers ===== -/
abbrev row1 (f : Nat → Int64) : og_N := .inl (2, 1, .inr (.inl f))
set_option maxRecDepth 4000 in
theorem c_L_set (E : og_E) (d n : Nat) (h : og_H) (x1 x2 x3 : Int32) {mc1 ms1 : Nat} {Po1 : Option Value → Nat → og_H → Prop} {Px1 : String → Nat → og_H → Prop} {fs : List Value} (h3 : h 3 = some (.inr (5, fs)))
    (hM : og_M E yX7_set (.code yX7_set cX7_set 6 (some .int)) d [.ref 3, .int x1, .int x2, .int x3] n h mc1 ms1 Po1 Px1) (hv : ∀ v n1 h1, Po1 v n1 h1 → (∃ r : Int32, v = some (.int r)) ∧ ∃ f, h1 123 = some (row1 f)) (hx : ∀ En n1 h1, Px1 En n1 h1 → En = q_io ∨ En = q_ia) :
    og_M E yL_set (.codeWith yL_set cL_set 6 (some .int) [(0, 12, 15, 13), (0, 12, 19, 15)]) (d + 1) [.ref 3, .int x1, .int x2, .int x3, .ref 123] n h mc1 ms1 (fun v n1 h1 => (∃ (r : Int32) (h2 : og_H) (f : Nat → Int64), Po1 (some (.int r)) n1 h2 ∧ h2 123 = some (row1 f) ∧ h1 = og_set h2 123 (row1 (vp_updL f 0 r.toInt64)) ∧ v = some (.int 0)) ∨ (Px1 q_io n1 h1 ∧ v = some (.int 1)) ∨ (Px1 q_ia n1 h1 ∧ v = some (.int 2))) no_x := by
  refine og_startH (lv := [some (.ref 3), some (.int x1), some (.int x2), some (.int x3), some (.ref 123), none]) (by decide) rfl rfl (Nat.le_of_ble_eq_true rfl) fun X hr hnm htb => ?_
  refine og_aload (pc := 0) dL_set_0 rfl ?_
  refine og_iconst (pc := 2) (v := 0) dL_set_2 (by decide) ?_
  refine og_aload_n (pc := 3) dL_set_3 rfl ?_
  refine og_iload_n (pc := 4) dL_set_4 rfl ?_
  refine og_iload_n (pc := 5) dL_set_5 rfl ?_
  refine og_iload_n (pc := 6) dL_set_6 rfl ?_
  refine og_callVC (pc := 7) (As := [.int x1, .int x2, .int x3]) (rest := [.int 0, .ref 123]) hM Y_X7_set I_X7_set V_X7_set h3 (by omega) rfl rfl K_L_7 dL_set_7 rfl rfl (Nat.le_of_ble_eq_true rfl) (by omega) (by omega) (by omega) (fun En n1 h1 hp => ?_) (fun v n1 h1 hp => ?_)
  · rcases hx En n1 h1 hp with rfl | rfl
    · refine ⟨[], ⟨0, 12, 15, 13⟩, [⟨0, 12, 19, 15⟩], 5, 2, htb, fun z hz => absurd hz List.not_mem_nil, rfl, by decide, by decide, CL_L_13, Or.inl ⟨dL_set_15, rfl⟩, by omega, fun j v hj hv => ?_, ?_⟩
      · obtain rfl : j = 4 := by omega
        cases hv <;> decide
      · refine og_iconst (pc := 17) (v := 1) dL_set_17 (by decide) ?_
        exact og_iret (pc := 18) hr dL_set_18 (by omega) (by omega) (Or.inr (Or.inl ⟨hp, rfl⟩))
    · refine ⟨[⟨0, 12, 15, 13⟩], ⟨0, 12, 19, 15⟩, [], 5, 2, htb, fun z hz => Or.inr ?_, rfl, by decide, by decide, CL_L_15, Or.inl ⟨dL_set_19, rfl⟩, by omega, fun j v hj hv => ?_, ?_⟩
      · simp only [List.mem_cons, List.not_mem_nil, or_false] at hz
        subst hz
        exact ⟨by decide, "java/lang/IndexOutOfBoundsException", CL_L_13, by decide, by decide⟩
      · obtain rfl : j = 4 := by omega
        cases hv <;> decide
      · refine og_iconst (pc := 21) (v := 2) dL_set_21 (by decide) ?_
        exact og_iret (pc := 22) hr dL_set_22 (by omega) (by omega) (Or.inr (Or.inr (⟨hp, rfl⟩)))
  · obtain ⟨⟨r, rfl⟩, f, hf⟩ := hv v n1 h1 hp
    refine og_i2l (pc := 10) dL_set_10 rfl ?_
    refine og_lastN (pc := 11) (j := 0) rfl dL_set_11 hf (by omega) (by omega) (by first | decide | assumption | omega) ?_
    refine og_goto (pc := 12) (tgt := 23) dL_set_12 (by decide) ?_
    refine og_iconst (pc := 23) (v := 0) dL_set_23 (by decide) ?_
    exact og_iret (pc := 24) hr dL_set_24 (by omega) (by omega) (Or.inl ⟨r, h1, f, hp, hf, rfl, rfl⟩)
set_option maxRecDepth 4000 in
theorem c_L_setFour (E : og_E) (d n : Nat) (h : og_H) (x1 x2 x3 x4 x5 x6 : Int32) {mc1 ms1 : Nat} {Po1 : Option Value → Nat → og_H → Prop} {Px1 : String → Nat → og_H → Prop} {fs : List Value} (h3 : h 3 = some (.inr (5, fs)))
    (hM : og_M E yX7_setFour (.code yX7_setFour cX7_setFour 9 (some .long)) d [.ref 3, .int x1, .int x2, .int x3, .int x4, .int x5, .int x6] n h mc1 ms1 Po1 Px1) (hv : ∀ v n1 h1, Po1 v n1 h1 → (∃ r : Int64, v = some (.long r)) ∧ ∃ f, h1 123 = some (row1 f)) (hx : ∀ En n1 h1, Px1 En n1 h1 → En = q_io ∨ En = q_ia) :
    og_M E yL_setFour (.codeWith yL_setFour cL_setFour 9 (some .int) [(0, 17, 20, 13), (0, 17, 24, 15)]) (d + 1) [.ref 3, .int x1, .int x2, .int x3, .int x4, .int x5, .int x6, .ref 123] n h mc1 ms1 (fun v n1 h1 => (∃ (r : Int64) (h2 : og_H) (f : Nat → Int64), Po1 (some (.long r)) n1 h2 ∧ h2 123 = some (row1 f) ∧ h1 = og_set h2 123 (row1 (vp_updL f 0 r)) ∧ v = some (.int 0)) ∨ (Px1 q_io n1 h1 ∧ v = some (.int 1)) ∨ (Px1 q_ia n1 h1 ∧ v = some (.int 2))) no_x := by
  refine og_startH (lv := [some (.ref 3), some (.int x1), some (.int x2), some (.int x3), some (.int x4), some (.int x5), some (.int x6), some (.ref 123), none]) (by decide) rfl rfl (Nat.le_of_ble_eq_true rfl) fun X hr hnm htb => ?_
  refine og_aload (pc := 0) dL_setFour_0 rfl ?_
  refine og_iconst (pc := 2) (v := 0) dL_setFour_2 (by decide) ?_
  refine og_aload_n (pc := 3) dL_setFour_3 rfl ?_
  refine og_iload_n (pc := 4) dL_setFour_4 rfl ?_
  refine og_iload_n (pc := 5) dL_setFour_5 rfl ?_
  refine og_iload_n (pc := 6) dL_setFour_6 rfl ?_
  refine og_iload (pc := 7) dL_setFour_7 rfl ?_
  refine og_iload (pc := 9) dL_setFour_9 rfl ?_
  refine og_iload (pc := 11) dL_setFour_11 rfl ?_
  refine og_callVC (pc := 13) (As := [.int x1, .int x2, .int x3, .int x4, .int x5, .int x6]) (rest := [.int 0, .ref 123]) hM Y_X7_setFour I_X7_setFour V_X7_setFour h3 (by omega) rfl rfl K_L_17 dL_setFour_13 rfl rfl (Nat.le_of_ble_eq_true rfl) (by omega) (by omega) (by omega) (fun En n1 h1 hp => ?_) (fun v n1 h1 hp => ?_)
  · rcases hx En n1 h1 hp with rfl | rfl
    · refine ⟨[], ⟨0, 17, 20, 13⟩, [⟨0, 17, 24, 15⟩], 8, 2, htb, fun z hz => absurd hz List.not_mem_nil, rfl, by decide, by decide, CL_L_13, Or.inl ⟨dL_setFour_20, rfl⟩, by omega, fun j v hj hv => ?_, ?_⟩
      · obtain rfl : j = 7 := by omega
        cases hv <;> decide
      · refine og_iconst (pc := 22) (v := 1) dL_setFour_22 (by decide) ?_
        exact og_iret (pc := 23) hr dL_setFour_23 (by omega) (by omega) (Or.inr (Or.inl ⟨hp, rfl⟩))
    · refine ⟨[⟨0, 17, 20, 13⟩], ⟨0, 17, 24, 15⟩, [], 8, 2, htb, fun z hz => Or.inr ?_, rfl, by decide, by decide, CL_L_15, Or.inl ⟨dL_setFour_24, rfl⟩, by omega, fun j v hj hv => ?_, ?_⟩
      · simp only [List.mem_cons, List.not_mem_nil, or_false] at hz
        subst hz
        exact ⟨by decide, "java/lang/IndexOutOfBoundsException", CL_L_13, by decide, by decide⟩
      · obtain rfl : j = 7 := by omega
        cases hv <;> decide
      · refine og_iconst (pc := 26) (v := 2) dL_setFour_26 (by decide) ?_
        exact og_iret (pc := 27) hr dL_setFour_27 (by omega) (by omega) (Or.inr (Or.inr (⟨hp, rfl⟩)))
  · obtain ⟨⟨r, rfl⟩, f, hf⟩ := hv v n1 h1 hp
    refine og_lastN (pc := 16) (j := 0) rfl dL_setFour_16 hf (by omega) (by omega) (by first | decide | assumption | omega) ?_
    refine og_goto (pc := 17) (tgt := 28) dL_setFour_17 (by decide) ?_
    refine og_iconst (pc := 28) (v := 0) dL_setFour_28 (by decide) ?_
    exact og_iret (pc := 29) hr dL_setFour_29 (by omega) (by omega) (Or.inl ⟨r, h1, f, hp, hf, rfl, rfl⟩)
set_option maxRecDepth 4000 in
theorem c_L_setOrder (E : og_E) (d n : Nat) (h : og_H) (x1 : Int32) {mc1 ms1 : Nat} {Po1 : Option Value → Nat → og_H → Prop} {Px1 : String → Nat → og_H → Prop} {fs : List Value} (h3 : h 3 = some (.inr (5, fs)))
    (hM : og_M E yX7_setOrder (.code yX7_setOrder cX7_setOrder 3 (some .int)) d [.ref 3, .int x1] n h mc1 ms1 Po1 Px1) (hv : ∀ v n1 h1, Po1 v n1 h1 → (∃ r : Int32, v = some (.int r)) ∧ ∃ f, h1 123 = some (row1 f)) (hx : ∀ En n1 h1, Px1 En n1 h1 → En = q_ia) :
    og_M E yL_setOrder (.codeWith yL_setOrder cL_setOrder 4 (some .int) [(0, 9, 12, 15)]) (d + 1) [.ref 3, .int x1, .ref 123] n h mc1 ms1 (fun v n1 h1 => (∃ (r : Int32) (h2 : og_H) (f : Nat → Int64), Po1 (some (.int r)) n1 h2 ∧ h2 123 = some (row1 f) ∧ h1 = og_set h2 123 (row1 (vp_updL f 0 r.toInt64)) ∧ v = some (.int 0)) ∨ (Px1 q_ia n1 h1 ∧ v = some (.int 1))) no_x := by
  refine og_startH (lv := [some (.ref 3), some (.int x1), some (.ref 123), none]) (by decide) rfl rfl (Nat.le_of_ble_eq_true rfl) fun X hr hnm htb => ?_
  refine og_aload_n (pc := 0) dL_setOrder_0 rfl ?_
  refine og_iconst (pc := 1) (v := 0) dL_setOrder_1 (by decide) ?_
  refine og_aload_n (pc := 2) dL_setOrder_2 rfl ?_
  refine og_iload_n (pc := 3) dL_setOrder_3 rfl ?_
  refine og_callVC (pc := 4) (As := [.int x1]) (rest := [.int 0, .ref 123]) hM Y_X7_setOrder I_X7_setOrder V_X7_setOrder h3 (by omega) rfl rfl K_L_21 dL_setOrder_4 rfl rfl (Nat.le_of_ble_eq_true rfl) (by omega) (by omega) (by omega) (fun En n1 h1 hp => ?_) (fun v n1 h1 hp => ?_)
  · obtain rfl := hx En n1 h1 hp
    refine ⟨[], ⟨0, 9, 12, 15⟩, [], 3, 1, htb, fun z hz => absurd hz List.not_mem_nil, rfl, by decide, by decide, CL_L_15, Or.inr ⟨3, dL_setOrder_12, rfl, rfl⟩, by omega, fun j v hj hv => ?_, ?_⟩
    · obtain rfl : j = 2 := by omega
      cases hv <;> decide
    · refine og_iconst (pc := 13) (v := 1) dL_setOrder_13 (by decide) ?_
      exact og_iret (pc := 14) hr dL_setOrder_14 (by omega) (by omega) (Or.inr (⟨hp, rfl⟩))
  · obtain ⟨⟨r, rfl⟩, f, hf⟩ := hv v n1 h1 hp
    refine og_i2l (pc := 7) dL_setOrder_7 rfl ?_
    refine og_lastN (pc := 8) (j := 0) rfl dL_setOrder_8 hf (by omega) (by omega) (by first | decide | assumption | omega) ?_
    refine og_goto (pc := 9) (tgt := 15) dL_setOrder_9 (by decide) ?_
    refine og_iconst (pc := 15) (v := 0) dL_setOrder_15 (by decide) ?_
    exact og_iret (pc := 16) hr dL_setOrder_16 (by omega) (by omega) (Or.inl ⟨r, h1, f, hp, hf, rfl, rfl⟩)
set_option maxRecDepth 4000 in
theorem c_L_load (E : og_E) (d n : Nat) (h : og_H) (x1 x2 : Int32) {mc1 ms1 : Nat} {Po1 : Option Value → Nat → og_H → Prop} {Px1 : String → Nat → og_H → Prop} {fs : List Value} (h3 : h 3 = some (.inr (5, fs)))
    (hM : og_M E yX7_load (.code yX7_load cX7_load 3 (some .int)) d [.ref 3, .int x1, .int x2] n h mc1 ms1 Po1 Px1) (hv : ∀ v n1 h1, Po1 v n1 h1 → (∃ r : Int32, v = some (.int r)) ∧ ∃ f, h1 123 = some (row1 f)) (hx : ∀ En n1 h1, Px1 En n1 h1 → En = q_io) :
    og_M E yL_load (.codeWith yL_load cL_load 5 (some .int) [(0, 10, 13, 13)]) (d + 1) [.ref 3, .int x1, .int x2, .ref 123] n h mc1 ms1 (fun v n1 h1 => (∃ (r : Int32) (h2 : og_H) (f : Nat → Int64), Po1 (some (.int r)) n1 h2 ∧ h2 123 = some (row1 f) ∧ h1 = og_set h2 123 (row1 (vp_updL f 0 r.toInt64)) ∧ v = some (.int 0)) ∨ (Px1 q_io n1 h1 ∧ v = some (.int 1))) no_x := by
  refine og_startH (lv := [some (.ref 3), some (.int x1), some (.int x2), some (.ref 123), none]) (by decide) rfl rfl (Nat.le_of_ble_eq_true rfl) fun X hr hnm htb => ?_
  refine og_aload_n (pc := 0) dL_load_0 rfl ?_
  refine og_iconst (pc := 1) (v := 0) dL_load_1 (by decide) ?_
  refine og_aload_n (pc := 2) dL_load_2 rfl ?_
  refine og_iload_n (pc := 3) dL_load_3 rfl ?_
  refine og_iload_n (pc := 4) dL_load_4 rfl ?_
  refine og_callVC (pc := 5) (As := [.int x1, .int x2]) (rest := [.int 0, .ref 123]) hM Y_X7_load I_X7_load V_X7_load h3 (by omega) rfl rfl K_L_25 dL_load_5 rfl rfl (Nat.le_of_ble_eq_true rfl) (by omega) (by omega) (by omega) (fun En n1 h1 hp => ?_) (fun v n1 h1 hp => ?_)
  · obtain rfl := hx En n1 h1 hp
    refine ⟨[], ⟨0, 10, 13, 13⟩, [], 4, 2, htb, fun z hz => absurd hz List.not_mem_nil, rfl, by decide, by decide, CL_L_13, Or.inl ⟨dL_load_13, rfl⟩, by omega, fun j v hj hv => ?_, ?_⟩
    · obtain rfl : j = 3 := by omega
      cases hv <;> decide
    · refine og_iconst (pc := 15) (v := 1) dL_load_15 (by decide) ?_
      exact og_iret (pc := 16) hr dL_load_16 (by omega) (by omega) (Or.inr (⟨hp, rfl⟩))
  · obtain ⟨⟨r, rfl⟩, f, hf⟩ := hv v n1 h1 hp
    refine og_i2l (pc := 8) dL_load_8 rfl ?_
    refine og_lastN (pc := 9) (j := 0) rfl dL_load_9 hf (by omega) (by omega) (by first | decide | assumption | omega) ?_
    refine og_goto (pc := 10) (tgt := 17) dL_load_10 (by decide) ?_
    refine og_iconst (pc := 17) (v := 0) dL_load_17 (by decide) ?_
    exact og_iret (pc := 18) hr dL_load_18 (by omega) (by omega) (Or.inl ⟨r, h1, f, hp, hf, rfl, rfl⟩)
set_option maxRecDepth 4000 in
theorem c_L_add (E : og_E) (d n : Nat) (h : og_H) (x1 x2 x3 x4 : Int32) {mc1 ms1 : Nat} {Po1 : Option Value → Nat → og_H → Prop} {Px1 : String → Nat → og_H → Prop} {fs : List Value} (h3 : h 3 = some (.inr (5, fs)))
    (hM : og_M E yX7_add (.code yX7_add cX7_add 5 (some .long)) d [.ref 3, .int x1, .int x2, .int x3, .int x4] n h mc1 ms1 Po1 Px1) (hv : ∀ v n1 h1, Po1 v n1 h1 → (∃ r : Int64, v = some (.long r)) ∧ ∃ f, h1 123 = some (row1 f)) (hx : ∀ En n1 h1, Px1 En n1 h1 → En = q_io ∨ En = q_ae) :
    og_M E yL_add (.codeWith yL_add cL_add 7 (some .int) [(0, 13, 16, 13), (0, 13, 20, 33)]) (d + 1) [.ref 3, .int x1, .int x2, .int x3, .int x4, .ref 123] n h mc1 ms1 (fun v n1 h1 => (∃ (r : Int64) (h2 : og_H) (f : Nat → Int64), Po1 (some (.long r)) n1 h2 ∧ h2 123 = some (row1 f) ∧ h1 = og_set h2 123 (row1 (vp_updL f 0 r)) ∧ v = some (.int 0)) ∨ (Px1 q_io n1 h1 ∧ v = some (.int 1)) ∨ (Px1 q_ae n1 h1 ∧ v = some (.int 2))) no_x := by
  refine og_startH (lv := [some (.ref 3), some (.int x1), some (.int x2), some (.int x3), some (.int x4), some (.ref 123), none]) (by decide) rfl rfl (Nat.le_of_ble_eq_true rfl) fun X hr hnm htb => ?_
  refine og_aload (pc := 0) dL_add_0 rfl ?_
  refine og_iconst (pc := 2) (v := 0) dL_add_2 (by decide) ?_
  refine og_aload_n (pc := 3) dL_add_3 rfl ?_
  refine og_iload_n (pc := 4) dL_add_4 rfl ?_
  refine og_iload_n (pc := 5) dL_add_5 rfl ?_
  refine og_iload_n (pc := 6) dL_add_6 rfl ?_
  refine og_iload (pc := 7) dL_add_7 rfl ?_
  refine og_callVC (pc := 9) (As := [.int x1, .int x2, .int x3, .int x4]) (rest := [.int 0, .ref 123]) hM Y_X7_add I_X7_add V_X7_add h3 (by omega) rfl rfl K_L_29 dL_add_9 rfl rfl (Nat.le_of_ble_eq_true rfl) (by omega) (by omega) (by omega) (fun En n1 h1 hp => ?_) (fun v n1 h1 hp => ?_)
  · rcases hx En n1 h1 hp with rfl | rfl
    · refine ⟨[], ⟨0, 13, 16, 13⟩, [⟨0, 13, 20, 33⟩], 6, 2, htb, fun z hz => absurd hz List.not_mem_nil, rfl, by decide, by decide, CL_L_13, Or.inl ⟨dL_add_16, rfl⟩, by omega, fun j v hj hv => ?_, ?_⟩
      · obtain rfl : j = 5 := by omega
        cases hv <;> decide
      · refine og_iconst (pc := 18) (v := 1) dL_add_18 (by decide) ?_
        exact og_iret (pc := 19) hr dL_add_19 (by omega) (by omega) (Or.inr (Or.inl ⟨hp, rfl⟩))
    · refine ⟨[⟨0, 13, 16, 13⟩], ⟨0, 13, 20, 33⟩, [], 6, 2, htb, fun z hz => Or.inr ?_, rfl, by decide, by decide, CL_L_33, Or.inl ⟨dL_add_20, rfl⟩, by omega, fun j v hj hv => ?_, ?_⟩
      · simp only [List.mem_cons, List.not_mem_nil, or_false] at hz
        subst hz
        exact ⟨by decide, "java/lang/IndexOutOfBoundsException", CL_L_13, by decide, by decide⟩
      · obtain rfl : j = 5 := by omega
        cases hv <;> decide
      · refine og_iconst (pc := 22) (v := 2) dL_add_22 (by decide) ?_
        exact og_iret (pc := 23) hr dL_add_23 (by omega) (by omega) (Or.inr (Or.inr (⟨hp, rfl⟩)))
  · obtain ⟨⟨r, rfl⟩, f, hf⟩ := hv v n1 h1 hp
    refine og_lastN (pc := 12) (j := 0) rfl dL_add_12 hf (by omega) (by omega) (by first | decide | assumption | omega) ?_
    refine og_goto (pc := 13) (tgt := 24) dL_add_13 (by decide) ?_
    refine og_iconst (pc := 24) (v := 0) dL_add_24 (by decide) ?_
    exact og_iret (pc := 25) hr dL_add_25 (by omega) (by omega) (Or.inl ⟨r, h1, f, hp, hf, rfl, rfl⟩)
set_option maxRecDepth 4000 in
theorem c_L_multiply (E : og_E) (d n : Nat) (h : og_H) (x1 x2 x3 : Int32) {mc1 ms1 : Nat} {Po1 : Option Value → Nat → og_H → Prop} {Px1 : String → Nat → og_H → Prop} {fs : List Value} (h3 : h 3 = some (.inr (5, fs)))
    (hM : og_M E yX7_multiply (.code yX7_multiply cX7_multiply 4 (some .long)) d [.ref 3, .int x1, .int x2, .int x3] n h mc1 ms1 Po1 Px1) (hv : ∀ v n1 h1, Po1 v n1 h1 → (∃ r : Int64, v = some (.long r)) ∧ ∃ f, h1 123 = some (row1 f)) (hx : ∀ En n1 h1, Px1 En n1 h1 → En = q_io ∨ En = q_ae) :
    og_M E yL_multiply (.codeWith yL_multiply cL_multiply 6 (some .int) [(0, 11, 14, 13), (0, 11, 18, 33)]) (d + 1) [.ref 3, .int x1, .int x2, .int x3, .ref 123] n h mc1 ms1 (fun v n1 h1 => (∃ (r : Int64) (h2 : og_H) (f : Nat → Int64), Po1 (some (.long r)) n1 h2 ∧ h2 123 = some (row1 f) ∧ h1 = og_set h2 123 (row1 (vp_updL f 0 r)) ∧ v = some (.int 0)) ∨ (Px1 q_io n1 h1 ∧ v = some (.int 1)) ∨ (Px1 q_ae n1 h1 ∧ v = some (.int 2))) no_x := by
  refine og_startH (lv := [some (.ref 3), some (.int x1), some (.int x2), some (.int x3), some (.ref 123), none]) (by decide) rfl rfl (Nat.le_of_ble_eq_true rfl) fun X hr hnm htb => ?_
  refine og_aload (pc := 0) dL_multiply_0 rfl ?_
  refine og_iconst (pc := 2) (v := 0) dL_multiply_2 (by decide) ?_
  refine og_aload_n (pc := 3) dL_multiply_3 rfl ?_
  refine og_iload_n (pc := 4) dL_multiply_4 rfl ?_
  refine og_iload_n (pc := 5) dL_multiply_5 rfl ?_
  refine og_iload_n (pc := 6) dL_multiply_6 rfl ?_
  refine og_callVC (pc := 7) (As := [.int x1, .int x2, .int x3]) (rest := [.int 0, .ref 123]) hM Y_X7_multiply I_X7_multiply V_X7_multiply h3 (by omega) rfl rfl K_L_35 dL_multiply_7 rfl rfl (Nat.le_of_ble_eq_true rfl) (by omega) (by omega) (by omega) (fun En n1 h1 hp => ?_) (fun v n1 h1 hp => ?_)
  · rcases hx En n1 h1 hp with rfl | rfl
    · refine ⟨[], ⟨0, 11, 14, 13⟩, [⟨0, 11, 18, 33⟩], 5, 2, htb, fun z hz => absurd hz List.not_mem_nil, rfl, by decide, by decide, CL_L_13, Or.inl ⟨dL_multiply_14, rfl⟩, by omega, fun j v hj hv => ?_, ?_⟩
      · obtain rfl : j = 4 := by omega
        cases hv <;> decide
      · refine og_iconst (pc := 16) (v := 1) dL_multiply_16 (by decide) ?_
        exact og_iret (pc := 17) hr dL_multiply_17 (by omega) (by omega) (Or.inr (Or.inl ⟨hp, rfl⟩))
    · refine ⟨[⟨0, 11, 14, 13⟩], ⟨0, 11, 18, 33⟩, [], 5, 2, htb, fun z hz => Or.inr ?_, rfl, by decide, by decide, CL_L_33, Or.inl ⟨dL_multiply_18, rfl⟩, by omega, fun j v hj hv => ?_, ?_⟩
      · simp only [List.mem_cons, List.not_mem_nil, or_false] at hz
        subst hz
        exact ⟨by decide, "java/lang/IndexOutOfBoundsException", CL_L_13, by decide, by decide⟩
      · obtain rfl : j = 4 := by omega
        cases hv <;> decide
      · refine og_iconst (pc := 20) (v := 2) dL_multiply_20 (by decide) ?_
        exact og_iret (pc := 21) hr dL_multiply_21 (by omega) (by omega) (Or.inr (Or.inr (⟨hp, rfl⟩)))
  · obtain ⟨⟨r, rfl⟩, f, hf⟩ := hv v n1 h1 hp
    refine og_lastN (pc := 10) (j := 0) rfl dL_multiply_10 hf (by omega) (by omega) (by first | decide | assumption | omega) ?_
    refine og_goto (pc := 11) (tgt := 22) dL_multiply_11 (by decide) ?_
    refine og_iconst (pc := 22) (v := 0) dL_multiply_22 (by decide) ?_
    exact og_iret (pc := 23) hr dL_multiply_23 (by omega) (by omega) (Or.inl ⟨r, h1, f, hp, hf, rfl, rfl⟩)
set_option maxRecDepth 4000 in
theorem c_L_conjugate (E : og_E) (d n : Nat) (h : og_H) (x1 : Int32) {mc1 ms1 : Nat} {Po1 : Option Value → Nat → og_H → Prop} {Px1 : String → Nat → og_H → Prop} {fs : List Value} (h3 : h 3 = some (.inr (5, fs)))
    (hM : og_M E yX7_conjugate (.code yX7_conjugate cX7_conjugate 2 (some .int)) d [.ref 3, .int x1] n h mc1 ms1 Po1 Px1) (hv : ∀ v n1 h1, Po1 v n1 h1 → (∃ r : Int32, v = some (.int r)) ∧ ∃ f, h1 123 = some (row1 f)) (hx : ∀ En n1 h1, Px1 En n1 h1 → En = q_io) :
    og_M E yL_conjugate (.codeWith yL_conjugate cL_conjugate 4 (some .int) [(0, 9, 12, 13)]) (d + 1) [.ref 3, .int x1, .ref 123] n h mc1 ms1 (fun v n1 h1 => (∃ (r : Int32) (h2 : og_H) (f : Nat → Int64), Po1 (some (.int r)) n1 h2 ∧ h2 123 = some (row1 f) ∧ h1 = og_set h2 123 (row1 (vp_updL f 0 r.toInt64)) ∧ v = some (.int 0)) ∨ (Px1 q_io n1 h1 ∧ v = some (.int 1))) no_x := by
  refine og_startH (lv := [some (.ref 3), some (.int x1), some (.ref 123), none]) (by decide) rfl rfl (Nat.le_of_ble_eq_true rfl) fun X hr hnm htb => ?_
  refine og_aload_n (pc := 0) dL_conjugate_0 rfl ?_
  refine og_iconst (pc := 1) (v := 0) dL_conjugate_1 (by decide) ?_
  refine og_aload_n (pc := 2) dL_conjugate_2 rfl ?_
  refine og_iload_n (pc := 3) dL_conjugate_3 rfl ?_
  refine og_callVC (pc := 4) (As := [.int x1]) (rest := [.int 0, .ref 123]) hM Y_X7_conjugate I_X7_conjugate V_X7_conjugate h3 (by omega) rfl rfl K_L_39 dL_conjugate_4 rfl rfl (Nat.le_of_ble_eq_true rfl) (by omega) (by omega) (by omega) (fun En n1 h1 hp => ?_) (fun v n1 h1 hp => ?_)
  · obtain rfl := hx En n1 h1 hp
    refine ⟨[], ⟨0, 9, 12, 13⟩, [], 3, 1, htb, fun z hz => absurd hz List.not_mem_nil, rfl, by decide, by decide, CL_L_13, Or.inr ⟨3, dL_conjugate_12, rfl, rfl⟩, by omega, fun j v hj hv => ?_, ?_⟩
    · obtain rfl : j = 2 := by omega
      cases hv <;> decide
    · refine og_iconst (pc := 13) (v := 1) dL_conjugate_13 (by decide) ?_
      exact og_iret (pc := 14) hr dL_conjugate_14 (by omega) (by omega) (Or.inr (⟨hp, rfl⟩))
  · obtain ⟨⟨r, rfl⟩, f, hf⟩ := hv v n1 h1 hp
    refine og_i2l (pc := 7) dL_conjugate_7 rfl ?_
    refine og_lastN (pc := 8) (j := 0) rfl dL_conjugate_8 hf (by omega) (by omega) (by first | decide | assumption | omega) ?_
    refine og_goto (pc := 9) (tgt := 15) dL_conjugate_9 (by decide) ?_
    refine og_iconst (pc := 15) (v := 0) dL_conjugate_15 (by decide) ?_
    exact og_iret (pc := 16) hr dL_conjugate_16 (by omega) (by omega) (Or.inl ⟨r, h1, f, hp, hf, rfl, rfl⟩)
set_option maxRecDepth 4000 in
theorem c_L_commutator (E : og_E) (d n : Nat) (h : og_H) (x1 x2 x3 : Int32) {mc1 ms1 : Nat} {Po1 : Option Value → Nat → og_H → Prop} {Px1 : String → Nat → og_H → Prop} {fs : List Value} (h3 : h 3 = some (.inr (5, fs)))
    (hM : og_M E yX7_commutator (.code yX7_commutator cX7_commutator 4 (some .long)) d [.ref 3, .int x1, .int x2, .int x3] n h mc1 ms1 Po1 Px1) (hv : ∀ v n1 h1, Po1 v n1 h1 → (∃ r : Int64, v = some (.long r)) ∧ ∃ f, h1 123 = some (row1 f)) (hx : ∀ En n1 h1, Px1 En n1 h1 → En = q_io ∨ En = q_ae) :
    og_M E yL_commutator (.codeWith yL_commutator cL_commutator 6 (some .int) [(0, 11, 14, 13), (0, 11, 18, 33)]) (d + 1) [.ref 3, .int x1, .int x2, .int x3, .ref 123] n h mc1 ms1 (fun v n1 h1 => (∃ (r : Int64) (h2 : og_H) (f : Nat → Int64), Po1 (some (.long r)) n1 h2 ∧ h2 123 = some (row1 f) ∧ h1 = og_set h2 123 (row1 (vp_updL f 0 r)) ∧ v = some (.int 0)) ∨ (Px1 q_io n1 h1 ∧ v = some (.int 1)) ∨ (Px1 q_ae n1 h1 ∧ v = some (.int 2))) no_x := by
  refine og_startH (lv := [some (.ref 3), some (.int x1), some (.int x2), some (.int x3), some (.ref 123), none]) (by decide) rfl rfl (Nat.le_of_ble_eq_true rfl) fun X hr hnm htb => ?_
  refine og_aload (pc := 0) dL_commutator_0 rfl ?_
  refine og_iconst (pc := 2) (v := 0) dL_commutator_2 (by decide) ?_
  refine og_aload_n (pc := 3) dL_commutator_3 rfl ?_
  refine og_iload_n (pc := 4) dL_commutator_4 rfl ?_
  refine og_iload_n (pc := 5) dL_commutator_5 rfl ?_
  refine og_iload_n (pc := 6) dL_commutator_6 rfl ?_
  refine og_callVC (pc := 7) (As := [.int x1, .int x2, .int x3]) (rest := [.int 0, .ref 123]) hM Y_X7_commutator I_X7_commutator V_X7_commutator h3 (by omega) rfl rfl K_L_42 dL_commutator_7 rfl rfl (Nat.le_of_ble_eq_true rfl) (by omega) (by omega) (by omega) (fun En n1 h1 hp => ?_) (fun v n1 h1 hp => ?_)
  · rcases hx En n1 h1 hp with rfl | rfl
    · refine ⟨[], ⟨0, 11, 14, 13⟩, [⟨0, 11, 18, 33⟩], 5, 2, htb, fun z hz => absurd hz List.not_mem_nil, rfl, by decide, by decide, CL_L_13, Or.inl ⟨dL_commutator_14, rfl⟩, by omega, fun j v hj hv => ?_, ?_⟩
      · obtain rfl : j = 4 := by omega
        cases hv <;> decide
      · refine og_iconst (pc := 16) (v := 1) dL_commutator_16 (by decide) ?_
        exact og_iret (pc := 17) hr dL_commutator_17 (by omega) (by omega) (Or.inr (Or.inl ⟨hp, rfl⟩))
    · refine ⟨[⟨0, 11, 14, 13⟩], ⟨0, 11, 18, 33⟩, [], 5, 2, htb, fun z hz => Or.inr ?_, rfl, by decide, by decide, CL_L_33, Or.inl ⟨dL_commutator_18, rfl⟩, by omega, fun j v hj hv => ?_, ?_⟩
      · simp only [List.mem_cons, List.not_mem_nil, or_false] at hz
        subst hz
        exact ⟨by decide, "java/lang/IndexOutOfBoundsException", CL_L_13, by decide, by decide⟩
      · obtain rfl : j = 4 := by omega
        cases hv <;> decide
      · refine og_iconst (pc := 20) (v := 2) dL_commutator_20 (by decide) ?_
        exact og_iret (pc := 21) hr dL_commutator_21 (by omega) (by omega) (Or.inr (Or.inr (⟨hp, rfl⟩)))
  · obtain ⟨⟨r, rfl⟩, f, hf⟩ := hv v n1 h1 hp
    refine og_lastN (pc := 10) (j := 0) rfl dL_commutator_10 hf (by omega) (by omega) (by first | decide | assumption | omega) ?_
    refine og_goto (pc := 11) (tgt := 22) dL_commutator_11 (by decide) ?_
    refine og_iconst (pc := 22) (v := 0) dL_commutator_22 (by decide) ?_
    exact og_iret (pc := 23) hr dL_commutator_23 (by omega) (by omega) (Or.inl ⟨r, h1, f, hp, hf, rfl, rfl⟩)
set_option maxRecDepth 4000 in
theorem c_L_associator (E : og_E) (d n : Nat) (h : og_H) (x1 x2 x3 x4 : Int32) {mc1 ms1 : Nat} {Po1 : Option Value → Nat → og_H → Prop} {Px1 : String → Nat → og_H → Prop} {fs : List Value} (h3 : h 3 = some (.inr (5, fs)))
    (hM : og_M E yX7_associator (.code yX7_associator cX7_associator 5 (some .long)) d [.ref 3, .int x1, .int x2, .int x3, .int x4] n h mc1 ms1 Po1 Px1) (hv : ∀ v n1 h1, Po1 v n1 h1 → (∃ r : Int64, v = some (.long r)) ∧ ∃ f, h1 123 = some (row1 f)) (hx : ∀ En n1 h1, Px1 En n1 h1 → En = q_io ∨ En = q_ae) :
    og_M E yL_associator (.codeWith yL_associator cL_associator 7 (some .int) [(0, 13, 16, 13), (0, 13, 20, 33)]) (d + 1) [.ref 3, .int x1, .int x2, .int x3, .int x4, .ref 123] n h mc1 ms1 (fun v n1 h1 => (∃ (r : Int64) (h2 : og_H) (f : Nat → Int64), Po1 (some (.long r)) n1 h2 ∧ h2 123 = some (row1 f) ∧ h1 = og_set h2 123 (row1 (vp_updL f 0 r)) ∧ v = some (.int 0)) ∨ (Px1 q_io n1 h1 ∧ v = some (.int 1)) ∨ (Px1 q_ae n1 h1 ∧ v = some (.int 2))) no_x := by
  refine og_startH (lv := [some (.ref 3), some (.int x1), some (.int x2), some (.int x3), some (.int x4), some (.ref 123), none]) (by decide) rfl rfl (Nat.le_of_ble_eq_true rfl) fun X hr hnm htb => ?_
  refine og_aload (pc := 0) dL_associator_0 rfl ?_
  refine og_iconst (pc := 2) (v := 0) dL_associator_2 (by decide) ?_
  refine og_aload_n (pc := 3) dL_associator_3 rfl ?_
  refine og_iload_n (pc := 4) dL_associator_4 rfl ?_
  refine og_iload_n (pc := 5) dL_associator_5 rfl ?_
  refine og_iload_n (pc := 6) dL_associator_6 rfl ?_
  refine og_iload (pc := 7) dL_associator_7 rfl ?_
  refine og_callVC (pc := 9) (As := [.int x1, .int x2, .int x3, .int x4]) (rest := [.int 0, .ref 123]) hM Y_X7_associator I_X7_associator V_X7_associator h3 (by omega) rfl rfl K_L_45 dL_associator_9 rfl rfl (Nat.le_of_ble_eq_true rfl) (by omega) (by omega) (by omega) (fun En n1 h1 hp => ?_) (fun v n1 h1 hp => ?_)
  · rcases hx En n1 h1 hp with rfl | rfl
    · refine ⟨[], ⟨0, 13, 16, 13⟩, [⟨0, 13, 20, 33⟩], 6, 2, htb, fun z hz => absurd hz List.not_mem_nil, rfl, by decide, by decide, CL_L_13, Or.inl ⟨dL_associator_16, rfl⟩, by omega, fun j v hj hv => ?_, ?_⟩
      · obtain rfl : j = 5 := by omega
        cases hv <;> decide
      · refine og_iconst (pc := 18) (v := 1) dL_associator_18 (by decide) ?_
        exact og_iret (pc := 19) hr dL_associator_19 (by omega) (by omega) (Or.inr (Or.inl ⟨hp, rfl⟩))
    · refine ⟨[⟨0, 13, 16, 13⟩], ⟨0, 13, 20, 33⟩, [], 6, 2, htb, fun z hz => Or.inr ?_, rfl, by decide, by decide, CL_L_33, Or.inl ⟨dL_associator_20, rfl⟩, by omega, fun j v hj hv => ?_, ?_⟩
      · simp only [List.mem_cons, List.not_mem_nil, or_false] at hz
        subst hz
        exact ⟨by decide, "java/lang/IndexOutOfBoundsException", CL_L_13, by decide, by decide⟩
      · obtain rfl : j = 5 := by omega
        cases hv <;> decide
      · refine og_iconst (pc := 22) (v := 2) dL_associator_22 (by decide) ?_
        exact og_iret (pc := 23) hr dL_associator_23 (by omega) (by omega) (Or.inr (Or.inr (⟨hp, rfl⟩)))
  · obtain ⟨⟨r, rfl⟩, f, hf⟩ := hv v n1 h1 hp
    refine og_lastN (pc := 12) (j := 0) rfl dL_associator_12 hf (by omega) (by omega) (by first | decide | assumption | omega) ?_
    refine og_goto (pc := 13) (tgt := 24) dL_associator_13 (by decide) ?_
    refine og_iconst (pc := 24) (v := 0) dL_associator_24 (by decide) ?_
    exact og_iret (pc := 25) hr dL_associator_25 (by omega) (by omega) (Or.inl ⟨r, h1, f, hp, hf, rfl, rfl⟩)
set_option maxRecDepth 4000 in
theorem c_L_divide (E : og_E) (d n : Nat) (h : og_H) (x1 x2 x3 x4 : Int32) {mc1 ms1 : Nat} {Po1 : Option Value → Nat → og_H → Prop} {Px1 : String → Nat → og_H → Prop} {fs : List Value} (h3 : h 3 = some (.inr (5, fs)))
    (hM : og_M E yX7_divide (.code yX7_divide cX7_divide 5 (some .long)) d [.ref 3, .int x1, .int x2, .int x3, .int x4] n h mc1 ms1 Po1 Px1) (hv : ∀ v n1 h1, Po1 v n1 h1 → (∃ r : Int64, v = some (.long r)) ∧ ∃ f, h1 123 = some (row1 f)) (hx : ∀ En n1 h1, Px1 En n1 h1 → En = q_io ∨ En = q_ia ∨ En = q_ist ∨ En = q_ae) :
    og_M E yL_divide (.codeWith yL_divide cL_divide 7 (some .int) [(0, 13, 16, 13), (0, 13, 20, 15), (0, 13, 24, 52), (0, 13, 28, 33)]) (d + 1) [.ref 3, .int x1, .int x2, .int x3, .int x4, .ref 123] n h mc1 ms1 (fun v n1 h1 => (∃ (r : Int64) (h2 : og_H) (f : Nat → Int64), Po1 (some (.long r)) n1 h2 ∧ h2 123 = some (row1 f) ∧ h1 = og_set h2 123 (row1 (vp_updL f 0 r)) ∧ v = some (.int 0)) ∨ (Px1 q_io n1 h1 ∧ v = some (.int 1)) ∨ (Px1 q_ia n1 h1 ∧ v = some (.int 2)) ∨ (Px1 q_ist n1 h1 ∧ v = some (.int 3)) ∨ (Px1 q_ae n1 h1 ∧ v = some (.int 4))) no_x := by
  refine og_startH (lv := [some (.ref 3), some (.int x1), some (.int x2), some (.int x3), some (.int x4), some (.ref 123), none]) (by decide) rfl rfl (Nat.le_of_ble_eq_true rfl) fun X hr hnm htb => ?_
  refine og_aload (pc := 0) dL_divide_0 rfl ?_
  refine og_iconst (pc := 2) (v := 0) dL_divide_2 (by decide) ?_
  refine og_aload_n (pc := 3) dL_divide_3 rfl ?_
  refine og_iload_n (pc := 4) dL_divide_4 rfl ?_
  refine og_iload_n (pc := 5) dL_divide_5 rfl ?_
  refine og_iload_n (pc := 6) dL_divide_6 rfl ?_
  refine og_iload (pc := 7) dL_divide_7 rfl ?_
  refine og_callVC (pc := 9) (As := [.int x1, .int x2, .int x3, .int x4]) (rest := [.int 0, .ref 123]) hM Y_X7_divide I_X7_divide V_X7_divide h3 (by omega) rfl rfl K_L_49 dL_divide_9 rfl rfl (Nat.le_of_ble_eq_true rfl) (by omega) (by omega) (by omega) (fun En n1 h1 hp => ?_) (fun v n1 h1 hp => ?_)
  · rcases hx En n1 h1 hp with rfl | rfl | rfl | rfl
    · refine ⟨[], ⟨0, 13, 16, 13⟩, [⟨0, 13, 20, 15⟩, ⟨0, 13, 24, 52⟩, ⟨0, 13, 28, 33⟩], 6, 2, htb, fun z hz => absurd hz List.not_mem_nil, rfl, by decide, by decide, CL_L_13, Or.inl ⟨dL_divide_16, rfl⟩, by omega, fun j v hj hv => ?_, ?_⟩
      · obtain rfl : j = 5 := by omega
        cases hv <;> decide
      · refine og_iconst (pc := 18) (v := 1) dL_divide_18 (by decide) ?_
        exact og_iret (pc := 19) hr dL_divide_19 (by omega) (by omega) (Or.inr (Or.inl ⟨hp, rfl⟩))
    · refine ⟨[⟨0, 13, 16, 13⟩], ⟨0, 13, 20, 15⟩, [⟨0, 13, 24, 52⟩, ⟨0, 13, 28, 33⟩], 6, 2, htb, fun z hz => Or.inr ?_, rfl, by decide, by decide, CL_L_15, Or.inl ⟨dL_divide_20, rfl⟩, by omega, fun j v hj hv => ?_, ?_⟩
      · simp only [List.mem_cons, List.not_mem_nil, or_false] at hz
        subst hz
        exact ⟨by decide, "java/lang/IndexOutOfBoundsException", CL_L_13, by decide, by decide⟩
      · obtain rfl : j = 5 := by omega
        cases hv <;> decide
      · refine og_iconst (pc := 22) (v := 2) dL_divide_22 (by decide) ?_
        exact og_iret (pc := 23) hr dL_divide_23 (by omega) (by omega) (Or.inr (Or.inr (Or.inl ⟨hp, rfl⟩)))
    · refine ⟨[⟨0, 13, 16, 13⟩, ⟨0, 13, 20, 15⟩], ⟨0, 13, 24, 52⟩, [⟨0, 13, 28, 33⟩], 6, 2, htb, fun z hz => Or.inr ?_, rfl, by decide, by decide, CL_L_52, Or.inl ⟨dL_divide_24, rfl⟩, by omega, fun j v hj hv => ?_, ?_⟩
      · simp only [List.mem_cons, List.not_mem_nil, or_false] at hz
        rcases hz with rfl | rfl
        · exact ⟨by decide, "java/lang/IndexOutOfBoundsException", CL_L_13, by decide, by decide⟩
        · exact ⟨by decide, "java/lang/IllegalArgumentException", CL_L_15, by decide, by decide⟩
      · obtain rfl : j = 5 := by omega
        cases hv <;> decide
      · refine og_iconst (pc := 26) (v := 3) dL_divide_26 (by decide) ?_
        exact og_iret (pc := 27) hr dL_divide_27 (by omega) (by omega) (Or.inr (Or.inr (Or.inr (Or.inl ⟨hp, rfl⟩))))
    · refine ⟨[⟨0, 13, 16, 13⟩, ⟨0, 13, 20, 15⟩, ⟨0, 13, 24, 52⟩], ⟨0, 13, 28, 33⟩, [], 6, 2, htb, fun z hz => Or.inr ?_, rfl, by decide, by decide, CL_L_33, Or.inl ⟨dL_divide_28, rfl⟩, by omega, fun j v hj hv => ?_, ?_⟩
      · simp only [List.mem_cons, List.not_mem_nil, or_false] at hz
        rcases hz with rfl | rfl | rfl
        · exact ⟨by decide, "java/lang/IndexOutOfBoundsException", CL_L_13, by decide, by decide⟩
        · exact ⟨by decide, "java/lang/IllegalArgumentException", CL_L_15, by decide, by decide⟩
        · exact ⟨by decide, "java/lang/IllegalStateException", CL_L_52, by decide, by decide⟩
      · obtain rfl : j = 5 := by omega
        cases hv <;> decide
      · refine og_iconst (pc := 30) (v := 4) dL_divide_30 (by decide) ?_
        exact og_iret (pc := 31) hr dL_divide_31 (by omega) (by omega) (Or.inr (Or.inr (Or.inr (Or.inr (⟨hp, rfl⟩)))))
  · obtain ⟨⟨r, rfl⟩, f, hf⟩ := hv v n1 h1 hp
    refine og_lastN (pc := 12) (j := 0) rfl dL_divide_12 hf (by omega) (by omega) (by first | decide | assumption | omega) ?_
    refine og_goto (pc := 13) (tgt := 32) dL_divide_13 (by decide) ?_
    refine og_iconst (pc := 32) (v := 0) dL_divide_32 (by decide) ?_
    exact og_iret (pc := 33) hr dL_divide_33 (by omega) (by omega) (Or.inl ⟨r, h1, f, hp, hf, rfl, rfl⟩)
set_option maxRecDepth 4000 in
theorem c_L_coordinate (E : og_E) (d n : Nat) (h : og_H) (x1 x2 : Int32) {mc1 ms1 : Nat} {Po1 : Option Value → Nat → og_H → Prop} {Px1 : String → Nat → og_H → Prop} {fs : List Value} (h3 : h 3 = some (.inr (5, fs)))
    (hM : og_M E yX7_coordinate (.code yX7_coordinate cX7_coordinate 3 (some .int)) d [.ref 3, .int x1, .int x2] n h mc1 ms1 Po1 Px1) (hv : ∀ v n1 h1, Po1 v n1 h1 → (∃ r : Int32, v = some (.int r)) ∧ ∃ f, h1 123 = some (row1 f)) (hx : ∀ En n1 h1, Px1 En n1 h1 → En = q_io) :
    og_M E yL_coordinate (.codeWith yL_coordinate cL_coordinate 5 (some .int) [(0, 10, 13, 13)]) (d + 1) [.ref 3, .int x1, .int x2, .ref 123] n h mc1 ms1 (fun v n1 h1 => (∃ (r : Int32) (h2 : og_H) (f : Nat → Int64), Po1 (some (.int r)) n1 h2 ∧ h2 123 = some (row1 f) ∧ h1 = og_set h2 123 (row1 (vp_updL f 0 r.toInt64)) ∧ v = some (.int 0)) ∨ (Px1 q_io n1 h1 ∧ v = some (.int 1))) no_x := by
  refine og_startH (lv := [some (.ref 3), some (.int x1), some (.int x2), some (.ref 123), none]) (by decide) rfl rfl (Nat.le_of_ble_eq_true rfl) fun X hr hnm htb => ?_
  refine og_aload_n (pc := 0) dL_coordinate_0 rfl ?_
  refine og_iconst (pc := 1) (v := 0) dL_coordinate_1 (by decide) ?_
  refine og_aload_n (pc := 2) dL_coordinate_2 rfl ?_
  refine og_iload_n (pc := 3) dL_coordinate_3 rfl ?_
  refine og_iload_n (pc := 4) dL_coordinate_4 rfl ?_
  refine og_callVC (pc := 5) (As := [.int x1, .int x2]) (rest := [.int 0, .ref 123]) hM Y_X7_coordinate I_X7_coordinate V_X7_coordinate h3 (by omega) rfl rfl K_L_54 dL_coordinate_5 rfl rfl (Nat.le_of_ble_eq_true rfl) (by omega) (by omega) (by omega) (fun En n1 h1 hp => ?_) (fun v n1 h1 hp => ?_)
  · obtain rfl := hx En n1 h1 hp
    refine ⟨[], ⟨0, 10, 13, 13⟩, [], 4, 2, htb, fun z hz => absurd hz List.not_mem_nil, rfl, by decide, by decide, CL_L_13, Or.inl ⟨dL_coordinate_13, rfl⟩, by omega, fun j v hj hv => ?_, ?_⟩
    · obtain rfl : j = 3 := by omega
      cases hv <;> decide
    · refine og_iconst (pc := 15) (v := 1) dL_coordinate_15 (by decide) ?_
      exact og_iret (pc := 16) hr dL_coordinate_16 (by omega) (by omega) (Or.inr (⟨hp, rfl⟩))
  · obtain ⟨⟨r, rfl⟩, f, hf⟩ := hv v n1 h1 hp
    refine og_i2l (pc := 8) dL_coordinate_8 rfl ?_
    refine og_lastN (pc := 9) (j := 0) rfl dL_coordinate_9 hf (by omega) (by omega) (by first | decide | assumption | omega) ?_
    refine og_goto (pc := 10) (tgt := 17) dL_coordinate_10 (by decide) ?_
    refine og_iconst (pc := 17) (v := 0) dL_coordinate_17 (by decide) ?_
    exact og_iret (pc := 18) hr dL_coordinate_18 (by omega) (by omega) (Or.inl ⟨r, h1, f, hp, hf, rfl, rfl⟩)
set_option maxRecDepth 4000 in
theorem c_L_norm (E : og_E) (d n : Nat) (h : og_H) (x1 : Int32) {mc1 ms1 : Nat} {Po1 : Option Value → Nat → og_H → Prop} {Px1 : String → Nat → og_H → Prop} {fs : List Value} (h3 : h 3 = some (.inr (5, fs)))
    (hM : og_M E yX7_norm (.code yX7_norm cX7_norm 2 (some .long)) d [.ref 3, .int x1] n h mc1 ms1 Po1 Px1) (hv : ∀ v n1 h1, Po1 v n1 h1 → (∃ r : Int64, v = some (.long r)) ∧ ∃ f, h1 123 = some (row1 f)) (hx : ∀ En n1 h1, Px1 En n1 h1 → En = q_io) :
    og_M E yL_norm (.codeWith yL_norm cL_norm 4 (some .int) [(0, 8, 11, 13)]) (d + 1) [.ref 3, .int x1, .ref 123] n h mc1 ms1 (fun v n1 h1 => (∃ (r : Int64) (h2 : og_H) (f : Nat → Int64), Po1 (some (.long r)) n1 h2 ∧ h2 123 = some (row1 f) ∧ h1 = og_set h2 123 (row1 (vp_updL f 0 r)) ∧ v = some (.int 0)) ∨ (Px1 q_io n1 h1 ∧ v = some (.int 1))) no_x := by
  refine og_startH (lv := [some (.ref 3), some (.int x1), some (.ref 123), none]) (by decide) rfl rfl (Nat.le_of_ble_eq_true rfl) fun X hr hnm htb => ?_
  refine og_aload_n (pc := 0) dL_norm_0 rfl ?_
  refine og_iconst (pc := 1) (v := 0) dL_norm_1 (by decide) ?_
  refine og_aload_n (pc := 2) dL_norm_2 rfl ?_
  refine og_iload_n (pc := 3) dL_norm_3 rfl ?_
  refine og_callVC (pc := 4) (As := [.int x1]) (rest := [.int 0, .ref 123]) hM Y_X7_norm I_X7_norm V_X7_norm h3 (by omega) rfl rfl K_L_57 dL_norm_4 rfl rfl (Nat.le_of_ble_eq_true rfl) (by omega) (by omega) (by omega) (fun En n1 h1 hp => ?_) (fun v n1 h1 hp => ?_)
  · obtain rfl := hx En n1 h1 hp
    refine ⟨[], ⟨0, 8, 11, 13⟩, [], 3, 1, htb, fun z hz => absurd hz List.not_mem_nil, rfl, by decide, by decide, CL_L_13, Or.inr ⟨3, dL_norm_11, rfl, rfl⟩, by omega, fun j v hj hv => ?_, ?_⟩
    · obtain rfl : j = 2 := by omega
      cases hv <;> decide
    · refine og_iconst (pc := 12) (v := 1) dL_norm_12 (by decide) ?_
      exact og_iret (pc := 13) hr dL_norm_13 (by omega) (by omega) (Or.inr (⟨hp, rfl⟩))
  · obtain ⟨⟨r, rfl⟩, f, hf⟩ := hv v n1 h1 hp
    refine og_lastN (pc := 7) (j := 0) rfl dL_norm_7 hf (by omega) (by omega) (by first | decide | assumption | omega) ?_
    refine og_goto (pc := 8) (tgt := 14) dL_norm_8 (by decide) ?_
    refine og_iconst (pc := 14) (v := 0) dL_norm_14 (by decide) ?_
    exact og_iret (pc := 15) hr dL_norm_15 (by omega) (by omega) (Or.inl ⟨r, h1, f, hp, hf, rfl, rfl⟩)
set_option maxRecDepth 4000 in
theorem c_L_dot (E : og_E) (d n : Nat) (h : og_H) (x1 x2 : Int32) {mc1 ms1 : Nat} {Po1 : Option Value → Nat → og_H → Prop} {Px1 : String → Nat → og_H → Prop} {fs : List Value} (h3 : h 3 = some (.inr (5, fs)))
    (hM : og_M E yX7_dot (.code yX7_dot cX7_dot 3 (some .long)) d [.ref 3, .int x1, .int x2] n h mc1 ms1 Po1 Px1) (hv : ∀ v n1 h1, Po1 v n1 h1 → (∃ r : Int64, v = some (.long r)) ∧ ∃ f, h1 123 = some (row1 f)) (hx : ∀ En n1 h1, Px1 En n1 h1 → En = q_io) :
    og_M E yL_dot (.codeWith yL_dot cL_dot 5 (some .int) [(0, 9, 12, 13)]) (d + 1) [.ref 3, .int x1, .int x2, .ref 123] n h mc1 ms1 (fun v n1 h1 => (∃ (r : Int64) (h2 : og_H) (f : Nat → Int64), Po1 (some (.long r)) n1 h2 ∧ h2 123 = some (row1 f) ∧ h1 = og_set h2 123 (row1 (vp_updL f 0 r)) ∧ v = some (.int 0)) ∨ (Px1 q_io n1 h1 ∧ v = some (.int 1))) no_x := by
  refine og_startH (lv := [some (.ref 3), some (.int x1), some (.int x2), some (.ref 123), none]) (by decide) rfl rfl (Nat.le_of_ble_eq_true rfl) fun X hr hnm htb => ?_
  refine og_aload_n (pc := 0) dL_dot_0 rfl ?_
  refine og_iconst (pc := 1) (v := 0) dL_dot_1 (by decide) ?_
  refine og_aload_n (pc := 2) dL_dot_2 rfl ?_
  refine og_iload_n (pc := 3) dL_dot_3 rfl ?_
  refine og_iload_n (pc := 4) dL_dot_4 rfl ?_
  refine og_callVC (pc := 5) (As := [.int x1, .int x2]) (rest := [.int 0, .ref 123]) hM Y_X7_dot I_X7_dot V_X7_dot h3 (by omega) rfl rfl K_L_61 dL_dot_5 rfl rfl (Nat.le_of_ble_eq_true rfl) (by omega) (by omega) (by omega) (fun En n1 h1 hp => ?_) (fun v n1 h1 hp => ?_)
  · obtain rfl := hx En n1 h1 hp
    refine ⟨[], ⟨0, 9, 12, 13⟩, [], 4, 2, htb, fun z hz => absurd hz List.not_mem_nil, rfl, by decide, by decide, CL_L_13, Or.inl ⟨dL_dot_12, rfl⟩, by omega, fun j v hj hv => ?_, ?_⟩
    · obtain rfl : j = 3 := by omega
      cases hv <;> decide
    · refine og_iconst (pc := 14) (v := 1) dL_dot_14 (by decide) ?_
      exact og_iret (pc := 15) hr dL_dot_15 (by omega) (by omega) (Or.inr (⟨hp, rfl⟩))
  · obtain ⟨⟨r, rfl⟩, f, hf⟩ := hv v n1 h1 hp
    refine og_lastN (pc := 8) (j := 0) rfl dL_dot_8 hf (by omega) (by omega) (by first | decide | assumption | omega) ?_
    refine og_goto (pc := 9) (tgt := 16) dL_dot_9 (by decide) ?_
    refine og_iconst (pc := 16) (v := 0) dL_dot_16 (by decide) ?_
    exact og_iret (pc := 17) hr dL_dot_17 (by omega) (by omega) (Or.inl ⟨r, h1, f, hp, hf, rfl, rfl⟩)
set_option maxRecDepth 4000 in
theorem c_L_ordersOf (E : og_E) (d n : Nat) (h : og_H) (x1 : Int32) {mc1 ms1 : Nat} {Po1 : Option Value → Nat → og_H → Prop} {Px1 : String → Nat → og_H → Prop} {fs : List Value} (h3 : h 3 = some (.inr (5, fs)))
    (hM : og_M E yX7_ordersOf (.code yX7_ordersOf cX7_ordersOf 5 (some .int)) d [.ref 3, .int x1] n h mc1 ms1 Po1 Px1) (hv : ∀ v n1 h1, Po1 v n1 h1 → (∃ r : Int32, v = some (.int r)) ∧ ∃ f, h1 123 = some (row1 f)) (hx : ∀ En n1 h1, Px1 En n1 h1 → En = q_io) :
    og_M E yL_ordersOf (.codeWith yL_ordersOf cL_ordersOf 4 (some .int) [(0, 9, 12, 13)]) (d + 1) [.ref 3, .int x1, .ref 123] n h mc1 ms1 (fun v n1 h1 => (∃ (r : Int32) (h2 : og_H) (f : Nat → Int64), Po1 (some (.int r)) n1 h2 ∧ h2 123 = some (row1 f) ∧ h1 = og_set h2 123 (row1 (vp_updL f 0 r.toInt64)) ∧ v = some (.int 0)) ∨ (Px1 q_io n1 h1 ∧ v = some (.int 1))) no_x := by
  refine og_startH (lv := [some (.ref 3), some (.int x1), some (.ref 123), none]) (by decide) rfl rfl (Nat.le_of_ble_eq_true rfl) fun X hr hnm htb => ?_
  refine og_aload_n (pc := 0) dL_ordersOf_0 rfl ?_
  refine og_iconst (pc := 1) (v := 0) dL_ordersOf_1 (by decide) ?_
  refine og_aload_n (pc := 2) dL_ordersOf_2 rfl ?_
  refine og_iload_n (pc := 3) dL_ordersOf_3 rfl ?_
  refine og_callVC (pc := 4) (As := [.int x1]) (rest := [.int 0, .ref 123]) hM Y_X7_ordersOf I_X7_ordersOf V_X7_ordersOf h3 (by omega) rfl rfl K_L_65 dL_ordersOf_4 rfl rfl (Nat.le_of_ble_eq_true rfl) (by omega) (by omega) (by omega) (fun En n1 h1 hp => ?_) (fun v n1 h1 hp => ?_)
  · obtain rfl := hx En n1 h1 hp
    refine ⟨[], ⟨0, 9, 12, 13⟩, [], 3, 1, htb, fun z hz => absurd hz List.not_mem_nil, rfl, by decide, by decide, CL_L_13, Or.inr ⟨3, dL_ordersOf_12, rfl, rfl⟩, by omega, fun j v hj hv => ?_, ?_⟩
    · obtain rfl : j = 2 := by omega
      cases hv <;> decide
    · refine og_iconst (pc := 13) (v := 1) dL_ordersOf_13 (by decide) ?_
      exact og_iret (pc := 14) hr dL_ordersOf_14 (by omega) (by omega) (Or.inr (⟨hp, rfl⟩))
  · obtain ⟨⟨r, rfl⟩, f, hf⟩ := hv v n1 h1 hp
    refine og_i2l (pc := 7) dL_ordersOf_7 rfl ?_
    refine og_lastN (pc := 8) (j := 0) rfl dL_ordersOf_8 hf (by omega) (by omega) (by first | decide | assumption | omega) ?_
    refine og_goto (pc := 9) (tgt := 15) dL_ordersOf_9 (by decide) ?_
    refine og_iconst (pc := 15) (v := 0) dL_ordersOf_15 (by decide) ?_
    exact og_iret (pc := 16) hr dL_ordersOf_16 (by omega) (by omega) (Or.inl ⟨r, h1, f, hp, hf, rfl, rfl⟩)
set_option maxRecDepth 4000 in
theorem c_L_left (E : og_E) (d n : Nat) (h : og_H) (x1 x2 x3 : Int32) {mc1 ms1 : Nat} {Po1 : Option Value → Nat → og_H → Prop} {Px1 : String → Nat → og_H → Prop} {fs : List Value} (h3 : h 3 = some (.inr (5, fs)))
    (hM : og_M E yX7_left (.code yX7_left cX7_left 4 (some .int)) d [.ref 3, .int x1, .int x2, .int x3] n h mc1 ms1 Po1 Px1) (hv : ∀ v n1 h1, Po1 v n1 h1 → (∃ r : Int32, v = some (.int r)) ∧ ∃ f, h1 123 = some (row1 f)) (hx : ∀ En n1 h1, Px1 En n1 h1 → En = q_io) :
    og_M E yL_left (.codeWith yL_left cL_left 6 (some .int) [(0, 12, 15, 13)]) (d + 1) [.ref 3, .int x1, .int x2, .int x3, .ref 123] n h mc1 ms1 (fun v n1 h1 => (∃ (r : Int32) (h2 : og_H) (f : Nat → Int64), Po1 (some (.int r)) n1 h2 ∧ h2 123 = some (row1 f) ∧ h1 = og_set h2 123 (row1 (vp_updL f 0 r.toInt64)) ∧ v = some (.int 0)) ∨ (Px1 q_io n1 h1 ∧ v = some (.int 1))) no_x := by
  refine og_startH (lv := [some (.ref 3), some (.int x1), some (.int x2), some (.int x3), some (.ref 123), none]) (by decide) rfl rfl (Nat.le_of_ble_eq_true rfl) fun X hr hnm htb => ?_
  refine og_aload (pc := 0) dL_left_0 rfl ?_
  refine og_iconst (pc := 2) (v := 0) dL_left_2 (by decide) ?_
  refine og_aload_n (pc := 3) dL_left_3 rfl ?_
  refine og_iload_n (pc := 4) dL_left_4 rfl ?_
  refine og_iload_n (pc := 5) dL_left_5 rfl ?_
  refine og_iload_n (pc := 6) dL_left_6 rfl ?_
  refine og_callVC (pc := 7) (As := [.int x1, .int x2, .int x3]) (rest := [.int 0, .ref 123]) hM Y_X7_left I_X7_left V_X7_left h3 (by omega) rfl rfl K_L_68 dL_left_7 rfl rfl (Nat.le_of_ble_eq_true rfl) (by omega) (by omega) (by omega) (fun En n1 h1 hp => ?_) (fun v n1 h1 hp => ?_)
  · obtain rfl := hx En n1 h1 hp
    refine ⟨[], ⟨0, 12, 15, 13⟩, [], 5, 2, htb, fun z hz => absurd hz List.not_mem_nil, rfl, by decide, by decide, CL_L_13, Or.inl ⟨dL_left_15, rfl⟩, by omega, fun j v hj hv => ?_, ?_⟩
    · obtain rfl : j = 4 := by omega
      cases hv <;> decide
    · refine og_iconst (pc := 17) (v := 1) dL_left_17 (by decide) ?_
      exact og_iret (pc := 18) hr dL_left_18 (by omega) (by omega) (Or.inr (⟨hp, rfl⟩))
  · obtain ⟨⟨r, rfl⟩, f, hf⟩ := hv v n1 h1 hp
    refine og_i2l (pc := 10) dL_left_10 rfl ?_
    refine og_lastN (pc := 11) (j := 0) rfl dL_left_11 hf (by omega) (by omega) (by first | decide | assumption | omega) ?_
    refine og_goto (pc := 12) (tgt := 19) dL_left_12 (by decide) ?_
    refine og_iconst (pc := 19) (v := 0) dL_left_19 (by decide) ?_
    exact og_iret (pc := 20) hr dL_left_20 (by omega) (by omega) (Or.inl ⟨r, h1, f, hp, hf, rfl, rfl⟩)
set_option maxRecDepth 4000 in
theorem c_L_unitOf (E : og_E) (d n : Nat) (h : og_H) (x1 : Int32) {mc1 ms1 : Nat} {Po1 : Option Value → Nat → og_H → Prop} {Px1 : String → Nat → og_H → Prop} {fs : List Value} (h3 : h 3 = some (.inr (5, fs)))
    (hM : og_M E yX7_unitOf (.code yX7_unitOf cX7_unitOf 2 (some .int)) d [.ref 3, .int x1] n h mc1 ms1 Po1 Px1) (hv : ∀ v n1 h1, Po1 v n1 h1 → (∃ r : Int32, v = some (.int r)) ∧ ∃ f, h1 123 = some (row1 f)) (hx : ∀ En n1 h1, Px1 En n1 h1 → En = q_io) :
    og_M E yL_unitOf (.codeWith yL_unitOf cL_unitOf 4 (some .int) [(0, 9, 12, 13)]) (d + 1) [.ref 3, .int x1, .ref 123] n h mc1 ms1 (fun v n1 h1 => (∃ (r : Int32) (h2 : og_H) (f : Nat → Int64), Po1 (some (.int r)) n1 h2 ∧ h2 123 = some (row1 f) ∧ h1 = og_set h2 123 (row1 (vp_updL f 0 r.toInt64)) ∧ v = some (.int 0)) ∨ (Px1 q_io n1 h1 ∧ v = some (.int 1))) no_x := by
  refine og_startH (lv := [some (.ref 3), some (.int x1), some (.ref 123), none]) (by decide) rfl rfl (Nat.le_of_ble_eq_true rfl) fun X hr hnm htb => ?_
  refine og_aload_n (pc := 0) dL_unitOf_0 rfl ?_
  refine og_iconst (pc := 1) (v := 0) dL_unitOf_1 (by decide) ?_
  refine og_aload_n (pc := 2) dL_unitOf_2 rfl ?_
  refine og_iload_n (pc := 3) dL_unitOf_3 rfl ?_
  refine og_callVC (pc := 4) (As := [.int x1]) (rest := [.int 0, .ref 123]) hM Y_X7_unitOf I_X7_unitOf V_X7_unitOf h3 (by omega) rfl rfl K_L_71 dL_unitOf_4 rfl rfl (Nat.le_of_ble_eq_true rfl) (by omega) (by omega) (by omega) (fun En n1 h1 hp => ?_) (fun v n1 h1 hp => ?_)
  · obtain rfl := hx En n1 h1 hp
    refine ⟨[], ⟨0, 9, 12, 13⟩, [], 3, 1, htb, fun z hz => absurd hz List.not_mem_nil, rfl, by decide, by decide, CL_L_13, Or.inr ⟨3, dL_unitOf_12, rfl, rfl⟩, by omega, fun j v hj hv => ?_, ?_⟩
    · obtain rfl : j = 2 := by omega
      cases hv <;> decide
    · refine og_iconst (pc := 13) (v := 1) dL_unitOf_13 (by decide) ?_
      exact og_iret (pc := 14) hr dL_unitOf_14 (by omega) (by omega) (Or.inr (⟨hp, rfl⟩))
  · obtain ⟨⟨r, rfl⟩, f, hf⟩ := hv v n1 h1 hp
    refine og_i2l (pc := 7) dL_unitOf_7 rfl ?_
    refine og_lastN (pc := 8) (j := 0) rfl dL_unitOf_8 hf (by omega) (by omega) (by first | decide | assumption | omega) ?_
    refine og_goto (pc := 9) (tgt := 15) dL_unitOf_9 (by decide) ?_
    refine og_iconst (pc := 15) (v := 0) dL_unitOf_15 (by decide) ?_
    exact og_iret (pc := 16) hr dL_unitOf_16 (by omega) (by omega) (Or.inl ⟨r, h1, f, hp, hf, rfl, rfl⟩)
set_option maxRecDepth 4000 in
theorem c_L_value (E : og_E) (d n : Nat) (h : og_H) (x1 : Int32) {mc1 ms1 : Nat} {Po1 : Option Value → Nat → og_H → Prop} {Px1 : String → Nat → og_H → Prop} {fs : List Value} (h3 : h 3 = some (.inr (5, fs)))
    (hM : og_M E yX7_value (.code yX7_value cX7_value 2 (some .int)) d [.ref 3, .int x1] n h mc1 ms1 Po1 Px1) (hv : ∀ v n1 h1, Po1 v n1 h1 → (∃ r : Int32, v = some (.int r)) ∧ ∃ f, h1 123 = some (row1 f)) (hx : ∀ En n1 h1, Px1 En n1 h1 → En = q_ia) :
    og_M E yL_value (.codeWith yL_value cL_value 4 (some .int) [(0, 9, 12, 15)]) (d + 1) [.ref 3, .int x1, .ref 123] n h mc1 ms1 (fun v n1 h1 => (∃ (r : Int32) (h2 : og_H) (f : Nat → Int64), Po1 (some (.int r)) n1 h2 ∧ h2 123 = some (row1 f) ∧ h1 = og_set h2 123 (row1 (vp_updL f 0 r.toInt64)) ∧ v = some (.int 0)) ∨ (Px1 q_ia n1 h1 ∧ v = some (.int 1))) no_x := by
  refine og_startH (lv := [some (.ref 3), some (.int x1), some (.ref 123), none]) (by decide) rfl rfl (Nat.le_of_ble_eq_true rfl) fun X hr hnm htb => ?_
  refine og_aload_n (pc := 0) dL_value_0 rfl ?_
  refine og_iconst (pc := 1) (v := 0) dL_value_1 (by decide) ?_
  refine og_aload_n (pc := 2) dL_value_2 rfl ?_
  refine og_iload_n (pc := 3) dL_value_3 rfl ?_
  refine og_callVC (pc := 4) (As := [.int x1]) (rest := [.int 0, .ref 123]) hM Y_X7_value I_X7_value V_X7_value h3 (by omega) rfl rfl K_L_74 dL_value_4 rfl rfl (Nat.le_of_ble_eq_true rfl) (by omega) (by omega) (by omega) (fun En n1 h1 hp => ?_) (fun v n1 h1 hp => ?_)
  · obtain rfl := hx En n1 h1 hp
    refine ⟨[], ⟨0, 9, 12, 15⟩, [], 3, 1, htb, fun z hz => absurd hz List.not_mem_nil, rfl, by decide, by decide, CL_L_15, Or.inr ⟨3, dL_value_12, rfl, rfl⟩, by omega, fun j v hj hv => ?_, ?_⟩
    · obtain rfl : j = 2 := by omega
      cases hv <;> decide
    · refine og_iconst (pc := 13) (v := 1) dL_value_13 (by decide) ?_
      exact og_iret (pc := 14) hr dL_value_14 (by omega) (by omega) (Or.inr (⟨hp, rfl⟩))
  · obtain ⟨⟨r, rfl⟩, f, hf⟩ := hv v n1 h1 hp
    refine og_i2l (pc := 7) dL_value_7 rfl ?_
    refine og_lastN (pc := 8) (j := 0) rfl dL_value_8 hf (by omega) (by omega) (by first | decide | assumption | omega) ?_
    refine og_goto (pc := 9) (tgt := 15) dL_value_9 (by decide) ?_
    refine og_iconst (pc := 15) (v := 0) dL_value_15 (by decide) ?_
    exact og_iret (pc := 16) hr dL_value_16 (by omega) (by omega) (Or.inl ⟨r, h1, f, hp, hf, rfl, rfl⟩)
set_option maxRecDepth 4000 in
theorem c_L_dimension (E : og_E) (d n : Nat) (h : og_H) (x1 : Int32) {mc1 ms1 : Nat} {Po1 : Option Value → Nat → og_H → Prop} {Px1 : String → Nat → og_H → Prop} {fs : List Value} (h3 : h 3 = some (.inr (5, fs)))
    (hM : og_M E yX7_dimension (.code yX7_dimension cX7_dimension 5 (some .int)) d [.ref 3, .int x1] n h mc1 ms1 Po1 Px1) (hv : ∀ v n1 h1, Po1 v n1 h1 → (∃ r : Int32, v = some (.int r)) ∧ ∃ f, h1 123 = some (row1 f)) (hx : ∀ En n1 h1, Px1 En n1 h1 → En = q_ia) :
    og_M E yL_dimension (.codeWith yL_dimension cL_dimension 4 (some .int) [(0, 9, 12, 15)]) (d + 1) [.ref 3, .int x1, .ref 123] n h mc1 ms1 (fun v n1 h1 => (∃ (r : Int32) (h2 : og_H) (f : Nat → Int64), Po1 (some (.int r)) n1 h2 ∧ h2 123 = some (row1 f) ∧ h1 = og_set h2 123 (row1 (vp_updL f 0 r.toInt64)) ∧ v = some (.int 0)) ∨ (Px1 q_ia n1 h1 ∧ v = some (.int 1))) no_x := by
  refine og_startH (lv := [some (.ref 3), some (.int x1), some (.ref 123), none]) (by decide) rfl rfl (Nat.le_of_ble_eq_true rfl) fun X hr hnm htb => ?_
  refine og_aload_n (pc := 0) dL_dimension_0 rfl ?_
  refine og_iconst (pc := 1) (v := 0) dL_dimension_1 (by decide) ?_
  refine og_aload_n (pc := 2) dL_dimension_2 rfl ?_
  refine og_iload_n (pc := 3) dL_dimension_3 rfl ?_
  refine og_callVC (pc := 4) (As := [.int x1]) (rest := [.int 0, .ref 123]) hM Y_X7_dimension I_X7_dimension V_X7_dimension h3 (by omega) rfl rfl K_L_77 dL_dimension_4 rfl rfl (Nat.le_of_ble_eq_true rfl) (by omega) (by omega) (by omega) (fun En n1 h1 hp => ?_) (fun v n1 h1 hp => ?_)
  · obtain rfl := hx En n1 h1 hp
    refine ⟨[], ⟨0, 9, 12, 15⟩, [], 3, 1, htb, fun z hz => absurd hz List.not_mem_nil, rfl, by decide, by decide, CL_L_15, Or.inr ⟨3, dL_dimension_12, rfl, rfl⟩, by omega, fun j v hj hv => ?_, ?_⟩
    · obtain rfl : j = 2 := by omega
      cases hv <;> decide
    · refine og_iconst (pc := 13) (v := 1) dL_dimension_13 (by decide) ?_
      exact og_iret (pc := 14) hr dL_dimension_14 (by omega) (by omega) (Or.inr (⟨hp, rfl⟩))
  · obtain ⟨⟨r, rfl⟩, f, hf⟩ := hv v n1 h1 hp
    refine og_i2l (pc := 7) dL_dimension_7 rfl ?_
    refine og_lastN (pc := 8) (j := 0) rfl dL_dimension_8 hf (by omega) (by omega) (by first | decide | assumption | omega) ?_
    refine og_goto (pc := 9) (tgt := 15) dL_dimension_9 (by decide) ?_
    refine og_iconst (pc := 15) (v := 0) dL_dimension_15 (by decide) ?_
    exact og_iret (pc := 16) hr dL_dimension_16 (by omega) (by omega) (Or.inl ⟨r, h1, f, hp, hf, rfl, rfl⟩)
set_option maxRecDepth 4000 in
theorem c_L_commute (E : og_E) (d n : Nat) (h : og_H) (x1 x2 : Int32) {mc1 ms1 : Nat} {Po1 : Option Value → Nat → og_H → Prop} {Px1 : String → Nat → og_H → Prop} {fs : List Value} (h3 : h 3 = some (.inr (5, fs)))
    (hM : og_M E yX7_commute (.code yX7_commute cX7_commute 3 (some .boolean)) d [.ref 3, .int x1, .int x2] n h mc1 ms1 Po1 Px1) (hv : ∀ v n1 h1, Po1 v n1 h1 → (∃ r : Int32, v = some (.int r)) ∧ ∃ f, h1 123 = some (row1 f)) (hx : ∀ En n1 h1, Px1 En n1 h1 → En = q_io) :
    og_M E yL_commute (.codeWith yL_commute cL_commute 5 (some .int) [(0, 17, 20, 13)]) (d + 1) [.ref 3, .int x1, .int x2, .ref 123] n h mc1 ms1 (fun v n1 h1 => (∃ (r : Int32) (h2 : og_H) (f : Nat → Int64), Po1 (some (.int r)) n1 h2 ∧ h2 123 = some (row1 f) ∧ h1 = og_set h2 123 (row1 (vp_updL f 0 (if r = 0 then 0 else 1))) ∧ v = some (.int 0)) ∨ (Px1 q_io n1 h1 ∧ v = some (.int 1))) no_x := by
  refine og_startH (lv := [some (.ref 3), some (.int x1), some (.int x2), some (.ref 123), none]) (by decide) rfl rfl (Nat.le_of_ble_eq_true rfl) fun X hr hnm htb => ?_
  refine og_aload_n (pc := 0) dL_commute_0 rfl ?_
  refine og_iconst (pc := 1) (v := 0) dL_commute_1 (by decide) ?_
  refine og_aload_n (pc := 2) dL_commute_2 rfl ?_
  refine og_iload_n (pc := 3) dL_commute_3 rfl ?_
  refine og_iload_n (pc := 4) dL_commute_4 rfl ?_
  refine og_callVC (pc := 5) (As := [.int x1, .int x2]) (rest := [.int 0, .ref 123]) hM Y_X7_commute I_X7_commute V_X7_commute h3 (by omega) rfl rfl K_L_80 dL_commute_5 rfl rfl (Nat.le_of_ble_eq_true rfl) (by omega) (by omega) (by omega) (fun En n1 h1 hp => ?_) (fun v n1 h1 hp => ?_)
  · obtain rfl := hx En n1 h1 hp
    refine ⟨[], ⟨0, 17, 20, 13⟩, [], 4, 2, htb, fun z hz => absurd hz List.not_mem_nil, rfl, by decide, by decide, CL_L_13, Or.inl ⟨dL_commute_20, rfl⟩, by omega, fun j v hj hv => ?_, ?_⟩
    · obtain rfl : j = 3 := by omega
      cases hv <;> decide
    · refine og_iconst (pc := 22) (v := 1) dL_commute_22 (by decide) ?_
      exact og_iret (pc := 23) hr dL_commute_23 (by omega) (by omega) (Or.inr (⟨hp, rfl⟩))
  · obtain ⟨⟨r, rfl⟩, f, hf⟩ := hv v n1 h1 hp
    refine og_if_eq (pc := 8) (tgt := 15) dL_commute_8 (by decide) (fun q => ?_) (fun q => ?_)
    · refine og_lconst (pc := 15) (v := 0) dL_commute_15 (by decide) ?_
      refine og_lastN (pc := 16) (j := 0) rfl dL_commute_16 hf (by omega) (by omega) (by first | decide | assumption | omega) ?_
      refine og_goto (pc := 17) (tgt := 24) dL_commute_17 (by decide) ?_
      refine og_iconst (pc := 24) (v := 0) dL_commute_24 (by decide) ?_
      exact og_iret (pc := 25) hr dL_commute_25 (by omega) (by omega) (Or.inl ⟨r, h1, f, hp, hf, by rw [if_pos q], rfl⟩)
    · refine og_lconst (pc := 11) (v := 1) dL_commute_11 (by decide) ?_
      refine og_goto (pc := 12) (tgt := 16) dL_commute_12 (by decide) ?_
      refine og_lastN (pc := 16) (j := 0) rfl dL_commute_16 hf (by omega) (by omega) (by first | decide | assumption | omega) ?_
      refine og_goto (pc := 17) (tgt := 24) dL_commute_17 (by decide) ?_
      refine og_iconst (pc := 24) (v := 0) dL_commute_24 (by decide) ?_
      exact og_iret (pc := 25) hr dL_commute_25 (by omega) (by omega) (Or.inl ⟨r, h1, f, hp, hf, by rw [if_neg q], rfl⟩)
set_option maxRecDepth 4000 in
theorem c_L_associate (E : og_E) (d n : Nat) (h : og_H) (x1 x2 x3 : Int32) {mc1 ms1 : Nat} {Po1 : Option Value → Nat → og_H → Prop} {Px1 : String → Nat → og_H → Prop} {fs : List Value} (h3 : h 3 = some (.inr (5, fs)))
    (hM : og_M E yX7_associate (.code yX7_associate cX7_associate 4 (some .boolean)) d [.ref 3, .int x1, .int x2, .int x3] n h mc1 ms1 Po1 Px1) (hv : ∀ v n1 h1, Po1 v n1 h1 → (∃ r : Int32, v = some (.int r)) ∧ ∃ f, h1 123 = some (row1 f)) (hx : ∀ En n1 h1, Px1 En n1 h1 → En = q_io) :
    og_M E yL_associate (.codeWith yL_associate cL_associate 6 (some .int) [(0, 19, 22, 13)]) (d + 1) [.ref 3, .int x1, .int x2, .int x3, .ref 123] n h mc1 ms1 (fun v n1 h1 => (∃ (r : Int32) (h2 : og_H) (f : Nat → Int64), Po1 (some (.int r)) n1 h2 ∧ h2 123 = some (row1 f) ∧ h1 = og_set h2 123 (row1 (vp_updL f 0 (if r = 0 then 0 else 1))) ∧ v = some (.int 0)) ∨ (Px1 q_io n1 h1 ∧ v = some (.int 1))) no_x := by
  refine og_startH (lv := [some (.ref 3), some (.int x1), some (.int x2), some (.int x3), some (.ref 123), none]) (by decide) rfl rfl (Nat.le_of_ble_eq_true rfl) fun X hr hnm htb => ?_
  refine og_aload (pc := 0) dL_associate_0 rfl ?_
  refine og_iconst (pc := 2) (v := 0) dL_associate_2 (by decide) ?_
  refine og_aload_n (pc := 3) dL_associate_3 rfl ?_
  refine og_iload_n (pc := 4) dL_associate_4 rfl ?_
  refine og_iload_n (pc := 5) dL_associate_5 rfl ?_
  refine og_iload_n (pc := 6) dL_associate_6 rfl ?_
  refine og_callVC (pc := 7) (As := [.int x1, .int x2, .int x3]) (rest := [.int 0, .ref 123]) hM Y_X7_associate I_X7_associate V_X7_associate h3 (by omega) rfl rfl K_L_84 dL_associate_7 rfl rfl (Nat.le_of_ble_eq_true rfl) (by omega) (by omega) (by omega) (fun En n1 h1 hp => ?_) (fun v n1 h1 hp => ?_)
  · obtain rfl := hx En n1 h1 hp
    refine ⟨[], ⟨0, 19, 22, 13⟩, [], 5, 2, htb, fun z hz => absurd hz List.not_mem_nil, rfl, by decide, by decide, CL_L_13, Or.inl ⟨dL_associate_22, rfl⟩, by omega, fun j v hj hv => ?_, ?_⟩
    · obtain rfl : j = 4 := by omega
      cases hv <;> decide
    · refine og_iconst (pc := 24) (v := 1) dL_associate_24 (by decide) ?_
      exact og_iret (pc := 25) hr dL_associate_25 (by omega) (by omega) (Or.inr (⟨hp, rfl⟩))
  · obtain ⟨⟨r, rfl⟩, f, hf⟩ := hv v n1 h1 hp
    refine og_if_eq (pc := 10) (tgt := 17) dL_associate_10 (by decide) (fun q => ?_) (fun q => ?_)
    · refine og_lconst (pc := 17) (v := 0) dL_associate_17 (by decide) ?_
      refine og_lastN (pc := 18) (j := 0) rfl dL_associate_18 hf (by omega) (by omega) (by first | decide | assumption | omega) ?_
      refine og_goto (pc := 19) (tgt := 26) dL_associate_19 (by decide) ?_
      refine og_iconst (pc := 26) (v := 0) dL_associate_26 (by decide) ?_
      exact og_iret (pc := 27) hr dL_associate_27 (by omega) (by omega) (Or.inl ⟨r, h1, f, hp, hf, by rw [if_pos q], rfl⟩)
    · refine og_lconst (pc := 13) (v := 1) dL_associate_13 (by decide) ?_
      refine og_goto (pc := 14) (tgt := 18) dL_associate_14 (by decide) ?_
      refine og_lastN (pc := 18) (j := 0) rfl dL_associate_18 hf (by omega) (by omega) (by first | decide | assumption | omega) ?_
      refine og_goto (pc := 19) (tgt := 26) dL_associate_19 (by decide) ?_
      refine og_iconst (pc := 26) (v := 0) dL_associate_26 (by decide) ?_
      exact og_iret (pc := 27) hr dL_associate_27 (by omega) (by omega) (Or.inl ⟨r, h1, f, hp, hf, by rw [if_neg q], rfl⟩)
set_option maxRecDepth 4000 in
theorem c_L_elements (E : og_E) (d n : Nat) (h : og_H) (x1 : Int32) {mc1 ms1 : Nat} {Po1 : Option Value → Nat → og_H → Prop} {Px1 : String → Nat → og_H → Prop} {fs : List Value} (h3 : h 3 = some (.inr (5, fs)))
    (hM : og_M E yX7_elements (.code yX7_elements cX7_elements 2 (some .long)) d [.ref 3, .int x1] n h mc1 ms1 Po1 Px1) (hv : ∀ v n1 h1, Po1 v n1 h1 → (∃ r : Int64, v = some (.long r)) ∧ ∃ f, h1 123 = some (row1 f)) (hx : ∀ En n1 h1, Px1 En n1 h1 → En = q_ia) :
    og_M E yL_elements (.codeWith yL_elements cL_elements 4 (some .int) [(0, 8, 11, 15)]) (d + 1) [.ref 3, .int x1, .ref 123] n h mc1 ms1 (fun v n1 h1 => (∃ (r : Int64) (h2 : og_H) (f : Nat → Int64), Po1 (some (.long r)) n1 h2 ∧ h2 123 = some (row1 f) ∧ h1 = og_set h2 123 (row1 (vp_updL f 0 r)) ∧ v = some (.int 0)) ∨ (Px1 q_ia n1 h1 ∧ v = some (.int 1))) no_x := by
  refine og_startH (lv := [some (.ref 3), some (.int x1), some (.ref 123), none]) (by decide) rfl rfl (Nat.le_of_ble_eq_true rfl) fun X hr hnm htb => ?_
  refine og_aload_n (pc := 0) dL_elements_0 rfl ?_
  refine og_iconst (pc := 1) (v := 0) dL_elements_1 (by decide) ?_
  refine og_aload_n (pc := 2) dL_elements_2 rfl ?_
  refine og_iload_n (pc := 3) dL_elements_3 rfl ?_
  refine og_callVC (pc := 4) (As := [.int x1]) (rest := [.int 0, .ref 123]) hM Y_X7_elements I_X7_elements V_X7_elements h3 (by omega) rfl rfl K_L_88 dL_elements_4 rfl rfl (Nat.le_of_ble_eq_true rfl) (by omega) (by omega) (by omega) (fun En n1 h1 hp => ?_) (fun v n1 h1 hp => ?_)
  · obtain rfl := hx En n1 h1 hp
    refine ⟨[], ⟨0, 8, 11, 15⟩, [], 3, 1, htb, fun z hz => absurd hz List.not_mem_nil, rfl, by decide, by decide, CL_L_15, Or.inr ⟨3, dL_elements_11, rfl, rfl⟩, by omega, fun j v hj hv => ?_, ?_⟩
    · obtain rfl : j = 2 := by omega
      cases hv <;> decide
    · refine og_iconst (pc := 12) (v := 1) dL_elements_12 (by decide) ?_
      exact og_iret (pc := 13) hr dL_elements_13 (by omega) (by omega) (Or.inr (⟨hp, rfl⟩))
  · obtain ⟨⟨r, rfl⟩, f, hf⟩ := hv v n1 h1 hp
    refine og_lastN (pc := 7) (j := 0) rfl dL_elements_7 hf (by omega) (by omega) (by first | decide | assumption | omega) ?_
    refine og_goto (pc := 8) (tgt := 14) dL_elements_8 (by decide) ?_
    refine og_iconst (pc := 14) (v := 0) dL_elements_14 (by decide) ?_
    exact og_iret (pc := 15) hr dL_elements_15 (by omega) (by omega) (Or.inl ⟨r, h1, f, hp, hf, rfl, rfl⟩)
set_option maxRecDepth 4000 in
theorem c_L_steps (E : og_E) (d n : Nat) (h : og_H) (x1 x2 : Int32) {mc1 ms1 : Nat} {Po1 : Option Value → Nat → og_H → Prop} {Px1 : String → Nat → og_H → Prop} {fs : List Value} (h3 : h 3 = some (.inr (5, fs)))
    (hM : og_M E yX7_steps (.code yX7_steps cX7_steps 3 (some .int)) d [.ref 3, .int x1, .int x2] n h mc1 ms1 Po1 Px1) (hv : ∀ v n1 h1, Po1 v n1 h1 → (∃ r : Int32, v = some (.int r)) ∧ ∃ f, h1 123 = some (row1 f)) (hx : ∀ En n1 h1, Px1 En n1 h1 → En = q_io ∨ En = q_ist) :
    og_M E yL_steps (.codeWith yL_steps cL_steps 5 (some .int) [(0, 10, 13, 13), (0, 10, 17, 52)]) (d + 1) [.ref 3, .int x1, .int x2, .ref 123] n h mc1 ms1 (fun v n1 h1 => (∃ (r : Int32) (h2 : og_H) (f : Nat → Int64), Po1 (some (.int r)) n1 h2 ∧ h2 123 = some (row1 f) ∧ h1 = og_set h2 123 (row1 (vp_updL f 0 r.toInt64)) ∧ v = some (.int 0)) ∨ (Px1 q_io n1 h1 ∧ v = some (.int 1)) ∨ (Px1 q_ist n1 h1 ∧ v = some (.int 2))) no_x := by
  refine og_startH (lv := [some (.ref 3), some (.int x1), some (.int x2), some (.ref 123), none]) (by decide) rfl rfl (Nat.le_of_ble_eq_true rfl) fun X hr hnm htb => ?_
  refine og_aload_n (pc := 0) dL_steps_0 rfl ?_
  refine og_iconst (pc := 1) (v := 0) dL_steps_1 (by decide) ?_
  refine og_aload_n (pc := 2) dL_steps_2 rfl ?_
  refine og_iload_n (pc := 3) dL_steps_3 rfl ?_
  refine og_iload_n (pc := 4) dL_steps_4 rfl ?_
  refine og_callVC (pc := 5) (As := [.int x1, .int x2]) (rest := [.int 0, .ref 123]) hM Y_X7_steps I_X7_steps V_X7_steps h3 (by omega) rfl rfl K_L_91 dL_steps_5 rfl rfl (Nat.le_of_ble_eq_true rfl) (by omega) (by omega) (by omega) (fun En n1 h1 hp => ?_) (fun v n1 h1 hp => ?_)
  · rcases hx En n1 h1 hp with rfl | rfl
    · refine ⟨[], ⟨0, 10, 13, 13⟩, [⟨0, 10, 17, 52⟩], 4, 2, htb, fun z hz => absurd hz List.not_mem_nil, rfl, by decide, by decide, CL_L_13, Or.inl ⟨dL_steps_13, rfl⟩, by omega, fun j v hj hv => ?_, ?_⟩
      · obtain rfl : j = 3 := by omega
        cases hv <;> decide
      · refine og_iconst (pc := 15) (v := 1) dL_steps_15 (by decide) ?_
        exact og_iret (pc := 16) hr dL_steps_16 (by omega) (by omega) (Or.inr (Or.inl ⟨hp, rfl⟩))
    · refine ⟨[⟨0, 10, 13, 13⟩], ⟨0, 10, 17, 52⟩, [], 4, 2, htb, fun z hz => Or.inr ?_, rfl, by decide, by decide, CL_L_52, Or.inl ⟨dL_steps_17, rfl⟩, by omega, fun j v hj hv => ?_, ?_⟩
      · simp only [List.mem_cons, List.not_mem_nil, or_false] at hz
        subst hz
        exact ⟨by decide, "java/lang/IndexOutOfBoundsException", CL_L_13, by decide, by decide⟩
      · obtain rfl : j = 3 := by omega
        cases hv <;> decide
      · refine og_iconst (pc := 19) (v := 2) dL_steps_19 (by decide) ?_
        exact og_iret (pc := 20) hr dL_steps_20 (by omega) (by omega) (Or.inr (Or.inr (⟨hp, rfl⟩)))
  · obtain ⟨⟨r, rfl⟩, f, hf⟩ := hv v n1 h1 hp
    refine og_i2l (pc := 8) dL_steps_8 rfl ?_
    refine og_lastN (pc := 9) (j := 0) rfl dL_steps_9 hf (by omega) (by omega) (by first | decide | assumption | omega) ?_
    refine og_goto (pc := 10) (tgt := 21) dL_steps_10 (by decide) ?_
    refine og_iconst (pc := 21) (v := 0) dL_steps_21 (by decide) ?_
    exact og_iret (pc := 22) hr dL_steps_22 (by omega) (by omega) (Or.inl ⟨r, h1, f, hp, hf, rfl, rfl⟩)
set_option maxRecDepth 4000 in
theorem c_L_lastNorm (E : og_E) (d n : Nat) (h : og_H) (x1 x2 : Int32) {mc1 ms1 : Nat} {Po1 : Option Value → Nat → og_H → Prop} {Px1 : String → Nat → og_H → Prop} {fs : List Value} (h3 : h 3 = some (.inr (5, fs)))
    (hM : og_M E yX7_lastNorm (.code yX7_lastNorm cX7_lastNorm 4 (some .long)) d [.ref 3, .int x1, .int x2] n h mc1 ms1 Po1 Px1) (hv : ∀ v n1 h1, Po1 v n1 h1 → (∃ r : Int64, v = some (.long r)) ∧ ∃ f, h1 123 = some (row1 f)) (hx : ∀ En n1 h1, Px1 En n1 h1 → En = q_io ∨ En = q_ist) :
    og_M E yL_lastNorm (.codeWith yL_lastNorm cL_lastNorm 5 (some .int) [(0, 9, 12, 13), (0, 9, 16, 52)]) (d + 1) [.ref 3, .int x1, .int x2, .ref 123] n h mc1 ms1 (fun v n1 h1 => (∃ (r : Int64) (h2 : og_H) (f : Nat → Int64), Po1 (some (.long r)) n1 h2 ∧ h2 123 = some (row1 f) ∧ h1 = og_set h2 123 (row1 (vp_updL f 0 r)) ∧ v = some (.int 0)) ∨ (Px1 q_io n1 h1 ∧ v = some (.int 1)) ∨ (Px1 q_ist n1 h1 ∧ v = some (.int 2))) no_x := by
  refine og_startH (lv := [some (.ref 3), some (.int x1), some (.int x2), some (.ref 123), none]) (by decide) rfl rfl (Nat.le_of_ble_eq_true rfl) fun X hr hnm htb => ?_
  refine og_aload_n (pc := 0) dL_lastNorm_0 rfl ?_
  refine og_iconst (pc := 1) (v := 0) dL_lastNorm_1 (by decide) ?_
  refine og_aload_n (pc := 2) dL_lastNorm_2 rfl ?_
  refine og_iload_n (pc := 3) dL_lastNorm_3 rfl ?_
  refine og_iload_n (pc := 4) dL_lastNorm_4 rfl ?_
  refine og_callVC (pc := 5) (As := [.int x1, .int x2]) (rest := [.int 0, .ref 123]) hM Y_X7_lastNorm I_X7_lastNorm V_X7_lastNorm h3 (by omega) rfl rfl K_L_94 dL_lastNorm_5 rfl rfl (Nat.le_of_ble_eq_true rfl) (by omega) (by omega) (by omega) (fun En n1 h1 hp => ?_) (fun v n1 h1 hp => ?_)
  · rcases hx En n1 h1 hp with rfl | rfl
    · refine ⟨[], ⟨0, 9, 12, 13⟩, [⟨0, 9, 16, 52⟩], 4, 2, htb, fun z hz => absurd hz List.not_mem_nil, rfl, by decide, by decide, CL_L_13, Or.inl ⟨dL_lastNorm_12, rfl⟩, by omega, fun j v hj hv => ?_, ?_⟩
      · obtain rfl : j = 3 := by omega
        cases hv <;> decide
      · refine og_iconst (pc := 14) (v := 1) dL_lastNorm_14 (by decide) ?_
        exact og_iret (pc := 15) hr dL_lastNorm_15 (by omega) (by omega) (Or.inr (Or.inl ⟨hp, rfl⟩))
    · refine ⟨[⟨0, 9, 12, 13⟩], ⟨0, 9, 16, 52⟩, [], 4, 2, htb, fun z hz => Or.inr ?_, rfl, by decide, by decide, CL_L_52, Or.inl ⟨dL_lastNorm_16, rfl⟩, by omega, fun j v hj hv => ?_, ?_⟩
      · simp only [List.mem_cons, List.not_mem_nil, or_false] at hz
        subst hz
        exact ⟨by decide, "java/lang/IndexOutOfBoundsException", CL_L_13, by decide, by decide⟩
      · obtain rfl : j = 3 := by omega
        cases hv <;> decide
      · refine og_iconst (pc := 18) (v := 2) dL_lastNorm_18 (by decide) ?_
        exact og_iret (pc := 19) hr dL_lastNorm_19 (by omega) (by omega) (Or.inr (Or.inr (⟨hp, rfl⟩)))
  · obtain ⟨⟨r, rfl⟩, f, hf⟩ := hv v n1 h1 hp
    refine og_lastN (pc := 8) (j := 0) rfl dL_lastNorm_8 hf (by omega) (by omega) (by first | decide | assumption | omega) ?_
    refine og_goto (pc := 9) (tgt := 20) dL_lastNorm_9 (by decide) ?_
    refine og_iconst (pc := 20) (v := 0) dL_lastNorm_20 (by decide) ?_
    exact og_iret (pc := 21) hr dL_lastNorm_21 (by omega) (by omega) (Or.inl ⟨r, h1, f, hp, hf, rfl, rfl⟩)
set_option maxRecDepth 4000 in
theorem c_L_commuting (E : og_E) (d n : Nat) (h : og_H) (x1 : Int32) {mc1 ms1 : Nat} {Po1 : Option Value → Nat → og_H → Prop} {Px1 : String → Nat → og_H → Prop} {fs : List Value} (h3 : h 3 = some (.inr (5, fs)))
    (hM : og_M E yX7_commuting (.code yX7_commuting cX7_commuting 6 (some .int)) d [.ref 3, .int x1] n h mc1 ms1 Po1 Px1) (hv : ∀ v n1 h1, Po1 v n1 h1 → (∃ r : Int32, v = some (.int r)) ∧ ∃ f, h1 123 = some (row1 f)) (hx : ∀ En n1 h1, Px1 En n1 h1 → En = q_io) :
    og_M E yL_commuting (.codeWith yL_commuting cL_commuting 4 (some .int) [(0, 9, 12, 13)]) (d + 1) [.ref 3, .int x1, .ref 123] n h mc1 ms1 (fun v n1 h1 => (∃ (r : Int32) (h2 : og_H) (f : Nat → Int64), Po1 (some (.int r)) n1 h2 ∧ h2 123 = some (row1 f) ∧ h1 = og_set h2 123 (row1 (vp_updL f 0 r.toInt64)) ∧ v = some (.int 0)) ∨ (Px1 q_io n1 h1 ∧ v = some (.int 1))) no_x := by
  refine og_startH (lv := [some (.ref 3), some (.int x1), some (.ref 123), none]) (by decide) rfl rfl (Nat.le_of_ble_eq_true rfl) fun X hr hnm htb => ?_
  refine og_aload_n (pc := 0) dL_commuting_0 rfl ?_
  refine og_iconst (pc := 1) (v := 0) dL_commuting_1 (by decide) ?_
  refine og_aload_n (pc := 2) dL_commuting_2 rfl ?_
  refine og_iload_n (pc := 3) dL_commuting_3 rfl ?_
  refine og_callVC (pc := 4) (As := [.int x1]) (rest := [.int 0, .ref 123]) hM Y_X7_commuting I_X7_commuting V_X7_commuting h3 (by omega) rfl rfl K_L_97 dL_commuting_4 rfl rfl (Nat.le_of_ble_eq_true rfl) (by omega) (by omega) (by omega) (fun En n1 h1 hp => ?_) (fun v n1 h1 hp => ?_)
  · obtain rfl := hx En n1 h1 hp
    refine ⟨[], ⟨0, 9, 12, 13⟩, [], 3, 1, htb, fun z hz => absurd hz List.not_mem_nil, rfl, by decide, by decide, CL_L_13, Or.inr ⟨3, dL_commuting_12, rfl, rfl⟩, by omega, fun j v hj hv => ?_, ?_⟩
    · obtain rfl : j = 2 := by omega
      cases hv <;> decide
    · refine og_iconst (pc := 13) (v := 1) dL_commuting_13 (by decide) ?_
      exact og_iret (pc := 14) hr dL_commuting_14 (by omega) (by omega) (Or.inr (⟨hp, rfl⟩))
  · obtain ⟨⟨r, rfl⟩, f, hf⟩ := hv v n1 h1 hp
    refine og_i2l (pc := 7) dL_commuting_7 rfl ?_
    refine og_lastN (pc := 8) (j := 0) rfl dL_commuting_8 hf (by omega) (by omega) (by first | decide | assumption | omega) ?_
    refine og_goto (pc := 9) (tgt := 15) dL_commuting_9 (by decide) ?_
    refine og_iconst (pc := 15) (v := 0) dL_commuting_15 (by decide) ?_
    exact og_iret (pc := 16) hr dL_commuting_16 (by omega) (by omega) (Or.inl ⟨r, h1, f, hp, hf, rfl, rfl⟩)
set_option maxRecDepth 4000 in
theorem c_L_append (E : og_E) (d n : Nat) (h : og_H) (x1 : Int32) {mc1 ms1 : Nat} {Po1 : Option Value → Nat → og_H → Prop} {Px1 : String → Nat → og_H → Prop} {fs : List Value} (h3 : h 3 = some (.inr (5, fs)))
    (hM : og_M E yX7_append (.code yX7_append cX7_append 2 (some .int)) d [.ref 3, .int x1] n h mc1 ms1 Po1 Px1) (hv : ∀ v n1 h1, Po1 v n1 h1 → (∃ r : Int32, v = some (.int r)) ∧ ∃ f, h1 123 = some (row1 f)) (hx : ∀ En n1 h1, Px1 En n1 h1 → En = q_ia ∨ En = q_ist) :
    og_M E yL_append (.codeWith yL_append cL_append 4 (some .int) [(0, 9, 12, 15), (0, 9, 15, 52)]) (d + 1) [.ref 3, .int x1, .ref 123] n h mc1 ms1 (fun v n1 h1 => (∃ (r : Int32) (h2 : og_H) (f : Nat → Int64), Po1 (some (.int r)) n1 h2 ∧ h2 123 = some (row1 f) ∧ h1 = og_set h2 123 (row1 (vp_updL f 0 r.toInt64)) ∧ v = some (.int 0)) ∨ (Px1 q_ia n1 h1 ∧ v = some (.int 1)) ∨ (Px1 q_ist n1 h1 ∧ v = some (.int 2))) no_x := by
  refine og_startH (lv := [some (.ref 3), some (.int x1), some (.ref 123), none]) (by decide) rfl rfl (Nat.le_of_ble_eq_true rfl) fun X hr hnm htb => ?_
  refine og_aload_n (pc := 0) dL_append_0 rfl ?_
  refine og_iconst (pc := 1) (v := 0) dL_append_1 (by decide) ?_
  refine og_aload_n (pc := 2) dL_append_2 rfl ?_
  refine og_iload_n (pc := 3) dL_append_3 rfl ?_
  refine og_callVC (pc := 4) (As := [.int x1]) (rest := [.int 0, .ref 123]) hM Y_X7_append I_X7_append V_X7_append h3 (by omega) rfl rfl K_L_100 dL_append_4 rfl rfl (Nat.le_of_ble_eq_true rfl) (by omega) (by omega) (by omega) (fun En n1 h1 hp => ?_) (fun v n1 h1 hp => ?_)
  · rcases hx En n1 h1 hp with rfl | rfl
    · refine ⟨[], ⟨0, 9, 12, 15⟩, [⟨0, 9, 15, 52⟩], 3, 1, htb, fun z hz => absurd hz List.not_mem_nil, rfl, by decide, by decide, CL_L_15, Or.inr ⟨3, dL_append_12, rfl, rfl⟩, by omega, fun j v hj hv => ?_, ?_⟩
      · obtain rfl : j = 2 := by omega
        cases hv <;> decide
      · refine og_iconst (pc := 13) (v := 1) dL_append_13 (by decide) ?_
        exact og_iret (pc := 14) hr dL_append_14 (by omega) (by omega) (Or.inr (Or.inl ⟨hp, rfl⟩))
    · refine ⟨[⟨0, 9, 12, 15⟩], ⟨0, 9, 15, 52⟩, [], 3, 1, htb, fun z hz => Or.inr ?_, rfl, by decide, by decide, CL_L_52, Or.inr ⟨3, dL_append_15, rfl, rfl⟩, by omega, fun j v hj hv => ?_, ?_⟩
      · simp only [List.mem_cons, List.not_mem_nil, or_false] at hz
        subst hz
        exact ⟨by decide, "java/lang/IllegalArgumentException", CL_L_15, by decide, by decide⟩
      · obtain rfl : j = 2 := by omega
        cases hv <;> decide
      · refine og_iconst (pc := 16) (v := 2) dL_append_16 (by decide) ?_
        exact og_iret (pc := 17) hr dL_append_17 (by omega) (by omega) (Or.inr (Or.inr (⟨hp, rfl⟩)))
  · obtain ⟨⟨r, rfl⟩, f, hf⟩ := hv v n1 h1 hp
    refine og_i2l (pc := 7) dL_append_7 rfl ?_
    refine og_lastN (pc := 8) (j := 0) rfl dL_append_8 hf (by omega) (by omega) (by first | decide | assumption | omega) ?_
    refine og_goto (pc := 9) (tgt := 18) dL_append_9 (by decide) ?_
    refine og_iconst (pc := 18) (v := 0) dL_append_18 (by decide) ?_
    exact og_iret (pc := 19) hr dL_append_19 (by omega) (by omega) (Or.inl ⟨r, h1, f, hp, hf, rfl, rfl⟩)
set_option maxRecDepth 4000 in
theorem c_L_undo (E : og_E) (d n : Nat) (h : og_H) {mc1 ms1 : Nat} {Po1 : Option Value → Nat → og_H → Prop} {Px1 : String → Nat → og_H → Prop} {fs : List Value} (h3 : h 3 = some (.inr (5, fs)))
    (hM : og_M E yX7_undo (.code yX7_undo cX7_undo 1 (some .int)) d [.ref 3] n h mc1 ms1 Po1 Px1) (hv : ∀ v n1 h1, Po1 v n1 h1 → (∃ r : Int32, v = some (.int r)) ∧ ∃ f, h1 123 = some (row1 f)) (hx : ∀ En n1 h1, Px1 En n1 h1 → En = q_ist) :
    og_M E yL_undo (.codeWith yL_undo cL_undo 3 (some .int) [(0, 8, 11, 52)]) (d + 1) [.ref 3, .ref 123] n h mc1 ms1 (fun v n1 h1 => (∃ (r : Int32) (h2 : og_H) (f : Nat → Int64), Po1 (some (.int r)) n1 h2 ∧ h2 123 = some (row1 f) ∧ h1 = og_set h2 123 (row1 (vp_updL f 0 r.toInt64)) ∧ v = some (.int 0)) ∨ (Px1 q_ist n1 h1 ∧ v = some (.int 1))) no_x := by
  refine og_startH (lv := [some (.ref 3), some (.ref 123), none]) (by decide) rfl rfl (Nat.le_of_ble_eq_true rfl) fun X hr hnm htb => ?_
  refine og_aload_n (pc := 0) dL_undo_0 rfl ?_
  refine og_iconst (pc := 1) (v := 0) dL_undo_1 (by decide) ?_
  refine og_aload_n (pc := 2) dL_undo_2 rfl ?_
  refine og_callVC (pc := 3) (As := []) (rest := [.int 0, .ref 123]) hM Y_X7_undo I_X7_undo V_X7_undo h3 (by omega) rfl rfl K_L_103 dL_undo_3 rfl rfl (Nat.le_of_ble_eq_true rfl) (by omega) (by omega) (by omega) (fun En n1 h1 hp => ?_) (fun v n1 h1 hp => ?_)
  · obtain rfl := hx En n1 h1 hp
    refine ⟨[], ⟨0, 8, 11, 52⟩, [], 2, 1, htb, fun z hz => absurd hz List.not_mem_nil, rfl, by decide, by decide, CL_L_52, Or.inr ⟨2, dL_undo_11, rfl, rfl⟩, by omega, fun j v hj hv => ?_, ?_⟩
    · obtain rfl : j = 1 := by omega
      cases hv <;> decide
    · refine og_iconst (pc := 12) (v := 1) dL_undo_12 (by decide) ?_
      exact og_iret (pc := 13) hr dL_undo_13 (by omega) (by omega) (Or.inr (⟨hp, rfl⟩))
  · obtain ⟨⟨r, rfl⟩, f, hf⟩ := hv v n1 h1 hp
    refine og_i2l (pc := 6) dL_undo_6 rfl ?_
    refine og_lastN (pc := 7) (j := 0) rfl dL_undo_7 hf (by omega) (by omega) (by first | decide | assumption | omega) ?_
    refine og_goto (pc := 8) (tgt := 14) dL_undo_8 (by decide) ?_
    refine og_iconst (pc := 14) (v := 0) dL_undo_14 (by decide) ?_
    exact og_iret (pc := 15) hr dL_undo_15 (by omega) (by omega) (Or.inl ⟨r, h1, f, hp, hf, rfl, rfl⟩)
