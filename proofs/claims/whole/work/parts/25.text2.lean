/-! ===== Text.follow, syntaxError ===== -/
theorem q_fop_le {dp : Nat} {x : Int32} {q : Nat × Nat} (hd : dp ≤ 6) (h : q_fop dp x = some q) : q.1 ≤ 4 ∧ q.2 ≤ 6 := by
  unfold q_fop at h
  by_cases h1 : x = 40 ∧ dp < 6
  · rw [q_if_pos h1] at h
    cases h
    exact ⟨Nat.le_of_ble_eq_true rfl, by show dp + 1 ≤ 6; omega⟩
  · rw [q_if_neg h1] at h
    by_cases h2 : q_letter x
    · rw [q_if_pos h2] at h
      cases h
      exact ⟨Nat.le_of_ble_eq_true rfl, hd⟩
    · rw [q_if_neg h2] at h
      cases h
theorem q_ffa_le {dp : Nat} {x : Int32} {q : Nat × Nat} (hd : dp ≤ 6) (h : q_ffa dp x = some q) : q.1 ≤ 4 ∧ q.2 ≤ 6 := by
  unfold q_ffa at h
  by_cases h1 : x = 39
  · rw [q_if_pos h1] at h
    cases h
    exact ⟨Nat.le_of_ble_eq_true rfl, hd⟩
  · rw [q_if_neg h1] at h
    by_cases h2 : x = 42 ∨ x = 43 ∨ x = 45
    · rw [q_if_pos h2] at h
      cases h
      exact ⟨Nat.le_of_ble_eq_true rfl, hd⟩
    · rw [q_if_neg h2] at h
      by_cases h3 : x = 41 ∧ 0 < dp
      · rw [q_if_pos h3] at h
        cases h
        exact ⟨Nat.le_of_ble_eq_true rfl, by show dp - 1 ≤ 6; omega⟩
      · rw [q_if_neg h3] at h
        by_cases h4 : x = 59 ∧ dp = 0
        · rw [q_if_pos h4] at h
          cases h
          exact ⟨Nat.le_of_ble_eq_true rfl, hd⟩
        · rw [q_if_neg h4] at h
          cases h
theorem q_fol_le {st dp : Nat} {x : Int32} {q : Nat × Nat} (hd : dp ≤ 6) (h : q_fol st dp x = some q) : q.1 ≤ 4 ∧ q.2 ≤ 6 := by
  match st, h with
  | 0, h =>
    by_cases h1 : q_letter x
    · have h : q_if (q_letter x) (some (1, dp)) none = some q := h
      rw [q_if_pos h1] at h
      cases h
      exact ⟨Nat.le_of_ble_eq_true rfl, hd⟩
    · have h : q_if (q_letter x) (some (1, dp)) none = some q := h
      rw [q_if_neg h1] at h
      cases h
  | 1, h =>
    by_cases h1 : x = 61
    · have h : q_if (x = 61) (some (2, dp)) none = some q := h
      rw [q_if_pos h1] at h
      cases h
      exact ⟨Nat.le_of_ble_eq_true rfl, hd⟩
    · have h : q_if (x = 61) (some (2, dp)) none = some q := h
      rw [q_if_neg h1] at h
      cases h
  | 2, h =>
    by_cases h1 : q_digit x
    · have h : q_if (q_digit x) (some (3, dp)) (q_fop dp x) = some q := h
      rw [q_if_pos h1] at h
      cases h
      exact ⟨Nat.le_of_ble_eq_true rfl, hd⟩
    · have h : q_if (q_digit x) (some (3, dp)) (q_fop dp x) = some q := h
      rw [q_if_neg h1] at h
      exact q_fop_le hd h
  | 3, h => exact q_fop_le hd h
  | st + 4, h => exact q_ffa_le hd h
set_option maxRecDepth 4000 in
theorem c_X5_follow (E : og_E) (d n L dp st : Nat) (h : og_H) (x : Int32) (h70 : h 70 = some (og_tx L dp)) (hdp : dp ≤ 6) (hst : st ≤ 4) :
    og_M E yX5_follow (.code yX5_follow cX5_follow 3 (some .int)) (d + 2) [.ref 70, .int (nI st), .int x] n h 0 0 (fun v n1 h1 => v = some (.int (q_rs (q_fol st dp x))) ∧ n1 = n ∧ h1 = og_set h 70 (og_tx L (q_rd dp (q_fol st dp x)))) no_x := by
  refine og_start (lv := [some (.ref 70), some (.int (nI st)), some (.int x)]) (by decide) rfl rfl (Nat.le_of_ble_eq_true rfl) fun X hr hnm htb => ?_
  have opn : ∀ pc (hpc : pc = 68 ∨ pc = 74) , q_fol st dp x = q_fop dp x → og_G E yX5_follow.cls cX5_follow (d + 2) 0 0 3 X (og_Q E (fun v n1 h1 => v = some (.int (q_rs (q_fol st dp x))) ∧ n1 = n ∧ h1 = og_set h 70 (og_tx L (q_rd dp (q_fol st dp x)))) no_x 0 0 X) 0 0 n h pc [some (.ref 70), some (.int (nI st)), some (.int x)] [] := by
    intro pc hpc he
    rcases hpc with rfl | rfl
    · refine og_aload_n (pc := 68) dX5_follow_68 rfl ?_
      refine og_iload_n (pc := 69) dX5_follow_69 rfl ?_
      refine og_callV (pc := 70) (As := [.int x]) (rest := []) (c_X5_followOperand E d n L dp h x h70 hdp) Y_X5_followOperand I_X5_followOperand V_X5_followOperand (by repeat (first | exact og_set_eq _ _ _ | assumption | refine (og_set_ne _ _ (by first | assumption | omega)).trans ?_)) (by omega) rfl rfl K_X5_37 dX5_follow_70 rfl rfl (Nat.le_of_ble_eq_true rfl) (by omega) (by omega) (by omega) (fun _ _ _ z => z) (fun v n1 h1 z => ?_)
      obtain ⟨rfl, rfl, rfl⟩ := z
      exact og_iret (pc := 73) hr dX5_follow_73 (by omega) (by omega) ⟨by rw [he], rfl, by rw [he]⟩
    · refine og_aload_n (pc := 74) dX5_follow_74 rfl ?_
      refine og_iload_n (pc := 75) dX5_follow_75 rfl ?_
      refine og_callV (pc := 76) (As := [.int x]) (rest := []) (c_X5_followOperand E d n L dp h x h70 hdp) Y_X5_followOperand I_X5_followOperand V_X5_followOperand (by repeat (first | exact og_set_eq _ _ _ | assumption | refine (og_set_ne _ _ (by first | assumption | omega)).trans ?_)) (by omega) rfl rfl K_X5_37 dX5_follow_76 rfl rfl (Nat.le_of_ble_eq_true rfl) (by omega) (by omega) (by omega) (fun _ _ _ z => z) (fun v n1 h1 z => ?_)
      obtain ⟨rfl, rfl, rfl⟩ := z
      exact og_iret (pc := 79) hr dX5_follow_79 (by omega) (by omega) ⟨by rw [he], rfl, by rw [he]⟩
  refine og_iload_n (pc := 0) dX5_follow_0 rfl ?_
  match st, hst, opn with
  | 0, _, _ =>
    refine og_tableIn (pc := 1) (tgt := 32) (off := 31) dX5_follow_1 (by decide) (by decide) (by decide) (by decide) ?_
    refine og_iload_n (pc := 32) dX5_follow_32 rfl ?_
    refine og_callS (pc := 33) (As := [.int x]) (rest := []) (c_X5_isLetter E d n h x) Y_X5_isLetter S_X5_isLetter K_X5_30 dX5_follow_33 rfl rfl (Nat.le_of_ble_eq_true rfl) (by omega) (by omega) (by omega) (fun _ _ _ z => z) (fun v n2 h2 z => ?_)
    obtain ⟨rfl, rfl, z⟩ := z
    rcases z with ⟨rfl, z⟩ | ⟨rfl, z⟩
    · refine og_if_eq (pc := 36) (tgt := 43) dX5_follow_36 (by decide) (fun c => absurd c (by decide)) (fun _ => ?_)
      refine og_iconst (pc := 39) (v := 1) dX5_follow_39 (by decide) ?_
      refine og_goto (pc := 40) (tgt := 44) dX5_follow_40 (by decide) ?_
      have e : q_fol 0 dp x = some (1, dp) := q_if_pos z
      exact og_iret (pc := 44) hr dX5_follow_44 (by omega) (by omega) ⟨by rw [e]; rfl, rfl, by rw [e]; exact (og_set_same h70).symm⟩
    · refine og_if_eq (pc := 36) (tgt := 43) dX5_follow_36 (by decide) (fun _ => ?_) (fun c => absurd rfl c)
      refine og_iconst (pc := 43) (v := (-1)) dX5_follow_43 (by decide) ?_
      have e : q_fol 0 dp x = none := q_if_neg z
      exact og_iret (pc := 44) hr dX5_follow_44 (by omega) (by omega) ⟨by rw [e]; rfl, rfl, by rw [e]; exact (og_set_same h70).symm⟩
  | 1, _, _ =>
    refine og_tableIn (pc := 1) (tgt := 45) (off := 44) dX5_follow_1 (by decide) (by decide) (by decide) (by decide) ?_
    refine og_iload_n (pc := 45) dX5_follow_45 rfl ?_
    refine og_bipush (pc := 46) (v := 61) dX5_follow_46 (by decide) ?_
    refine og_icmp_ne (pc := 48) (tgt := 55) dX5_follow_48 (by decide) (fun c => ?_) (fun c => ?_)
    · refine og_iconst (pc := 55) (v := (-1)) dX5_follow_55 (by decide) ?_
      have e : q_fol 1 dp x = none := q_if_neg c
      exact og_iret (pc := 56) hr dX5_follow_56 (by omega) (by omega) ⟨by rw [e]; rfl, rfl, by rw [e]; exact (og_set_same h70).symm⟩
    · refine og_iconst (pc := 51) (v := 2) dX5_follow_51 (by decide) ?_
      refine og_goto (pc := 52) (tgt := 56) dX5_follow_52 (by decide) ?_
      have e : q_fol 1 dp x = some (2, dp) := q_if_pos c
      exact og_iret (pc := 56) hr dX5_follow_56 (by omega) (by omega) ⟨by rw [e]; rfl, rfl, by rw [e]; exact (og_set_same h70).symm⟩
  | 2, _, opn =>
    refine og_tableIn (pc := 1) (tgt := 57) (off := 56) dX5_follow_1 (by decide) (by decide) (by decide) (by decide) ?_
    refine og_iload_n (pc := 57) dX5_follow_57 rfl ?_
    refine og_callS (pc := 58) (As := [.int x]) (rest := []) (c_X5_isDigit E d n h x) Y_X5_isDigit S_X5_isDigit K_X5_34 dX5_follow_58 rfl rfl (Nat.le_of_ble_eq_true rfl) (by omega) (by omega) (by omega) (fun _ _ _ z => z) (fun v n2 h2 z => ?_)
    obtain ⟨rfl, rfl, z⟩ := z
    rcases z with ⟨rfl, z⟩ | ⟨rfl, z⟩
    · refine og_if_eq (pc := 61) (tgt := 68) dX5_follow_61 (by decide) (fun c => absurd c (by decide)) (fun _ => ?_)
      refine og_iconst (pc := 64) (v := 3) dX5_follow_64 (by decide) ?_
      refine og_goto (pc := 65) (tgt := 73) dX5_follow_65 (by decide) ?_
      have e : q_fol 2 dp x = some (3, dp) := q_if_pos z
      exact og_iret (pc := 73) hr dX5_follow_73 (by omega) (by omega) ⟨by rw [e]; rfl, rfl, by rw [e]; exact (og_set_same h70).symm⟩
    · refine og_if_eq (pc := 61) (tgt := 68) dX5_follow_61 (by decide) (fun _ => opn 68 (Or.inl rfl) (q_if_neg z)) (fun c => absurd rfl c)
  | 3, _, opn =>
    refine og_tableIn (pc := 1) (tgt := 74) (off := 73) dX5_follow_1 (by decide) (by decide) (by decide) (by decide) ?_
    exact opn 74 (Or.inr rfl) rfl
  | 4, _, _ =>
    refine og_tableOut (pc := 1) (tgt := 80) dX5_follow_1 (by decide) (by decide) ?_
    refine og_aload_n (pc := 80) dX5_follow_80 rfl ?_
    refine og_iload_n (pc := 81) dX5_follow_81 rfl ?_
    refine og_callV (pc := 82) (As := [.int x]) (rest := []) (c_X5_followFactor E d n L dp h x h70 hdp) Y_X5_followFactor I_X5_followFactor V_X5_followFactor (by repeat (first | exact og_set_eq _ _ _ | assumption | refine (og_set_ne _ _ (by first | assumption | omega)).trans ?_)) (by omega) rfl rfl K_X5_40 dX5_follow_82 rfl rfl (Nat.le_of_ble_eq_true rfl) (by omega) (by omega) (by omega) (fun _ _ _ z => z) (fun v n1 h1 z => ?_)
    obtain ⟨rfl, rfl, rfl⟩ := z
    exact og_iret (pc := 85) hr dX5_follow_85 (by omega) (by omega) ⟨rfl, rfl, rfl⟩
noncomputable def q_syn (bf : Nat → Int32) : Nat → Option (Nat × Nat)
  | 0 => some (0, 0)
  | i + 1 => match q_syn bf i with
    | none => none
    | some q => q_fol q.1 q.2 (bf i)
set_option maxRecDepth 4000 in
theorem c_X5_syntaxError (E : og_E) (d n L dp0 : Nat) (h : og_H) (bf : Nat → Int32) (h70 : h 70 = some (og_tx L dp0)) (h71 : h 71 = some (rowB bf)) (hL : L ≤ 100) :
    og_M E yX5_syntaxError (.code yX5_syntaxError cX5_syntaxError 3 (some .int)) (d + 3) [.ref 70] n h 0 0 (fun v n1 h1 => n1 = n ∧ (∃ dp, dp ≤ 6 ∧ h1 = og_set h 70 (og_tx L dp)) ∧ ((∃ i, i < L ∧ (∃ q, q_syn bf i = some q) ∧ q_syn bf (i + 1) = none ∧ v = some (.int (nI i))) ∨ (∃ dp, q_syn bf L = some (0, dp) ∧ v = some (.int (-1))) ∨ (∃ s dp, s ≠ 0 ∧ q_syn bf L = some (s, dp) ∧ v = some (.int (nI L))))) no_x := by
  refine og_start (lv := [some (.ref 70), none, none]) (by decide) rfl rfl (Nat.le_of_ble_eq_true rfl) fun X hr hnm htb => ?_
  refine og_iconst (pc := 0) (v := 0) dX5_syntaxError_0 (by decide) ?_
  refine og_istore_n_1 (pc := 1) dX5_syntaxError_1 rfl ?_
  refine og_aload_n (pc := 2) dX5_syntaxError_2 rfl ?_
  refine og_iconst (pc := 3) (v := 0) dX5_syntaxError_3 (by decide) ?_
  refine og_put (pc := 4) P_X5_19 dX5_syntaxError_4 (by repeat (first | exact og_set_eq _ _ _ | assumption | refine (og_set_ne _ _ (by first | assumption | omega)).trans ?_)) (by omega) rfl rfl (Nat.le_of_ble_eq_true rfl) ?_
  refine og_iconst (pc := 7) (v := 0) dX5_syntaxError_7 (by decide) ?_
  refine og_istore_n_2 (pc := 8) dX5_syntaxError_8 rfl ?_
  have loop : ∀ k i : Nat, i + k = L → ∀ s dp, q_syn bf i = some (s, dp) → s ≤ 4 → dp ≤ 6 → og_G E yX5_syntaxError.cls cX5_syntaxError (d + 3) 0 0 3 X (og_Q E (fun v n1 h1 => n1 = n ∧ (∃ dp, dp ≤ 6 ∧ h1 = og_set h 70 (og_tx L dp)) ∧ ((∃ i, i < L ∧ (∃ q, q_syn bf i = some q) ∧ q_syn bf (i + 1) = none ∧ v = some (.int (nI i))) ∨ (∃ dp, q_syn bf L = some (0, dp) ∧ v = some (.int (-1))) ∨ (∃ s dp, s ≠ 0 ∧ q_syn bf L = some (s, dp) ∧ v = some (.int (nI L))))) no_x 0 0 X) 0 0 n (og_set h 70 (og_tx L dp)) 9 [some (.ref 70), some (.int (nI s)), some (.int (nI i))] [] := by
    intro k
    induction k with
    | zero =>
      intro i hi s dp hq hs hdp
      have hiL : i = L := by omega
      subst hiL
      refine og_iload_n (pc := 9) dX5_syntaxError_9 rfl ?_
      refine og_aload_n (pc := 10) dX5_syntaxError_10 rfl ?_
      refine og_get (pc := 11) F_X5_15 dX5_syntaxError_11 (by repeat (first | exact og_set_eq _ _ _ | assumption | refine (og_set_ne _ _ (by first | assumption | omega)).trans ?_)) (by omega) rfl ?_
      refine og_geN (pc := 14) (tgt := 41) (i := i) (N := i) dX5_syntaxError_14 (by decide) rfl rfl (by omega) (by omega) (fun c_14 => ?_) (fun c_14 => ?_)
      · refine og_iload_n (pc := 41) dX5_syntaxError_41 rfl ?_
        refine og_if_ne (pc := 42) (tgt := 49) dX5_syntaxError_42 (by decide) (fun c => ?_) (fun c => ?_)
        · refine og_aload_n (pc := 49) dX5_syntaxError_49 rfl ?_
          refine og_get (pc := 50) F_X5_15 dX5_syntaxError_50 (by repeat (first | exact og_set_eq _ _ _ | assumption | refine (og_set_ne _ _ (by first | assumption | omega)).trans ?_)) (by omega) rfl ?_
          exact og_iret (pc := 53) hr dX5_syntaxError_53 (by omega) (by omega) ⟨rfl, ⟨dp, hdp, rfl⟩, Or.inr (Or.inr ⟨s, dp, fun q => c (by rw [q]; rfl), hq, rfl⟩)⟩
        · have s0 : s = 0 := by
            rcases Nat.eq_zero_or_pos s with q | q
            · exact q
            · exact absurd c (nI_ne0 q (by omega))
          subst s0
          refine og_iconst (pc := 45) (v := (-1)) dX5_syntaxError_45 (by decide) ?_
          refine og_goto (pc := 46) (tgt := 53) dX5_syntaxError_46 (by decide) ?_
          exact og_iret (pc := 53) hr dX5_syntaxError_53 (by omega) (by omega) ⟨rfl, ⟨dp, hdp, rfl⟩, Or.inr (Or.inl ⟨dp, hq, rfl⟩)⟩
      · omega
    | succ k ih =>
      intro i hi s dp hq hs hdp
      have e70 : og_set h 70 (og_tx L dp) 70 = some (og_tx L dp) := og_set_eq _ _ _
      have e71 : og_set h 70 (og_tx L dp) 71 = some (rowB bf) := (og_set_ne _ _ (by omega)).trans h71
      refine og_iload_n (pc := 9) dX5_syntaxError_9 rfl ?_
      refine og_aload_n (pc := 10) dX5_syntaxError_10 rfl ?_
      refine og_get (pc := 11) F_X5_15 dX5_syntaxError_11 (by repeat (first | exact og_set_eq _ _ _ | assumption | refine (og_set_ne _ _ (by first | assumption | omega)).trans ?_)) (by omega) rfl ?_
      refine og_geN (pc := 14) (tgt := 41) (i := i) (N := L) dX5_syntaxError_14 (by decide) rfl rfl (by omega) (by omega) (fun c_14 => ?_) (fun c_14 => ?_)
      · omega
      refine og_aload_n (pc := 17) dX5_syntaxError_17 rfl ?_
      refine og_iload_n (pc := 18) dX5_syntaxError_18 rfl ?_
      refine og_aload_n (pc := 19) dX5_syntaxError_19 rfl ?_
      refine og_iload_n (pc := 20) dX5_syntaxError_20 rfl ?_
      refine og_callV (pc := 21) (As := [.int (nI i)]) (rest := [.int (nI s), .ref 70]) (c_X5_at E d n L dp i _ bf e70 e71 hL (by omega)) Y_X5_at I_X5_at V_X5_at e70 (by omega) rfl rfl K_X5_22 dX5_syntaxError_21 rfl rfl (Nat.le_of_ble_eq_true rfl) (by omega) (by omega) (by omega) (fun _ _ _ z => z) (fun v n2 h2 z => ?_)
      obtain ⟨rfl, rfl, rfl⟩ := z
      have ex : q_at bf L i = bf i := if_pos (by omega)
      rw [ex]
      refine og_callV (pc := 24) (As := [.int (nI s), .int (bf i)]) (rest := []) (c_X5_follow E d n2 L dp s _ (bf i) e70 hdp hs) Y_X5_follow I_X5_follow V_X5_follow e70 (by omega) rfl rfl K_X5_26 dX5_syntaxError_24 rfl rfl (Nat.le_of_ble_eq_true rfl) (by omega) (by omega) (by omega) (fun _ _ _ z => z) (fun v n3 h3 z => ?_)
      obtain ⟨rfl, rfl, rfl⟩ := z
      rw [og_set_set]
      have hstep : q_syn bf (i + 1) = q_fol s dp (bf i) := by
        show (match q_syn bf i with | none => none | some q => q_fol q.1 q.2 (bf i)) = _
        rw [hq]
      refine og_istore_n_1 (pc := 27) dX5_syntaxError_27 rfl ?_
      refine og_iload_n (pc := 28) dX5_syntaxError_28 rfl ?_
      refine og_iconst (pc := 29) (v := (-1)) dX5_syntaxError_29 (by decide) ?_
      cases hf : q_fol s dp (bf i) with
      | none =>
        refine og_icmp_ne (pc := 30) (tgt := 35) dX5_syntaxError_30 (by decide) (fun c => absurd rfl c) (fun c => ?_)
        refine og_iload_n (pc := 33) dX5_syntaxError_33 rfl ?_
        exact og_iret (pc := 34) hr dX5_syntaxError_34 (by omega) (by omega) ⟨rfl, ⟨dp, hdp, rfl⟩, Or.inl ⟨i, by omega, ⟨_, hq⟩, by rw [hstep, hf], rfl⟩⟩
      | some q =>
        obtain ⟨s2, dp2⟩ := q
        obtain ⟨b1, b2⟩ := q_fol_le hdp hf
        have nm1 : ¬ nI s2 = -1 := by
          have b1 : s2 ≤ 4 := b1
          match s2, b1 with
          | 0, _ => decide
          | 1, _ => decide
          | 2, _ => decide
          | 3, _ => decide
          | 4, _ => decide
        refine og_icmp_ne (pc := 30) (tgt := 35) dX5_syntaxError_30 (by decide) (fun c => ?_) (fun c => absurd c nm1)
        refine og_iinc_2 (pc := 35) dX5_syntaxError_35 (og_inc i) rfl ?_
        refine og_goto (pc := 38) (tgt := 9) dX5_syntaxError_38 (by decide) ?_
        exact ih (i + 1) (by omega) s2 dp2 (by rw [hstep, hf]) b1 b2
  exact loop L 0 (by omega) 0 0 rfl (by omega) (by omega)
