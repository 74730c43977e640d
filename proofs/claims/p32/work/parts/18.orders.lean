/-! ===== Orders; Units.count, code, spread, insert, read, numberOf ===== -/
def q_se : Nat → Nat
  | 1 => 23
  | 2 => 45
  | 3 => 89
  | 4 => 177
  | 5 => 99
  | 6 => 197
  | 7 => 139
  | _ => 0
def q_SE : og_N := .inl (1, 8, .inl (fun j => nI (q_se j)))
def q_df (s n : Int32) : Int32 := (s ^^^ (s >>> (n &&& 31))) &&& 1
def q_exch (s n : Int32) : Int32 := s ^^^ (q_df s n ||| (q_df s n <<< (n &&& 31)))
def q_os (o m : Nat) : Int32 := q_exch (if m < 8 then nI (q_se (m % 8)) else (255 : Int32) ^^^ nI (q_se (m % 8))) (nI o)
def q_sets (o : Nat) : Nat := if o = 0 then 1 else 16
def q_cnt (o : Nat) : Nat := if o = 0 then 16 else 240
set_option maxRecDepth 4000 in
theorem c_X2_sets (E : og_E) (d n o : Nat) (h : og_H) (hE : h 2 = some q_SE) (ho : o < 8) :
    og_M E yX2_sets (.code yX2_sets cX2_sets 1 (some .int)) d [.int (nI o)] n h 0 0 (fun v n1 h1 => v = some (.int (nI (q_sets o))) ∧ n1 = n ∧ h1 = h) no_x := by
  refine og_start (lv := [some (.int (nI o))]) (by decide) rfl rfl (Nat.le_of_ble_eq_true rfl) fun X hr hnm htb => ?_
  refine og_iload_n (pc := 0) dX2_sets_0 rfl ?_
  refine og_if_ne (pc := 1) (tgt := 8) dX2_sets_1 (by decide) (fun c_1 => ?_) (fun c_1 => ?_)
  · refine og_iconst (pc := 8) (v := 2) dX2_sets_8 (by decide) ?_
    refine og_gsS (pc := 9) SF_X2_7 dX2_sets_9 ?_
    refine og_slen (pc := 12) dX2_sets_12 (by repeat (first | exact og_set_eq _ _ _ | assumption | refine (og_set_ne _ _ (by first | assumption | omega)).trans ?_)) (by omega) ?_
    refine og_imul (pc := 13) dX2_sets_13 ?_
    have ho0 : o ≠ 0 := fun q => c_1 (by rw [q]; rfl)
    refine og_iret (pc := 14) hr dX2_sets_14 (by omega) (by omega) ⟨?_, rfl, rfl⟩
    rw [q_sets, if_neg ho0]
    rfl
  · refine og_iconst (pc := 4) (v := 1) dX2_sets_4 (by decide) ?_
    refine og_goto (pc := 5) (tgt := 14) dX2_sets_5 (by decide) ?_
    have ho0 : o = 0 := by
      rcases Nat.eq_zero_or_pos o with q | q
      · exact q
      · exact absurd c_1 (nI_ne0 q (by omega))
    refine og_iret (pc := 14) hr dX2_sets_14 (by omega) (by omega) ⟨?_, rfl, rfl⟩
    rw [q_sets, if_pos ho0]
    rfl
theorem c_X2_exchanged (E : og_E) (d n : Nat) (h : og_H) (s t : Int32) :
    og_M E yX2_exchanged (.code yX2_exchanged cX2_exchanged 3 (some .int)) d [.int s, .int t] n h 0 0 (fun v n1 h1 => v = some (.int (q_exch s t)) ∧ n1 = n ∧ h1 = h) no_x := by
  refine og_start (lv := [some (.int s), some (.int t), none]) (by decide) rfl rfl (Nat.le_of_ble_eq_true rfl) fun X hr hnm htb => ?_
  refine og_iload_n (pc := 0) dX2_exchanged_0 rfl ?_
  refine og_iload_n (pc := 1) dX2_exchanged_1 rfl ?_
  refine og_iload_n (pc := 2) dX2_exchanged_2 rfl ?_
  refine og_ishr (pc := 3) dX2_exchanged_3 ?_
  refine og_ixor (pc := 4) dX2_exchanged_4 ?_
  refine og_iconst (pc := 5) (v := 1) dX2_exchanged_5 (by decide) ?_
  refine og_iand (pc := 6) dX2_exchanged_6 ?_
  refine og_istore_n_2 (pc := 7) dX2_exchanged_7 rfl ?_
  refine og_iload_n (pc := 8) dX2_exchanged_8 rfl ?_
  refine og_iload_n (pc := 9) dX2_exchanged_9 rfl ?_
  refine og_iload_n (pc := 10) dX2_exchanged_10 rfl ?_
  refine og_iload_n (pc := 11) dX2_exchanged_11 rfl ?_
  refine og_ishl (pc := 12) dX2_exchanged_12 ?_
  refine og_ior (pc := 13) dX2_exchanged_13 ?_
  refine og_ixor (pc := 14) dX2_exchanged_14 ?_
  exact og_iret (pc := 15) hr dX2_exchanged_15 (by omega) (by omega) ⟨rfl, rfl, rfl⟩
set_option maxRecDepth 4000 in
theorem c_X2_oddSet (E : og_E) (d n o m : Nat) (h : og_H) (hE : h 2 = some q_SE) (ho : o < 8) (hm : m < 16) :
    og_M E yX2_oddSet (.code yX2_oddSet cX2_oddSet 3 (some .int)) (d + 1) [.int (nI o), .int (nI m)] n h 0 0 (fun v n1 h1 => v = some (.int (q_os o m)) ∧ n1 = n ∧ h1 = h) no_x := by
  refine og_start (lv := [some (.int (nI o)), some (.int (nI m)), none]) (by decide) rfl rfl (Nat.le_of_ble_eq_true rfl) fun X hr hnm htb => ?_
  have i1 : nI m &&& 7 = nI (m % 8) := pk_andN (by omega) 3 rfl
  refine og_gsS (pc := 0) SF_X2_7 dX2_oddSet_0 ?_
  refine og_iload_n (pc := 3) dX2_oddSet_3 rfl ?_
  refine og_bipush (pc := 4) (v := 7) dX2_oddSet_4 (by decide) ?_
  refine og_iand (pc := 6) dX2_oddSet_6 ?_
  refine og_saldN (pc := 7) i1 dX2_oddSet_7 (by repeat (first | exact og_set_eq _ _ _ | assumption | refine (og_set_ne _ _ (by first | assumption | omega)).trans ?_)) (by omega) (by omega) (by first | decide | assumption | omega) ?_
  refine og_istore_n_2 (pc := 8) dX2_oddSet_8 rfl ?_
  refine og_iload_n (pc := 9) dX2_oddSet_9 rfl ?_
  refine og_gsS (pc := 10) SF_X2_7 dX2_oddSet_10 ?_
  refine og_slen (pc := 13) dX2_oddSet_13 (by repeat (first | exact og_set_eq _ _ _ | assumption | refine (og_set_ne _ _ (by first | assumption | omega)).trans ?_)) (by omega) ?_
  refine og_geN (pc := 14) (tgt := 21) (i := m) (N := 8) dX2_oddSet_14 (by decide) rfl rfl (by omega) (by decide) (fun c_14 => ?_) (fun c_14 => ?_)
  · refine og_sipush (pc := 21) (v := 255) dX2_oddSet_21 (by decide) ?_
    refine og_iload_n (pc := 24) dX2_oddSet_24 rfl ?_
    refine og_ixor (pc := 25) dX2_oddSet_25 ?_
    refine og_iload_n (pc := 26) dX2_oddSet_26 rfl ?_
    refine og_callS (pc := 27) (As := [.int ((255 : Int32) ^^^ nI (q_se (m % 8))), .int (nI o)]) (rest := []) (c_X2_exchanged E d n h _ _) Y_X2_exchanged S_X2_exchanged K_X2_13 dX2_oddSet_27 rfl rfl (Nat.le_of_ble_eq_true rfl) (by omega) (by omega) (by omega) (fun _ _ _ z => z) (fun v n1 h1 z => ?_)
    obtain ⟨rfl, rfl, rfl⟩ := z
    refine og_iret (pc := 30) hr dX2_oddSet_30 (by omega) (by omega) ⟨?_, rfl, rfl⟩
    rw [q_os, if_neg (by omega)]
  · refine og_iload_n (pc := 17) dX2_oddSet_17 rfl ?_
    refine og_goto (pc := 18) (tgt := 26) dX2_oddSet_18 (by decide) ?_
    refine og_iload_n (pc := 26) dX2_oddSet_26 rfl ?_
    refine og_callS (pc := 27) (As := [.int (nI (q_se (m % 8))), .int (nI o)]) (rest := []) (c_X2_exchanged E d n h _ _) Y_X2_exchanged S_X2_exchanged K_X2_13 dX2_oddSet_27 rfl rfl (Nat.le_of_ble_eq_true rfl) (by omega) (by omega) (by omega) (fun _ _ _ z => z) (fun v n1 h1 z => ?_)
    obtain ⟨rfl, rfl, rfl⟩ := z
    refine og_iret (pc := 30) hr dX2_oddSet_30 (by omega) (by omega) ⟨?_, rfl, rfl⟩
    rw [q_os, if_pos (by omega)]
theorem q_sets_le (o : Nat) : q_sets o ≤ 16 := by unfold q_sets; split <;> omega
set_option maxRecDepth 4000 in
theorem c_X2_allows (E : og_E) (d n o : Nat) (odd : Int32) (h : og_H) (hE : h 2 = some q_SE) (ho : o < 8) :
    og_M E yX2_allows (.code yX2_allows cX2_allows 4 (some .boolean)) (d + 2) [.int (nI o), .int odd] n h 0 0 (fun v n1 h1 => n1 = n ∧ h1 = h ∧ ((v = some (.int 1) ∧ ∃ m, m < q_sets o ∧ q_os o m = odd) ∨ (v = some (.int 0) ∧ ∀ m, m < q_sets o → q_os o m ≠ odd))) no_x := by
  refine og_start (lv := [some (.int (nI o)), some (.int odd), none, none]) (by decide) rfl rfl (Nat.le_of_ble_eq_true rfl) fun X hr hnm htb => ?_
  have hs := q_sets_le o
  refine og_iload_n (pc := 0) dX2_allows_0 rfl ?_
  refine og_callS (pc := 1) (As := [.int (nI o)]) (rest := []) (c_X2_sets E d n o h hE ho) Y_X2_sets S_X2_sets K_X2_17 dX2_allows_1 rfl rfl (Nat.le_of_ble_eq_true rfl) (by omega) (by omega) (by omega) (fun _ _ _ z => z) (fun v n1 h1 z => ?_)
  obtain ⟨rfl, rfl, rfl⟩ := z
  refine og_istore_n_2 (pc := 4) dX2_allows_4 rfl ?_
  refine og_iconst (pc := 5) (v := 0) dX2_allows_5 (by decide) ?_
  refine og_istore_n_3 (pc := 6) dX2_allows_6 rfl ?_
  refine og_forP (i0 := 0) (N := q_sets o) (by omega) (fun _ => h1) (fun i => [some (.int (nI o)), some (.int odd), some (.int (nI (q_sets o))), some (.int (nI i))]) (fun i => ∀ m, m < i → q_os o m ≠ odd) (fun m hm => absurd hm (by omega)) (fun hP => ?_) (fun i hi1 hi hP ih => ?_)
  · refine og_iload_n (pc := 7) dX2_allows_7 rfl ?_
    refine og_iload_n (pc := 8) dX2_allows_8 rfl ?_
    refine og_geN (pc := 9) (tgt := 29) (i := q_sets o) (N := q_sets o) dX2_allows_9 (by decide) rfl rfl (by omega) (by omega) (fun c_9 => ?_) (fun c_9 => ?_)
    · refine og_iconst (pc := 29) (v := 0) dX2_allows_29 (by decide) ?_
      exact og_zret (pc := 30) hr rfl dX2_allows_30 (by omega) (by omega) ⟨rfl, rfl, Or.inr ⟨rfl, hP⟩⟩
    · omega
  · refine og_iload_n (pc := 7) dX2_allows_7 rfl ?_
    refine og_iload_n (pc := 8) dX2_allows_8 rfl ?_
    refine og_geN (pc := 9) (tgt := 29) (i := i) (N := q_sets o) dX2_allows_9 (by decide) rfl rfl (by omega) (by omega) (fun c_9 => ?_) (fun c_9 => ?_)
    · omega
    refine og_iload_n (pc := 12) dX2_allows_12 rfl ?_
    refine og_iload_n (pc := 13) dX2_allows_13 rfl ?_
    refine og_callS (pc := 14) (As := [.int (nI o), .int (nI i)]) (rest := []) (c_X2_oddSet E d n1 o i h1 hE ho (by omega)) Y_X2_oddSet S_X2_oddSet K_X2_21 dX2_allows_14 rfl rfl (Nat.le_of_ble_eq_true rfl) (by omega) (by omega) (by omega) (fun _ _ _ z => z) (fun v n1 h1 z => ?_)
    obtain ⟨rfl, rfl, rfl⟩ := z
    refine og_iload_n (pc := 17) dX2_allows_17 rfl ?_
    refine og_icmp_ne (pc := 18) (tgt := 23) dX2_allows_18 (by decide) (fun c_18 => ?_) (fun c_18 => ?_)
    · refine og_iinc_3 (pc := 23) dX2_allows_23 (og_inc i) rfl ?_
      refine og_goto (pc := 26) (tgt := 7) dX2_allows_26 (by decide) ?_
      refine ih (fun m hm => ?_)
      by_cases hmi : m = i
      · subst hmi
        exact c_18
      · exact hP m (by omega)
    · refine og_iconst (pc := 21) (v := 1) dX2_allows_21 (by decide) ?_
      exact og_zret (pc := 22) hr rfl dX2_allows_22 (by omega) (by omega) ⟨rfl, rfl, Or.inl ⟨rfl, i, hi, by first | exact c_18 | exact Decidable.not_not.mp c_18⟩⟩
def q_cube (i : Nat) : Int64 := lN i * lN i * lN i
def q_sum (o m : Nat) : Nat → Int64
  | 0 => 0
  | i + 1 => if m % (i + 1) = 0 then q_sum o m i + (if o = 0 ∧ (m + (i + 1)) % 2 ≠ 0 then -q_cube (i + 1) else q_cube (i + 1)) else q_sum o m i
def q_elems (o m : Nat) : Int64 := if m = 0 then 1 else (nI (q_cnt o)).toInt64 * q_sum o m m