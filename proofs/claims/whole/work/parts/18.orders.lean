/-! ===== Orders; Units.count, code, spread, insert, read, numberOf ===== -/
def q_se : Nat → Nat
  | 1 => 23
  | 2 => 45
  | 3 => 89
  | 4 => 177
  | 5 => 99
  | 6 => 197
  | 7 => 139
  | _ => 0
def q_SE : og_N := .inl (1, 8, .inl (fun j => nI (q_se j)))
def q_df (s n : Int32) : Int32 := (s ^^^ (s >>> (n &&& 31))) &&& 1
def q_exch (s n : Int32) : Int32 := s ^^^ (q_df s n ||| (q_df s n <<< (n &&& 31)))
def q_os (o m : Nat) : Int32 := q_exch (if m < 8 then nI (q_se (m % 8)) else (255 : Int32) ^^^ nI (q_se (m % 8))) (nI o)
def q_sets (o : Nat) : Nat := if o = 0 then 1 else 16
def q_cnt (o : Nat) : Nat := if o = 0 then 16 else 240
set_option maxRecDepth 4000 in
theorem c_X2_sets (E : og_E) (d n o : Nat) (h : og_H) (hE : h 2 = some q_SE) (ho : o < 8) :
    og_M E yX2_sets (.code yX2_sets cX2_sets 1 (some .int)) d [.int (nI o)] n h 0 0 (fun v n1 h1 => v = some (.int (nI (q_sets o))) ∧ n1 = n ∧ h1 = h) no_x := by
  refine og_start (lv := [some (.int (nI o))]) (by decide) rfl rfl (Nat.le_of_ble_eq_true rfl) fun X hr hnm htb => ?_
  refine og_iload_n (pc := 0) dX2_sets_0 rfl ?_
  refine og_if_ne (pc := 1) (tgt := 8) dX2_sets_1 (by decide) (fun c_1 => ?_) (fun c_1 => ?_)
  · refine og_iconst (pc := 8) (v := 2) dX2_sets_8 (by decide) ?_
    refine og_gsS (pc := 9) SF_X2_7 dX2_sets_9 ?_
    refine og_slen (pc := 12) dX2_sets_12 (by repeat (first | exact og_set_eq _ _ _ | assumption | refine (og_set_ne _ _ (by first | assumption | omega)).trans ?_)) (by omega) ?_
    refine og_imul (pc := 13) dX2_sets_13 ?_
    have ho0 : o ≠ 0 := fun q => c_1 (by rw [q]; rfl)
    refine og_iret (pc := 14) hr dX2_sets_14 (by omega) (by omega) ⟨?_, rfl, rfl⟩
    rw [q_sets, if_neg ho0]
    rfl
  · refine og_iconst (pc := 4) (v := 1) dX2_sets_4 (by decide) ?_
    refine og_goto (pc := 5) (tgt := 14) dX2_sets_5 (by decide) ?_
    have ho0 : o = 0 := by
      rcases Nat.eq_zero_or_pos o with q | q
      · exact q
      · exact absurd c_1 (nI_ne0 q (by omega))
    refine og_iret (pc := 14) hr dX2_sets_14 (by omega) (by omega) ⟨?_, rfl, rfl⟩
    rw [q_sets, if_pos ho0]
    rfl
theorem c_X2_exchanged (E : og_E) (d n : Nat) (h : og_H) (s t : Int32) :
    og_M E yX2_exchanged (.code yX2_exchanged cX2_exchanged 3 (some .int)) d [.int s, .int t] n h 0 0 (fun v n1 h1 => v = some (.int (q_exch s t)) ∧ n1 = n ∧ h1 = h) no_x := by
  refine og_start (lv := [some (.int s), some (.int t), none]) (by decide) rfl rfl (Nat.le_of_ble_eq_true rfl) fun X hr hnm htb => ?_
  refine og_iload_n (pc := 0) dX2_exchanged_0 rfl ?_
  refine og_iload_n (pc := 1) dX2_exchanged_1 rfl ?_
  refine og_iload_n (pc := 2) dX2_exchanged_2 rfl ?_
  refine og_ishr (pc := 3) dX2_exchanged_3 ?_
  refine og_ixor (pc := 4) dX2_exchanged_4 ?_
  refine og_iconst (pc := 5) (v := 1) dX2_exchanged_5 (by decide) ?_
  refine og_iand (pc := 6) dX2_exchanged_6 ?_
  refine og_istore_n_2 (pc := 7) dX2_exchanged_7 rfl ?_
  refine og_iload_n (pc := 8) dX2_exchanged_8 rfl ?_
  refine og_iload_n (pc := 9) dX2_exchanged_9 rfl ?_
  refine og_iload_n (pc := 10) dX2_exchanged_10 rfl ?_
  refine og_iload_n (pc := 11) dX2_exchanged_11 rfl ?_
  refine og_ishl (pc := 12) dX2_exchanged_12 ?_
  refine og_ior (pc := 13) dX2_exchanged_13 ?_
  refine og_ixor (pc := 14) dX2_exchanged_14 ?_
  exact og_iret (pc := 15) hr dX2_exchanged_15 (by omega) (by omega) ⟨rfl, rfl, rfl⟩
set_option maxRecDepth 4000 in
theorem c_X2_oddSet (E : og_E) (d n o m : Nat) (h : og_H) (hE : h 2 = some q_SE) (ho : o < 8) (hm : m < 16) :
    og_M E yX2_oddSet (.code yX2_oddSet cX2_oddSet 3 (some .int)) (d + 1) [.int (nI o), .int (nI m)] n h 0 0 (fun v n1 h1 => v = some (.int (q_os o m)) ∧ n1 = n ∧ h1 = h) no_x := by
  refine og_start (lv := [some (.int (nI o)), some (.int (nI m)), none]) (by decide) rfl rfl (Nat.le_of_ble_eq_true rfl) fun X hr hnm htb => ?_
  have i1 : nI m &&& 7 = nI (m % 8) := pk_andN (by omega) 3 rfl
  refine og_gsS (pc := 0) SF_X2_7 dX2_oddSet_0 ?_
  refine og_iload_n (pc := 3) dX2_oddSet_3 rfl ?_
  refine og_bipush (pc := 4) (v := 7) dX2_oddSet_4 (by decide) ?_
  refine og_iand (pc := 6) dX2_oddSet_6 ?_
  refine og_saldN (pc := 7) i1 dX2_oddSet_7 (by repeat (first | exact og_set_eq _ _ _ | assumption | refine (og_set_ne _ _ (by first | assumption | omega)).trans ?_)) (by omega) (by omega) (by first | decide | assumption | omega) ?_
  refine og_istore_n_2 (pc := 8) dX2_oddSet_8 rfl ?_
  refine og_iload_n (pc := 9) dX2_oddSet_9 rfl ?_
  refine og_gsS (pc := 10) SF_X2_7 dX2_oddSet_10 ?_
  refine og_slen (pc := 13) dX2_oddSet_13 (by repeat (first | exact og_set_eq _ _ _ | assumption | refine (og_set_ne _ _ (by first | assumption | omega)).trans ?_)) (by omega) ?_
  refine og_geN (pc := 14) (tgt := 21) (i := m) (N := 8) dX2_oddSet_14 (by decide) rfl rfl (by omega) (by decide) (fun c_14 => ?_) (fun c_14 => ?_)
  · refine og_sipush (pc := 21) (v := 255) dX2_oddSet_21 (by decide) ?_
    refine og_iload_n (pc := 24) dX2_oddSet_24 rfl ?_
    refine og_ixor (pc := 25) dX2_oddSet_25 ?_
    refine og_iload_n (pc := 26) dX2_oddSet_26 rfl ?_
    refine og_callS (pc := 27) (As := [.int ((255 : Int32) ^^^ nI (q_se (m % 8))), .int (nI o)]) (rest := []) (c_X2_exchanged E d n h _ _) Y_X2_exchanged S_X2_exchanged K_X2_13 dX2_oddSet_27 rfl rfl (Nat.le_of_ble_eq_true rfl) (by omega) (by omega) (by omega) (fun _ _ _ z => z) (fun v n1 h1 z => ?_)
    obtain ⟨rfl, rfl, rfl⟩ := z
    refine og_iret (pc := 30) hr dX2_oddSet_30 (by omega) (by omega) ⟨?_, rfl, rfl⟩
    rw [q_os, if_neg (by omega)]
  · refine og_iload_n (pc := 17) dX2_oddSet_17 rfl ?_
    refine og_goto (pc := 18) (tgt := 26) dX2_oddSet_18 (by decide) ?_
    refine og_iload_n (pc := 26) dX2_oddSet_26 rfl ?_
    refine og_callS (pc := 27) (As := [.int (nI (q_se (m % 8))), .int (nI o)]) (rest := []) (c_X2_exchanged E d n h _ _) Y_X2_exchanged S_X2_exchanged K_X2_13 dX2_oddSet_27 rfl rfl (Nat.le_of_ble_eq_true rfl) (by omega) (by omega) (by omega) (fun _ _ _ z => z) (fun v n1 h1 z => ?_)
    obtain ⟨rfl, rfl, rfl⟩ := z
    refine og_iret (pc := 30) hr dX2_oddSet_30 (by omega) (by omega) ⟨?_, rfl, rfl⟩
    rw [q_os, if_pos (by omega)]
theorem q_sets_le (o : Nat) : q_sets o ≤ 16 := by unfold q_sets; split <;> omega
set_option maxRecDepth 4000 in
theorem c_X2_allows (E : og_E) (d n o : Nat) (odd : Int32) (h : og_H) (hE : h 2 = some q_SE) (ho : o < 8) :
    og_M E yX2_allows (.code yX2_allows cX2_allows 4 (some .boolean)) (d + 2) [.int (nI o), .int odd] n h 0 0 (fun v n1 h1 => n1 = n ∧ h1 = h ∧ ((v = some (.int 1) ∧ ∃ m, m < q_sets o ∧ q_os o m = odd) ∨ (v = some (.int 0) ∧ ∀ m, m < q_sets o → q_os o m ≠ odd))) no_x := by
  refine og_start (lv := [some (.int (nI o)), some (.int odd), none, none]) (by decide) rfl rfl (Nat.le_of_ble_eq_true rfl) fun X hr hnm htb => ?_
  have hs := q_sets_le o
  refine og_iload_n (pc := 0) dX2_allows_0 rfl ?_
  refine og_callS (pc := 1) (As := [.int (nI o)]) (rest := []) (c_X2_sets E d n o h hE ho) Y_X2_sets S_X2_sets K_X2_17 dX2_allows_1 rfl rfl (Nat.le_of_ble_eq_true rfl) (by omega) (by omega) (by omega) (fun _ _ _ z => z) (fun v n1 h1 z => ?_)
  obtain ⟨rfl, rfl, rfl⟩ := z
  refine og_istore_n_2 (pc := 4) dX2_allows_4 rfl ?_
  refine og_iconst (pc := 5) (v := 0) dX2_allows_5 (by decide) ?_
  refine og_istore_n_3 (pc := 6) dX2_allows_6 rfl ?_
  refine og_forP (i0 := 0) (N := q_sets o) (by omega) (fun _ => h1) (fun i => [some (.int (nI o)), some (.int odd), some (.int (nI (q_sets o))), some (.int (nI i))]) (fun i => ∀ m, m < i → q_os o m ≠ odd) (fun m hm => absurd hm (by omega)) (fun hP => ?_) (fun i hi1 hi hP ih => ?_)
  · refine og_iload_n (pc := 7) dX2_allows_7 rfl ?_
    refine og_iload_n (pc := 8) dX2_allows_8 rfl ?_
    refine og_geN (pc := 9) (tgt := 29) (i := q_sets o) (N := q_sets o) dX2_allows_9 (by decide) rfl rfl (by omega) (by omega) (fun c_9 => ?_) (fun c_9 => ?_)
    · refine og_iconst (pc := 29) (v := 0) dX2_allows_29 (by decide) ?_
      exact og_zret (pc := 30) hr rfl dX2_allows_30 (by omega) (by omega) ⟨rfl, rfl, Or.inr ⟨rfl, hP⟩⟩
    · omega
  · refine og_iload_n (pc := 7) dX2_allows_7 rfl ?_
    refine og_iload_n (pc := 8) dX2_allows_8 rfl ?_
    refine og_geN (pc := 9) (tgt := 29) (i := i) (N := q_sets o) dX2_allows_9 (by decide) rfl rfl (by omega) (by omega) (fun c_9 => ?_) (fun c_9 => ?_)
    · omega
    refine og_iload_n (pc := 12) dX2_allows_12 rfl ?_
    refine og_iload_n (pc := 13) dX2_allows_13 rfl ?_
    refine og_callS (pc := 14) (As := [.int (nI o), .int (nI i)]) (rest := []) (c_X2_oddSet E d n1 o i h1 hE ho (by omega)) Y_X2_oddSet S_X2_oddSet K_X2_21 dX2_allows_14 rfl rfl (Nat.le_of_ble_eq_true rfl) (by omega) (by omega) (by omega) (fun _ _ _ z => z) (fun v n1 h1 z => ?_)
    obtain ⟨rfl, rfl, rfl⟩ := z
    refine og_iload_n (pc := 17) dX2_allows_17 rfl ?_
    refine og_icmp_ne (pc := 18) (tgt := 23) dX2_allows_18 (by decide) (fun c_18 => ?_) (fun c_18 => ?_)
    · refine og_iinc_3 (pc := 23) dX2_allows_23 (og_inc i) rfl ?_
      refine og_goto (pc := 26) (tgt := 7) dX2_allows_26 (by decide) ?_
      refine ih (fun m hm => ?_)
      by_cases hmi : m = i
      · subst hmi
        exact c_18
      · exact hP m (by omega)
    · refine og_iconst (pc := 21) (v := 1) dX2_allows_21 (by decide) ?_
      exact og_zret (pc := 22) hr rfl dX2_allows_22 (by omega) (by omega) ⟨rfl, rfl, Or.inl ⟨rfl, i, hi, by first | exact c_18 | exact Decidable.not_not.mp c_18⟩⟩
def q_cube (i : Nat) : Int64 := lN i * lN i * lN i
def q_sum (o m : Nat) : Nat → Int64
  | 0 => 0
  | i + 1 => if m % (i + 1) = 0 then q_sum o m i + (if o = 0 ∧ (m + (i + 1)) % 2 ≠ 0 then -q_cube (i + 1) else q_cube (i + 1)) else q_sum o m i
def q_elems (o m : Nat) : Int64 := if m = 0 then 1 else (nI (q_cnt o)).toInt64 * q_sum o m m
set_option maxRecDepth 4000 in
theorem c_X2_elementsOfNorm (E : og_E) (d n o m : Nat) (h : og_H) (ho : o < 8) (hm : m ≤ 1000) :
    og_M E yX2_elementsOfNorm (.code yX2_elementsOfNorm cX2_elementsOfNorm 7 (some .long)) d [.int (nI o), .int (nI m)] n h 0 0 (fun v n1 h1 => v = some (.long (q_elems o m)) ∧ n1 = n ∧ h1 = h) no_x := by
  refine og_start (lv := [some (.int (nI o)), some (.int (nI m)), none, none, none, none, none]) (by decide) rfl rfl (Nat.le_of_ble_eq_true rfl) fun X hr hnm htb => ?_
  refine og_iload_n (pc := 0) dX2_elementsOfNorm_0 rfl ?_
  refine og_if_ne (pc := 1) (tgt := 6) dX2_elementsOfNorm_1 (by decide) (fun c_1 => ?_) (fun c_1 => ?_)
  · have hm0 : m ≠ 0 := fun q => c_1 (by rw [q]; rfl)
    refine og_lconst (pc := 6) (v := 0) dX2_elementsOfNorm_6 (by decide) ?_
    refine og_lstore_n_2 (pc := 7) dX2_elementsOfNorm_7 rfl ?_
    refine og_iconst (pc := 8) (v := 1) dX2_elementsOfNorm_8 (by decide) ?_
    refine og_istore_4 (pc := 9) dX2_elementsOfNorm_9 rfl ?_
    refine og_for (i0 := 0) (N := m) (by omega) (fun _ => h) (fun i => [some (.int (nI o)), some (.int (nI m)), some (.long (q_sum o m i)), none, some (.int (nI (i + 1))), none, none]) ?_ (fun i hi1 hi ih => ?_)
    · refine og_iload (pc := 11) dX2_elementsOfNorm_11 rfl ?_
      refine og_iload_n (pc := 13) dX2_elementsOfNorm_13 rfl ?_
      refine og_icmp_gt (pc := 14) (tgt := 67) dX2_elementsOfNorm_14 (by decide) (fun c_14 => ?_) (fun c_14 => absurd (nI_lt (by omega) (by omega)) c_14)
      refine og_iload_n (pc := 67) dX2_elementsOfNorm_67 rfl ?_
      refine og_if_ne (pc := 68) (tgt := 76) dX2_elementsOfNorm_68 (by decide) (fun c_68 => ?_) (fun c_68 => ?_)
      · have ho0 : o ≠ 0 := fun q => c_68 (by rw [q]; rfl)
        refine og_sipush (pc := 76) (v := 240) dX2_elementsOfNorm_76 (by decide) ?_
        refine og_i2l (pc := 79) dX2_elementsOfNorm_79 rfl ?_
        refine og_lload_n (pc := 80) dX2_elementsOfNorm_80 rfl ?_
        refine og_lmul (pc := 81) dX2_elementsOfNorm_81 ?_
        refine og_lret (pc := 82) hr dX2_elementsOfNorm_82 (by omega) (by omega) ⟨?_, rfl, rfl⟩
        rw [q_elems, if_neg hm0, q_cnt, if_neg ho0]
        rfl
      · have ho0 : o = 0 := by
          rcases Nat.eq_zero_or_pos o with q | q
          · exact q
          · exact absurd c_68 (nI_ne0 q (by omega))
        refine og_bipush (pc := 71) (v := 16) dX2_elementsOfNorm_71 (by decide) ?_
        refine og_goto (pc := 73) (tgt := 79) dX2_elementsOfNorm_73 (by decide) ?_
        refine og_i2l (pc := 79) dX2_elementsOfNorm_79 rfl ?_
        refine og_lload_n (pc := 80) dX2_elementsOfNorm_80 rfl ?_
        refine og_lmul (pc := 81) dX2_elementsOfNorm_81 ?_
        refine og_lret (pc := 82) hr dX2_elementsOfNorm_82 (by omega) (by omega) ⟨?_, rfl, rfl⟩
        rw [q_elems, if_neg hm0, q_cnt, if_pos ho0]
        rfl
    · refine og_iload (pc := 11) dX2_elementsOfNorm_11 rfl ?_
      refine og_iload_n (pc := 13) dX2_elementsOfNorm_13 rfl ?_
      refine og_icmp_gt (pc := 14) (tgt := 67) dX2_elementsOfNorm_14 (by decide) (fun c_14 => ?_) (fun c_14 => ?_)
      · exact absurd c_14 (fun q => nI_nlt (a := m) (b := i + 1) (by omega) (by omega) q)
      refine og_iload_n (pc := 17) dX2_elementsOfNorm_17 rfl ?_
      refine og_iload (pc := 18) dX2_elementsOfNorm_18 rfl ?_
      refine og_irem (pc := 20) dX2_elementsOfNorm_20 (nI_ne0 (by omega) (by omega)) ?_
      rw [pk_rem (by omega) (by omega) (by omega)]
      have l1 : (nI (i + 1)).toInt64 = lN (i + 1) := nI_l (by omega)
      refine og_if_ne (pc := 21) (tgt := 61) dX2_elementsOfNorm_21 (by decide) (fun c_21 => ?_) (fun c_21 => ?_)
      · have hd0 : m % (i + 1) ≠ 0 := fun q => c_21 (by rw [q]; rfl)
        refine og_iinc_4 (pc := 61) dX2_elementsOfNorm_61 (og_inc (i+1)) rfl ?_
        refine og_goto (pc := 64) (tgt := 11) dX2_elementsOfNorm_64 (by decide) ?_
        have e : q_sum o m (i + 1) = q_sum o m i := by rw [q_sum, if_neg hd0]
        rw [e] at ih
        exact ih
      · have hd0 : m % (i + 1) = 0 := by
          rcases Nat.eq_zero_or_pos (m % (i + 1)) with q | q
          · exact q
          · exact absurd c_21 (nI_ne0 q (by have := Nat.mod_lt m (show 0 < i + 1 by omega); omega))
        refine og_iload (pc := 24) dX2_elementsOfNorm_24 rfl ?_
        refine og_i2l (pc := 26) dX2_elementsOfNorm_26 l1 ?_
        refine og_iload (pc := 27) dX2_elementsOfNorm_27 rfl ?_
        refine og_i2l (pc := 29) dX2_elementsOfNorm_29 l1 ?_
        refine og_lmul (pc := 30) dX2_elementsOfNorm_30 ?_
        refine og_iload (pc := 31) dX2_elementsOfNorm_31 rfl ?_
        refine og_i2l (pc := 33) dX2_elementsOfNorm_33 l1 ?_
        refine og_lmul (pc := 34) dX2_elementsOfNorm_34 ?_
        refine og_lstore_5 (pc := 35) dX2_elementsOfNorm_35 rfl ?_
        refine og_lload_n (pc := 37) dX2_elementsOfNorm_37 rfl ?_
        refine og_iload_n (pc := 38) dX2_elementsOfNorm_38 rfl ?_
        have key : ∀ y : Int64, y = (if o = 0 ∧ (m + (i + 1)) % 2 ≠ 0 then -q_cube (i + 1) else q_cube (i + 1)) → og_G E yX2_elementsOfNorm.cls cX2_elementsOfNorm d 0 0 7 X (og_Q E (fun v n1 h1 => v = some (.long (q_elems o m)) ∧ n1 = n ∧ h1 = h) no_x 0 0 X) 0 0 n h 59 [some (.int (nI o)), some (.int (nI m)), some (.long (q_sum o m i)), none, some (.int (nI (i + 1))), some (.long (lN (i + 1) * lN (i + 1) * lN (i + 1))), none] [.long y, .long (q_sum o m i)] := by
          intro y hy
          refine og_ladd (pc := 59) dX2_elementsOfNorm_59 ?_
          refine og_lstore_n_2 (pc := 60) dX2_elementsOfNorm_60 rfl ?_
          refine og_iinc_4 (pc := 61) dX2_elementsOfNorm_61 (og_inc (i+1)) rfl ?_
          refine og_goto (pc := 64) (tgt := 11) dX2_elementsOfNorm_64 (by decide) ?_
          have e : q_sum o m (i + 1) = q_sum o m i + y := by rw [q_sum, if_pos hd0, hy]
          rw [e] at ih
          exact og_forget_5 ih
        refine og_if_ne (pc := 39) (tgt := 57) dX2_elementsOfNorm_39 (by decide) (fun c_39 => ?_) (fun c_39 => ?_)
        · have ho0 : o ≠ 0 := fun q => c_39 (by rw [q]; rfl)
          refine og_lload (pc := 57) dX2_elementsOfNorm_57 rfl ?_
          exact key _ (by rw [if_neg (fun q => ho0 q.1)]; rfl)
        · have ho0 : o = 0 := by
            rcases Nat.eq_zero_or_pos o with q | q
            · exact q
            · exact absurd c_39 (nI_ne0 q (by omega))
          refine og_iload_n (pc := 42) dX2_elementsOfNorm_42 rfl ?_
          refine og_iload (pc := 43) dX2_elementsOfNorm_43 rfl ?_
          refine og_iadd (pc := 45) dX2_elementsOfNorm_45 ?_
          refine og_iconst (pc := 46) (v := 2) dX2_elementsOfNorm_46 (by decide) ?_
          refine og_irem (pc := 47) dX2_elementsOfNorm_47 (by decide) ?_
          have e2 : nI m + nI (i + 1) - (nI m + nI (i + 1)) / 2 * 2 = nI ((m + (i + 1)) % 2) := by
            rw [nI_add, show (2 : Int32) = nI 2 from rfl, pk_rem (by omega) (by omega) (by omega)]
          rw [e2]
          refine og_if_eq (pc := 48) (tgt := 57) dX2_elementsOfNorm_48 (by decide) (fun c_48 => ?_) (fun c_48 => ?_)
          · refine og_lload (pc := 57) dX2_elementsOfNorm_57 rfl ?_
            refine key _ ?_
            rw [if_neg (fun q => ?_)]
            · rfl
            · exact absurd c_48 (nI_ne0 (Nat.pos_of_ne_zero q.2) (by omega))
          · refine og_lload (pc := 51) dX2_elementsOfNorm_51 rfl ?_
            refine og_lneg (pc := 53) dX2_elementsOfNorm_53 ?_
            refine og_goto (pc := 54) (tgt := 59) dX2_elementsOfNorm_54 (by decide) ?_
            refine key _ ?_
            rw [if_pos ⟨ho0, fun q => c_48 (by rw [q]; rfl)⟩]
            rfl
  · have hm0 : m = 0 := by
      rcases Nat.eq_zero_or_pos m with q | q
      · exact q
      · exact absurd c_1 (nI_ne0 q (by omega))
    refine og_lconst (pc := 4) (v := 1) dX2_elementsOfNorm_4 (by decide) ?_
    refine og_lret (pc := 5) hr dX2_elementsOfNorm_5 (by omega) (by omega) ⟨?_, rfl, rfl⟩
    rw [q_elems, if_pos hm0]
