/-! ===== the model: elements, with the class's own sum ===== -/
theorem q_sum_no {o m i : Nat} (h : ¬ m % (i + 1) = 0) : q_sum o m (i + 1) = q_sum o m i := by rw [q_sum, if_neg h]
theorem q_sum_yes {o m i : Nat} (h : m % (i + 1) = 0) : q_sum o m (i + 1) = q_sum o m i + (if o = 0 ∧ (m + (i + 1)) % 2 ≠ 0 then -q_cube (i + 1) else q_cube (i + 1)) := by rw [q_sum, if_pos h]
set_option maxRecDepth 4000 in
theorem c_X8_elements (E : og_E) (d n : Nat) (h : og_H) (x : Int32) {h0 : og_H} {M : q_M} {o : Nat} (w : og_MK h0 h M) (ho : m_s M 64 = nI o) (ho8 : o < 8) :
    og_M E yX8_elements (.code yX8_elements cX8_elements 7 (some .long)) (d + 1) [.ref 101, .int x] n h 0 0 (fun v n1 h1 => n1 = n ∧ ((¬ q_inN 1001 x ∧ v = some (.long 0) ∧ og_MK h0 h1 (m_wRf M 1)) ∨ (∃ m, m < 1001 ∧ x = nI m ∧ v = some (.long (q_elems o m)) ∧ og_MK h0 h1 (m_wRf M 0)))) no_x := by
  refine og_start (lv := [some (.ref 101), some (.int x), none, none, none, none, none]) (by decide) rfl rfl (Nat.le_of_ble_eq_true rfl) fun X hr hnm htb => ?_
  have wm := w.m
  refine og_aload_n (pc := 0) dX8_elements_0 rfl ?_
  refine og_iload_n (pc := 1) dX8_elements_1 rfl ?_
  refine og_iconst (pc := 2) (v := 0) dX8_elements_2 (by decide) ?_
  refine og_sipush (pc := 3) (v := 1000) dX8_elements_3 (by decide) ?_
  refine og_callS (pc := 6) (As := [.int x, .int 0, .int 1000]) (rest := [.ref 101]) (c_X8_in E d n h x 0 1000) Y_X8_in S_X8_in K_X8_86 dX8_elements_6 rfl rfl (Nat.le_of_ble_eq_true rfl) (by omega) (by omega) (by omega) (fun _ _ _ z => z) (fun v n1 h1 z => ?_)
  obtain ⟨hn, hh, z⟩ := z
  subst hn hh
  rcases z with ⟨rfl, z1, z2⟩ | ⟨rfl, z⟩
  rotate_left
  · refine og_if_eq (pc := 9) (tgt := 16) dX8_elements_9 (by decide) (fun _ => ?_) (fun q => absurd rfl q)
    refine og_iconst (pc := 16) (v := 1) dX8_elements_16 (by decide) ?_
    refine og_callV (pc := 17) (As := [.int 1]) (rest := []) (c_X8_throwsAt E d n1 h1 1 wm) Y_X8_throwsAt I_X8_throwsAt V_X8_throwsAt wm (by omega) rfl rfl K_X8_125 dX8_elements_17 rfl rfl (Nat.le_of_ble_eq_true rfl) (by omega) (by omega) (by omega) (fun _ _ _ z => z) (fun v n2 h2 z => ?_)
    obtain ⟨hn, hh, y⟩ := z
    subst hn
    have w2 := w.rf_ 1
    rcases y with ⟨rfl, y⟩ | ⟨rfl, y⟩
    · refine og_if_eq (pc := 20) (tgt := 25) dX8_elements_20 (by decide) (fun q => absurd q (by decide)) (fun _ => ?_)
      refine og_lconst (pc := 23) (v := 0) dX8_elements_23 (by decide) ?_
      exact og_lret (pc := 24) hr dX8_elements_24 (by omega) (by omega) ⟨rfl, Or.inl ⟨fun q => z (q_inN_of (m := 1000) (by omega) q), rfl, by rw [hh]; exact w2⟩⟩
    · exact absurd (by decide) y
  obtain ⟨m, hm, rfl⟩ := q_inN_iff (m := 1000) (by omega) x z1 z2
  refine og_if_eq (pc := 9) (tgt := 16) dX8_elements_9 (by decide) (fun q => absurd q (by decide)) (fun _ => ?_)
  refine og_iconst (pc := 12) (v := 0) dX8_elements_12 (by decide) ?_
  refine og_goto (pc := 13) (tgt := 17) dX8_elements_13 (by decide) ?_
  refine og_callV (pc := 17) (As := [.int 0]) (rest := []) (c_X8_throwsAt E d n1 h1 0 wm) Y_X8_throwsAt I_X8_throwsAt V_X8_throwsAt wm (by omega) rfl rfl K_X8_125 dX8_elements_17 rfl rfl (Nat.le_of_ble_eq_true rfl) (by omega) (by omega) (by omega) (fun _ _ _ z => z) (fun v n2 h2 z => ?_)
  obtain ⟨hn, hh, z⟩ := z
  subst hn
  have w2 := w.rf_ 0
  rcases z with ⟨rfl, z⟩ | ⟨rfl, -⟩
  · exact absurd z (by decide)
  refine og_if_eq (pc := 20) (tgt := 25) dX8_elements_20 (by decide) (fun _ => ?_) (fun q => absurd rfl q)
  refine og_abs (P := fun g => og_MK h0 g (m_wRf M 0)) (by rw [hh]; exact w2) fun g w3 => ?_
  have wm := w3.m
  have ws := w3.s
  have ho3 : m_s (m_wRf M 0) 64 = nI o := ho
  refine og_lconst (pc := 25) (v := 0) dX8_elements_25 (by decide) ?_
  refine og_lstore_n_2 (pc := 26) dX8_elements_26 rfl ?_
  refine og_iconst (pc := 27) (v := 1) dX8_elements_27 (by decide) ?_
  refine og_istore_4 (pc := 28) dX8_elements_28 rfl ?_
  refine og_for (i0 := 0) (N := m) (by omega) (fun _ => g) (fun i => [some (.ref 101), some (.int (nI m)), some (.long (q_sum o m i)), none, some (.int (nI (i + 1))), none, none]) ?_ (fun i hi1 hi ih => ?_)
  · refine og_iload (pc := 30) dX8_elements_30 rfl ?_
    refine og_iload_n (pc := 32) dX8_elements_32 rfl ?_
    refine og_icmp_gt (pc := 33) (tgt := 97) dX8_elements_33 (by decide) (fun _ => ?_) (fun c => absurd (nI_lt (by omega) (by omega)) c)
    refine og_iload_n (pc := 97) dX8_elements_97 rfl ?_
    refine og_if_ne (pc := 98) (tgt := 105) dX8_elements_98 (by decide) (fun c => ?_) (fun c => ?_)
    · have hm0 : m ≠ 0 := fun q => c (by rw [q]; rfl)
      refine og_aload_n (pc := 105) dX8_elements_105 rfl ?_
      refine og_get (pc := 106) F_X8_7 dX8_elements_106 (by repeat (first | exact og_set_eq _ _ _ | assumption | refine (og_set_ne _ _ (by first | assumption | omega)).trans ?_)) (by omega) rfl ?_
      refine og_bipush (pc := 109) (v := 64) dX8_elements_109 (by decide) ?_
      refine og_ialdN (pc := 111) (j := 64) (show (64 : Int32) = nI 64 from rfl) dX8_elements_111 ws (by omega) (by omega) (by first | decide | assumption | omega) ?_
      rw [ho3]
      refine og_if_ne (pc := 112) (tgt := 121) dX8_elements_112 (by decide) (fun c2 => ?_) (fun c2 => ?_)
      · have ho0 : o ≠ 0 := fun q => c2 (by rw [q]; rfl)
        refine og_ldc2 (pc := 121) LC_X8_209 dX8_elements_121 ?_
        refine og_lload_n (pc := 124) dX8_elements_124 rfl ?_
        refine og_lmul (pc := 125) dX8_elements_125 ?_
        refine og_lret (pc := 126) hr dX8_elements_126 (by omega) (by omega) ⟨rfl, Or.inr ⟨m, hm, rfl, ?_, w3⟩⟩
        rw [q_elems, if_neg hm0, q_cnt, if_neg ho0]
        rfl
      · have ho0 : o = 0 := by
          rcases Nat.eq_zero_or_pos o with q | q
          · exact q
          · exact absurd c2 (nI_ne0 q (by omega))
        refine og_ldc2 (pc := 115) LC_X8_207 dX8_elements_115 ?_
        refine og_goto (pc := 118) (tgt := 124) dX8_elements_118 (by decide) ?_
        refine og_lload_n (pc := 124) dX8_elements_124 rfl ?_
        refine og_lmul (pc := 125) dX8_elements_125 ?_
        refine og_lret (pc := 126) hr dX8_elements_126 (by omega) (by omega) ⟨rfl, Or.inr ⟨m, hm, rfl, ?_, w3⟩⟩
        rw [q_elems, if_neg hm0, q_cnt, if_pos ho0]
        rfl
    · have hm0 : m = 0 := by
        rcases Nat.eq_zero_or_pos m with q | q
        · exact q
        · exact absurd c (nI_ne0 q (by omega))
      refine og_lconst (pc := 101) (v := 1) dX8_elements_101 (by decide) ?_
      refine og_goto (pc := 102) (tgt := 126) dX8_elements_102 (by decide) ?_
      refine og_lret (pc := 126) hr dX8_elements_126 (by omega) (by omega) ⟨rfl, Or.inr ⟨m, hm, rfl, ?_, w3⟩⟩
      rw [q_elems, if_pos hm0]
  · have l1 : (nI (i + 1)).toInt64 = lN (i + 1) := nI_l (by omega)
    have key : ∀ y y2 : Int64, q_sum o m (i + 1) = q_sum o m i + y → og_G E yX8_elements.cls cX8_elements (d + 1) 0 0 7 X (og_Q E (fun v n1 h1 => n1 = n2 ∧ ((¬ q_inN 1001 (nI m) ∧ v = some (.long 0) ∧ og_MK h0 h1 (m_wRf M 1)) ∨ (∃ m_1, m_1 < 1001 ∧ nI m = nI m_1 ∧ v = some (.long (q_elems o m_1)) ∧ og_MK h0 h1 (m_wRf M 0)))) no_x 0 0 X) (0 + 0 + 0) (0 + 0 + 0) n2 g 89 [some (.ref 101), some (.int (nI m)), some (.long (q_sum o m i)), none, some (.int (nI (i + 1))), some (.long y2), none] [.long y, .long (q_sum o m i)] := by
      intro y y2 hy
      refine og_ladd (pc := 89) dX8_elements_89 ?_
      refine og_lstore_n_2 (pc := 90) dX8_elements_90 rfl ?_
      refine og_iinc_4 (pc := 91) dX8_elements_91 (og_inc (i+1)) rfl ?_
      refine og_goto (pc := 94) (tgt := 30) dX8_elements_94 (by decide) ?_
      rw [hy] at ih
      exact og_forget_5 ih
    have step : ∀ cu : Int64, q_sum o m (i + 1) = q_sum o m i + (if o = 0 ∧ (m + (i + 1)) % 2 ≠ 0 then -cu else cu) → og_G E yX8_elements.cls cX8_elements (d + 1) 0 0 7 X (og_Q E (fun v n1 h1 => n1 = n2 ∧ ((¬ q_inN 1001 (nI m) ∧ v = some (.long 0) ∧ og_MK h0 h1 (m_wRf M 1)) ∨ (∃ m_1, m_1 < 1001 ∧ nI m = nI m_1 ∧ v = some (.long (q_elems o m_1)) ∧ og_MK h0 h1 (m_wRf M 0)))) no_x 0 0 X) (0 + 0 + 0) (0 + 0 + 0) n2 g 58 [some (.ref 101), some (.int (nI m)), some (.long (q_sum o m i)), none, some (.int (nI (i + 1))), none, none] [.long cu] := by
      intro cu hcu
      refine og_lstore_5 (pc := 58) dX8_elements_58 rfl ?_
      refine og_lload_n (pc := 60) dX8_elements_60 rfl ?_
      refine og_aload_n (pc := 61) dX8_elements_61 rfl ?_
      refine og_get (pc := 62) F_X8_7 dX8_elements_62 (by repeat (first | exact og_set_eq _ _ _ | assumption | refine (og_set_ne _ _ (by first | assumption | omega)).trans ?_)) (by omega) rfl ?_
      refine og_bipush (pc := 65) (v := 64) dX8_elements_65 (by decide) ?_
      refine og_ialdN (pc := 67) (j := 64) (show (64 : Int32) = nI 64 from rfl) dX8_elements_67 ws (by omega) (by omega) (by first | decide | assumption | omega) ?_
      rw [ho3]
      refine og_if_ne (pc := 68) (tgt := 87) dX8_elements_68 (by decide) (fun c2 => ?_) (fun c2 => ?_)
      · have ho0 : o ≠ 0 := fun q => c2 (by rw [q]; rfl)
        refine og_lload (pc := 87) dX8_elements_87 rfl ?_
        refine key cu cu ?_
        rw [hcu, if_neg (fun q => ho0 q.1)]
      · have ho0 : o = 0 := by
          rcases Nat.eq_zero_or_pos o with q | q
          · exact q
          · exact absurd c2 (nI_ne0 q (by omega))
        refine og_iload_n (pc := 71) dX8_elements_71 rfl ?_
        refine og_iload (pc := 72) dX8_elements_72 rfl ?_
        refine og_iadd (pc := 74) dX8_elements_74 ?_
        refine og_iconst (pc := 75) (v := 2) dX8_elements_75 (by decide) ?_
        refine og_irem (pc := 76) dX8_elements_76 (by decide) ?_
        have e2 : nI m + nI (i + 1) - (nI m + nI (i + 1)) / 2 * 2 = nI ((m + (i + 1)) % 2) := by
          rw [nI_add, show (2 : Int32) = nI 2 from rfl, pk_rem (by omega) (by omega) (by omega)]
        rw [e2]
        refine og_iconst (pc := 77) (v := 1) dX8_elements_77 (by decide) ?_
        refine og_icmp_ne (pc := 78) (tgt := 87) dX8_elements_78 (by decide) (fun c3 => ?_) (fun c3 => ?_)
        · refine og_lload (pc := 87) dX8_elements_87 rfl ?_
          refine key cu cu ?_
          rw [hcu, if_neg (fun q => c3 (by rw [show (m + (i + 1)) % 2 = 1 by have := q.2; omega]; rfl))]
        · refine og_lload (pc := 81) dX8_elements_81 rfl ?_
          refine og_lneg (pc := 83) dX8_elements_83 ?_
          refine og_goto (pc := 84) (tgt := 89) dX8_elements_84 (by decide) ?_
          refine key (-cu) cu ?_
          have h1 := (nI_eq (b := 1) (by omega) (by omega)).mp c3
          rw [hcu, if_pos ⟨ho0, by omega⟩]
    refine og_iload (pc := 30) dX8_elements_30 rfl ?_
    refine og_iload_n (pc := 32) dX8_elements_32 rfl ?_
    refine og_icmp_gt (pc := 33) (tgt := 97) dX8_elements_33 (by decide) (fun c => absurd c (nI_nlt (a := m) (b := i + 1) (by omega) (by omega))) (fun _ => ?_)
    refine og_iload_n (pc := 36) dX8_elements_36 rfl ?_
    refine og_iload (pc := 37) dX8_elements_37 rfl ?_
    refine og_irem (pc := 39) dX8_elements_39 (nI_ne0 (by omega) (by omega)) ?_
    rw [pk_rem (by omega) (by omega) (by omega)]
    refine og_if_ne (pc := 40) (tgt := 57) dX8_elements_40 (by decide) (fun c => ?_) (fun c => ?_)
    · have hd0 : ¬ m % (i + 1) = 0 := fun q => c (by rw [q]; rfl)
      refine og_lconst (pc := 57) (v := 0) dX8_elements_57 (by decide) ?_
      refine step 0 ?_
      rw [q_sum_no hd0]
      split
      · exact (by rw [show (-(0 : Int64)) = 0 from rfl]; exact (Int64.add_zero _).symm)
      · exact (Int64.add_zero _).symm
    · have hd0 : m % (i + 1) = 0 := by
        rcases Nat.eq_zero_or_pos (m % (i + 1)) with q | q
        · exact q
        · exact absurd c (nI_ne0 q (by have := Nat.mod_lt m (show 0 < i + 1 by omega); omega))
      refine og_iload (pc := 43) dX8_elements_43 rfl ?_
      refine og_i2l (pc := 45) dX8_elements_45 l1 ?_
      refine og_iload (pc := 46) dX8_elements_46 rfl ?_
      refine og_i2l (pc := 48) dX8_elements_48 l1 ?_
      refine og_lmul (pc := 49) dX8_elements_49 ?_
      refine og_iload (pc := 50) dX8_elements_50 rfl ?_
      refine og_i2l (pc := 52) dX8_elements_52 l1 ?_
      refine og_lmul (pc := 53) dX8_elements_53 ?_
      refine og_goto (pc := 54) (tgt := 58) dX8_elements_54 (by decide) ?_
      exact step (q_cube (i + 1)) (q_sum_yes hd0)
