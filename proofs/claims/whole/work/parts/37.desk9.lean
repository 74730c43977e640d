/-! ===== the desk: digest ===== -/
noncomputable def q_dg1 (D : q_D) (c : Int64) : Nat → Int64
  | 0 => c
  | k + 1 => 31 * q_dg1 D c k + (q_val D k).toInt64
def q_dg2 (D : q_D) (r : Nat) (c : Int64) : Nat → Int64
  | 0 => c
  | i + 1 => 31 * q_dg2 D r c i + (d_R D r i).toInt32.toInt64
noncomputable def q_dg3 (D : q_D) (c : Int64) : Nat → Int64
  | 0 => c
  | r + 1 => 31 * (31 * q_dg2 D r (q_dg3 D c r) 8 + (q_oset (d_R D r) 8).toInt64) + (q_uno (d_o D) (d_R D r)).toInt64
noncomputable def q_dig (D : q_D) : Int64 := 31 * q_dg3 D (q_dg1 D (116591 + (nI (d_tl D)).toInt64) 6) 8 + (nI (d_sc D)).toInt64
set_option maxRecDepth 4000 in
theorem c_X7_digest (E : og_E) (d n : Nat) (h : og_H) {h0 : og_H} {n0 : Nat} {D : q_D} (w : og_DK h0 n0 n h D) :
    og_M E yX7_digest (.code yX7_digest cX7_digest 5 (some .long)) (d + 6) [.ref 3] n h 174 2900 (fun v n1 h1 => v = some (.long (q_dig D)) ∧ ∃ f, og_DK h0 n0 n1 h1 (d_wUn D f)) no_x := by
  refine og_start (lv := [some (.ref 3), none, none, none, none]) (by decide) rfl rfl (Nat.le_of_ble_eq_true rfl) fun X hr hnm htb => ?_
  have e3 := w.d3
  have e70 := w.t70
  refine og_ldc2 (pc := 0) LC_X7_253 dX7_digest_0 ?_
  refine og_aload_n (pc := 3) dX7_digest_3 rfl ?_
  refine og_get (pc := 4) F_X7_40 dX7_digest_4 (by repeat (first | exact og_set_eq _ _ _ | assumption | refine (og_set_ne _ _ (by first | assumption | omega)).trans ?_)) (by omega) rfl ?_
  refine og_get (pc := 7) F_X7_237 dX7_digest_7 (by repeat (first | exact og_set_eq _ _ _ | assumption | refine (og_set_ne _ _ (by first | assumption | omega)).trans ?_)) (by omega) rfl ?_
  refine og_i2l (pc := 10) dX7_digest_10 rfl ?_
  refine og_ladd (pc := 11) dX7_digest_11 ?_
  refine og_lstore_n_1 (pc := 12) dX7_digest_12 rfl ?_
  refine og_iconst (pc := 13) (v := 0) dX7_digest_13 (by decide) ?_
  refine og_istore_n_3 (pc := 14) dX7_digest_14 rfl ?_
  have fin : ∀ (n2 : Nat) (h2 : og_H) (f : Nat → Option Nat), og_DK h0 n0 n2 h2 (d_wUn D f) → og_G E yX7_digest.cls cX7_digest (d + 6) 174 2900 5 X (og_Q E (fun v n1 h1 => v = some (.long (q_dig D)) ∧ ∃ f, og_DK h0 n0 n1 h1 (d_wUn D f)) no_x 174 2900 X) 174 2900 n2 h2 41 [some (.ref 3), some (.long (q_dg3 D (q_dg1 D (116591 + (nI (d_tl D)).toInt64) 6) 8)), none, some (.int (nI 8)), none] [] := by
    intro n2 h2 f w2
    have e3 : h2 3 = some (og_dk (d_sc D)) := w2.d3
    refine og_iload_n (pc := 41) dX7_digest_41 rfl ?_
    refine og_bipush (pc := 42) (v := 8) dX7_digest_42 (by decide) ?_
    refine og_geN (pc := 44) (tgt := 110) (i := 8) (N := 8) dX7_digest_44 (by decide) rfl rfl (by omega) (by omega) (fun c_44 => ?_) (fun c_44 => ?_)
    · refine og_ldc2 (pc := 110) LC_X7_255 dX7_digest_110 ?_
      refine og_lload_n (pc := 113) dX7_digest_113 rfl ?_
      refine og_lmul (pc := 114) dX7_digest_114 ?_
      refine og_aload_n (pc := 115) dX7_digest_115 rfl ?_
      refine og_get (pc := 116) F_X7_20 dX7_digest_116 (by repeat (first | exact og_set_eq _ _ _ | assumption | refine (og_set_ne _ _ (by first | assumption | omega)).trans ?_)) (by omega) rfl ?_
      refine og_i2l (pc := 119) dX7_digest_119 rfl ?_
      refine og_ladd (pc := 120) dX7_digest_120 ?_
      exact og_lret (pc := 121) hr dX7_digest_121 (by omega) (by omega) ⟨rfl, f, w2⟩
    · omega
  have loop3 : ∀ k r : Nat, r + k = 8 → ∀ (n2 : Nat) (h2 : og_H) (f : Nat → Option Nat), og_DK h0 n0 n2 h2 (d_wUn D f) → og_G E yX7_digest.cls cX7_digest (d + 6) 174 2900 5 X (og_Q E (fun v n1 h1 => v = some (.long (q_dig D)) ∧ ∃ f, og_DK h0 n0 n1 h1 (d_wUn D f)) no_x 174 2900 X) (6 + 21 * r) (36 + 358 * r) n2 h2 41 [some (.ref 3), some (.long (q_dg3 D (q_dg1 D (116591 + (nI (d_tl D)).toInt64) 6) r)), none, some (.int (nI r)), none] [] := by
    intro k
    induction k with
    | zero =>
      intro r hr8 n2 h2 f w2
      have e8 : r = 8 := by omega
      subst e8
      exact og_widen (by omega) (by omega) (fin n2 h2 f w2)
    | succ k ih =>
      intro r hrk n2 h2 f w2
      have hr8 : r < 8 := by omega
      refine og_iload_n (pc := 41) dX7_digest_41 rfl ?_
      refine og_bipush (pc := 42) (v := 8) dX7_digest_42 (by decide) ?_
      refine og_geN (pc := 44) (tgt := 110) (i := r) (N := 8) dX7_digest_44 (by decide) rfl rfl (by omega) (by omega) (fun c_44 => ?_) (fun c_44 => ?_)
      · omega
      refine og_iconst (pc := 47) (v := 0) dX7_digest_47 (by decide) ?_
      refine og_istore_4 (pc := 48) dX7_digest_48 rfl ?_
      have loop2 : ∀ k2 i : Nat, i + k2 = 8 → ∀ (n3 : Nat) (h3 : og_H), og_DK h0 n0 n3 h3 (d_wUn D f) → og_G E yX7_digest.cls cX7_digest (d + 6) 174 2900 5 X (og_Q E (fun v n1 h1 => v = some (.long (q_dig D)) ∧ ∃ f, og_DK h0 n0 n1 h1 (d_wUn D f)) no_x 174 2900 X) (6 + 21 * r + 2 * i) (36 + 358 * r + 12 * i) n3 h3 50 [some (.ref 3), some (.long (q_dg2 D r (q_dg3 D (q_dg1 D (116591 + (nI (d_tl D)).toInt64) 6) r) i)), none, some (.int (nI r)), some (.int (nI i))] [] := by
        intro k2
        induction k2 with
        | zero =>
          intro i hi n3 h3 w3
          have e8 : i = 8 := by omega
          subst e8
          have e3 := w3.d3
          refine og_iload (pc := 50) dX7_digest_50 rfl ?_
          refine og_bipush (pc := 52) (v := 8) dX7_digest_52 (by decide) ?_
          refine og_geN (pc := 54) (tgt := 78) (i := 8) (N := 8) dX7_digest_54 (by decide) rfl rfl (by omega) (by omega) (fun c_54 => ?_) (fun c_54 => ?_)
          · refine og_ldc2 (pc := 78) LC_X7_255 dX7_digest_78 ?_
            refine og_lload_n (pc := 81) dX7_digest_81 rfl ?_
            refine og_lmul (pc := 82) dX7_digest_82 ?_
            refine og_aload_n (pc := 83) dX7_digest_83 rfl ?_
            refine og_iload_n (pc := 84) dX7_digest_84 rfl ?_
            refine og_callVX (pc := 85) (As := [.int (nI r)]) (rest := [.long (31 * q_dg2 D r (q_dg3 D (q_dg1 D (116591 + (nI (d_tl D)).toInt64) 6) r) 8)]) (c_X7_ordersOf E d n3 h3 (nI r) w3) Y_X7_ordersOf I_X7_ordersOf V_X7_ordersOf e3 (by omega) rfl rfl K_X7_264 dX7_digest_85 rfl rfl (Nat.le_of_ble_eq_true rfl) (by omega) (by omega) (by omega) (htb) (by omega) (by omega) (fun En n1 h1 z => ?_) (fun v n4 h4 z => ?_)
            · exact z.2.2 ⟨r, hr8, rfl⟩
            obtain ⟨w4, r2, hr2, hrr, rfl⟩ := z
            have er := (nI_eq (by omega) (by omega)).mp hrr
            subst er
            have e3 := w4.d3
            refine og_i2l (pc := 88) dX7_digest_88 rfl ?_
            refine og_ladd (pc := 89) dX7_digest_89 ?_
            refine og_lstore_n_1 (pc := 90) dX7_digest_90 rfl ?_
            refine og_ldc2 (pc := 91) LC_X7_255 dX7_digest_91 ?_
            refine og_lload_n (pc := 94) dX7_digest_94 rfl ?_
            refine og_lmul (pc := 95) dX7_digest_95 ?_
            refine og_aload_n (pc := 96) dX7_digest_96 rfl ?_
            refine og_iload_n (pc := 97) dX7_digest_97 rfl ?_
            refine og_callVX (pc := 98) (As := [.int (nI r)]) (rest := [.long (31 * (31 * q_dg2 D r (q_dg3 D (q_dg1 D (116591 + (nI (d_tl D)).toInt64) 6) r) 8 + (q_oset (d_R D r) 8).toInt64))]) (c_X7_unitOf E d n4 h4 (nI r) w4) Y_X7_unitOf I_X7_unitOf V_X7_unitOf e3 (by omega) rfl rfl K_X7_267 dX7_digest_98 rfl rfl (Nat.le_of_ble_eq_true rfl) (by omega) (by omega) (by omega) (htb) (by omega) (by omega) (fun En n1 h1 z => ?_) (fun v n5 h5 z => ?_)
            · exact z.2.2 ⟨r, hr8, rfl⟩
            obtain ⟨r2, f2, hr2, hrr, rfl, hn5, w5⟩ := z
            have er := (nI_eq (by omega) (by omega)).mp hrr
            subst er
            refine og_forget_4 ?_
            refine og_i2l (pc := 101) dX7_digest_101 rfl ?_
            refine og_ladd (pc := 102) dX7_digest_102 ?_
            refine og_lstore_n_1 (pc := 103) dX7_digest_103 rfl ?_
            refine og_iinc_3 (pc := 104) dX7_digest_104 (og_inc r) rfl ?_
            refine og_goto (pc := 107) (tgt := 41) dX7_digest_107 (by decide) ?_
            exact og_widen (by omega) (by omega) (ih (r + 1) (by omega) n5 h5 f2 w5)
          · omega
        | succ k2 ih2 =>
          intro i hi n3 h3 w3
          have e3 := w3.d3
          refine og_iload (pc := 50) dX7_digest_50 rfl ?_
          refine og_bipush (pc := 52) (v := 8) dX7_digest_52 (by decide) ?_
          refine og_geN (pc := 54) (tgt := 78) (i := i) (N := 8) dX7_digest_54 (by decide) rfl rfl (by omega) (by omega) (fun c_54 => ?_) (fun c_54 => ?_)
          · omega
          refine og_ldc2 (pc := 57) LC_X7_255 dX7_digest_57 ?_
          refine og_lload_n (pc := 60) dX7_digest_60 rfl ?_
          refine og_lmul (pc := 61) dX7_digest_61 ?_
          refine og_aload_n (pc := 62) dX7_digest_62 rfl ?_
          refine og_iload_n (pc := 63) dX7_digest_63 rfl ?_
          refine og_iload (pc := 64) dX7_digest_64 rfl ?_
          refine og_callVX (pc := 66) (As := [.int (nI r), .int (nI i)]) (rest := [.long (31 * q_dg2 D r (q_dg3 D (q_dg1 D (116591 + (nI (d_tl D)).toInt64) 6) r) i)]) (c_X7_coordinate E d n3 h3 (nI r) (nI i) w3) Y_X7_coordinate I_X7_coordinate V_X7_coordinate e3 (by omega) rfl rfl K_X7_260 dX7_digest_66 rfl rfl (Nat.le_of_ble_eq_true rfl) (by omega) (by omega) (by omega) (htb) (by omega) (by omega) (fun En n1 h1 z => ?_) (fun v n4 h4 z => ?_)
          · exact z.2.2 ⟨⟨r, hr8, rfl⟩, ⟨i, by omega, rfl⟩⟩
          obtain ⟨w4, r2, i2, hr2, hi2, hrr, hii, rfl⟩ := z
          have er := (nI_eq (by omega) (by omega)).mp hrr
          have ei := (nI_eq (by omega) (by omega)).mp hii
          subst er ei
          refine og_i2l (pc := 69) dX7_digest_69 rfl ?_
          refine og_ladd (pc := 70) dX7_digest_70 ?_
          refine og_lstore_n_1 (pc := 71) dX7_digest_71 rfl ?_
          refine og_iinc_4 (pc := 72) dX7_digest_72 (og_inc i) rfl ?_
          refine og_goto (pc := 75) (tgt := 50) dX7_digest_75 (by decide) ?_
          exact og_widen (by omega) (by omega) (ih2 (i + 1) (by omega) n4 h4 w4)
      exact og_widen (by omega) (by omega) (loop2 8 0 rfl n2 h2 w2)
  have loop1 : ∀ k i : Nat, i + k = 6 → og_G E yX7_digest.cls cX7_digest (d + 6) 174 2900 5 X (og_Q E (fun v n1 h1 => v = some (.long (q_dig D)) ∧ ∃ f, og_DK h0 n0 n1 h1 (d_wUn D f)) no_x 174 2900 X) i (6 * i) n h 15 [some (.ref 3), some (.long (q_dg1 D (116591 + (nI (d_tl D)).toInt64) i)), none, some (.int (nI i)), none] [] := by
    intro k
    induction k with
    | zero =>
      intro i hi
      have e6 : i = 6 := by omega
      subst e6
      refine og_iload_n (pc := 15) dX7_digest_15 rfl ?_
      refine og_iconst (pc := 16) (v := 5) dX7_digest_16 (by decide) ?_
      refine og_icmp_gt (pc := 17) (tgt := 39) dX7_digest_17 (by decide) (fun _ => ?_) (fun c => absurd (by decide) c)
      refine og_forget_3 ?_
      refine og_iconst (pc := 39) (v := 0) dX7_digest_39 (by decide) ?_
      refine og_istore_n_3 (pc := 40) dX7_digest_40 rfl ?_
      exact og_widen (by omega) (by omega) (loop3 8 0 rfl n h (d_un D) w)
    | succ k ih =>
      intro i hi
      refine og_iload_n (pc := 15) dX7_digest_15 rfl ?_
      refine og_iconst (pc := 16) (v := 5) dX7_digest_16 (by decide) ?_
      refine og_icmp_gt (pc := 17) (tgt := 39) dX7_digest_17 (by decide) (fun c => absurd c (nI_nlt (a := 5) (b := i) (by omega) (by omega))) (fun _ => ?_)
      refine og_ldc2 (pc := 20) LC_X7_255 dX7_digest_20 ?_
      refine og_lload_n (pc := 23) dX7_digest_23 rfl ?_
      refine og_lmul (pc := 24) dX7_digest_24 ?_
      refine og_aload_n (pc := 25) dX7_digest_25 rfl ?_
      refine og_iload_n (pc := 26) dX7_digest_26 rfl ?_
      refine og_callVX (pc := 27) (As := [.int (nI i)]) (rest := [.long (31 * q_dg1 D (116591 + (nI (d_tl D)).toInt64) i)]) (c_X7_value E d n h (nI i) w) Y_X7_value I_X7_value V_X7_value e3 (by omega) rfl rfl K_X7_257 dX7_digest_27 rfl rfl (Nat.le_of_ble_eq_true rfl) (by omega) (by omega) (by omega) (htb) (by omega) (by omega) (fun En n1 h1 z => ?_) (fun v n1 h1 z => ?_)
      · exact z.2.2 ⟨i, by omega, rfl⟩
      obtain ⟨hn, hh, i2, hi2, hii, rfl⟩ := z
      subst hn hh
      have ei := (nI_eq (by omega) (by omega)).mp hii
      subst ei
      refine og_i2l (pc := 30) dX7_digest_30 rfl ?_
      refine og_ladd (pc := 31) dX7_digest_31 ?_
      refine og_lstore_n_1 (pc := 32) dX7_digest_32 rfl ?_
      refine og_iinc_3 (pc := 33) dX7_digest_33 (og_inc i) rfl ?_
      refine og_goto (pc := 36) (tgt := 15) dX7_digest_36 (by decide) ?_
      exact og_widen (by omega) (by omega) (ih (i + 1) (by omega))
  exact loop1 6 0 rfl
