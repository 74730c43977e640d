/-! ===== the model: digest ===== -/
noncomputable def m_dg1 (M : q_M) (o : Nat) : Nat → Int64
  | 0 => 116591 + (nI (m_ty M)).toInt64
  | q + 1 => 31 * m_dg1 M o q + (m_val M o q).toInt64
def m_dg2 (s : Nat → Int32) (r : Nat) (x : Int64) : Nat → Int64
  | 0 => x
  | k + 1 => 31 * m_dg2 s r x k + (s (8 * r + k)).toInt64
def m_dg3 (M : q_M) (o : Nat) : Nat → Int64 → Prop
  | 0, x => x = m_dg1 M o 6
  | r + 1, x => ∃ y ua, m_dg3 M o r y ∧ q_uat o (m_s M) r (some (.int ua)) ∧ x = 31 * (31 * m_dg2 (m_s M) r y 8 + (q_ordS (m_R M r) 8).toInt64) + ua.toInt64
set_option maxRecDepth 4000 in
theorem c_X8_digest (E : og_E) (d n : Nat) (h : og_H) {h0 : og_H} {M : q_M} (w : og_MK h0 h M) {o : Nat} (hL : q_HL) (hu : m_uok M) (ho : m_s M 64 = nI o) (ho8 : o < 8) :
    og_M E yX8_digest (.code yX8_digest cX8_digest 5 (some .long)) (d + 4) [.ref 101] n h 0 0 (fun (v : Option Value) (nn : Nat) (h1 : og_H) => nn = n ∧ ∃ un U x, og_MK h0 h1 (m_wUn (m_wRf M 0) (nI o) un U) ∧ m_lay o (m_wUn (m_wRf M 0) (nI o) un U) ∧ m_dg3 M o 8 x ∧ v = some (.long (31 * x + (nI (m_ps M)).toInt64))) no_x := by
  refine og_start (lv := [some (.ref 101), none, none, none, none]) (by decide) rfl rfl (Nat.le_of_ble_eq_true rfl) fun X hr hnm htb => ?_
  have wm := w.m
  refine og_aload_n (pc := 0) dX8_digest_0 rfl ?_
  refine og_iconst (pc := 1) (v := 0) dX8_digest_1 (by decide) ?_
  refine og_put (pc := 2) P_X8_83 dX8_digest_2 (by repeat (first | exact og_set_eq _ _ _ | assumption | refine (og_set_ne _ _ (by first | assumption | omega)).trans ?_)) (by omega) rfl rfl (Nat.le_of_ble_eq_true rfl) ?_
  refine og_abs (P := fun g => og_MK h0 g (m_wUn (m_wRf M 0) (m_la M) (m_un M) (m_u M))) (w.rf_ 0) fun g w => ?_
  have wm := w.m
  refine og_ldc2 (pc := 5) LC_X8_244 dX8_digest_5 ?_
  refine og_aload_n (pc := 8) dX8_digest_8 rfl ?_
  refine og_get (pc := 9) F_X8_211 dX8_digest_9 (by repeat (first | exact og_set_eq _ _ _ | assumption | refine (og_set_ne _ _ (by first | assumption | omega)).trans ?_)) (by omega) rfl ?_
  refine og_i2l (pc := 12) dX8_digest_12 rfl ?_
  refine og_ladd (pc := 13) dX8_digest_13 ?_
  refine og_lstore_n_1 (pc := 14) dX8_digest_14 rfl ?_
  refine og_iconst (pc := 15) (v := 0) dX8_digest_15 (by decide) ?_
  refine og_istore_n_3 (pc := 16) dX8_digest_16 rfl ?_
  have loop2 : ∀ k i, i + k = 8 → ∀ (y : Int64) (un : Int32) (U : Nat → Int32) (g : og_H), m_dg3 M o i y → og_MK h0 g (m_wUn (m_wRf M 0) (nI o) un U) → m_lay o (m_wUn (m_wRf M 0) (nI o) un U) → og_G E yX8_digest.cls cX8_digest (d + 4) 0 0 5 X (og_Q E (fun (v : Option Value) (nn : Nat) (h1 : og_H) => nn = n ∧ ∃ un U x, og_MK h0 h1 (m_wUn (m_wRf M 0) (nI o) un U) ∧ m_lay o (m_wUn (m_wRf M 0) (nI o) un U) ∧ m_dg3 M o 8 x ∧ v = some (.long (31 * x + (nI (m_ps M)).toInt64))) no_x 0 0 X) 0 0 n g 44 [some (.ref 101), some (.long y), none, some (.int (nI i)), none] [] := by
    intro k
    induction k with
    | zero =>
      intro i hi y un U g hy w hl
      have ei : i = 8 := by omega
      subst ei
      have wm := w.m
      refine og_iload_n (pc := 44) dX8_digest_44 rfl ?_
      refine og_bipush (pc := 45) (v := 8) dX8_digest_45 (by decide) ?_
      refine og_geN (pc := 47) (tgt := 118) (i := 8) (N := 8) dX8_digest_47 (by decide) rfl rfl (by omega) (by omega) (fun c_47 => ?_) (fun c_47 => ?_)
      rotate_left
      · omega
      refine og_ldc2 (pc := 118) LC_X8_246 dX8_digest_118 ?_
      refine og_lload_n (pc := 121) dX8_digest_121 rfl ?_
      refine og_lmul (pc := 122) dX8_digest_122 ?_
      refine og_aload_n (pc := 123) dX8_digest_123 rfl ?_
      refine og_get (pc := 124) F_X8_90 dX8_digest_124 wm (by omega) rfl ?_
      refine og_i2l (pc := 127) dX8_digest_127 rfl ?_
      refine og_ladd (pc := 128) dX8_digest_128 ?_
      exact og_lret (pc := 129) hr dX8_digest_129 (by omega) (by omega) ⟨rfl, un, U, y, w, hl, hy, rfl⟩
    | succ k ihk =>
      intro i hi y un U g hy w hl
      have wm := w.m
      have ws := w.s
      refine og_iload_n (pc := 44) dX8_digest_44 rfl ?_
      refine og_bipush (pc := 45) (v := 8) dX8_digest_45 (by decide) ?_
      refine og_geN (pc := 47) (tgt := 118) (i := i) (N := 8) dX8_digest_47 (by decide) rfl rfl (by omega) (by omega) (fun c_47 => ?_) (fun c_47 => ?_)
      · omega
      refine og_iconst (pc := 50) (v := 0) dX8_digest_50 (by decide) ?_
      refine og_istore_4 (pc := 51) dX8_digest_51 rfl ?_
      refine og_for (i0 := 0) (N := 8) (by decide) (fun _ => g) (fun k => [some (.ref 101), some (.long (m_dg2 (m_s M) i y k)), none, some (.int (nI i)), some (.int (nI k))]) ?_ (fun k2 _ hk2 ih => ?_)
      rotate_left
      · refine og_iload (pc := 53) dX8_digest_53 rfl ?_
        refine og_bipush (pc := 55) (v := 8) dX8_digest_55 (by decide) ?_
        refine og_geN (pc := 57) (tgt := 86) (i := k2) (N := 8) dX8_digest_57 (by decide) rfl rfl (by omega) (by omega) (fun c_57 => ?_) (fun c_57 => ?_)
        · omega
        refine og_ldc2 (pc := 60) LC_X8_246 dX8_digest_60 ?_
        refine og_lload_n (pc := 63) dX8_digest_63 rfl ?_
        refine og_lmul (pc := 64) dX8_digest_64 ?_
        refine og_aload_n (pc := 65) dX8_digest_65 rfl ?_
        refine og_get (pc := 66) F_X8_7 dX8_digest_66 wm (by omega) rfl ?_
        refine og_bipush (pc := 69) (v := 8) dX8_digest_69 (by decide) ?_
        refine og_iload_n (pc := 71) dX8_digest_71 rfl ?_
        refine og_imul (pc := 72) dX8_digest_72 ?_
        refine og_iload (pc := 73) dX8_digest_73 rfl ?_
        refine og_iadd (pc := 75) dX8_digest_75 ?_
        refine og_ialdN (pc := 76) (j := (8 * i + k2)) (og_i8 i k2) dX8_digest_76 ws (by omega) (by omega) (by first | decide | assumption | omega) ?_
        refine og_i2l (pc := 77) dX8_digest_77 rfl ?_
        refine og_ladd (pc := 78) dX8_digest_78 ?_
        refine og_lstore_n_1 (pc := 79) dX8_digest_79 rfl ?_
        refine og_iinc_4 (pc := 80) dX8_digest_80 (og_inc k2) rfl ?_
        refine og_goto (pc := 83) (tgt := 53) dX8_digest_83 (by decide) ?_
        exact ih
      refine og_iload (pc := 53) dX8_digest_53 rfl ?_
      refine og_bipush (pc := 55) (v := 8) dX8_digest_55 (by decide) ?_
      refine og_geN (pc := 57) (tgt := 86) (i := 8) (N := 8) dX8_digest_57 (by decide) rfl rfl (by omega) (by omega) (fun c_57 => ?_) (fun c_57 => ?_)
      rotate_left
      · omega
      refine og_ldc2 (pc := 86) LC_X8_246 dX8_digest_86 ?_
      refine og_lload_n (pc := 89) dX8_digest_89 rfl ?_
      refine og_lmul (pc := 90) dX8_digest_90 ?_
      refine og_aload_n (pc := 91) dX8_digest_91 rfl ?_
      refine og_iload_n (pc := 92) dX8_digest_92 rfl ?_
      refine og_callV (pc := 93) (As := [.int (nI i)]) (rest := [.long (31 * m_dg2 (m_s M) i y 8)]) (c_X8_orders E d n i g w (by omega)) Y_X8_orders I_X8_orders V_X8_orders wm (by omega) rfl rfl K_X8_191 dX8_digest_93 rfl rfl (Nat.le_of_ble_eq_true rfl) (by omega) (by omega) (by omega) (fun _ _ _ z => z) (fun v n1 h1 z => ?_)
      obtain ⟨hn, rfl, w2⟩ := z
      subst hn
      have wm := w2.m
      refine og_i2l (pc := 96) dX8_digest_96 rfl ?_
      refine og_ladd (pc := 97) dX8_digest_97 ?_
      refine og_lstore_n_1 (pc := 98) dX8_digest_98 rfl ?_
      refine og_ldc2 (pc := 99) LC_X8_246 dX8_digest_99 ?_
      refine og_lload_n (pc := 102) dX8_digest_102 rfl ?_
      refine og_lmul (pc := 103) dX8_digest_103 ?_
      refine og_aload_n (pc := 104) dX8_digest_104 rfl ?_
      refine og_iload_n (pc := 105) dX8_digest_105 rfl ?_
      refine og_callV (pc := 106) (As := [.int (nI i)]) (rest := [.long (31 * (31 * m_dg2 (m_s M) i y 8 + (q_ordS (m_R M i) 8).toInt64))]) (c_X8_unitAt E d n1 i h1 w2 hL (Or.inr ⟨o, ho8, hl⟩) ho ho8 (by omega)) Y_X8_unitAt I_X8_unitAt V_X8_unitAt wm (by omega) rfl rfl K_X8_195 dX8_digest_106 rfl rfl (Nat.le_of_ble_eq_true rfl) (by omega) (by omega) (by omega) (fun _ _ _ z => z) (fun v n2 h2 z => ?_)
      obtain ⟨hn, un2, U2, w3, hl3, z⟩ := z
      subst hn
      have fin : ∀ ua : Int32, q_uat o (m_s M) i (some (.int ua)) → og_G E yX8_digest.cls cX8_digest (d + 4) 0 0 5 X (og_Q E (fun (v : Option Value) (nn : Nat) (h1 : og_H) => nn = n2 ∧ ∃ un U x, og_MK h0 h1 (m_wUn (m_wRf M 0) (nI o) un U) ∧ m_lay o (m_wUn (m_wRf M 0) (nI o) un U) ∧ m_dg3 M o 8 x ∧ v = some (.long (31 * x + (nI (m_ps M)).toInt64))) no_x 0 0 X) 0 0 n2 h2 109 [some (.ref 101), some (.long (31 * m_dg2 (m_s M) i y 8 + (q_ordS (m_R M i) 8).toInt64)), none, some (.int (nI i)), some (.int (nI 8))] [.int ua, .long (31 * (31 * m_dg2 (m_s M) i y 8 + (q_ordS (m_R M i) 8).toInt64))] := by
        intro ua hua
        refine og_i2l (pc := 109) dX8_digest_109 rfl ?_
        refine og_ladd (pc := 110) dX8_digest_110 ?_
        refine og_lstore_n_1 (pc := 111) dX8_digest_111 rfl ?_
        refine og_iinc_3 (pc := 112) dX8_digest_112 (og_inc i) rfl ?_
        refine og_goto (pc := 115) (tgt := 44) dX8_digest_115 (by decide) ?_
        refine og_forget_4 ?_
        exact ihk (i + 1) (by omega) _ un2 U2 h2 ⟨y, ua, hy, hua, rfl⟩ w3 hl3
      have z2 : q_uat o (m_s M) i v := z
      rcases z with ⟨u, -, -, -, rfl⟩ | ⟨-, rfl⟩
      · exact fin _ z2
      · exact fin _ z2
  have loop1 : ∀ k i, i + k = 6 → ∀ (la un : Int32) (U : Nat → Int32) (g : og_H), og_MK h0 g (m_wUn (m_wRf M 0) la un U) → m_uok (m_wUn (m_wRf M 0) la un U) → (0 < i → la = nI o ∧ m_lay o (m_wUn (m_wRf M 0) la un U)) → og_G E yX8_digest.cls cX8_digest (d + 4) 0 0 5 X (og_Q E (fun (v : Option Value) (nn : Nat) (h1 : og_H) => nn = n ∧ ∃ un U x, og_MK h0 h1 (m_wUn (m_wRf M 0) (nI o) un U) ∧ m_lay o (m_wUn (m_wRf M 0) (nI o) un U) ∧ m_dg3 M o 8 x ∧ v = some (.long (31 * x + (nI (m_ps M)).toInt64))) no_x 0 0 X) 0 0 n g 17 [some (.ref 101), some (.long (m_dg1 M o i)), none, some (.int (nI i)), none] [] := by
    intro k
    induction k with
    | zero =>
      intro i hi la un U g w hu hl
      have ei : i = 6 := by omega
      subst ei
      obtain ⟨e, hl⟩ := hl (by omega)
      subst e
      refine og_iload_n (pc := 17) dX8_digest_17 rfl ?_
      refine og_bipush (pc := 18) (v := 6) dX8_digest_18 (by decide) ?_
      refine og_geN (pc := 20) (tgt := 42) (i := 6) (N := 6) dX8_digest_20 (by decide) rfl rfl (by omega) (by omega) (fun c_20 => ?_) (fun c_20 => ?_)
      rotate_left
      · omega
      refine og_iconst (pc := 42) (v := 0) dX8_digest_42 (by decide) ?_
      refine og_istore_n_3 (pc := 43) dX8_digest_43 rfl ?_
      exact loop2 8 0 rfl _ un U g rfl w hl
    | succ k ihk =>
      intro i hi la un U g w hu hl
      have wm := w.m
      refine og_iload_n (pc := 17) dX8_digest_17 rfl ?_
      refine og_bipush (pc := 18) (v := 6) dX8_digest_18 (by decide) ?_
      refine og_geN (pc := 20) (tgt := 42) (i := i) (N := 6) dX8_digest_20 (by decide) rfl rfl (by omega) (by omega) (fun c_20 => ?_) (fun c_20 => ?_)
      · omega
      refine og_ldc2 (pc := 23) LC_X8_246 dX8_digest_23 ?_
      refine og_lload_n (pc := 26) dX8_digest_26 rfl ?_
      refine og_lmul (pc := 27) dX8_digest_27 ?_
      refine og_aload_n (pc := 28) dX8_digest_28 rfl ?_
      refine og_iload_n (pc := 29) dX8_digest_29 rfl ?_
      refine og_callV (pc := 30) (As := [.int (nI i)]) (rest := [.long (31 * m_dg1 M o i)]) (c_X8_valueOf E d n i g w hL hu ho ho8 (by omega)) Y_X8_valueOf I_X8_valueOf V_X8_valueOf wm (by omega) rfl rfl K_X8_198 dX8_digest_30 rfl rfl (Nat.le_of_ble_eq_true rfl) (by omega) (by omega) (by omega) (fun _ _ _ z => z) (fun v n1 h1 z => ?_)
      obtain ⟨hn, un2, U2, w3, hl3, rfl⟩ := z
      subst hn
      refine og_i2l (pc := 33) dX8_digest_33 rfl ?_
      refine og_ladd (pc := 34) dX8_digest_34 ?_
      refine og_lstore_n_1 (pc := 35) dX8_digest_35 rfl ?_
      refine og_iinc_3 (pc := 36) dX8_digest_36 (og_inc i) rfl ?_
      refine og_goto (pc := 39) (tgt := 17) dX8_digest_39 (by decide) ?_
      exact ihk (i + 1) (by omega) (nI o) un2 U2 h1 w3 (Or.inr ⟨o, ho8, hl3⟩) (fun _ => ⟨rfl, hl3⟩)
  exact loop1 6 0 rfl (m_la M) (m_un M) (m_u M) g w hu (fun z => absurd z (by omega))
