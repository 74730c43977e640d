/-! ===== the model: laysUnits, unitAt, unitOf, valueOf, value, load ===== -/
def q_HL : Prop := ∀ o, o < 8 → ∀ U : Nat → Int32, (q_ems o (q_en 8 [] 0) (0, U)).1 = q_cnt o ∧ ∀ u, u < q_cnt o → ∀ k, k < 8 → (q_ems o (q_en 8 [] 0) (0, U)).2 (8 * u + k) = (q_read (q_uc o u) k).toInt32
def m_lay (o : Nat) (M : q_M) : Prop := m_la M = nI o ∧ m_un M = nI (q_cnt o) ∧ ∀ u, u < q_cnt o → ∀ k, k < 8 → m_u M (8 * u + k) = (q_read (q_uc o u) k).toInt32
def m_uok (M : q_M) : Prop := m_la M = -1 ∨ ∃ o, o < 8 ∧ m_lay o M
theorem m_wUn_self {M : q_M} {o : Nat} (h : m_la M = nI o) : m_wUn M (nI o) (m_un M) (m_u M) = M := by
  rw [← h]
  rfl
theorem m_uok.of {M : q_M} {o : Nat} (h : m_uok M) (ho8 : o < 8) (e : m_la M = nI o) : m_lay o M := by
  rcases h with h | ⟨o2, h2, h⟩
  · rw [e] at h
    have : ∀ o, o < 8 → ¬ nI o = -1 := by decide
    exact absurd h (this o ho8)
  · have := (nI_eq (a := o) (b := o2) (by omega) (by omega)).mp (e.symm.trans h.1)
    rw [this]
    exact h
set_option maxRecDepth 4000 in
theorem c_X8_laysUnits (E : og_E) (d n : Nat) (h : og_H) {h0 : og_H} {M : q_M} {o : Nat} (hL : q_HL) (w : og_MK h0 h M) (hu : m_uok M) (ho : m_s M 64 = nI o) (ho8 : o < 8) :
    og_M E yX8_laysUnits (.code yX8_laysUnits cX8_laysUnits 5 none) (d + 2) [.ref 101] n h 0 0 (fun v n1 h1 => n1 = n ∧ v = none ∧ ∃ un U, og_MK h0 h1 (m_wUn M (nI o) un U) ∧ m_lay o (m_wUn M (nI o) un U)) no_x := by
  refine og_start (lv := [some (.ref 101), none, none, none, none]) (by decide) rfl rfl (Nat.le_of_ble_eq_true rfl) fun X hr hnm htb => ?_
  have wm := w.m
  have ws := w.s
  refine og_aload_n (pc := 0) dX8_laysUnits_0 rfl ?_
  refine og_get (pc := 1) F_X8_44 dX8_laysUnits_1 wm (by omega) rfl ?_
  refine og_aload_n (pc := 4) dX8_laysUnits_4 rfl ?_
  refine og_get (pc := 5) F_X8_7 dX8_laysUnits_5 wm (by omega) rfl ?_
  refine og_bipush (pc := 8) (v := 64) dX8_laysUnits_8 (by decide) ?_
  refine og_ialdN (pc := 10) (j := 64) rfl dX8_laysUnits_10 (by repeat (first | exact og_set_eq _ _ _ | assumption | refine (og_set_ne _ _ (by first | assumption | omega)).trans ?_)) (by omega) (by omega) (by first | decide | assumption | omega) ?_
  refine og_icmp_ne (pc := 11) (tgt := 15) dX8_laysUnits_11 (by decide) (fun c => ?_) (fun c => ?_)
  · refine og_aload_n (pc := 15) dX8_laysUnits_15 rfl ?_
    refine og_aload_n (pc := 16) dX8_laysUnits_16 rfl ?_
    refine og_get (pc := 17) F_X8_7 dX8_laysUnits_17 wm (by omega) rfl ?_
    refine og_bipush (pc := 20) (v := 64) dX8_laysUnits_20 (by decide) ?_
    refine og_ialdN (pc := 22) (j := 64) rfl dX8_laysUnits_22 (by repeat (first | exact og_set_eq _ _ _ | assumption | refine (og_set_ne _ _ (by first | assumption | omega)).trans ?_)) (by omega) (by omega) (by first | decide | assumption | omega) ?_
    refine og_put (pc := 23) P_X8_44 dX8_laysUnits_23 (by repeat (first | exact og_set_eq _ _ _ | assumption | refine (og_set_ne _ _ (by first | assumption | omega)).trans ?_)) (by omega) rfl rfl (Nat.le_of_ble_eq_true rfl) ?_
    refine og_aload_n (pc := 26) dX8_laysUnits_26 rfl ?_
    refine og_iconst (pc := 27) (v := 0) dX8_laysUnits_27 (by decide) ?_
    refine og_put (pc := 28) P_X8_107 dX8_laysUnits_28 (by repeat (first | exact og_set_eq _ _ _ | assumption | refine (og_set_ne _ _ (by first | assumption | omega)).trans ?_)) (by omega) rfl rfl (Nat.le_of_ble_eq_true rfl) ?_
    refine og_iconst (pc := 31) (v := 0) dX8_laysUnits_31 (by decide) ?_
    refine og_istore_n_1 (pc := 32) dX8_laysUnits_32 rfl ?_
    refine og_aload_n (pc := 33) dX8_laysUnits_33 rfl ?_
    refine og_get (pc := 34) F_X8_32 dX8_laysUnits_34 (by repeat (first | exact og_set_eq _ _ _ | assumption | refine (og_set_ne _ _ (by first | assumption | omega)).trans ?_)) (by omega) rfl ?_
    have w1 := w.sO (m_ps M) (m_ty M) (m_rf M) (m_s M 64) 0 (m_ls M) (m_dp M) (m_wl M) (m_ct M) w.ok.1 w.ok.2
    obtain ⟨f9, e109⟩ := w1.scr 109 (by unfold q_ms; omega)
    refine og_abs (P := fun g => og_MK h0 g (m_wUn M (nI o) (nI 0) (m_u M)) ∧ g 109 = some (rowL f9)) (by rw [og_set_set]; rw [ho] at w1 e109 ⊢; exact ⟨w1, e109⟩) fun g ⟨w2, e109⟩ => ?_
    have wm := w2.m
    refine og_iconst (pc := 37) (v := 0) dX8_laysUnits_37 (by decide) ?_
    refine og_ldc2 (pc := 38) LC_X8_110 dX8_laysUnits_38 ?_
    refine og_lastN (pc := 41) (j := 0) rfl dX8_laysUnits_41 (by repeat (first | exact og_set_eq _ _ _ | assumption | refine (og_set_ne _ _ (by first | assumption | omega)).trans ?_)) (by omega) (by omega) (by first | decide | assumption | omega) ?_
    have hlo := hL o ho8 (m_u M)
    refine w_laysL htb ho8 7 [] 0 rfl (by omega) rfl (vp_updL f9 0 (-3)) (0, m_u M) _ (fun j hj => absurd hj (by simp)) (if_pos rfl) (by rw [hlo.1]; exact q_cnt_le o) (w2.row _ (by unfold q_ms; omega)) (og_set_eq _ _ _) (fun f2 h2 w3 e3 _ => ?_)
    refine og_iload_n (pc := 42) dX8_laysUnits_42 rfl ?_
    refine og_if_lt (pc := 43) (tgt := 214) dX8_laysUnits_43 (by decide) (fun _ => ?_) (fun c => absurd (by decide) c)
    exact og_vret (pc := 214) hr dX8_laysUnits_214 (by omega) (by omega) ⟨rfl, rfl, _, _, w3, rfl, by show nI _ = _; rw [hlo.1], hlo.2⟩
  · have e : m_la M = nI o := by rw [← ho]; exact c
    exact og_vret (pc := 14) hr dX8_laysUnits_14 (by omega) (by omega) ⟨rfl, rfl, m_un M, m_u M, by rw [m_wUn_self e]; exact ⟨w, hu.of ho8 e⟩⟩
def q_eqU (o : Nat) (s : Nat → Int32) (r u : Nat) : Prop := ∀ k, k < 8 → (q_read (q_uc o u) k).toInt32 = s (8 * r + k)
def q_uat (o : Nat) (s : Nat → Int32) (r : Nat) (v : Option Value) : Prop := (∃ u, u < q_cnt o ∧ q_eqU o s r u ∧ (∀ t, t < u → ¬ q_eqU o s r t) ∧ v = some (.int (nI u))) ∨ ((∀ t, t < q_cnt o → ¬ q_eqU o s r t) ∧ v = some (.int (-1)))
set_option maxRecDepth 4000 in
theorem c_X8_unitAt (E : og_E) (d n r : Nat) (h : og_H) {h0 : og_H} {M : q_M} (w : og_MK h0 h M) {o : Nat} (hL : q_HL) (hu : m_uok M) (ho : m_s M 64 = nI o) (ho8 : o < 8) (hr8 : r < 8) :
    og_M E yX8_unitAt (.code yX8_unitAt cX8_unitAt 6 (some .int)) (d + 3) [.ref 101, .int (nI r)] n h 0 0 (fun v n1 h1 => n1 = n ∧ ∃ un U, og_MK h0 h1 (m_wUn M (nI o) un U) ∧ m_lay o (m_wUn M (nI o) un U) ∧ q_uat o (m_s M) r v) no_x := by
  refine og_start (lv := [some (.ref 101), some (.int (nI r)), none, none, none, none]) (by decide) rfl rfl (Nat.le_of_ble_eq_true rfl) fun X hr hnm htb => ?_
  have wm := w.m
  refine og_aload_n (pc := 0) dX8_unitAt_0 rfl ?_
  refine og_callV (pc := 1) (As := []) (rest := []) (c_X8_laysUnits E d n h hL w hu ho ho8) Y_X8_laysUnits I_X8_laysUnits V_X8_laysUnits wm (by omega) rfl rfl K_X8_118 dX8_unitAt_1 rfl rfl (Nat.le_of_ble_eq_true rfl) (by omega) (by omega) (by omega) (fun _ _ _ z => z) (fun v n1 h1 z => ?_)
  obtain ⟨hn, rfl, un, U, w, hl⟩ := z
  subst hn
  have hun : un = nI (q_cnt o) := hl.2.1
  subst hun
  have wm := w.m
  have ws := w.s
  have wu := w.u
  have hU : ∀ u, u < q_cnt o → ∀ k, k < 8 → U (8 * u + k) = (q_read (q_uc o u) k).toInt32 := hl.2.2
  have hcnt := q_cnt_le o
  refine og_iconst (pc := 4) (v := (-1)) dX8_unitAt_4 (by decide) ?_
  refine og_istore_n_2 (pc := 5) dX8_unitAt_5 rfl ?_
  refine og_iconst (pc := 6) (v := 0) dX8_unitAt_6 (by decide) ?_
  refine og_istore_n_3 (pc := 7) dX8_unitAt_7 rfl ?_
  have leave : ∀ (v : Int32) (i : Nat) (a b : Option Value), q_uat o (m_s M) r (some (.int v)) → og_G E yX8_unitAt.cls cX8_unitAt (d + 3) 0 0 6 X (og_Q E (fun v nn h1 => nn = n1 ∧ ∃ un U, og_MK h0 h1 (m_wUn M (nI o) un U) ∧ m_lay o (m_wUn M (nI o) un U) ∧ q_uat o (m_s M) r v) no_x 0 0 X) 0 0 n1 h1 96 [some (.ref 101), some (.int (nI r)), some (.int v), some (.int (nI i)), a, b] [] := by
    intro v i a b hv
    refine og_iload_n (pc := 96) dX8_unitAt_96 rfl ?_
    exact og_iret (pc := 97) hr dX8_unitAt_97 (by omega) (by omega) ⟨rfl, _, U, w, hl, hv⟩
  have loop : ∀ k i, i + k = q_cnt o → (∀ t, t < i → ¬ q_eqU o (m_s M) r t) → og_G E yX8_unitAt.cls cX8_unitAt (d + 3) 0 0 6 X (og_Q E (fun v nn h1 => nn = n1 ∧ ∃ un U, og_MK h0 h1 (m_wUn M (nI o) un U) ∧ m_lay o (m_wUn M (nI o) un U) ∧ q_uat o (m_s M) r v) no_x 0 0 X) 0 0 n1 h1 8 [some (.ref 101), some (.int (nI r)), some (.int (-1)), some (.int (nI i)), none, none] [] := by
    intro k
    induction k with
    | zero =>
      intro i hi hP
      refine og_iload_n (pc := 8) dX8_unitAt_8 rfl ?_
      refine og_aload_n (pc := 9) dX8_unitAt_9 rfl ?_
      refine og_get (pc := 10) F_X8_107 dX8_unitAt_10 (by repeat (first | exact og_set_eq _ _ _ | assumption | refine (og_set_ne _ _ (by first | assumption | omega)).trans ?_)) (by omega) rfl ?_
      refine og_geN (pc := 13) (tgt := 96) (i := i) (N := (q_cnt o)) dX8_unitAt_13 (by decide) rfl rfl (by omega) (by omega) (fun c_13 => ?_) (fun c_13 => ?_)
      · exact leave _ i _ _ (Or.inr ⟨fun t ht => hP t (by omega), rfl⟩)
      · omega
    | succ k ihk =>
      intro i hi hP
      refine og_iload_n (pc := 8) dX8_unitAt_8 rfl ?_
      refine og_aload_n (pc := 9) dX8_unitAt_9 rfl ?_
      refine og_get (pc := 10) F_X8_107 dX8_unitAt_10 (by repeat (first | exact og_set_eq _ _ _ | assumption | refine (og_set_ne _ _ (by first | assumption | omega)).trans ?_)) (by omega) rfl ?_
      refine og_geN (pc := 13) (tgt := 96) (i := i) (N := (q_cnt o)) dX8_unitAt_13 (by decide) rfl rfl (by omega) (by omega) (fun c_13 => ?_) (fun c_13 => ?_)
      · omega
      refine og_iload_n (pc := 16) dX8_unitAt_16 rfl ?_
      refine og_iconst (pc := 17) (v := (-1)) dX8_unitAt_17 (by decide) ?_
      refine og_icmp_ne (pc := 18) (tgt := 96) dX8_unitAt_18 (by decide) (fun c => absurd rfl c) (fun _ => ?_)
      refine og_iconst (pc := 21) (v := 1) dX8_unitAt_21 (by decide) ?_
      refine og_istore_4 (pc := 22) dX8_unitAt_22 rfl ?_
      refine og_to (lv1 := [some (.ref 101), some (.int (nI r)), some (.int (-1)), some (.int (nI i)), some (.int (q_if (∀ j, j < 0 → U (8 * i + j) = m_s M (8 * r + j)) 1 0)), none]) rfl rfl rfl (by rw [q_if_t _ _ (fun j hj => absurd hj (by omega))]) rfl ?_
      refine og_iconst (pc := 24) (v := 0) dX8_unitAt_24 (by decide) ?_
      refine og_istore_5 (pc := 25) dX8_unitAt_25 rfl ?_
      refine og_for (i0 := 0) (N := 8) (by decide) (fun _ => h1) (fun k => [some (.ref 101), some (.int (nI r)), some (.int (-1)), some (.int (nI i)), some (.int (q_if (∀ j, j < k → U (8 * i + j) = m_s M (8 * r + j)) 1 0)), some (.int (nI k))]) ?_ (fun k2 _ hk2 ih => ?_)
      · refine og_iload (pc := 27) dX8_unitAt_27 rfl ?_
        refine og_bipush (pc := 29) (v := 8) dX8_unitAt_29 (by decide) ?_
        refine og_geN (pc := 31) (tgt := 79) (i := 8) (N := 8) dX8_unitAt_31 (by decide) rfl rfl (by omega) (by omega) (fun c_31 => ?_) (fun c_31 => ?_)
        rotate_left
        · omega
        refine og_iload (pc := 79) dX8_unitAt_79 rfl ?_
        by_cases q : ∀ j, j < 8 → U (8 * i + j) = m_s M (8 * r + j)
        · rw [q_if_t _ _ q]
          refine og_if_eq (pc := 81) (tgt := 88) dX8_unitAt_81 (by decide) (fun z => absurd z (by decide)) (fun _ => ?_)
          have hq : q_uat o (m_s M) r (some (.int (nI i))) := Or.inl ⟨i, by omega, fun j hj => by rw [← hU i (by omega) j hj]; exact q j hj, hP, rfl⟩
          refine og_iload_n (pc := 84) dX8_unitAt_84 rfl ?_
          refine og_goto (pc := 85) (tgt := 89) dX8_unitAt_85 (by decide) ?_
          refine og_istore_n_2 (pc := 89) dX8_unitAt_89 rfl ?_
          refine og_iinc_3 (pc := 90) dX8_unitAt_90 (og_inc i) rfl ?_
          refine og_goto (pc := 93) (tgt := 8) dX8_unitAt_93 (by decide) ?_
          refine og_iload_n (pc := 8) dX8_unitAt_8 rfl ?_
          refine og_aload_n (pc := 9) dX8_unitAt_9 rfl ?_
          refine og_get (pc := 10) F_X8_107 dX8_unitAt_10 (by repeat (first | exact og_set_eq _ _ _ | assumption | refine (og_set_ne _ _ (by first | assumption | omega)).trans ?_)) (by omega) rfl ?_
          refine og_geN (pc := 13) (tgt := 96) (i := (i + 1)) (N := (q_cnt o)) dX8_unitAt_13 (by decide) rfl rfl (by omega) (by omega) (fun c_13 => ?_) (fun c_13 => ?_)
          · exact leave _ (i + 1) _ _ hq
          refine og_iload_n (pc := 16) dX8_unitAt_16 rfl ?_
          refine og_iconst (pc := 17) (v := (-1)) dX8_unitAt_17 (by decide) ?_
          refine og_icmp_ne (pc := 18) (tgt := 96) dX8_unitAt_18 (by decide) (fun _ => leave _ (i + 1) _ _ hq) (fun c => ?_)
          exact absurd (c) (fun e => by
            have z : ¬ nI i < 0 := nI_pos (by omega)
            rw [e] at z
            exact z (by decide))
        · rw [q_if_f _ _ q]
          refine og_if_eq (pc := 81) (tgt := 88) dX8_unitAt_81 (by decide) (fun _ => ?_) (fun z => absurd rfl z)
          refine og_iconst (pc := 88) (v := (-1)) dX8_unitAt_88 (by decide) ?_
          refine og_istore_n_2 (pc := 89) dX8_unitAt_89 rfl ?_
          refine og_iinc_3 (pc := 90) dX8_unitAt_90 (og_inc i) rfl ?_
          refine og_goto (pc := 93) (tgt := 8) dX8_unitAt_93 (by decide) ?_
          refine og_forget_4 ?_
          refine og_forget_5 ?_
          refine ihk (i + 1) (by omega) (fun t ht => ?_)
          by_cases e : t = i
          · rw [e]
            exact fun z => q (fun j hj => by rw [hU i (by omega) j hj]; exact z j hj)
          · exact hP t (by omega)
      · have fin : ∀ x : Int32, x = q_if (∀ j, j < k2 + 1 → U (8 * i + j) = m_s M (8 * r + j)) 1 0 → og_G E yX8_unitAt.cls cX8_unitAt (d + 3) 0 0 6 X (og_Q E (fun v nn h1 => nn = n1 ∧ ∃ un U, og_MK h0 h1 (m_wUn M (nI o) un U) ∧ m_lay o (m_wUn M (nI o) un U) ∧ q_uat o (m_s M) r v) no_x 0 0 X) 0 0 n1 h1 71 [some (.ref 101), some (.int (nI r)), some (.int (-1)), some (.int (nI i)), some (.int (q_if (∀ j, j < k2 → U (8 * i + j) = m_s M (8 * r + j)) 1 0)), some (.int (nI k2))] [.int x] := by
          intro x hx
          subst hx
          refine og_istore_4 (pc := 71) dX8_unitAt_71 rfl ?_
          refine og_iinc_5 (pc := 73) dX8_unitAt_73 (og_inc k2) rfl ?_
          refine og_goto (pc := 76) (tgt := 27) dX8_unitAt_76 (by decide) ?_
          exact ih
        refine og_iload (pc := 27) dX8_unitAt_27 rfl ?_
        refine og_bipush (pc := 29) (v := 8) dX8_unitAt_29 (by decide) ?_
        refine og_geN (pc := 31) (tgt := 79) (i := k2) (N := 8) dX8_unitAt_31 (by decide) rfl rfl (by omega) (by omega) (fun c_31 => ?_) (fun c_31 => ?_)
        · omega
        refine og_iload (pc := 34) dX8_unitAt_34 rfl ?_
        refine og_if_eq (pc := 36) (tgt := 70) dX8_unitAt_36 (by decide) (fun q => ?_) (fun q => ?_)
        · refine og_iconst (pc := 70) (v := 0) dX8_unitAt_70 (by decide) ?_
          refine fin 0 (q_if_f _ _ fun z => ?_).symm
          rw [q_if_t _ _ (fun j hj => z j (by omega))] at q
          exact absurd q (by decide)
        · have hp : ∀ j, j < k2 → U (8 * i + j) = m_s M (8 * r + j) := Classical.byContradiction fun z => q (q_if_f _ _ z)
          refine og_aload_n (pc := 39) dX8_unitAt_39 rfl ?_
          refine og_get (pc := 40) F_X8_48 dX8_unitAt_40 wm (by omega) rfl ?_
          refine og_bipush (pc := 43) (v := 8) dX8_unitAt_43 (by decide) ?_
          refine og_iload_n (pc := 45) dX8_unitAt_45 rfl ?_
          refine og_imul (pc := 46) dX8_unitAt_46 ?_
          refine og_iload (pc := 47) dX8_unitAt_47 rfl ?_
          refine og_iadd (pc := 49) dX8_unitAt_49 ?_
          refine og_ialdN (pc := 50) (og_i8 i k2) dX8_unitAt_50 wu (by omega) (by omega) (by first | decide | assumption | omega) ?_
          refine og_aload_n (pc := 51) dX8_unitAt_51 rfl ?_
          refine og_get (pc := 52) F_X8_7 dX8_unitAt_52 wm (by omega) rfl ?_
          refine og_bipush (pc := 55) (v := 8) dX8_unitAt_55 (by decide) ?_
          refine og_iload_n (pc := 57) dX8_unitAt_57 rfl ?_
          refine og_imul (pc := 58) dX8_unitAt_58 ?_
          refine og_iload (pc := 59) dX8_unitAt_59 rfl ?_
          refine og_iadd (pc := 61) dX8_unitAt_61 ?_
          refine og_ialdN (pc := 62) (og_i8 r k2) dX8_unitAt_62 ws (by omega) (by omega) (by first | decide | assumption | omega) ?_
          refine og_icmp_ne (pc := 63) (tgt := 70) dX8_unitAt_63 (by decide) (fun q2 => ?_) (fun q2 => ?_)
          · refine og_iconst (pc := 70) (v := 0) dX8_unitAt_70 (by decide) ?_
            exact fin 0 (q_if_f _ _ fun z => q2 (z k2 (by omega))).symm
          · refine og_iconst (pc := 66) (v := 1) dX8_unitAt_66 (by decide) ?_
            refine og_goto (pc := 67) (tgt := 71) dX8_unitAt_67 (by decide) ?_
            exact fin 1 (q_if_t _ _ fun j hj => by
              by_cases e : j = k2
              · rw [e]; exact q2
              · exact hp j (by omega)).symm
  exact loop (q_cnt o) 0 (by omega) (fun t ht => absurd ht (by omega))
set_option maxRecDepth 4000 in
theorem c_X8_unitOf (E : og_E) (d n : Nat) (h : og_H) (x : Int32) {h0 : og_H} {M : q_M} (w : og_MK h0 h M) {o : Nat} (hL : q_HL) (hu : m_uok M) (ho : m_s M 64 = nI o) (ho8 : o < 8) :
    og_M E yX8_unitOf (.code yX8_unitOf cX8_unitOf 2 (some .int)) (d + 4) [.ref 101, .int x] n h 0 0 (fun v n1 h1 => n1 = n ∧ ((¬ (q_in8 x) ∧ v = some (.int 0) ∧ og_MK h0 h1 (m_wRf M 1)) ∨ (∃ r, r < 8 ∧ x = nI r ∧ ∃ un U, og_MK h0 h1 (m_wUn (m_wRf M 0) (nI o) un U) ∧ m_lay o (m_wUn (m_wRf M 0) (nI o) un U) ∧ q_uat o (m_s M) r v))) no_x := by
  refine og_start (lv := [some (.ref 101), some (.int x)]) (by decide) rfl rfl (Nat.le_of_ble_eq_true rfl) fun X hr hnm htb => ?_
  have rej : ¬ (q_in8 x) → og_G E yX8_unitOf.cls cX8_unitOf (d + 4) 0 0 2 X (og_Q E (fun v n1 h1 => n1 = n ∧ ((¬ (q_in8 x) ∧ v = some (.int 0) ∧ og_MK h0 h1 (m_wRf M 1)) ∨ (∃ r, r < 8 ∧ x = nI r ∧ ∃ un U, og_MK h0 h1 (m_wUn (m_wRf M 0) (nI o) un U) ∧ m_lay o (m_wUn (m_wRf M 0) (nI o) un U) ∧ q_uat o (m_s M) r v))) no_x 0 0 X) 0 0 n h 12 [some (.ref 101), some (.int x)] [.ref 101] := by
    intro hb
    have wm := w.m
    refine og_iconst (pc := 12) (v := 1) dX8_unitOf_12 (by decide) ?_
    refine og_callV (pc := 13) (As := [.int 1]) (rest := []) (c_X8_throwsAt E d n h 1 wm) Y_X8_throwsAt I_X8_throwsAt V_X8_throwsAt wm (by omega) rfl rfl K_X8_125 dX8_unitOf_13 rfl rfl (Nat.le_of_ble_eq_true rfl) (by omega) (by omega) (by omega) (fun _ _ _ z => z) (fun v n1 h1 z => ?_)
    obtain ⟨hn, hh, z⟩ := z
    subst hn
    have w2 := w.rf_ 1
    rcases z with ⟨rfl, z⟩ | ⟨rfl, z⟩
    · refine og_if_eq (pc := 16) (tgt := 23) dX8_unitOf_16 (by decide) (fun q => absurd q (by decide)) (fun _ => ?_)
      refine og_iconst (pc := 19) (v := 0) dX8_unitOf_19 (by decide) ?_
      refine og_goto (pc := 20) (tgt := 28) dX8_unitOf_20 (by decide) ?_
      exact og_iret (pc := 28) hr dX8_unitOf_28 (by omega) (by omega) ⟨rfl, Or.inl ⟨hb, rfl, by rw [hh]; exact w2⟩⟩
    · exact absurd (by decide) z
  refine og_aload_n (pc := 0) dX8_unitOf_0 rfl ?_
  refine og_iload_n (pc := 1) dX8_unitOf_1 rfl ?_
  refine og_callS (pc := 2) (As := [.int x]) (rest := [.ref 101]) (c_X8_isEight E d n h x) Y_X8_isEight S_X8_isEight K_X8_121 dX8_unitOf_2 rfl rfl (Nat.le_of_ble_eq_true rfl) (by omega) (by omega) (by omega) (fun _ _ _ z => z) (fun v n1 h1 z => ?_)
  obtain ⟨hn, hh, z⟩ := z
  subst hn hh
  rcases z with ⟨rfl, zx⟩ | ⟨rfl, zx⟩
  rotate_left
  · exact og_if_eq (pc := 5) (tgt := 12) dX8_unitOf_5 (by decide) (fun _ => rej (fun q => zx (q_in_e8 q))) (fun q => absurd rfl q)
  refine og_if_eq (pc := 5) (tgt := 12) dX8_unitOf_5 (by decide) (fun q => absurd q (by decide)) (fun _ => ?_)
  refine og_iconst (pc := 8) (v := 0) dX8_unitOf_8 (by decide) ?_
  refine og_goto (pc := 9) (tgt := 13) dX8_unitOf_9 (by decide) ?_
  have wm := w.m
  refine og_callV (pc := 13) (As := [.int 0]) (rest := []) (c_X8_throwsAt E d n1 h1 0 wm) Y_X8_throwsAt I_X8_throwsAt V_X8_throwsAt wm (by omega) rfl rfl K_X8_125 dX8_unitOf_13 rfl rfl (Nat.le_of_ble_eq_true rfl) (by omega) (by omega) (by omega) (fun _ _ _ z => z) (fun v n2 h2 z => ?_)
  obtain ⟨hn, hh, z⟩ := z
  subst hn
  have w2 := w.rf_ 0
  rcases z with ⟨rfl, z⟩ | ⟨rfl, -⟩
  · exact absurd z (by decide)
  refine og_if_eq (pc := 16) (tgt := 23) dX8_unitOf_16 (by decide) (fun _ => ?_) (fun q => absurd rfl q)
  obtain ⟨r, hr8, rfl⟩ := q_e8_in zx
  refine og_abs (P := fun g => og_MK h0 g (m_wRf M 0)) (by rw [hh]; exact w2) fun g w3 => ?_
  have wm := w3.m
  refine og_aload_n (pc := 23) dX8_unitOf_23 rfl ?_
  refine og_iload_n (pc := 24) dX8_unitOf_24 rfl ?_
  refine og_callV (pc := 25) (As := [.int (nI r)]) (rest := []) (c_X8_unitAt E d n2 r g w3 hL hu ho ho8 hr8) Y_X8_unitAt I_X8_unitAt V_X8_unitAt wm (by omega) rfl rfl K_X8_195 dX8_unitOf_25 rfl rfl (Nat.le_of_ble_eq_true rfl) (by omega) (by omega) (by omega) (fun _ _ _ z => z) (fun v n3 h3 z => ?_)
  obtain ⟨hn, un, U, w4, hl, z⟩ := z
  subst hn
  rcases z with ⟨u, z1, z2, z3, rfl⟩ | ⟨z1, rfl⟩
  · exact og_iret (pc := 28) hr dX8_unitOf_28 (by omega) (by omega) ⟨rfl, Or.inr ⟨r, hr8, rfl, un, U, w4, hl, Or.inl ⟨u, z1, z2, z3, rfl⟩⟩⟩
  · exact og_iret (pc := 28) hr dX8_unitOf_28 (by omega) (by omega) ⟨rfl, Or.inr ⟨r, hr8, rfl, un, U, w4, hl, Or.inr ⟨z1, rfl⟩⟩⟩
noncomputable def m_val (M : q_M) (o q : Nat) : Int32 := if q = 0 then nI o else if q = 1 then nI (q_cnt o) else if q = 2 then m_s M 65 else if q = 3 then m_s M 66 else if q = 4 then nI (q_many (fun r => q_inP (m_R M r) o) 8) else nI (q_many (fun r => q_inner (m_R M r) (m_R M r) 8 = 0) 8)
set_option maxRecDepth 4000 in
theorem c_X8_valueOf (E : og_E) (d n q : Nat) (h : og_H) {h0 : og_H} {M : q_M} (w : og_MK h0 h M) {o : Nat} (hL : q_HL) (hu : m_uok M) (ho : m_s M 64 = nI o) (ho8 : o < 8) (hq : q < 6) :
    og_M E yX8_valueOf (.code yX8_valueOf cX8_valueOf 4 (some .int)) (d + 3) [.ref 101, .int (nI q)] n h 0 0 (fun v n1 h1 => n1 = n ∧ ∃ un U, og_MK h0 h1 (m_wUn M (nI o) un U) ∧ m_lay o (m_wUn M (nI o) un U) ∧ v = some (.int (m_val M o q))) no_x := by
  refine og_start (lv := [some (.ref 101), some (.int (nI q)), none, none]) (by decide) rfl rfl (Nat.le_of_ble_eq_true rfl) fun X hr hnm htb => ?_
  have wm := w.m
  refine og_aload_n (pc := 0) dX8_valueOf_0 rfl ?_
  refine og_callV (pc := 1) (As := []) (rest := []) (c_X8_laysUnits E d n h hL w hu ho ho8) Y_X8_laysUnits I_X8_laysUnits V_X8_laysUnits wm (by omega) rfl rfl K_X8_118 dX8_valueOf_1 rfl rfl (Nat.le_of_ble_eq_true rfl) (by omega) (by omega) (by omega) (fun _ _ _ z => z) (fun v n1 h1 z => ?_)
  obtain ⟨hn, rfl, un, U, w, hl⟩ := z
  subst hn
  have hun : un = nI (q_cnt o) := hl.2.1
  subst hun
  have wm := w.m
  have ws := w.s
  refine og_iconst (pc := 4) (v := 0) dX8_valueOf_4 (by decide) ?_
  refine og_istore_n_2 (pc := 5) dX8_valueOf_5 rfl ?_
  refine og_iconst (pc := 6) (v := 0) dX8_valueOf_6 (by decide) ?_
  refine og_istore_n_3 (pc := 7) dX8_valueOf_7 rfl ?_
  have out : ∀ (g : og_H) (x : Int32), og_MK h0 g (m_wUn M (nI o) (nI (q_cnt o)) U) → m_val M o q = x → og_G E yX8_valueOf.cls cX8_valueOf (d + 3) 0 0 4 X (og_Q E (fun v nn h1 => nn = n1 ∧ ∃ un U, og_MK h0 h1 (m_wUn M (nI o) un U) ∧ m_lay o (m_wUn M (nI o) un U) ∧ v = some (.int (m_val M o q))) no_x 0 0 X) 0 0 n1 g 135 [some (.ref 101), some (.int (nI q)), none, none] [.int x] := by
    intro g x w2 hx
    exact og_iret (pc := 135) hr dX8_valueOf_135 (by omega) (by omega) ⟨rfl, _, U, w2, hl, by rw [hx]⟩
  rcases (show q = 0 ∨ q = 1 ∨ q = 2 ∨ q = 3 ∨ q = 4 ∨ q = 5 by omega) with rfl | rfl | rfl | rfl | rfl | rfl
  · refine og_iload_n (pc := 8) dX8_valueOf_8 rfl ?_
    refine og_bipush (pc := 9) (v := 8) dX8_valueOf_9 (by decide) ?_
    refine og_geN (pc := 11) (tgt := 78) (i := 0) (N := 8) dX8_valueOf_11 (by decide) rfl rfl (by omega) (by omega) (fun c_11 => ?_) (fun c_11 => ?_)
    · omega
    refine og_iload_n (pc := 14) dX8_valueOf_14 rfl ?_
    refine og_iconst (pc := 15) (v := 3) dX8_valueOf_15 (by decide) ?_
    refine og_icmp_le (pc := 16) (tgt := 78) dX8_valueOf_16 (by decide) (fun _ => ?_) (fun c => absurd (by decide) c)
    refine og_forget_2 ?_
    refine og_forget_3 ?_
    refine og_iload_n (pc := 78) dX8_valueOf_78 rfl ?_
    refine og_if_ne (pc := 79) (tgt := 92) dX8_valueOf_79 (by decide) (fun c => absurd rfl c) (fun _ => ?_)
    refine og_aload_n (pc := 82) dX8_valueOf_82 rfl ?_
    refine og_get (pc := 83) F_X8_7 dX8_valueOf_83 wm (by omega) rfl ?_
    refine og_bipush (pc := 86) (v := 64) dX8_valueOf_86 (by decide) ?_
    refine og_ialdN (pc := 88) (j := 64) rfl dX8_valueOf_88 ws (by omega) (by omega) (by first | decide | assumption | omega) ?_
    refine og_goto (pc := 89) (tgt := 135) dX8_valueOf_89 (by decide) ?_
    exact out _ _ w ho.symm
  · refine og_iload_n (pc := 8) dX8_valueOf_8 rfl ?_
    refine og_bipush (pc := 9) (v := 8) dX8_valueOf_9 (by decide) ?_
    refine og_geN (pc := 11) (tgt := 78) (i := 0) (N := 8) dX8_valueOf_11 (by decide) rfl rfl (by omega) (by omega) (fun c_11 => ?_) (fun c_11 => ?_)
    · omega
    refine og_iload_n (pc := 14) dX8_valueOf_14 rfl ?_
    refine og_iconst (pc := 15) (v := 3) dX8_valueOf_15 (by decide) ?_
    refine og_icmp_le (pc := 16) (tgt := 78) dX8_valueOf_16 (by decide) (fun _ => ?_) (fun c => absurd (by decide) c)
    refine og_forget_2 ?_
    refine og_forget_3 ?_
    refine og_iload_n (pc := 78) dX8_valueOf_78 rfl ?_
    refine og_if_ne (pc := 79) (tgt := 92) dX8_valueOf_79 (by decide) (fun _ => ?_) (fun c => absurd c (by decide))
    refine og_iload_n (pc := 92) dX8_valueOf_92 rfl ?_
    refine og_iconst (pc := 93) (v := 1) dX8_valueOf_93 (by decide) ?_
    refine og_icmp_ne (pc := 94) (tgt := 104) dX8_valueOf_94 (by decide) (fun c => absurd rfl c) (fun _ => ?_)
    refine og_aload_n (pc := 97) dX8_valueOf_97 rfl ?_
    refine og_get (pc := 98) F_X8_107 dX8_valueOf_98 wm (by omega) rfl ?_
    refine og_goto (pc := 101) (tgt := 135) dX8_valueOf_101 (by decide) ?_
    exact out _ _ w rfl
  · refine og_iload_n (pc := 8) dX8_valueOf_8 rfl ?_
    refine og_bipush (pc := 9) (v := 8) dX8_valueOf_9 (by decide) ?_
    refine og_geN (pc := 11) (tgt := 78) (i := 0) (N := 8) dX8_valueOf_11 (by decide) rfl rfl (by omega) (by omega) (fun c_11 => ?_) (fun c_11 => ?_)
    · omega
    refine og_iload_n (pc := 14) dX8_valueOf_14 rfl ?_
    refine og_iconst (pc := 15) (v := 3) dX8_valueOf_15 (by decide) ?_
    refine og_icmp_le (pc := 16) (tgt := 78) dX8_valueOf_16 (by decide) (fun _ => ?_) (fun c => absurd (by decide) c)
    refine og_forget_2 ?_
    refine og_forget_3 ?_
    refine og_iload_n (pc := 78) dX8_valueOf_78 rfl ?_
    refine og_if_ne (pc := 79) (tgt := 92) dX8_valueOf_79 (by decide) (fun _ => ?_) (fun c => absurd c (by decide))
    refine og_iload_n (pc := 92) dX8_valueOf_92 rfl ?_
    refine og_iconst (pc := 93) (v := 1) dX8_valueOf_93 (by decide) ?_
    refine og_icmp_ne (pc := 94) (tgt := 104) dX8_valueOf_94 (by decide) (fun _ => ?_) (fun c => absurd c (by decide))
    refine og_iload_n (pc := 104) dX8_valueOf_104 rfl ?_
    refine og_iconst (pc := 105) (v := 2) dX8_valueOf_105 (by decide) ?_
    refine og_icmp_ne (pc := 106) (tgt := 119) dX8_valueOf_106 (by decide) (fun c => absurd rfl c) (fun _ => ?_)
    refine og_aload_n (pc := 109) dX8_valueOf_109 rfl ?_
    refine og_get (pc := 110) F_X8_7 dX8_valueOf_110 wm (by omega) rfl ?_
    refine og_bipush (pc := 113) (v := 65) dX8_valueOf_113 (by decide) ?_
    refine og_ialdN (pc := 115) (j := 65) rfl dX8_valueOf_115 ws (by omega) (by omega) (by first | decide | assumption | omega) ?_
    refine og_goto (pc := 116) (tgt := 135) dX8_valueOf_116 (by decide) ?_
    exact out _ _ w rfl
  · refine og_iload_n (pc := 8) dX8_valueOf_8 rfl ?_
    refine og_bipush (pc := 9) (v := 8) dX8_valueOf_9 (by decide) ?_
    refine og_geN (pc := 11) (tgt := 78) (i := 0) (N := 8) dX8_valueOf_11 (by decide) rfl rfl (by omega) (by omega) (fun c_11 => ?_) (fun c_11 => ?_)
    · omega
    refine og_iload_n (pc := 14) dX8_valueOf_14 rfl ?_
    refine og_iconst (pc := 15) (v := 3) dX8_valueOf_15 (by decide) ?_
    refine og_icmp_le (pc := 16) (tgt := 78) dX8_valueOf_16 (by decide) (fun _ => ?_) (fun c => absurd (by decide) c)
    refine og_forget_2 ?_
    refine og_forget_3 ?_
    refine og_iload_n (pc := 78) dX8_valueOf_78 rfl ?_
    refine og_if_ne (pc := 79) (tgt := 92) dX8_valueOf_79 (by decide) (fun _ => ?_) (fun c => absurd c (by decide))
    refine og_iload_n (pc := 92) dX8_valueOf_92 rfl ?_
    refine og_iconst (pc := 93) (v := 1) dX8_valueOf_93 (by decide) ?_
    refine og_icmp_ne (pc := 94) (tgt := 104) dX8_valueOf_94 (by decide) (fun _ => ?_) (fun c => absurd c (by decide))
    refine og_iload_n (pc := 104) dX8_valueOf_104 rfl ?_
    refine og_iconst (pc := 105) (v := 2) dX8_valueOf_105 (by decide) ?_
    refine og_icmp_ne (pc := 106) (tgt := 119) dX8_valueOf_106 (by decide) (fun _ => ?_) (fun c => absurd c (by decide))
    refine og_iload_n (pc := 119) dX8_valueOf_119 rfl ?_
    refine og_iconst (pc := 120) (v := 3) dX8_valueOf_120 (by decide) ?_
    refine og_icmp_ne (pc := 121) (tgt := 134) dX8_valueOf_121 (by decide) (fun c => absurd rfl c) (fun _ => ?_)
    refine og_aload_n (pc := 124) dX8_valueOf_124 rfl ?_
    refine og_get (pc := 125) F_X8_7 dX8_valueOf_125 wm (by omega) rfl ?_
    refine og_bipush (pc := 128) (v := 66) dX8_valueOf_128 (by decide) ?_
    refine og_ialdN (pc := 130) (j := 66) rfl dX8_valueOf_130 ws (by omega) (by omega) (by first | decide | assumption | omega) ?_
    refine og_goto (pc := 131) (tgt := 135) dX8_valueOf_131 (by decide) ?_
    exact out _ _ w rfl
  · refine og_to (lv1 := [some (.ref 101), some (.int (nI 4)), some (.int (nI (q_many (fun r => q_inP (m_R M r) o) 0))), some (.int (nI 0))]) rfl rfl rfl rfl rfl ?_
    have loop : ∀ k i, i + k = 8 → ∀ g, og_MK h0 g (m_wUn M (nI o) (nI (q_cnt o)) U) → og_G E yX8_valueOf.cls cX8_valueOf (d + 3) 0 0 4 X (og_Q E (fun v nn h1 => nn = n1 ∧ ∃ un U, og_MK h0 h1 (m_wUn M (nI o) un U) ∧ m_lay o (m_wUn M (nI o) un U) ∧ v = some (.int (m_val M o 4))) no_x 0 0 X) 0 0 n1 g 8 [some (.ref 101), some (.int (nI 4)), some (.int (nI (q_many (fun r => q_inP (m_R M r) o) i))), some (.int (nI i))] [] := by
      intro k
      induction k with
      | zero =>
        intro i hi g w
        have ei : i = 8 := by omega
        subst ei
        refine og_iload_n (pc := 8) dX8_valueOf_8 rfl ?_
        refine og_bipush (pc := 9) (v := 8) dX8_valueOf_9 (by decide) ?_
        refine og_geN (pc := 11) (tgt := 78) (i := 8) (N := 8) dX8_valueOf_11 (by decide) rfl rfl (by omega) (by omega) (fun c_11 => ?_) (fun c_11 => ?_)
        · refine og_iload_n (pc := 78) dX8_valueOf_78 rfl ?_
          refine og_if_ne (pc := 79) (tgt := 92) dX8_valueOf_79 (by decide) (fun _ => ?_) (fun c => absurd c (by decide))
          refine og_iload_n (pc := 92) dX8_valueOf_92 rfl ?_
          refine og_iconst (pc := 93) (v := 1) dX8_valueOf_93 (by decide) ?_
          refine og_icmp_ne (pc := 94) (tgt := 104) dX8_valueOf_94 (by decide) (fun _ => ?_) (fun c => absurd c (by decide))
          refine og_iload_n (pc := 104) dX8_valueOf_104 rfl ?_
          refine og_iconst (pc := 105) (v := 2) dX8_valueOf_105 (by decide) ?_
          refine og_icmp_ne (pc := 106) (tgt := 119) dX8_valueOf_106 (by decide) (fun _ => ?_) (fun c => absurd c (by decide))
          refine og_iload_n (pc := 119) dX8_valueOf_119 rfl ?_
          refine og_iconst (pc := 120) (v := 3) dX8_valueOf_120 (by decide) ?_
          refine og_icmp_ne (pc := 121) (tgt := 134) dX8_valueOf_121 (by decide) (fun _ => ?_) (fun c => absurd c (by decide))
          refine og_iload_n (pc := 134) dX8_valueOf_134 rfl ?_
          refine og_forget_2 ?_
          refine og_forget_3 ?_
          exact out _ _ w rfl
        · omega
      | succ k ihk =>
        intro i hi g w
        have wm := w.m
        have ws := w.s
        obtain ⟨f7, e107⟩ := w.scr 107 (by unfold q_ms; omega)
        have fin : ∀ g2, og_MK h0 g2 (m_wUn M (nI o) (nI (q_cnt o)) U) → ∀ x : Int32, ((x = 1 ∧ q_inP (m_R M i) o) ∨ (x = 0 ∧ ¬ (q_inP (m_R M i) o))) → og_G E yX8_valueOf.cls cX8_valueOf (d + 3) 0 0 4 X (og_Q E (fun v nn h1 => nn = n1 ∧ ∃ un U, og_MK h0 h1 (m_wUn M (nI o) un U) ∧ m_lay o (m_wUn M (nI o) un U) ∧ v = some (.int (m_val M o 4))) no_x 0 0 X) 0 0 n1 g2 70 [some (.ref 101), some (.int (nI 4)), some (.int (nI (q_many (fun r => q_inP (m_R M r) o) i))), some (.int (nI i))] [.int x, .int (nI (q_many (fun r => q_inP (m_R M r) o) i))] := by
          intro g2 w2 x hx
          refine og_iadd (pc := 70) dX8_valueOf_70 ?_
          rcases hx with ⟨rfl, z⟩ | ⟨rfl, z⟩
          · rw [nI_1, ← q_many_t (fun r => q_inP (m_R M r) o) z]
            refine og_istore_n_2 (pc := 71) dX8_valueOf_71 rfl ?_
            refine og_iinc_3 (pc := 72) dX8_valueOf_72 (og_inc i) rfl ?_
            refine og_goto (pc := 75) (tgt := 8) dX8_valueOf_75 (by decide) ?_
            exact ihk (i + 1) (by omega) g2 w2
          · rw [show nI (q_many (fun r => q_inP (m_R M r) o) i) + 0 = nI (q_many (fun r => q_inP (m_R M r) o) i) from Int32.add_zero _, ← q_many_f (fun r => q_inP (m_R M r) o) z]
            refine og_istore_n_2 (pc := 71) dX8_valueOf_71 rfl ?_
            refine og_iinc_3 (pc := 72) dX8_valueOf_72 (og_inc i) rfl ?_
            refine og_goto (pc := 75) (tgt := 8) dX8_valueOf_75 (by decide) ?_
            exact ihk (i + 1) (by omega) g2 w2
        refine og_iload_n (pc := 8) dX8_valueOf_8 rfl ?_
        refine og_bipush (pc := 9) (v := 8) dX8_valueOf_9 (by decide) ?_
        refine og_geN (pc := 11) (tgt := 78) (i := i) (N := 8) dX8_valueOf_11 (by decide) rfl rfl (by omega) (by omega) (fun c_11 => ?_) (fun c_11 => ?_)
        · omega
        refine og_iload_n (pc := 14) dX8_valueOf_14 rfl ?_
        refine og_iconst (pc := 15) (v := 3) dX8_valueOf_15 (by decide) ?_
        refine og_icmp_le (pc := 16) (tgt := 78) dX8_valueOf_16 (by decide) (fun c => absurd c (by decide)) (fun _ => ?_)
        refine og_aload_n (pc := 19) dX8_valueOf_19 rfl ?_
        refine og_aload_n (pc := 20) dX8_valueOf_20 rfl ?_
        refine og_get (pc := 21) F_X8_25 dX8_valueOf_21 wm (by omega) rfl ?_
        refine og_iload_n (pc := 24) dX8_valueOf_24 rfl ?_
        refine og_callV (pc := 25) (As := [.ref 107, .int (nI i)]) (rest := []) (c_X8_takes E d n1 107 i g (m_s M) f7 wm w.s e107 (by omega) (by omega)) Y_X8_takes I_X8_takes V_X8_takes wm (by omega) rfl rfl K_X8_131 dX8_valueOf_25 rfl rfl (Nat.le_of_ble_eq_true rfl) (by omega) (by omega) (by omega) (fun _ _ _ z => z) (fun v n2 h2 z => ?_)
        obtain ⟨rfl, hn, hh⟩ := z
        subst hn
        refine og_abs (P := fun g => og_MK h0 g (m_wUn M (nI o) (nI (q_cnt o)) U) ∧ g 107 = some (rowL (m_R M i))) (by rw [hh]; exact ⟨w.row _ (by unfold q_ms; omega), og_set_eq _ _ _⟩) fun g ⟨w, e107⟩ => ?_
        have wm := w.m
        have ws := w.s
        refine og_iload_n (pc := 28) dX8_valueOf_28 rfl ?_
        refine og_iload_n (pc := 29) dX8_valueOf_29 rfl ?_
        refine og_iconst (pc := 30) (v := 4) dX8_valueOf_30 (by decide) ?_
        refine og_icmp_ne (pc := 31) (tgt := 55) dX8_valueOf_31 (by decide) (fun c => absurd rfl c) (fun _ => ?_)
        refine og_aload_n (pc := 34) dX8_valueOf_34 rfl ?_
        refine og_aload_n (pc := 35) dX8_valueOf_35 rfl ?_
        refine og_get (pc := 36) F_X8_25 dX8_valueOf_36 wm (by omega) rfl ?_
        refine og_aload_n (pc := 39) dX8_valueOf_39 rfl ?_
        refine og_get (pc := 40) F_X8_7 dX8_valueOf_40 wm (by omega) rfl ?_
        refine og_bipush (pc := 43) (v := 64) dX8_valueOf_43 (by decide) ?_
        refine og_ialdN (pc := 45) (j := 64) rfl dX8_valueOf_45 ws (by omega) (by omega) (by first | decide | assumption | omega) ?_
        refine og_callV (pc := 46) (As := [.ref 107, .int (m_s M 64)]) (rest := [.int (nI (q_many (fun r => q_inP (m_R M r) o) i))]) (ho ▸ c_X8_isIn E d n2 107 o g _ wm e107 (by omega) ho8) Y_X8_isIn I_X8_isIn V_X8_isIn wm (by omega) rfl rfl K_X8_114 dX8_valueOf_46 rfl rfl (Nat.le_of_ble_eq_true rfl) (by omega) (by omega) (by omega) (fun _ _ _ z => z) (fun v n3 h3 z => ?_)
        obtain ⟨hn, rfl, z⟩ := z
        subst hn
        rcases z with ⟨rfl, z⟩ | ⟨rfl, z⟩
        · refine og_if_eq (pc := 49) (tgt := 69) dX8_valueOf_49 (by decide) (fun c => absurd c (by decide)) (fun _ => ?_)
          refine og_goto (pc := 52) (tgt := 65) dX8_valueOf_52 (by decide) ?_
          refine og_iconst (pc := 65) (v := 1) dX8_valueOf_65 (by decide) ?_
          refine og_goto (pc := 66) (tgt := 70) dX8_valueOf_66 (by decide) ?_
          exact fin _ w 1 (Or.inl ⟨rfl, z⟩)
        · refine og_if_eq (pc := 49) (tgt := 69) dX8_valueOf_49 (by decide) (fun _ => ?_) (fun c => absurd rfl c)
          refine og_iconst (pc := 69) (v := 0) dX8_valueOf_69 (by decide) ?_
          exact fin _ w 0 (Or.inr ⟨rfl, z⟩)
    exact loop 8 0 rfl _ w
  · refine og_to (lv1 := [some (.ref 101), some (.int (nI 5)), some (.int (nI (q_many (fun r => q_inner (m_R M r) (m_R M r) 8 = 0) 0))), some (.int (nI 0))]) rfl rfl rfl rfl rfl ?_
    have loop : ∀ k i, i + k = 8 → ∀ g, og_MK h0 g (m_wUn M (nI o) (nI (q_cnt o)) U) → og_G E yX8_valueOf.cls cX8_valueOf (d + 3) 0 0 4 X (og_Q E (fun v nn h1 => nn = n1 ∧ ∃ un U, og_MK h0 h1 (m_wUn M (nI o) un U) ∧ m_lay o (m_wUn M (nI o) un U) ∧ v = some (.int (m_val M o 5))) no_x 0 0 X) 0 0 n1 g 8 [some (.ref 101), some (.int (nI 5)), some (.int (nI (q_many (fun r => q_inner (m_R M r) (m_R M r) 8 = 0) i))), some (.int (nI i))] [] := by
      intro k
      induction k with
      | zero =>
        intro i hi g w
        have ei : i = 8 := by omega
        subst ei
        refine og_iload_n (pc := 8) dX8_valueOf_8 rfl ?_
        refine og_bipush (pc := 9) (v := 8) dX8_valueOf_9 (by decide) ?_
        refine og_geN (pc := 11) (tgt := 78) (i := 8) (N := 8) dX8_valueOf_11 (by decide) rfl rfl (by omega) (by omega) (fun c_11 => ?_) (fun c_11 => ?_)
        · refine og_iload_n (pc := 78) dX8_valueOf_78 rfl ?_
          refine og_if_ne (pc := 79) (tgt := 92) dX8_valueOf_79 (by decide) (fun _ => ?_) (fun c => absurd c (by decide))
          refine og_iload_n (pc := 92) dX8_valueOf_92 rfl ?_
          refine og_iconst (pc := 93) (v := 1) dX8_valueOf_93 (by decide) ?_
          refine og_icmp_ne (pc := 94) (tgt := 104) dX8_valueOf_94 (by decide) (fun _ => ?_) (fun c => absurd c (by decide))
          refine og_iload_n (pc := 104) dX8_valueOf_104 rfl ?_
          refine og_iconst (pc := 105) (v := 2) dX8_valueOf_105 (by decide) ?_
          refine og_icmp_ne (pc := 106) (tgt := 119) dX8_valueOf_106 (by decide) (fun _ => ?_) (fun c => absurd c (by decide))
          refine og_iload_n (pc := 119) dX8_valueOf_119 rfl ?_
          refine og_iconst (pc := 120) (v := 3) dX8_valueOf_120 (by decide) ?_
          refine og_icmp_ne (pc := 121) (tgt := 134) dX8_valueOf_121 (by decide) (fun _ => ?_) (fun c => absurd c (by decide))
          refine og_iload_n (pc := 134) dX8_valueOf_134 rfl ?_
          refine og_forget_2 ?_
          refine og_forget_3 ?_
          exact out _ _ w rfl
        · omega
      | succ k ihk =>
        intro i hi g w
        have wm := w.m
        have ws := w.s
        obtain ⟨f7, e107⟩ := w.scr 107 (by unfold q_ms; omega)
        have fin : ∀ g2, og_MK h0 g2 (m_wUn M (nI o) (nI (q_cnt o)) U) → ∀ x : Int32, ((x = 1 ∧ q_inner (m_R M i) (m_R M i) 8 = 0) ∨ (x = 0 ∧ ¬ (q_inner (m_R M i) (m_R M i) 8 = 0))) → og_G E yX8_valueOf.cls cX8_valueOf (d + 3) 0 0 4 X (og_Q E (fun v nn h1 => nn = n1 ∧ ∃ un U, og_MK h0 h1 (m_wUn M (nI o) un U) ∧ m_lay o (m_wUn M (nI o) un U) ∧ v = some (.int (m_val M o 5))) no_x 0 0 X) 0 0 n1 g2 70 [some (.ref 101), some (.int (nI 5)), some (.int (nI (q_many (fun r => q_inner (m_R M r) (m_R M r) 8 = 0) i))), some (.int (nI i))] [.int x, .int (nI (q_many (fun r => q_inner (m_R M r) (m_R M r) 8 = 0) i))] := by
          intro g2 w2 x hx
          refine og_iadd (pc := 70) dX8_valueOf_70 ?_
          rcases hx with ⟨rfl, z⟩ | ⟨rfl, z⟩
          · rw [nI_1, ← q_many_t (fun r => q_inner (m_R M r) (m_R M r) 8 = 0) z]
            refine og_istore_n_2 (pc := 71) dX8_valueOf_71 rfl ?_
            refine og_iinc_3 (pc := 72) dX8_valueOf_72 (og_inc i) rfl ?_
            refine og_goto (pc := 75) (tgt := 8) dX8_valueOf_75 (by decide) ?_
            exact ihk (i + 1) (by omega) g2 w2
          · rw [show nI (q_many (fun r => q_inner (m_R M r) (m_R M r) 8 = 0) i) + 0 = nI (q_many (fun r => q_inner (m_R M r) (m_R M r) 8 = 0) i) from Int32.add_zero _, ← q_many_f (fun r => q_inner (m_R M r) (m_R M r) 8 = 0) z]
            refine og_istore_n_2 (pc := 71) dX8_valueOf_71 rfl ?_
            refine og_iinc_3 (pc := 72) dX8_valueOf_72 (og_inc i) rfl ?_
            refine og_goto (pc := 75) (tgt := 8) dX8_valueOf_75 (by decide) ?_
            exact ihk (i + 1) (by omega) g2 w2
        refine og_iload_n (pc := 8) dX8_valueOf_8 rfl ?_
        refine og_bipush (pc := 9) (v := 8) dX8_valueOf_9 (by decide) ?_
        refine og_geN (pc := 11) (tgt := 78) (i := i) (N := 8) dX8_valueOf_11 (by decide) rfl rfl (by omega) (by omega) (fun c_11 => ?_) (fun c_11 => ?_)
        · omega
        refine og_iload_n (pc := 14) dX8_valueOf_14 rfl ?_
        refine og_iconst (pc := 15) (v := 3) dX8_valueOf_15 (by decide) ?_
        refine og_icmp_le (pc := 16) (tgt := 78) dX8_valueOf_16 (by decide) (fun c => absurd c (by decide)) (fun _ => ?_)
        refine og_aload_n (pc := 19) dX8_valueOf_19 rfl ?_
        refine og_aload_n (pc := 20) dX8_valueOf_20 rfl ?_
        refine og_get (pc := 21) F_X8_25 dX8_valueOf_21 wm (by omega) rfl ?_
        refine og_iload_n (pc := 24) dX8_valueOf_24 rfl ?_
        refine og_callV (pc := 25) (As := [.ref 107, .int (nI i)]) (rest := []) (c_X8_takes E d n1 107 i g (m_s M) f7 wm w.s e107 (by omega) (by omega)) Y_X8_takes I_X8_takes V_X8_takes wm (by omega) rfl rfl K_X8_131 dX8_valueOf_25 rfl rfl (Nat.le_of_ble_eq_true rfl) (by omega) (by omega) (by omega) (fun _ _ _ z => z) (fun v n2 h2 z => ?_)
        obtain ⟨rfl, hn, hh⟩ := z
        subst hn
        refine og_abs (P := fun g => og_MK h0 g (m_wUn M (nI o) (nI (q_cnt o)) U) ∧ g 107 = some (rowL (m_R M i))) (by rw [hh]; exact ⟨w.row _ (by unfold q_ms; omega), og_set_eq _ _ _⟩) fun g ⟨w, e107⟩ => ?_
        have wm := w.m
        have ws := w.s
        refine og_iload_n (pc := 28) dX8_valueOf_28 rfl ?_
        refine og_iload_n (pc := 29) dX8_valueOf_29 rfl ?_
        refine og_iconst (pc := 30) (v := 4) dX8_valueOf_30 (by decide) ?_
        refine og_icmp_ne (pc := 31) (tgt := 55) dX8_valueOf_31 (by decide) (fun _ => ?_) (fun c => absurd c (by decide))
        refine og_aload_n (pc := 55) dX8_valueOf_55 rfl ?_
        refine og_get (pc := 56) F_X8_25 dX8_valueOf_56 wm (by omega) rfl ?_
        refine og_callS (pc := 59) (As := [.ref 107]) (rest := [.int (nI (q_many (fun r => q_inner (m_R M r) (m_R M r) 8 = 0) i))]) (c_X8_isNought E d n2 107 g _ e107 (by omega)) Y_X8_isNought S_X8_isNought K_X8_173 dX8_valueOf_59 rfl rfl (Nat.le_of_ble_eq_true rfl) (by omega) (by omega) (by omega) (fun _ _ _ z => z) (fun v n3 h3 z => ?_)
        obtain ⟨hn, hh2, z⟩ := z
        subst hn hh2
        rcases z with ⟨rfl, z⟩ | ⟨rfl, z⟩
        · refine og_if_eq (pc := 62) (tgt := 69) dX8_valueOf_62 (by decide) (fun c => absurd c (by decide)) (fun _ => ?_)
          refine og_iconst (pc := 65) (v := 1) dX8_valueOf_65 (by decide) ?_
          refine og_goto (pc := 66) (tgt := 70) dX8_valueOf_66 (by decide) ?_
          exact fin _ w 1 (Or.inl ⟨rfl, z⟩)
        · refine og_if_eq (pc := 62) (tgt := 69) dX8_valueOf_62 (by decide) (fun _ => ?_) (fun c => absurd rfl c)
          refine og_iconst (pc := 69) (v := 0) dX8_valueOf_69 (by decide) ?_
          exact fin _ w 0 (Or.inr ⟨rfl, z⟩)
    exact loop 8 0 rfl _ w
set_option maxRecDepth 4000 in
theorem c_X8_value (E : og_E) (d n : Nat) (h : og_H) (x : Int32) {h0 : og_H} {M : q_M} (w : og_MK h0 h M) {o : Nat} (hL : q_HL) (hu : m_uok M) (ho : m_s M 64 = nI o) (ho8 : o < 8) :
    og_M E yX8_value (.code yX8_value cX8_value 2 (some .int)) (d + 4) [.ref 101, .int x] n h 0 0 (fun v n1 h1 => n1 = n ∧ ((¬ q_inN 6 x ∧ v = some (.int 0) ∧ og_MK h0 h1 (m_wRf M 1)) ∨ (∃ q un U, q < 6 ∧ x = nI q ∧ og_MK h0 h1 (m_wUn (m_wRf M 0) (nI o) un U) ∧ m_lay o (m_wUn (m_wRf M 0) (nI o) un U) ∧ v = some (.int (m_val M o q))))) no_x := by
  refine og_start (lv := [some (.ref 101), some (.int x)]) (by decide) rfl rfl (Nat.le_of_ble_eq_true rfl) fun X hr hnm htb => ?_
  have wm := w.m
  refine og_aload_n (pc := 0) dX8_value_0 rfl ?_
  refine og_iload_n (pc := 1) dX8_value_1 rfl ?_
  refine og_iconst (pc := 2) (v := 0) dX8_value_2 (by decide) ?_
  refine og_iconst (pc := 3) (v := 5) dX8_value_3 (by decide) ?_
  refine og_callS (pc := 4) (As := [.int x, .int 0, .int 5]) (rest := [.ref 101]) (c_X8_in E d n h x 0 5) Y_X8_in S_X8_in K_X8_86 dX8_value_4 rfl rfl (Nat.le_of_ble_eq_true rfl) (by omega) (by omega) (by omega) (fun _ _ _ z => z) (fun v n1 h1 z => ?_)
  obtain ⟨hn, hh, z⟩ := z
  subst hn hh
  rcases z with ⟨rfl, z1, z2⟩ | ⟨rfl, z⟩
  · have hin : q_inN 6 x := q_inN_iff (m := 5) (by omega) x z1 z2
    refine og_if_eq (pc := 7) (tgt := 14) dX8_value_7 (by decide) (fun q => absurd q (by decide)) (fun _ => ?_)
    refine og_iconst (pc := 10) (v := 0) dX8_value_10 (by decide) ?_
    refine og_goto (pc := 11) (tgt := 15) dX8_value_11 (by decide) ?_
    refine og_callV (pc := 15) (As := [.int 0]) (rest := []) (c_X8_throwsAt E d n1 h1 0 wm) Y_X8_throwsAt I_X8_throwsAt V_X8_throwsAt wm (by omega) rfl rfl K_X8_125 dX8_value_15 rfl rfl (Nat.le_of_ble_eq_true rfl) (by omega) (by omega) (by omega) (fun _ _ _ z => z) (fun v n2 h2 z => ?_)
    obtain ⟨hn, hh, z⟩ := z
    subst hn
    have w2 := w.rf_ 0
    rcases z with ⟨rfl, z⟩ | ⟨rfl, -⟩
    · exact absurd z (by decide)
    refine og_if_eq (pc := 18) (tgt := 25) dX8_value_18 (by decide) (fun _ => ?_) (fun q => absurd rfl q)
    refine og_abs (P := fun g => og_MK h0 g (m_wRf M 0)) (by rw [hh]; exact w2) fun g w3 => ?_
    obtain ⟨q, hq, rfl⟩ := hin
    have wm := w3.m
    refine og_aload_n (pc := 25) dX8_value_25 rfl ?_
    refine og_iload_n (pc := 26) dX8_value_26 rfl ?_
    refine og_callV (pc := 27) (As := [.int (nI q)]) (rest := []) (c_X8_valueOf E d n2 q g w3 hL hu ho ho8 hq) Y_X8_valueOf I_X8_valueOf V_X8_valueOf wm (by omega) rfl rfl K_X8_198 dX8_value_27 rfl rfl (Nat.le_of_ble_eq_true rfl) (by omega) (by omega) (by omega) (fun _ _ _ z => z) (fun v n3 h3 z => ?_)
    obtain ⟨hn, un, U, w4, hl, rfl⟩ := z
    subst hn
    exact og_iret (pc := 30) hr dX8_value_30 (by omega) (by omega) ⟨rfl, Or.inr ⟨q, un, U, hq, rfl, w4, hl, rfl⟩⟩
  · refine og_if_eq (pc := 7) (tgt := 14) dX8_value_7 (by decide) (fun _ => ?_) (fun q => absurd rfl q)
    refine og_iconst (pc := 14) (v := 1) dX8_value_14 (by decide) ?_
    refine og_callV (pc := 15) (As := [.int 1]) (rest := []) (c_X8_throwsAt E d n1 h1 1 wm) Y_X8_throwsAt I_X8_throwsAt V_X8_throwsAt wm (by omega) rfl rfl K_X8_125 dX8_value_15 rfl rfl (Nat.le_of_ble_eq_true rfl) (by omega) (by omega) (by omega) (fun _ _ _ z => z) (fun v n2 h2 z => ?_)
    obtain ⟨hn, hh, y⟩ := z
    subst hn
    have w2 := w.rf_ 1
    rcases y with ⟨rfl, y⟩ | ⟨rfl, y⟩
    rotate_left
    · exact absurd (by decide) y
    refine og_if_eq (pc := 18) (tgt := 25) dX8_value_18 (by decide) (fun q => absurd q (by decide)) (fun _ => ?_)
    refine og_iconst (pc := 21) (v := 0) dX8_value_21 (by decide) ?_
    refine og_goto (pc := 22) (tgt := 30) dX8_value_22 (by decide) ?_
    exact og_iret (pc := 30) hr dX8_value_30 (by omega) (by omega) ⟨rfl, Or.inl ⟨fun q => z (q_inN_of (m := 5) (by omega) q), rfl, by rw [hh]; exact w2⟩⟩
