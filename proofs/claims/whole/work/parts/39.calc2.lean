/-! ===== the calculator: its walks ===== -/
def og_fr (a b c : Nat) (h h1 : og_H) : Prop := (∀ j, j < a → h1 (74 + j) = h (74 + j)) ∧ (∀ j, j < b → h1 (82 + j) = h (82 + j)) ∧ ∀ j, j < c → h1 (90 + j) = h (90 + j)
theorem og_fr.refl (a b c : Nat) (h : og_H) : og_fr a b c h h := ⟨fun _ _ => rfl, fun _ _ => rfl, fun _ _ => rfl⟩
theorem og_fr.trans {a b c : Nat} {h h1 h2 : og_H} (x : og_fr a b c h h1) (y : og_fr a b c h1 h2) : og_fr a b c h h2 := ⟨fun j hj => (y.1 j hj).trans (x.1 j hj), fun j hj => (y.2.1 j hj).trans (x.2.1 j hj), fun j hj => (y.2.2 j hj).trans (x.2.2 j hj)⟩
theorem og_fr.mono {a b c a2 b2 c2 : Nat} {h h1 : og_H} (x : og_fr a b c h h1) (ha : a2 ≤ a) (hb : b2 ≤ b) (hc : c2 ≤ c) : og_fr a2 b2 c2 h h1 := ⟨fun j hj => x.1 j (by omega), fun j hj => x.2.1 j (by omega), fun j hj => x.2.2 j (by omega)⟩
theorem og_fr.set {a b c x : Nat} (h : og_H) (N : og_N) (h1 : ∀ j, j < a → 74 + j ≠ x) (h2 : ∀ j, j < b → 82 + j ≠ x) (h3 : ∀ j, j < c → 90 + j ≠ x) : og_fr a b c h (og_set h x N) := ⟨fun j hj => og_set_ne _ _ (h1 j hj), fun j hj => og_set_ne _ _ (h2 j hj), fun j hj => og_set_ne _ _ (h3 j hj)⟩
theorem og_fr.put {a b c x : Nat} {h h1 : og_H} (f : og_fr a b c h h1) (N : og_N) (p1 : ∀ j, j < a → 74 + j ≠ x) (p2 : ∀ j, j < b → 82 + j ≠ x) (p3 : ∀ j, j < c → 90 + j ≠ x) : og_fr a b c h (og_set h1 x N) := f.trans (og_fr.set h1 N p1 p2 p3)
theorem q_g74 {e : Nat} (he : e < 7) : (fun i => if i < 7 then some (73 + 1 + i) else none) e = some (74 + e) := if_pos he
theorem q_g82 {e : Nat} (he : e < 7) : (fun i => if i < 7 then some (81 + 1 + i) else none) e = some (82 + e) := if_pos he
theorem q_g90 {e : Nat} (he : e < 7) : (fun i => if i < 7 then some (89 + 1 + i) else none) e = some (90 + e) := if_pos he
def v_P (h0 : og_H) (n0 n : Nat) (h : og_H) (D : q_D) (a b c r : Nat) (q : Option v_T) : Option Value → Nat → og_H → Prop := fun v n1 h1 => n1 = n ∧ ((v = some (.int 0) ∧ q = none ∧ ∃ cu pr, og_DK h0 n0 n h1 (d_wCa D cu pr)) ∨ (v = some (.int 1) ∧ ∃ t : v_T, q = some t ∧ og_DK h0 n0 n h1 (d_wCa D (nI t.2.1) t.2.2) ∧ h1 r = some (rowL t.1) ∧ og_fr a b c h h1))
def v_C (E : og_E) (y : MethodName) (bytes : ByteArray) (maxL dd : Nat) (h0 : og_H) (n0 : Nat) (D : q_D) (e a b c r : Nat) (sem : Nat → Int32 → Option v_T) : Prop :=
  ∀ (n : Nat) (h : og_H) (k : Nat) (p : Int32), og_DK h0 n0 n h (d_wCa D (nI k) p) → k ≤ 110 → og_M E y (.code y bytes maxL (some .boolean)) dd [.ref 72, .ref 4, .int (nI e)] n h 0 0 (v_P h0 n0 n h D a b c r (sem k p)) no_x
theorem v_op_let {R : Nat → Nat → Int64} {bf : Nat → Int32} {L k c : Nat} {p : Int32} (z : q_letter (q_at bf L c)) : v_op R bf L k c p = some (R (v_li (q_at bf L c)), c + 1, p) := by
  cases k with
  | zero => rw [v_op, q_if_t _ _ z]
  | succ k => rw [v_op, q_if_t _ _ z]
set_option maxRecDepth 4000 in
theorem v_operand (E : og_E) (d k e : Nat) {h0 : og_H} {n0 : Nat} {D : q_D} (he : e + k = 6) (hS : ∀ k2, k = k2 + 1 → v_C E yX0_workSum cX0_workSum 5 (d + 6) h0 n0 D (e + 1) (e + 1) (e + 1) (e + 1) (74 + (e + 1)) (v_sum (d_tb D) (d_tl D) (v_op (d_st D).1 (d_tb D) (d_tl D) k2))) :
    v_C E yX0_workOperand cX0_workOperand 4 (d + 7) h0 n0 D e (e + 1) (e + 1) e (90 + e) (v_op (d_st D).1 (d_tb D) (d_tl D) k) := by
  intro n h c p w hc
  have hL : d_tl D ≤ 100 := w.ok.2.2.2.1
  have he7 : e < 7 := by omega
  refine og_start (lv := [some (.ref 72), some (.ref 4), some (.int (nI e)), none]) (by decide) rfl rfl (Nat.le_of_ble_eq_true rfl) fun X hr hnm htb => ?_
  have e72 : h 72 = some (og_ca (nI c) p) := w.c72
  have e70 : h 70 = some (og_tx (d_tl D) (d_td D)) := w.t70
  refine og_aload_n (pc := 0) dX0_workOperand_0 rfl ?_
  refine og_get (pc := 1) F_X0_37 dX0_workOperand_1 (by repeat (first | exact og_set_eq _ _ _ | assumption | refine (og_set_ne _ _ (by first | assumption | omega)).trans ?_)) (by omega) rfl ?_
  refine og_aload_n (pc := 4) dX0_workOperand_4 rfl ?_
  refine og_get (pc := 5) F_X0_30 dX0_workOperand_5 (by repeat (first | exact og_set_eq _ _ _ | assumption | refine (og_set_ne _ _ (by first | assumption | omega)).trans ?_)) (by omega) rfl ?_
  refine og_callV (pc := 8) (As := [.int (nI c)]) (rest := []) (c_X5_at E d n (d_tl D) (d_td D) c h (d_tb D) e70 w.t71 hL (by omega)) Y_X5_at I_X5_at V_X5_at e70 (by omega) rfl rfl K_X0_48 dX0_workOperand_8 rfl rfl (Nat.le_of_ble_eq_true rfl) (by omega) (by omega) (by omega) (fun _ _ _ z => z) (fun v n1 h1 z => ?_)
  obtain ⟨rfl, hn, hh⟩ := z
  subst hn hh
  refine og_istore_n_3 (pc := 11) dX0_workOperand_11 rfl ?_
  refine og_aload_n (pc := 12) dX0_workOperand_12 rfl ?_
  refine og_dup (pc := 13) dX0_workOperand_13 rfl ?_
  refine og_get (pc := 14) F_X0_30 dX0_workOperand_14 (by repeat (first | exact og_set_eq _ _ _ | assumption | refine (og_set_ne _ _ (by first | assumption | omega)).trans ?_)) (by omega) rfl ?_
  refine og_iconst (pc := 17) (v := 1) dX0_workOperand_17 (by decide) ?_
  refine og_iadd (pc := 18) dX0_workOperand_18 ?_
  rw [nI_1]
  have w1 := w.cal (nI (c + 1)) p
  refine og_put (pc := 19) P_X0_30 dX0_workOperand_19 (by repeat (first | exact og_set_eq _ _ _ | assumption | refine (og_set_ne _ _ (by first | assumption | omega)).trans ?_)) (by omega) rfl rfl (Nat.le_of_ble_eq_true rfl) ?_
  refine og_abs (P := fun g => og_DK h0 n0 n1 g (d_wCa D (nI (c + 1)) p) ∧ og_fr (e + 1) (e + 1) e h1 g) ⟨w1, og_fr.set _ _ (by omega) (by omega) (by omega)⟩ fun g ⟨w, fr⟩ => ?_
  have e72 : g 72 = some (og_ca (nI (c + 1)) p) := w.c72
  have e4 : g 4 = some (og_so 4 (d_st D)) := w.e4
  have e5 := w.e5
  have e89 := w.g89
  have e73 := w.g73
  obtain ⟨fF, eF⟩ := w.scr (90 + e) (by unfold q_scr; omega)
  refine og_iload_n (pc := 22) dX0_workOperand_22 rfl ?_
  refine og_callS (pc := 23) (As := [.int (q_at (d_tb D) (d_tl D) c)]) (rest := []) (c_X5_isLetter E d n1 g _) Y_X5_isLetter S_X5_isLetter K_X0_100 dX0_workOperand_23 rfl rfl (Nat.le_of_ble_eq_true rfl) (by omega) (by omega) (by omega) (fun _ _ _ z => z) (fun v n2 h2 z => ?_)
  obtain ⟨hn, hh, z⟩ := z
  subst hn hh
  have no : ∀ (g2 : og_H) (cu pr : Int32), og_DK h0 n0 n2 g2 (d_wCa D cu pr) → v_op (d_st D).1 (d_tb D) (d_tl D) k c p = none → og_G E yX0_workOperand.cls cX0_workOperand (d + 7) 0 0 4 X (og_Q E (v_P h0 n0 n2 h1 D (e + 1) (e + 1) e (90 + e) (v_op (d_st D).1 (d_tb D) (d_tl D) k c p)) no_x 0 0 X) 0 0 n2 g2 72 [some (.ref 72), some (.ref 4), some (.int (nI e)), some (.int (q_at (d_tb D) (d_tl D) c))] [] := by
    intro g2 cu pr w2 hno
    refine og_iconst (pc := 72) (v := 0) dX0_workOperand_72 (by decide) ?_
    exact og_zret (pc := 73) hr rfl dX0_workOperand_73 (by omega) (by omega) ⟨rfl, Or.inl ⟨rfl, hno, cu, pr, w2⟩⟩
  rcases z with ⟨rfl, z⟩ | ⟨rfl, z⟩
  · refine og_if_eq (pc := 26) (tgt := 49) dX0_workOperand_26 (by decide) (fun q => absurd q (by decide)) (fun _ => ?_)
    obtain ⟨l1, l2⟩ := v_li_lt z
    have eR : h2 (4 + 2 + v_li (q_at (d_tb D) (d_tl D) c)) = some (rowL ((d_st D).1 (v_li (q_at (d_tb D) (d_tl D) c)))) := w.r l1
    refine og_aload_n (pc := 29) dX0_workOperand_29 rfl ?_
    refine og_get (pc := 30) F_X0_56 dX0_workOperand_30 (by repeat (first | exact og_set_eq _ _ _ | assumption | refine (og_set_ne _ _ (by first | assumption | omega)).trans ?_)) (by omega) rfl ?_
    refine og_iload_n (pc := 33) dX0_workOperand_33 rfl ?_
    refine og_bipush (pc := 34) (v := 97) dX0_workOperand_34 (by decide) ?_
    refine og_isub (pc := 36) dX0_workOperand_36 ?_
    rw [l2]
    refine og_aaldN (pc := 37) rfl dX0_workOperand_37 (by repeat (first | exact og_set_eq _ _ _ | assumption | refine (og_set_ne _ _ (by first | assumption | omega)).trans ?_)) (by omega) (by decide) (by decide) (by omega) (by first | decide | assumption | omega) (q_g8 l1) ?_
    refine og_aload_n (pc := 38) dX0_workOperand_38 rfl ?_
    refine og_get (pc := 39) F_X0_23 dX0_workOperand_39 (by repeat (first | exact og_set_eq _ _ _ | assumption | refine (og_set_ne _ _ (by first | assumption | omega)).trans ?_)) (by omega) rfl ?_
    refine og_iload_n (pc := 42) dX0_workOperand_42 rfl ?_
    refine og_aaldN (pc := 43) rfl dX0_workOperand_43 (by repeat (first | exact og_set_eq _ _ _ | assumption | refine (og_set_ne _ _ (by first | assumption | omega)).trans ?_)) (by omega) (by decide) (by decide) (by omega) (by first | decide | assumption | omega) (q_g90 he7) ?_
    refine og_callS (pc := 44) (As := [.ref (4 + 2 + v_li (q_at (d_tb D) (d_tl D) c)), .ref (90 + e)]) (rest := []) (c_X3_copy E d n2 (4 + 2 + v_li (q_at (d_tb D) (d_tl D) c)) (90 + e) h2 _ _ eR eF (by omega) (by omega) (by omega)) Y_X3_copy S_X3_copy K_X0_61 dX0_workOperand_44 rfl rfl (Nat.le_of_ble_eq_true rfl) (by omega) (by omega) (by omega) (fun _ _ _ z => z) (fun v n3 h3 z => ?_)
    obtain ⟨rfl, hn, hh⟩ := z
    subst hn hh
    refine og_iconst (pc := 47) (v := 1) dX0_workOperand_47 (by decide) ?_
    exact og_zret (pc := 48) hr rfl dX0_workOperand_48 (by omega) (by omega) ⟨rfl, Or.inr ⟨rfl, _, v_op_let z, w.row _ (by unfold q_scr; omega), og_set_eq _ _ _, fr.put _ (by omega) (by omega) (by omega)⟩⟩
  · refine og_if_eq (pc := 26) (tgt := 49) dX0_workOperand_26 (by decide) (fun _ => ?_) (fun q => absurd rfl q)
    refine og_iload_n (pc := 49) dX0_workOperand_49 rfl ?_
    refine og_bipush (pc := 50) (v := 40) dX0_workOperand_50 (by decide) ?_
    refine og_icmp_ne (pc := 52) (tgt := 72) dX0_workOperand_52 (by decide) (fun q => no _ _ _ w ?_) (fun q => ?_)
    · cases k with
      | zero => rw [v_op, q_if_f _ _ z]
      | succ k => rw [v_op, q_if_f _ _ z, q_if_f _ _ q]
    refine og_iload_n (pc := 55) dX0_workOperand_55 rfl ?_
    refine og_bipush (pc := 56) (v := 6) dX0_workOperand_56 (by decide) ?_
    cases k with
    | zero =>
      have e6 : e = 6 := by omega
      subst e6
      refine og_geN (pc := 58) (tgt := 72) (i := 6) (N := 6) dX0_workOperand_58 (by decide) rfl rfl (by omega) (by omega) (fun c_58 => ?_) (fun c_58 => ?_)
      · exact no _ _ _ w (by rw [v_op, q_if_f _ _ z])
      · omega
    | succ k =>
      refine og_geN (pc := 58) (tgt := 72) (i := e) (N := 6) dX0_workOperand_58 (by decide) rfl rfl (by omega) (by omega) (fun c_58 => ?_) (fun c_58 => ?_)
      · omega
      have hcL : c < d_tl D := q_at_lt (bf := d_tb D) (by rw [q]; decide)
      have he8 : e + 1 < 7 := by omega
      refine og_aload_n (pc := 61) dX0_workOperand_61 rfl ?_
      refine og_aload_n (pc := 62) dX0_workOperand_62 rfl ?_
      refine og_iload_n (pc := 63) dX0_workOperand_63 rfl ?_
      refine og_iconst (pc := 64) (v := 1) dX0_workOperand_64 (by decide) ?_
      refine og_iadd (pc := 65) dX0_workOperand_65 ?_
      rw [nI_1]
      refine og_callV (pc := 66) (As := [.ref 4, .int (nI (e + 1))]) (rest := []) (hS k rfl n2 h2 (c + 1) p w (by omega)) Y_X0_workSum I_X0_workSum V_X0_workSum e72 (by omega) rfl rfl K_X0_52 dX0_workOperand_66 rfl rfl (Nat.le_of_ble_eq_true rfl) (by omega) (by omega) (by omega) (fun _ _ _ z => z) (fun v n4 h4 z => ?_)
      obtain ⟨hn, y⟩ := z
      subst hn
      have sem : v_op (d_st D).1 (d_tb D) (d_tl D) (k + 1) c p = v_up (v_sum (d_tb D) (d_tl D) (v_op (d_st D).1 (d_tb D) (d_tl D) k) (c + 1) p) := by rw [v_op, q_if_f _ _ z, q_if_t _ _ q]
      rcases y with ⟨rfl, y1, cu, pr, y2⟩ | ⟨rfl, t, y1, y2, y3, y4⟩
      · refine og_if_ne (pc := 69) (tgt := 74) dX0_workOperand_69 (by decide) (fun q => absurd rfl q) (fun _ => ?_)
        exact no _ _ _ y2 (by rw [sem, y1]; rfl)
      · refine og_if_ne (pc := 69) (tgt := 74) dX0_workOperand_69 (by decide) (fun _ => ?_) (fun q => absurd q (by decide))
        have e72 : h4 72 = some (og_ca (nI t.2.1) t.2.2) := y2.c72
        have e73 := y2.g73
        have e89 := y2.g89
        obtain ⟨fF, eF⟩ := y2.scr (90 + e) (by unfold q_scr; omega)
        refine og_aload_n (pc := 74) dX0_workOperand_74 rfl ?_
        refine og_get (pc := 75) F_X0_15 dX0_workOperand_75 (by repeat (first | exact og_set_eq _ _ _ | assumption | refine (og_set_ne _ _ (by first | assumption | omega)).trans ?_)) (by omega) rfl ?_
        refine og_iload_n (pc := 78) dX0_workOperand_78 rfl ?_
        refine og_iconst (pc := 79) (v := 1) dX0_workOperand_79 (by decide) ?_
        refine og_iadd (pc := 80) dX0_workOperand_80 ?_
        rw [nI_1]
        refine og_aaldN (pc := 81) rfl dX0_workOperand_81 (by repeat (first | exact og_set_eq _ _ _ | assumption | refine (og_set_ne _ _ (by first | assumption | omega)).trans ?_)) (by omega) (by decide) (by decide) (by omega) (by first | decide | assumption | omega) (q_g74 he8) ?_
        refine og_aload_n (pc := 82) dX0_workOperand_82 rfl ?_
        refine og_get (pc := 83) F_X0_23 dX0_workOperand_83 (by repeat (first | exact og_set_eq _ _ _ | assumption | refine (og_set_ne _ _ (by first | assumption | omega)).trans ?_)) (by omega) rfl ?_
        refine og_iload_n (pc := 86) dX0_workOperand_86 rfl ?_
        refine og_aaldN (pc := 87) rfl dX0_workOperand_87 (by repeat (first | exact og_set_eq _ _ _ | assumption | refine (og_set_ne _ _ (by first | assumption | omega)).trans ?_)) (by omega) (by decide) (by decide) (by omega) (by first | decide | assumption | omega) (q_g90 he7) ?_
        refine og_callS (pc := 88) (As := [.ref (74 + (e + 1)), .ref (90 + e)]) (rest := []) (c_X3_copy E d n4 (74 + (e + 1)) (90 + e) h4 _ _ y3 eF (by omega) (by omega) (by omega)) Y_X3_copy S_X3_copy K_X0_61 dX0_workOperand_88 rfl rfl (Nat.le_of_ble_eq_true rfl) (by omega) (by omega) (by omega) (fun _ _ _ z => z) (fun v n5 h5 z => ?_)
        obtain ⟨rfl, hn, hh⟩ := z
        subst hn
        have w5 := y2.row t.1 (show q_scr (90 + e) by unfold q_scr; omega)
        rw [← hh] at w5
        have f5 : og_fr (e + 1) (e + 1) e h1 h5 := by
          rw [hh]
          exact (fr.trans (y4.mono (by omega) (by omega) (by omega))).put _ (by omega) (by omega) (by omega)
        have eF : h5 (90 + e) = some (rowL t.1) := by rw [hh, og_set_eq]
        clear hh
        have e72 : h5 72 = some (og_ca (nI t.2.1) t.2.2) := w5.c72
        refine og_aload_n (pc := 91) dX0_workOperand_91 rfl ?_
        refine og_dup (pc := 92) dX0_workOperand_92 rfl ?_
        refine og_get (pc := 93) F_X0_30 dX0_workOperand_93 (by repeat (first | exact og_set_eq _ _ _ | assumption | refine (og_set_ne _ _ (by first | assumption | omega)).trans ?_)) (by omega) rfl ?_
        refine og_iconst (pc := 96) (v := 1) dX0_workOperand_96 (by decide) ?_
        refine og_iadd (pc := 97) dX0_workOperand_97 ?_
        rw [nI_1]
        have w6 := w5.cal (nI (t.2.1 + 1)) t.2.2
        refine og_put (pc := 98) P_X0_30 dX0_workOperand_98 (by repeat (first | exact og_set_eq _ _ _ | assumption | refine (og_set_ne _ _ (by first | assumption | omega)).trans ?_)) (by omega) rfl rfl (Nat.le_of_ble_eq_true rfl) ?_
        refine og_iconst (pc := 101) (v := 1) dX0_workOperand_101 (by decide) ?_
        exact og_zret (pc := 102) hr rfl dX0_workOperand_102 (by omega) (by omega) ⟨rfl, Or.inr ⟨rfl, (t.1, t.2.1 + 1, t.2.2), by rw [sem, y1]; rfl, w6, (og_set_ne _ _ (by omega)).trans eF, f5.put _ (by omega) (by omega) (by omega)⟩⟩
