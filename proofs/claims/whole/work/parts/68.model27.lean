/-! ===== the model: endsTerm, reads ===== -/
set_option maxRecDepth 4000 in
theorem c_X8_endsTerm (E : og_E) (d n : Nat) (h : og_H) (nx : Int32) {h0 : og_H} {M : q_M} {wl : Int32} {nw su pr : Nat → Int64} {sg hp dg : Nat → Int32} {dp : Nat} {ct : Int32} (w : m_CK h0 h M wl nw su pr sg hp dg dp ct) (hw : wl = 0 ∨ wl = 1) :
    og_M E yX8_endsTerm (.code yX8_endsTerm cX8_endsTerm 3 none) (d + 2) [.ref 101, .int nx] n h 0 0 (fun (v : Option Value) (nn : Nat) (h1 : og_H) => nn = n ∧ v = none ∧ (((wl = 0 ∨ r_endsTerm (nw, su, pr, sg, hp, dg, dp, ct) nx = none) ∧ ∃ T, T.2.2.2.2.2.2.1 = dp ∧ m_CT h0 h1 M 0 T) ∨ (wl = 1 ∧ ∃ T, r_endsTerm (nw, su, pr, sg, hp, dg, dp, ct) nx = some T ∧ m_CT h0 h1 M 1 T))) no_x := by
  refine og_start (lv := [some (.ref 101), some (.int nx), none]) (by decide) rfl rfl (Nat.le_of_ble_eq_true rfl) fun X hr hnm htb => ?_
  have hd := w.d6
  have tail : ∀ (g : og_H) (wl2 : Int32) (nw2 : Nat → Int64) (l2 : Option Value), m_CK h0 g M wl2 nw2 su pr sg hp dg dp ct → (∀ h1, m_CK h0 h1 M wl2 nw2 (q_blk su dp nw2) pr (upd sg dp nx) (upd hp dp 0) dg dp ct → (fun (v : Option Value) (nn : Nat) (h1 : og_H) => nn = n ∧ v = none ∧ (((wl = 0 ∨ r_endsTerm (nw, su, pr, sg, hp, dg, dp, ct) nx = none) ∧ ∃ T, T.2.2.2.2.2.2.1 = dp ∧ m_CT h0 h1 M 0 T) ∨ (wl = 1 ∧ ∃ T, r_endsTerm (nw, su, pr, sg, hp, dg, dp, ct) nx = some T ∧ m_CT h0 h1 M 1 T))) none n h1) → og_G E yX8_endsTerm.cls cX8_endsTerm (d + 2) 0 0 3 X (og_Q E (fun (v : Option Value) (nn : Nat) (h1 : og_H) => nn = n ∧ v = none ∧ (((wl = 0 ∨ r_endsTerm (nw, su, pr, sg, hp, dg, dp, ct) nx = none) ∧ ∃ T, T.2.2.2.2.2.2.1 = dp ∧ m_CT h0 h1 M 0 T) ∨ (wl = 1 ∧ ∃ T, r_endsTerm (nw, su, pr, sg, hp, dg, dp, ct) nx = some T ∧ m_CT h0 h1 M 1 T))) no_x 0 0 X) 0 0 n g 116 [some (.ref 101), some (.int nx), l2] [] := by
    intro g wl2 nw2 l2 w hp9
    refine og_iconst (pc := 116) (v := 0) dX8_endsTerm_116 (by decide) ?_
    refine og_istore_n_2 (pc := 117) dX8_endsTerm_117 rfl ?_
    refine og_heq (og_set g 117 (rowL56 (q_bki su dp nw2 0))) (by rw [show q_bki su dp nw2 0 = su from funext fun j => if_neg (by omega), og_set_same w.e7]) ?_
    refine og_for (i0 := 0) (N := 8) (by decide) (fun i => og_set g 117 (rowL56 (q_bki su dp nw2 i))) (fun i => [some (.ref 101), some (.int nx), some (.int (nI i))]) ?_ (fun i _ hi ih => ?_)
    · refine og_iload_n (pc := 118) dX8_endsTerm_118 rfl ?_
      refine og_bipush (pc := 119) (v := 8) dX8_endsTerm_119 (by decide) ?_
      refine og_geN (pc := 121) (tgt := 150) (i := 8) (N := 8) dX8_endsTerm_121 (by decide) rfl rfl (by omega) (by omega) (fun c_121 => ?_) (fun c_121 => ?_)
      rotate_left
      · omega
      have w := w.s7 (q_blk su dp nw2)
      refine og_abs (P := fun g => m_CK h0 g M wl2 nw2 (q_blk su dp nw2) pr sg hp dg dp ct) w fun g w => ?_
      have wm := w.m
      have g9 := w.e9
      refine og_aload_n (pc := 150) dX8_endsTerm_150 rfl ?_
      refine og_get (pc := 151) F_X8_66 dX8_endsTerm_151 (by repeat (first | exact og_set_eq _ _ _ | assumption | refine (og_set_ne _ _ (by first | assumption | omega)).trans ?_)) (by omega) rfl ?_
      refine og_aload_n (pc := 154) dX8_endsTerm_154 rfl ?_
      refine og_get (pc := 155) F_X8_214 dX8_endsTerm_155 (by repeat (first | exact og_set_eq _ _ _ | assumption | refine (og_set_ne _ _ (by first | assumption | omega)).trans ?_)) (by omega) rfl ?_
      refine og_iload_n (pc := 158) dX8_endsTerm_158 rfl ?_
      refine og_iastN (pc := 159) (j := dp) rfl dX8_endsTerm_159 g9 (by omega) (by omega) (by first | decide | assumption | omega) ?_
      have w := w.s9 (upd sg dp nx)
      have wm := w.m
      have g0 := w.e0
      refine og_aload_n (pc := 160) dX8_endsTerm_160 rfl ?_
      refine og_get (pc := 161) F_X8_69 dX8_endsTerm_161 (by repeat (first | exact og_set_eq _ _ _ | assumption | refine (og_set_ne _ _ (by first | assumption | omega)).trans ?_)) (by omega) rfl ?_
      refine og_aload_n (pc := 164) dX8_endsTerm_164 rfl ?_
      refine og_get (pc := 165) F_X8_214 dX8_endsTerm_165 (by repeat (first | exact og_set_eq _ _ _ | assumption | refine (og_set_ne _ _ (by first | assumption | omega)).trans ?_)) (by omega) rfl ?_
      refine og_iconst (pc := 168) (v := 0) dX8_endsTerm_168 (by decide) ?_
      refine og_zastN (pc := 169) (j := dp) rfl dX8_endsTerm_169 g0 (by omega) (by omega) (by first | decide | assumption | omega) ?_
      rw [q_nar0]
      exact og_vret (pc := 170) hr dX8_endsTerm_170 (by omega) (by omega) (hp9 _ (w.s0 (upd hp dp 0)))
    · have w2 := w.s7 (q_bki su dp nw2 i)
      have wm := w2.m
      have g7 : og_set g 117 (rowL56 (q_bki su dp nw2 i)) 117 = some (rowL56 (q_bki su dp nw2 i)) := og_set_eq _ _ _
      have g2 := w2.e2
      refine og_iload_n (pc := 118) dX8_endsTerm_118 rfl ?_
      refine og_bipush (pc := 119) (v := 8) dX8_endsTerm_119 (by decide) ?_
      refine og_geN (pc := 121) (tgt := 150) (i := i) (N := 8) dX8_endsTerm_121 (by decide) rfl rfl (by omega) (by omega) (fun c_121 => ?_) (fun c_121 => ?_)
      · omega
      refine og_aload_n (pc := 124) dX8_endsTerm_124 rfl ?_
      refine og_get (pc := 125) F_X8_60 dX8_endsTerm_125 (by repeat (first | exact og_set_eq _ _ _ | assumption | refine (og_set_ne _ _ (by first | assumption | omega)).trans ?_)) (by omega) rfl ?_
      refine og_bipush (pc := 128) (v := 8) dX8_endsTerm_128 (by decide) ?_
      refine og_aload_n (pc := 130) dX8_endsTerm_130 rfl ?_
      refine og_get (pc := 131) F_X8_214 dX8_endsTerm_131 (by repeat (first | exact og_set_eq _ _ _ | assumption | refine (og_set_ne _ _ (by first | assumption | omega)).trans ?_)) (by omega) rfl ?_
      refine og_imul (pc := 134) dX8_endsTerm_134 ?_
      refine og_iload_n (pc := 135) dX8_endsTerm_135 rfl ?_
      refine og_iadd (pc := 136) dX8_endsTerm_136 ?_
      refine og_aload_n (pc := 137) dX8_endsTerm_137 rfl ?_
      refine og_get (pc := 138) F_X8_76 dX8_endsTerm_138 (by repeat (first | exact og_set_eq _ _ _ | assumption | refine (og_set_ne _ _ (by first | assumption | omega)).trans ?_)) (by omega) rfl ?_
      refine og_iload_n (pc := 141) dX8_endsTerm_141 rfl ?_
      refine og_laldN (pc := 142) rfl dX8_endsTerm_142 g2 (by omega) (by omega) (by first | decide | assumption | omega) ?_
      refine og_lastN (pc := 143) (j := (8 * dp + i)) (og_i8 dp i) dX8_endsTerm_143 g7 (by omega) (by omega) (by first | decide | assumption | omega) ?_
      refine og_iinc_2 (pc := 144) dX8_endsTerm_144 (og_inc i) rfl ?_
      refine og_goto (pc := 147) (tgt := 118) dX8_endsTerm_147 (by decide) ?_
      rw [og_set_set, q_bki_next]
      exact ih
  have wm := w.m
  refine og_iconst (pc := 0) (v := 0) dX8_endsTerm_0 (by decide) ?_
  refine og_istore_n_2 (pc := 1) dX8_endsTerm_1 rfl ?_
  refine og_heq (og_set h 122 (rowL (fun j => if j < 0 then (r_sum (nw, su, pr, sg, hp, dg, dp, ct)) j else nw j))) (by rw [show (fun j => if j < 0 then (r_sum (nw, su, pr, sg, hp, dg, dp, ct)) j else nw j) = nw from funext fun j => if_neg (by omega), og_set_same w.e2]) ?_
  refine og_for (i0 := 0) (N := 8) (by decide) (fun i => og_set h 122 (rowL (fun j => if j < i then (r_sum (nw, su, pr, sg, hp, dg, dp, ct)) j else nw j))) (fun i => [some (.ref 101), some (.int nx), some (.int (nI i))]) ?_ (fun i _ hi ih => ?_)
  rotate_left
  · have w2 := w.s2 (fun j => if j < i then (r_sum (nw, su, pr, sg, hp, dg, dp, ct)) j else nw j)
    have wm := w2.m
    have g2 : og_set h 122 (rowL (fun j => if j < i then (r_sum (nw, su, pr, sg, hp, dg, dp, ct)) j else nw j)) 122 = some (rowL (fun j => if j < i then (r_sum (nw, su, pr, sg, hp, dg, dp, ct)) j else nw j)) := og_set_eq _ _ _
    have g9 := w2.e9
    have g7 := w2.e7
    have g8 := w2.e8
    have fin : ∀ y : Int64, y = (r_sum (nw, su, pr, sg, hp, dg, dp, ct)) i → og_G E yX8_endsTerm.cls cX8_endsTerm (d + 2) 0 0 3 X (og_Q E (fun (v : Option Value) (nn : Nat) (h1 : og_H) => nn = n ∧ v = none ∧ (((wl = 0 ∨ r_endsTerm (nw, su, pr, sg, hp, dg, dp, ct) nx = none) ∧ ∃ T, T.2.2.2.2.2.2.1 = dp ∧ m_CT h0 h1 M 0 T) ∨ (wl = 1 ∧ ∃ T, r_endsTerm (nw, su, pr, sg, hp, dg, dp, ct) nx = some T ∧ m_CT h0 h1 M 1 T))) no_x 0 0 X) 0 0 n (og_set h 122 (rowL (fun j => if j < i then (r_sum (nw, su, pr, sg, hp, dg, dp, ct)) j else nw j))) 82 [some (.ref 101), some (.int nx), some (.int (nI i))] [.long y, .int (nI i), .ref 122] := by
      intro y hy
      subst hy
      refine og_lastN (pc := 82) (j := i) rfl dX8_endsTerm_82 g2 (by omega) (by omega) (by first | decide | assumption | omega) ?_
      refine og_iinc_2 (pc := 83) dX8_endsTerm_83 (og_inc i) rfl ?_
      refine og_goto (pc := 86) (tgt := 2) dX8_endsTerm_86 (by decide) ?_
      rw [og_set_set, og_fill (by rfl)]
      exact ih
    refine og_iload_n (pc := 2) dX8_endsTerm_2 rfl ?_
    refine og_bipush (pc := 3) (v := 8) dX8_endsTerm_3 (by decide) ?_
    refine og_geN (pc := 5) (tgt := 89) (i := i) (N := 8) dX8_endsTerm_5 (by decide) rfl rfl (by omega) (by omega) (fun c_5 => ?_) (fun c_5 => ?_)
    · omega
    refine og_aload_n (pc := 8) dX8_endsTerm_8 rfl ?_
    refine og_get (pc := 9) F_X8_76 dX8_endsTerm_9 (by repeat (first | exact og_set_eq _ _ _ | assumption | refine (og_set_ne _ _ (by first | assumption | omega)).trans ?_)) (by omega) rfl ?_
    refine og_iload_n (pc := 12) dX8_endsTerm_12 rfl ?_
    refine og_aload_n (pc := 13) dX8_endsTerm_13 rfl ?_
    refine og_get (pc := 14) F_X8_66 dX8_endsTerm_14 (by repeat (first | exact og_set_eq _ _ _ | assumption | refine (og_set_ne _ _ (by first | assumption | omega)).trans ?_)) (by omega) rfl ?_
    refine og_aload_n (pc := 17) dX8_endsTerm_17 rfl ?_
    refine og_get (pc := 18) F_X8_214 dX8_endsTerm_18 (by repeat (first | exact og_set_eq _ _ _ | assumption | refine (og_set_ne _ _ (by first | assumption | omega)).trans ?_)) (by omega) rfl ?_
    refine og_ialdN (pc := 21) (j := dp) rfl dX8_endsTerm_21 g9 (by omega) (by omega) (by first | decide | assumption | omega) ?_
    refine og_if_ne (pc := 22) (tgt := 42) dX8_endsTerm_22 (by decide) (fun q => ?_) (fun q => ?_)
    · refine og_aload_n (pc := 42) dX8_endsTerm_42 rfl ?_
      refine og_get (pc := 43) F_X8_60 dX8_endsTerm_43 (by repeat (first | exact og_set_eq _ _ _ | assumption | refine (og_set_ne _ _ (by first | assumption | omega)).trans ?_)) (by omega) rfl ?_
      refine og_bipush (pc := 46) (v := 8) dX8_endsTerm_46 (by decide) ?_
      refine og_aload_n (pc := 48) dX8_endsTerm_48 rfl ?_
      refine og_get (pc := 49) F_X8_214 dX8_endsTerm_49 (by repeat (first | exact og_set_eq _ _ _ | assumption | refine (og_set_ne _ _ (by first | assumption | omega)).trans ?_)) (by omega) rfl ?_
      refine og_imul (pc := 52) dX8_endsTerm_52 ?_
      refine og_iload_n (pc := 53) dX8_endsTerm_53 rfl ?_
      refine og_iadd (pc := 54) dX8_endsTerm_54 ?_
      refine og_laldN (pc := 55) (j := (8 * dp + i)) (og_i8 dp i) dX8_endsTerm_55 g7 (by omega) (by omega) (by first | decide | assumption | omega) ?_
      refine og_aload_n (pc := 56) dX8_endsTerm_56 rfl ?_
      refine og_get (pc := 57) F_X8_66 dX8_endsTerm_57 (by repeat (first | exact og_set_eq _ _ _ | assumption | refine (og_set_ne _ _ (by first | assumption | omega)).trans ?_)) (by omega) rfl ?_
      refine og_aload_n (pc := 60) dX8_endsTerm_60 rfl ?_
      refine og_get (pc := 61) F_X8_214 dX8_endsTerm_61 (by repeat (first | exact og_set_eq _ _ _ | assumption | refine (og_set_ne _ _ (by first | assumption | omega)).trans ?_)) (by omega) rfl ?_
      refine og_ialdN (pc := 64) (j := dp) rfl dX8_endsTerm_64 g9 (by omega) (by omega) (by first | decide | assumption | omega) ?_
      refine og_i2l (pc := 65) dX8_endsTerm_65 rfl ?_
      refine og_aload_n (pc := 66) dX8_endsTerm_66 rfl ?_
      refine og_get (pc := 67) F_X8_63 dX8_endsTerm_67 (by repeat (first | exact og_set_eq _ _ _ | assumption | refine (og_set_ne _ _ (by first | assumption | omega)).trans ?_)) (by omega) rfl ?_
      refine og_bipush (pc := 70) (v := 8) dX8_endsTerm_70 (by decide) ?_
      refine og_aload_n (pc := 72) dX8_endsTerm_72 rfl ?_
      refine og_get (pc := 73) F_X8_214 dX8_endsTerm_73 (by repeat (first | exact og_set_eq _ _ _ | assumption | refine (og_set_ne _ _ (by first | assumption | omega)).trans ?_)) (by omega) rfl ?_
      refine og_imul (pc := 76) dX8_endsTerm_76 ?_
      refine og_iload_n (pc := 77) dX8_endsTerm_77 rfl ?_
      refine og_iadd (pc := 78) dX8_endsTerm_78 ?_
      refine og_laldN (pc := 79) (j := (8 * dp + i)) (og_i8 dp i) dX8_endsTerm_79 g8 (by omega) (by omega) (by first | decide | assumption | omega) ?_
      refine og_lmul (pc := 80) dX8_endsTerm_80 ?_
      refine og_ladd (pc := 81) dX8_endsTerm_81 ?_
      refine fin _ ?_
      unfold r_sum
      rw [if_neg q]
    · refine og_aload_n (pc := 25) dX8_endsTerm_25 rfl ?_
      refine og_get (pc := 26) F_X8_63 dX8_endsTerm_26 (by repeat (first | exact og_set_eq _ _ _ | assumption | refine (og_set_ne _ _ (by first | assumption | omega)).trans ?_)) (by omega) rfl ?_
      refine og_bipush (pc := 29) (v := 8) dX8_endsTerm_29 (by decide) ?_
      refine og_aload_n (pc := 31) dX8_endsTerm_31 rfl ?_
      refine og_get (pc := 32) F_X8_214 dX8_endsTerm_32 (by repeat (first | exact og_set_eq _ _ _ | assumption | refine (og_set_ne _ _ (by first | assumption | omega)).trans ?_)) (by omega) rfl ?_
      refine og_imul (pc := 35) dX8_endsTerm_35 ?_
      refine og_iload_n (pc := 36) dX8_endsTerm_36 rfl ?_
      refine og_iadd (pc := 37) dX8_endsTerm_37 ?_
      refine og_laldN (pc := 38) (j := (8 * dp + i)) (og_i8 dp i) dX8_endsTerm_38 g8 (by omega) (by omega) (by first | decide | assumption | omega) ?_
      refine og_goto (pc := 39) (tgt := 82) dX8_endsTerm_39 (by decide) ?_
      refine fin _ ?_
      unfold r_sum
      rw [if_pos q]
      rfl
  refine og_iload_n (pc := 2) dX8_endsTerm_2 rfl ?_
  refine og_bipush (pc := 3) (v := 8) dX8_endsTerm_3 (by decide) ?_
  refine og_geN (pc := 5) (tgt := 89) (i := 8) (N := 8) dX8_endsTerm_5 (by decide) rfl rfl (by omega) (by omega) (fun c_5 => ?_) (fun c_5 => ?_)
  rotate_left
  · omega
  refine og_congL (r_sum (nw, su, pr, sg, hp, dg, dp, ct)) (og_set_eq _ _ _) (by omega) (fun j hj => by rw [if_pos (by omega)]) ?_
  rw [og_set_set]
  refine og_abs (P := fun g => m_CK h0 g M wl (r_sum (nw, su, pr, sg, hp, dg, dp, ct)) su pr sg hp dg dp ct) (w.s2 (r_sum (nw, su, pr, sg, hp, dg, dp, ct))) fun g w => ?_
  have wm := w.m
  have bad : ∀ (g : og_H) (nw2 : Nat → Int64), (wl = 0 ∨ r_endsTerm (nw, su, pr, sg, hp, dg, dp, ct) nx = none) → m_CK h0 g M wl nw2 su pr sg hp dg dp ct → og_G E yX8_endsTerm.cls cX8_endsTerm (d + 2) 0 0 3 X (og_Q E (fun (v : Option Value) (nn : Nat) (h1 : og_H) => nn = n ∧ v = none ∧ (((wl = 0 ∨ r_endsTerm (nw, su, pr, sg, hp, dg, dp, ct) nx = none) ∧ ∃ T, T.2.2.2.2.2.2.1 = dp ∧ m_CT h0 h1 M 0 T) ∨ (wl = 1 ∧ ∃ T, r_endsTerm (nw, su, pr, sg, hp, dg, dp, ct) nx = some T ∧ m_CT h0 h1 M 1 T))) no_x 0 0 X) 0 0 n g 112 [some (.ref 101), some (.int nx), some (.int (nI 8))] [.ref 101] := by
    intro g nw2 hno w
    have wm := w.m
    refine og_iconst (pc := 112) (v := 0) dX8_endsTerm_112 (by decide) ?_
    refine og_put (pc := 113) P_X8_220 dX8_endsTerm_113 wm (by omega) rfl rfl (Nat.le_of_ble_eq_true rfl) ?_
    exact tail _ 0 nw2 _ (w.sO dp 0 ct hd) (fun h1 w1 => ⟨rfl, rfl, Or.inl ⟨hno, (nw2, q_blk su dp nw2, pr, upd sg dp nx, upd hp dp 0, dg, dp, ct), rfl, w1⟩⟩)
  refine og_aload_n (pc := 89) dX8_endsTerm_89 rfl ?_
  refine og_aload_n (pc := 90) dX8_endsTerm_90 rfl ?_
  refine og_get (pc := 91) F_X8_220 dX8_endsTerm_91 wm (by omega) rfl ?_
  refine og_if_eq (pc := 94) (tgt := 112) dX8_endsTerm_94 (by decide) (fun q => bad g _ (Or.inl q) w) (fun q => ?_)
  have hw1 : wl = 1 := by
    rcases hw with z | z
    · exact absurd z q
    · exact z
  refine og_aload_n (pc := 97) dX8_endsTerm_97 rfl ?_
  refine og_get (pc := 98) F_X8_76 dX8_endsTerm_98 wm (by omega) rfl ?_
  refine og_iconst (pc := 101) (v := 1) dX8_endsTerm_101 (by decide) ?_
  refine og_callS (pc := 102) (As := [.ref 122, .int 1]) (rest := [.ref 101]) (c_X8_halves E d n 122 g (r_sum (nw, su, pr, sg, hp, dg, dp, ct)) 1 (by decide) w.e2 (by omega)) Y_X8_halves S_X8_halves K_X8_142 dX8_endsTerm_102 rfl rfl (Nat.le_of_ble_eq_true rfl) (by omega) (by omega) (by omega) (fun _ _ _ z => z) (fun v n1 h1 z => ?_)
  obtain ⟨hn, z⟩ := z
  subst hn
  rcases z with ⟨rfl, hok, hh⟩ | ⟨rfl, hbad, hh⟩
  rotate_left
  · subst hh
    exact og_if_eq (pc := 105) (tgt := 112) dX8_endsTerm_105 (by decide) (fun _ => bad _ _ (Or.inr (q_if_neg hbad)) w) (fun q => absurd rfl q)
  refine og_if_eq (pc := 105) (tgt := 112) dX8_endsTerm_105 (by decide) (fun q => absurd q (by decide)) (fun _ => ?_)
  have hok : q_hall 1 (r_sum (nw, su, pr, sg, hp, dg, dp, ct)) := hok
  clear bad
  refine og_abs (P := fun g => m_CK h0 g M wl (q_dv 1 (r_sum (nw, su, pr, sg, hp, dg, dp, ct))) su pr sg hp dg dp ct) (by rw [hh]; exact w.s2 (q_dv 1 (r_sum (nw, su, pr, sg, hp, dg, dp, ct)))) fun g w => ?_
  have wm := w.m
  refine og_iconst (pc := 108) (v := 1) dX8_endsTerm_108 (by decide) ?_
  refine og_goto (pc := 109) (tgt := 113) dX8_endsTerm_109 (by decide) ?_
  refine og_put (pc := 113) P_X8_220 dX8_endsTerm_113 wm (by omega) rfl rfl (Nat.le_of_ble_eq_true rfl) ?_
  exact tail _ 1 (q_dv 1 (r_sum (nw, su, pr, sg, hp, dg, dp, ct))) _ (w.sO dp 1 ct hd) (fun h1 w1 => ⟨rfl, rfl, Or.inr ⟨hw1, _, q_if_pos hok, w1⟩⟩)
theorem r_ends_dp {T T1 : q_T} (h : r_ends T = some T1) : T1.2.2.2.2.2.2.1 = T.2.2.2.2.2.2.1 := by
  unfold r_ends at h
  by_cases z : q_hall 1 (q_scale T.1 (T.2.2.2.2.2.1 T.2.2.2.2.2.2.1).toInt64)
  · rw [q_if_pos z] at h
    by_cases z2 : T.2.2.2.2.1 T.2.2.2.2.2.2.1 = 0
    · rw [q_if_pos z2] at h
      cases h
      rfl
    · rw [q_if_neg z2] at h
      by_cases z3 : q_hall 2 (q_prod (q_row8 T.2.2.1 T.2.2.2.2.2.2.1) (q_dv 1 (q_scale T.1 (T.2.2.2.2.2.1 T.2.2.2.2.2.2.1).toInt64)))
      · rw [q_if_pos z3] at h
        cases h
        rfl
      · rw [q_if_neg z3] at h
        cases h
  · rw [q_if_neg z] at h
    cases h
theorem r_endsTerm_dp {T T1 : q_T} {nx : Int32} (h : r_endsTerm T nx = some T1) : T1.2.2.2.2.2.2.1 = T.2.2.2.2.2.2.1 := by
  unfold r_endsTerm at h
  by_cases z : q_hall 1 (r_sum T)
  · rw [q_if_pos z] at h
    cases h
    rfl
  · rw [q_if_neg z] at h
    cases h
def r_opens (T : q_T) (dp : Nat) : q_T := (T.1, T.2.1, T.2.2.1, upd T.2.2.2.1 dp 0, upd T.2.2.2.2.1 dp 0, upd T.2.2.2.2.2.1 dp 1, dp, T.2.2.2.2.2.2.2)
def r_wD (T : q_T) (dp : Nat) : q_T := (T.1, T.2.1, T.2.2.1, T.2.2.2.1, T.2.2.2.2.1, T.2.2.2.2.2.1, dp, T.2.2.2.2.2.2.2)
def r_wN (T : q_T) (f : Nat → Int64) : q_T := (f, T.2)
def r_wG (T : q_T) (x : Int32) : q_T := (T.1, T.2.1, T.2.2.1, T.2.2.2.1, T.2.2.2.2.1, upd T.2.2.2.2.2.1 T.2.2.2.2.2.2.1 x, T.2.2.2.2.2.2.1, T.2.2.2.2.2.2.2)
noncomputable def r_close2 (x : Int32) : Option q_T → Option q_T
  | none => none
  | some T => some (r_wD T (if x = 41 then T.2.2.2.2.2.2.1 - 1 else T.2.2.2.2.2.2.1))
noncomputable def r_close (x : Int32) : Option q_T → Option q_T
  | none => none
  | some T => r_close2 x (q_if (x = 42) (some T) (r_endsTerm T (if x = 45 then -1 else 1)))
/-- one byte is read -/
noncomputable def r_reads (R : Nat → Nat → Int64) (T : q_T) (x : Int32) : Option q_T :=
  q_if (q_digit x) (some (r_wG T (x - 48))) (q_if (q_letter x) (some (r_wN T (R (v_li x)))) (q_if (x = 40) (some (r_opens T (T.2.2.2.2.2.2.1 + 1))) (q_if (x = 39) (some (r_wN T (q_mirror T.1))) (r_close x (r_ends T)))))
set_option maxRecDepth 4000 in
theorem c_X8_reads (E : og_E) (d n : Nat) (h : og_H) (x : Int32) {h0 : og_H} {M : q_M} {nw su pr : Nat → Int64} {sg hp dg : Nat → Int32} {dp : Nat} {ct : Int32} (w : m_CK h0 h M 1 nw su pr sg hp dg dp ct) (h40 : x = 40 → dp < 6) (h41 : x = 41 → 0 < dp) :
    og_M E yX8_reads (.code yX8_reads cX8_reads 3 none) (d + 3) [.ref 101, .int x] n h 0 0 (fun (v : Option Value) (nn : Nat) (h1 : og_H) => nn = n ∧ v = none ∧ ((r_reads (m_R M) (nw, su, pr, sg, hp, dg, dp, ct) x = none ∧ ∃ T, m_CT h0 h1 M 0 T) ∨ (∃ T, r_reads (m_R M) (nw, su, pr, sg, hp, dg, dp, ct) x = some T ∧ m_CT h0 h1 M 1 T))) no_x := by
  refine og_start (lv := [some (.ref 101), some (.int x), none]) (by decide) rfl rfl (Nat.le_of_ble_eq_true rfl) fun X hr hnm htb => ?_
  have hd := w.d6
  have wm := w.m
  refine og_iload_n (pc := 0) dX8_reads_0 rfl ?_
  refine og_bipush (pc := 1) (v := 49) dX8_reads_1 (by decide) ?_
  refine og_bipush (pc := 3) (v := 57) dX8_reads_3 (by decide) ?_
  refine og_callS (pc := 5) (As := [.int x, .int 49, .int 57]) (rest := []) (c_X8_in E d n h x 49 57) Y_X8_in S_X8_in K_X8_86 dX8_reads_5 rfl rfl (Nat.le_of_ble_eq_true rfl) (by omega) (by omega) (by omega) (fun _ _ _ z => z) (fun v n1 h1 z => ?_)
  obtain ⟨hn, hh, z⟩ := z
  subst hn hh
  rcases z with ⟨rfl, zd⟩ | ⟨rfl, zd⟩
  · refine og_if_eq (pc := 8) (tgt := 27) dX8_reads_8 (by decide) (fun q => absurd q (by decide)) (fun _ => ?_)
    have g1 := w.e1
    refine og_aload_n (pc := 11) dX8_reads_11 rfl ?_
    refine og_get (pc := 12) F_X8_73 dX8_reads_12 (by repeat (first | exact og_set_eq _ _ _ | assumption | refine (og_set_ne _ _ (by first | assumption | omega)).trans ?_)) (by omega) rfl ?_
    refine og_aload_n (pc := 15) dX8_reads_15 rfl ?_
    refine og_get (pc := 16) F_X8_214 dX8_reads_16 (by repeat (first | exact og_set_eq _ _ _ | assumption | refine (og_set_ne _ _ (by first | assumption | omega)).trans ?_)) (by omega) rfl ?_
    refine og_iload_n (pc := 19) dX8_reads_19 rfl ?_
    refine og_bipush (pc := 20) (v := 48) dX8_reads_20 (by decide) ?_
    refine og_isub (pc := 22) dX8_reads_22 ?_
    refine og_iastN (pc := 23) (j := dp) rfl dX8_reads_23 g1 (by omega) (by omega) (by first | decide | assumption | omega) ?_
    refine og_goto (pc := 24) (tgt := 157) dX8_reads_24 (by decide) ?_
    exact og_vret (pc := 157) hr dX8_reads_157 (by omega) (by omega) ⟨rfl, rfl, Or.inr ⟨_, q_if_pos zd, w.s1 (upd dg dp (x - 48))⟩⟩
  refine og_if_eq (pc := 8) (tgt := 27) dX8_reads_8 (by decide) (fun _ => ?_) (fun q => absurd rfl q)
  have zd : ¬ q_digit x := zd
  refine og_iload_n (pc := 27) dX8_reads_27 rfl ?_
  refine og_bipush (pc := 28) (v := 97) dX8_reads_28 (by decide) ?_
  refine og_bipush (pc := 30) (v := 104) dX8_reads_30 (by decide) ?_
  refine og_callS (pc := 32) (As := [.int x, .int 97, .int 104]) (rest := []) (c_X8_in E d n1 h1 x 97 104) Y_X8_in S_X8_in K_X8_86 dX8_reads_32 rfl rfl (Nat.le_of_ble_eq_true rfl) (by omega) (by omega) (by omega) (fun _ _ _ z => z) (fun v n2 h2 z => ?_)
  obtain ⟨hn, hh, z⟩ := z
  subst hn hh
  rcases z with ⟨rfl, zl⟩ | ⟨rfl, zl⟩
  · refine og_if_eq (pc := 35) (tgt := 53) dX8_reads_35 (by decide) (fun q => absurd q (by decide)) (fun _ => ?_)
    obtain ⟨l1, l2⟩ := v_li_lt zl
    refine og_aload_n (pc := 38) dX8_reads_38 rfl ?_
    refine og_aload_n (pc := 39) dX8_reads_39 rfl ?_
    refine og_get (pc := 40) F_X8_76 dX8_reads_40 wm (by omega) rfl ?_
    refine og_iload_n (pc := 43) dX8_reads_43 rfl ?_
    refine og_bipush (pc := 44) (v := 97) dX8_reads_44 (by decide) ?_
    refine og_isub (pc := 46) dX8_reads_46 ?_
    rw [l2]
    refine og_callV (pc := 47) (As := [.ref 122, .int (nI (v_li x))]) (rest := []) (c_X8_takes E d n2 122 (v_li x) h2 (m_s M) nw wm w.mk.s w.e2 (by omega) l1) Y_X8_takes I_X8_takes V_X8_takes wm (by omega) rfl rfl K_X8_131 dX8_reads_47 rfl rfl (Nat.le_of_ble_eq_true rfl) (by omega) (by omega) (by omega) (fun _ _ _ z => z) (fun v n3 h3 z => ?_)
    obtain ⟨rfl, hn, hh⟩ := z
    subst hn hh
    refine og_goto (pc := 50) (tgt := 157) dX8_reads_50 (by decide) ?_
    exact og_vret (pc := 157) hr dX8_reads_157 (by omega) (by omega) ⟨rfl, rfl, Or.inr ⟨_, (q_if_neg zd).trans (q_if_pos zl), w.s2 (m_R M (v_li x))⟩⟩
  refine og_if_eq (pc := 35) (tgt := 53) dX8_reads_35 (by decide) (fun _ => ?_) (fun q => absurd rfl q)
  have zl : ¬ q_letter x := zl
  refine og_iload_n (pc := 53) dX8_reads_53 rfl ?_
  refine og_bipush (pc := 54) (v := 40) dX8_reads_54 (by decide) ?_
  refine og_icmp_ne (pc := 56) (tgt := 76) dX8_reads_56 (by decide) (fun c40 => ?_) (fun c40 => ?_)
  rotate_left
  · have hlt := h40 c40
    refine og_aload_n (pc := 59) dX8_reads_59 rfl ?_
    refine og_dup (pc := 60) dX8_reads_60 rfl ?_
    refine og_get (pc := 61) F_X8_214 dX8_reads_61 wm (by omega) rfl ?_
    refine og_iconst (pc := 64) (v := 1) dX8_reads_64 (by decide) ?_
    refine og_iadd (pc := 65) dX8_reads_65 ?_
    rw [show m_dp (m_wW M dp 1 ct) = nI dp from rfl, nI_1]
    refine og_put (pc := 66) P_X8_214 dX8_reads_66 wm (by omega) rfl rfl (Nat.le_of_ble_eq_true rfl) ?_
    have w := w.sO (dp + 1) 1 ct (by omega)
    refine og_abs (P := fun g => m_CK h0 g M 1 nw su pr sg hp dg (dp + 1) ct) w fun g w => ?_
    have wm := w.m
    refine og_aload_n (pc := 69) dX8_reads_69 rfl ?_
    refine og_callV (pc := 70) (As := []) (rest := []) (c_X8_opens E d n2 g w) Y_X8_opens I_X8_opens V_X8_opens wm (by omega) rfl rfl K_X8_227 dX8_reads_70 rfl rfl (Nat.le_of_ble_eq_true rfl) (by omega) (by omega) (by omega) (fun _ _ _ z => z) (fun v n3 h3 z => ?_)
    obtain ⟨hn, rfl, w9⟩ := z
    subst hn
    refine og_goto (pc := 73) (tgt := 157) dX8_reads_73 (by decide) ?_
    exact og_vret (pc := 157) hr dX8_reads_157 (by omega) (by omega) ⟨rfl, rfl, Or.inr ⟨_, (q_if_neg zd).trans ((q_if_neg zl).trans (q_if_pos c40)), w9⟩⟩
  refine og_iload_n (pc := 76) dX8_reads_76 rfl ?_
  refine og_bipush (pc := 77) (v := 39) dX8_reads_77 (by decide) ?_
  refine og_icmp_ne (pc := 79) (tgt := 112) dX8_reads_79 (by decide) (fun c39 => ?_) (fun c39 => ?_)
  rotate_left
  · refine og_iconst (pc := 82) (v := 1) dX8_reads_82 (by decide) ?_
    refine og_istore_n_2 (pc := 83) dX8_reads_83 rfl ?_
    refine og_heq (og_set h2 122 (rowL (fun j => if j < 1 then q_mirror nw j else nw j))) (by rw [show (fun j => if j < 1 then q_mirror nw j else nw j) = nw from funext fun j => by
      by_cases e : j < 1
      · rw [if_pos e]
        exact if_pos (by omega)
      · exact if_neg e, og_set_same w.e2]) ?_
    refine og_for (i0 := 1) (N := 8) (by decide) (fun i => og_set h2 122 (rowL (fun j => if j < i then q_mirror nw j else nw j))) (fun i => [some (.ref 101), some (.int x), some (.int (nI i))]) ?_ (fun i h1i hi ih => ?_)
    · refine og_iload_n (pc := 84) dX8_reads_84 rfl ?_
      refine og_bipush (pc := 85) (v := 8) dX8_reads_85 (by decide) ?_
      refine og_geN (pc := 87) (tgt := 109) (i := 8) (N := 8) dX8_reads_87 (by decide) rfl rfl (by omega) (by omega) (fun c_87 => ?_) (fun c_87 => ?_)
      rotate_left
      · omega
      refine og_congL (q_mirror nw) (og_set_eq _ _ _) (by omega) (fun j hj => by rw [if_pos (by omega)]) ?_
      rw [og_set_set]
      refine og_goto (pc := 109) (tgt := 157) dX8_reads_109 (by decide) ?_
      exact og_vret (pc := 157) hr dX8_reads_157 (by omega) (by omega) ⟨rfl, rfl, Or.inr ⟨_, (q_if_neg zd).trans ((q_if_neg zl).trans ((q_if_neg c40).trans (q_if_pos c39))), w.s2 (q_mirror nw)⟩⟩
    · have w2 := w.s2 (fun j => if j < i then q_mirror nw j else nw j)
      have wm := w2.m
      have g2 : og_set h2 122 (rowL (fun j => if j < i then q_mirror nw j else nw j)) 122 = some (rowL (fun j => if j < i then q_mirror nw j else nw j)) := og_set_eq _ _ _
      refine og_iload_n (pc := 84) dX8_reads_84 rfl ?_
      refine og_bipush (pc := 85) (v := 8) dX8_reads_85 (by decide) ?_
      refine og_geN (pc := 87) (tgt := 109) (i := i) (N := 8) dX8_reads_87 (by decide) rfl rfl (by omega) (by omega) (fun c_87 => ?_) (fun c_87 => ?_)
      · omega
      refine og_aload_n (pc := 90) dX8_reads_90 rfl ?_
      refine og_get (pc := 91) F_X8_76 dX8_reads_91 (by repeat (first | exact og_set_eq _ _ _ | assumption | refine (og_set_ne _ _ (by first | assumption | omega)).trans ?_)) (by omega) rfl ?_
      refine og_iload_n (pc := 94) dX8_reads_94 rfl ?_
      refine og_aload_n (pc := 95) dX8_reads_95 rfl ?_
      refine og_get (pc := 96) F_X8_76 dX8_reads_96 (by repeat (first | exact og_set_eq _ _ _ | assumption | refine (og_set_ne _ _ (by first | assumption | omega)).trans ?_)) (by omega) rfl ?_
      refine og_iload_n (pc := 99) dX8_reads_99 rfl ?_
      refine og_laldN (pc := 100) (j := i) rfl dX8_reads_100 g2 (by omega) (by omega) (by first | decide | assumption | omega) ?_
      refine og_lneg (pc := 101) dX8_reads_101 ?_
      refine og_lastN (pc := 102) (j := i) rfl dX8_reads_102 g2 (by omega) (by omega) (by first | decide | assumption | omega) ?_
      refine og_iinc_2 (pc := 103) dX8_reads_103 (og_inc i) rfl ?_
      refine og_goto (pc := 106) (tgt := 84) dX8_reads_106 (by decide) ?_
      rw [og_set_set, og_fill (by rw [if_neg (by omega), q_mir_at _ h1i])]
      exact ih
  have hsem : r_reads (m_R M) (nw, su, pr, sg, hp, dg, dp, ct) x = r_close x (r_ends (nw, su, pr, sg, hp, dg, dp, ct)) := (q_if_neg zd).trans ((q_if_neg zl).trans ((q_if_neg c40).trans (q_if_neg c39)))
  refine og_aload_n (pc := 112) dX8_reads_112 rfl ?_
  refine og_callV (pc := 113) (As := []) (rest := []) (c_X8_ends E d n2 h2 w) Y_X8_ends I_X8_ends V_X8_ends wm (by omega) rfl rfl K_X8_230 dX8_reads_113 rfl rfl (Nat.le_of_ble_eq_true rfl) (by omega) (by omega) (by omega) (fun _ _ _ z => z) (fun v n3 h3 z => ?_)
  obtain ⟨hn, rfl, z⟩ := z
  subst hn
  -- behind ends and endsTerm: the depth
  have last : ∀ (g : og_H) (wl : Int32) (T : q_T), T.2.2.2.2.2.2.1 = dp → m_CT h0 g M wl T → (∀ h1, m_CT h0 h1 M wl (r_wD T (if x = 41 then T.2.2.2.2.2.2.1 - 1 else T.2.2.2.2.2.2.1)) → (fun (v : Option Value) (nn : Nat) (h1 : og_H) => nn = n3 ∧ v = none ∧ ((r_reads (m_R M) (nw, su, pr, sg, hp, dg, dp, ct) x = none ∧ ∃ T, m_CT h0 h1 M 0 T) ∨ (∃ T, r_reads (m_R M) (nw, su, pr, sg, hp, dg, dp, ct) x = some T ∧ m_CT h0 h1 M 1 T))) none n3 h1) → og_G E yX8_reads.cls cX8_reads (d + 3) 0 0 3 X (og_Q E (fun (v : Option Value) (nn : Nat) (h1 : og_H) => nn = n3 ∧ v = none ∧ ((r_reads (m_R M) (nw, su, pr, sg, hp, dg, dp, ct) x = none ∧ ∃ T, m_CT h0 h1 M 0 T) ∨ (∃ T, r_reads (m_R M) (nw, su, pr, sg, hp, dg, dp, ct) x = some T ∧ m_CT h0 h1 M 1 T))) no_x 0 0 X) 0 0 n3 g 137 [some (.ref 101), some (.int x), none] [] := by
    intro g wl T hT wT hp9
    obtain ⟨nw, su, pr, sg, hp, dg, dp2, ct⟩ := T
    have hT : dp2 = dp := hT
    subst hT
    have w : m_CK h0 g M wl nw su pr sg hp dg dp2 ct := wT
    have hp9 : ∀ h1, m_CK h0 h1 M wl nw su pr sg hp dg (if x = 41 then dp2 - 1 else dp2) ct → _ := hp9
    have wm := w.m
    refine og_aload_n (pc := 137) dX8_reads_137 rfl ?_
    refine og_dup (pc := 138) dX8_reads_138 rfl ?_
    refine og_get (pc := 139) F_X8_214 dX8_reads_139 wm (by omega) rfl ?_
    refine og_iload_n (pc := 142) dX8_reads_142 rfl ?_
    refine og_bipush (pc := 143) (v := 41) dX8_reads_143 (by decide) ?_
    refine og_icmp_ne (pc := 145) (tgt := 152) dX8_reads_145 (by decide) (fun c => ?_) (fun c => ?_)
    · rw [if_neg c] at hp9
      refine og_iconst (pc := 152) (v := 0) dX8_reads_152 (by decide) ?_
      refine og_isub (pc := 153) dX8_reads_153 ?_
      rw [show m_dp (m_wW M dp2 wl ct) - 0 = nI dp2 from Int32.sub_zero _]
      refine og_put (pc := 154) P_X8_214 dX8_reads_154 wm (by omega) rfl rfl (Nat.le_of_ble_eq_true rfl) ?_
      exact og_vret (pc := 157) hr dX8_reads_157 (by omega) (by omega) (hp9 _ (w.sO dp2 wl ct hd))
    · rw [if_pos c] at hp9
      have hpos := h41 c
      obtain ⟨k, rfl⟩ : ∃ k, dp2 = k + 1 := ⟨dp2 - 1, by omega⟩
      refine og_iconst (pc := 148) (v := 1) dX8_reads_148 (by decide) ?_
      refine og_goto (pc := 149) (tgt := 153) dX8_reads_149 (by decide) ?_
      refine og_isub (pc := 153) dX8_reads_153 ?_
      rw [show m_dp (m_wW M (k + 1) wl ct) = nI (k + 1) from rfl, nI_s1]
      refine og_put (pc := 154) P_X8_214 dX8_reads_154 wm (by omega) rfl rfl (Nat.le_of_ble_eq_true rfl) ?_
      exact og_vret (pc := 157) hr dX8_reads_157 (by omega) (by omega) (hp9 _ (w.sO k wl ct (by omega)))
  refine og_iload_n (pc := 116) dX8_reads_116 rfl ?_
  refine og_bipush (pc := 117) (v := 42) dX8_reads_117 (by decide) ?_
  refine og_icmp_eq (pc := 119) (tgt := 137) dX8_reads_119 (by decide) (fun c42 => ?_) (fun c42 => ?_)
  · rcases z with ⟨z1, T, hT, wT⟩ | ⟨T, z1, wT⟩
    · exact last _ 0 T hT wT (fun h1 w1 => ⟨rfl, rfl, Or.inl ⟨by rw [hsem, z1]; rfl, _, w1⟩⟩)
    · refine last _ 1 T (r_ends_dp z1) wT (fun h1 w1 => ⟨rfl, rfl, Or.inr ⟨_, ?_, w1⟩⟩)
      rw [hsem, z1]
      show r_close2 x (q_if (x = 42) (some T) _) = _
      rw [q_if_pos c42]
      rfl
  have nxt : ∀ (nx : Int32), nx = (if x = 45 then -1 else 1) → og_G E yX8_reads.cls cX8_reads (d + 3) 0 0 3 X (og_Q E (fun (v : Option Value) (nn : Nat) (h1 : og_H) => nn = n3 ∧ v = none ∧ ((r_reads (m_R M) (nw, su, pr, sg, hp, dg, dp, ct) x = none ∧ ∃ T, m_CT h0 h1 M 0 T) ∨ (∃ T, r_reads (m_R M) (nw, su, pr, sg, hp, dg, dp, ct) x = some T ∧ m_CT h0 h1 M 1 T))) no_x 0 0 X) 0 0 n3 h3 134 [some (.ref 101), some (.int x), none] [.int nx, .ref 101] := by
    intro nx hnx
    rcases z with ⟨z1, T, hT, wT⟩ | ⟨T, z1, wT⟩
    · obtain ⟨nw2, su2, pr2, sg2, hp2, dg2, dp2, ct2⟩ := T
      have hT : dp2 = dp := hT
      subst hT
      have w : m_CK h0 h3 M 0 nw2 su2 pr2 sg2 hp2 dg2 dp2 ct2 := wT
      have wm := w.m
      refine og_callV (pc := 134) (As := [.int nx]) (rest := []) (c_X8_endsTerm E d n3 h3 nx w (Or.inl rfl)) Y_X8_endsTerm I_X8_endsTerm V_X8_endsTerm wm (by omega) rfl rfl K_X8_233 dX8_reads_134 rfl rfl (Nat.le_of_ble_eq_true rfl) (by omega) (by omega) (by omega) (fun _ _ _ z => z) (fun v n4 h4 z => ?_)
      obtain ⟨hn, rfl, y⟩ := z
      subst hn
      rcases y with ⟨-, T2, hT2, wT2⟩ | ⟨y, -⟩
      · exact last _ 0 T2 hT2 wT2 (fun h1 w1 => ⟨rfl, rfl, Or.inl ⟨by rw [hsem, z1]; rfl, _, w1⟩⟩)
      · exact absurd y (by decide)
    · have hT := r_ends_dp z1
      obtain ⟨nw2, su2, pr2, sg2, hp2, dg2, dp2, ct2⟩ := T
      have hT : dp2 = dp := hT
      subst hT
      have w : m_CK h0 h3 M 1 nw2 su2 pr2 sg2 hp2 dg2 dp2 ct2 := wT
      have wm := w.m
      have hs2 : r_close x (r_ends (nw, su, pr, sg, hp, dg, dp2, ct)) = r_close2 x (r_endsTerm (nw2, su2, pr2, sg2, hp2, dg2, dp2, ct2) nx) := by
        rw [z1, hnx]
        show r_close2 x (q_if (x = 42) _ _) = _
        rw [q_if_neg c42]
      refine og_callV (pc := 134) (As := [.int nx]) (rest := []) (c_X8_endsTerm E d n3 h3 nx w (Or.inr rfl)) Y_X8_endsTerm I_X8_endsTerm V_X8_endsTerm wm (by omega) rfl rfl K_X8_233 dX8_reads_134 rfl rfl (Nat.le_of_ble_eq_true rfl) (by omega) (by omega) (by omega) (fun _ _ _ z => z) (fun v n4 h4 z => ?_)
      obtain ⟨hn, rfl, y⟩ := z
      subst hn
      rcases y with ⟨y, T2, hT2, wT2⟩ | ⟨-, T2, y, wT2⟩
      · rcases y with y | y
        · exact absurd y (by decide)
        · exact last _ 0 T2 hT2 wT2 (fun h1 w1 => ⟨rfl, rfl, Or.inl ⟨by rw [hsem, hs2, y]; rfl, _, w1⟩⟩)
      · exact last _ 1 T2 (r_endsTerm_dp y) wT2 (fun h1 w1 => ⟨rfl, rfl, Or.inr ⟨_, by rw [hsem, hs2, y]; rfl, w1⟩⟩)
  refine og_aload_n (pc := 122) dX8_reads_122 rfl ?_
  refine og_iload_n (pc := 123) dX8_reads_123 rfl ?_
  refine og_bipush (pc := 124) (v := 45) dX8_reads_124 (by decide) ?_
  refine og_icmp_ne (pc := 126) (tgt := 133) dX8_reads_126 (by decide) (fun c => ?_) (fun c => ?_)
  · refine og_iconst (pc := 133) (v := 1) dX8_reads_133 (by decide) ?_
    exact nxt 1 (if_neg c).symm
  · refine og_iconst (pc := 129) (v := (-1)) dX8_reads_129 (by decide) ?_
    refine og_goto (pc := 130) (tgt := 134) dX8_reads_130 (by decide) ?_
    exact nxt (-1) (if_pos c).symm
