/-! ===== the law: acts: divide ===== -/
theorem c_L_putsS (E : og_E) (d n a b : Nat) (h : og_H) (f : Nat → Int64) (hb : h b = some (rowL f)) (h3a : 3 ≤ a) (h3b : 3 ≤ b) (hab : b ≠ a) {S : Nat → Int32} (hS : h a = some (rowI 64 S)) :
    og_M E yL_puts (.code yL_puts cL_puts 7 (some .boolean)) d [.ref a, .int 0, .ref b, .long 1] n h 0 0 (fun v n1 h1 => n1 = n ∧ (∀ x, x ≠ a → h1 x = h x) ∧ ((v = some (.int 1) ∧ q_hall 1 f ∧ ∃ S1, h1 a = some (rowI 64 S1)) ∨ (v = some (.int 0) ∧ ¬ q_hall 1 f ∧ h1 = h))) no_x := by
  refine og_M.mono (c_L_puts E d n a b 0 h S f 1 hS hb h3a h3b hab (by omega) (by decide)) (fun v n1 h1 q => ?_) (fun _ _ _ z => z)
  obtain ⟨q1, q2⟩ := q
  rw [y_hall] at q2
  rcases q2 with ⟨a, b, c⟩ | ⟨a, b, c⟩
  · exact ⟨q1, fun x hx => by rw [c]; exact og_set_ne _ _ hx, Or.inl ⟨a, b, _, by rw [c]; exact og_set_eq _ _ _⟩⟩
  · exact ⟨q1, fun x hx => by rw [c], Or.inr ⟨a, b, c⟩⟩
theorem y_pos {D : q_D} {R g : Nat → Int32} (w : y_cp D R g) : ∀ r, r < 8 → ¬ q_zr (d_R D r) → 0 < q_inner (d_R D r) (d_R D r) 8 := fun r hr h => zpos (w.ok hr) (fun e => h ((zzr (w.ok hr)).mpr e))
/-- the quotient and the rest are the law's rows -/
theorem y_dvd {D : q_D} {R g : Nat → Int32} (w : y_cp D R g) (ho : d_o D < 8) {a b : Nat} (a8 : a < 8) (b8 : b < 8) (h : q_div D a b) : zok (y_row R a) ∧ zok (y_row R b) ∧ 0 < (q_inner (y_row R b) (y_row R b) 8).toInt ∧ zE (d_quo D a b) (m_quo (y_row R a) (y_row R b) (d_o D)) ∧ zE (d_rem D a b) (m_rem (y_row R a) (y_row R b) (d_o D)) := by
  have ra := y_row_e w a8
  have rb := y_row_e w b8
  have ka : zok (y_row R a) := by
    have := w.ok a8
    unfold zok at this ⊢
    rw [zn_congr (fun j hj => show zi (y_row R a) j = zi (d_R D a) j by unfold zi; rw [ra j hj])]
    exact this
  have kb : zok (y_row R b) := by
    have := w.ok b8
    unfold zok at this ⊢
    rw [zn_congr (fun j hj => show zi (y_row R b) j = zi (d_R D b) j by unfold zi; rw [rb j hj])]
    exact this
  obtain ⟨la, lb, nz⟩ := h
  have la2 : zlat (d_o D) (zi (y_row R a)) := (zlat_ok ho).mp ((zal ho).mp ((y_al ho (fun j hj => (ra j hj).symm)).mp la))
  have lb2 : zlat (d_o D) (zi (y_row R b)) := (zlat_ok ho).mp ((zal ho).mp ((y_al ho (fun j hj => (rb j hj).symm)).mp lb))
  have eN : q_inner (y_row R b) (y_row R b) 8 = q_inner (d_R D b) (d_R D b) 8 := q_inn 8 rb
  have hp : 0 < q_inner (y_row R b) (y_row R b) 8 := by
    rw [eN]
    exact y_pos w b b8 nz
  have hp2 := zlt.mp hp
  have hN : q_inner (y_row R b) (y_row R b) 8 ≠ 0 := fun e => by
    rw [e] at hp2
    exact absurd hp2 (by decide)
  obtain ⟨z1, z2, _⟩ := zdv (f := d_R D a) (g := d_R D b) ho (fun j hj => (ra j hj).symm) (fun j hj => (rb j hj).symm) ka kb hN la2 lb2
  exact ⟨ka, kb, hp2, z1, z2⟩
set_option maxHeartbeats 2000000 in
theorem y_ac10 {E : og_E} {X : og_X} {d n L v w a b r : Nat} {xs : Nat → Int32} {x : Int32} {h : og_H} {D : q_D} {R g : Nat → Int32} (hr : og_ret X = some .boolean) (W : y_wl L xs n h D R g) (hv : v < 10000000) (a8 : a < 8) (b8 : b < 8) (r8 : r < 8) : og_G E RL cL_acts (d + 7) 300 2500 15 X (y_Qa E L xs X) 0 0 n h 972 (y_la x v w a b r [none, none, none, none, none]) [] := by
  have hcp := W.2.2.2.2.2
  have h104 := W.nn
  have ho := W.o8
  have ra := y_row_e hcp a8
  have rb := y_row_e hcp b8
  have eq : nI v / 512 - nI v / 512 / 8 * 8 = nI (v / 512 % 8) := by
    rw [show nI v / 512 = nI (v / 512) from nI_div (b := 512) (by omega) (by omega) (by omega)]
    exact nI_mod (b := 8) (by omega) (by omega) (by omega)
  have q8 : v / 512 % 8 < 8 := Nat.mod_lt _ (by omega)
  refine og_iload (pc := 972) dL_acts_972 rfl ?_
  refine og_sipush (pc := 974) (v := 512) dL_acts_974 (by decide) ?_
  refine og_idiv (pc := 977) dL_acts_977 (by decide) ?_
  refine og_bipush (pc := 978) (v := 8) dL_acts_978 (by decide) ?_
  refine og_irem (pc := 980) dL_acts_980 (by decide) ?_
  rw [eq]
  generalize v / 512 % 8 = q at q8 ⊢
  refine og_istore_10 (pc := 981) dL_acts_981 rfl ?_
  refine og_iload (pc := 983) dL_acts_983 rfl ?_
  refine og_iload (pc := 985) dL_acts_985 rfl ?_
  refine og_icmp_ne (pc := 987) (tgt := 1015) dL_acts_987 (by decide) (fun ne => ?_) (fun ee => ?_)
  rotate_left
  · have eqr : q = r := (nI_eq (by omega) (by omega)).mp ee
    refine og_aload_n (pc := 990) dL_acts_990 rfl ?_
    refine og_iload (pc := 991) dL_acts_991 rfl ?_
    refine og_iload (pc := 993) dL_acts_993 rfl ?_
    refine og_iload (pc := 995) dL_acts_995 rfl ?_
    refine og_iload (pc := 997) dL_acts_997 rfl ?_
    refine og_callSH (pc := 999) (As := [.ref 3, .int (nI a), .int (nI b), .int (nI q), .int (nI r)]) (rest := []) (l_divides (E := E) (d := d) W.m.1 a8 b8 q8 r8 (y_pos hcp)) YH_L_divides K_L_157 dL_acts_999 rfl rfl (Nat.le_of_ble_eq_true rfl) (by omega) (by omega) (by omega) (fun v9 n22 h22 z9 => ?_)
    rcases z9 with ⟨x, _⟩ | ⟨_, rfl, w22⟩ | ⟨x, _⟩ | ⟨x, _⟩
    · exact absurd eqr x
    rotate_left
    · exact absurd eqr x
    · exact absurd eqr x
    have W22 := W.m.call w22
    refine og_ldc2 (pc := 1002) LC_L_65 dL_acts_1002 ?_
    refine og_lcmp (pc := 1005) dL_acts_1005 ?_
    refine og_if_ne (pc := 1006) (tgt := 1013) dL_acts_1006 (by decide) (fun q => absurd ((og_cmp0 _ _).mpr rfl) q) (fun _ => ?_)
    refine og_iconst (pc := 1009) (v := 1) dL_acts_1009 (by decide) ?_
    refine og_goto (pc := 1010) (tgt := 1014) dL_acts_1010 (by decide) ?_
    exact og_zret (pc := 1014) hr rfl dL_acts_1014 (by omega) (by omega) ⟨rfl, _, _, _, W22.l hcp⟩
  have nqr : q ≠ r := fun e => ne (by rw [e])
  have at1057 : ∀ (m : Nat) (h2 : og_H) (cells slots : Nat), y_wm L xs m h2 D R g → cells ≤ 10 → slots ≤ 80 → ¬ q_div D a b → og_G E RL cL_acts (d + 7) 300 2500 15 X (y_Qa E L xs X) cells slots m h2 1057 (y_la x v w a b r [some (.int (nI q)), none, none, none, none]) [] := by
    intro m h2 cells slots W2 hc hs nodiv
    refine og_aload_n (pc := 1057) dL_acts_1057 rfl ?_
    refine og_iload (pc := 1058) dL_acts_1058 rfl ?_
    refine og_iload (pc := 1060) dL_acts_1060 rfl ?_
    refine og_iload (pc := 1062) dL_acts_1062 rfl ?_
    refine og_iload (pc := 1064) dL_acts_1064 rfl ?_
    refine og_callSH (pc := 1066) (As := [.ref 3, .int (nI a), .int (nI b), .int (nI q), .int (nI r)]) (rest := []) (l_divides (E := E) (d := d) W2.1 a8 b8 q8 r8 (y_pos hcp)) YH_L_divides K_L_157 dL_acts_1066 rfl rfl (Nat.le_of_ble_eq_true rfl) (by omega) (by omega) (by omega) (fun v9 n22 h22 z9 => ?_)
    rcases z9 with ⟨_, x, _⟩ | ⟨x, _⟩ | ⟨_, _, rfl, w22⟩ | ⟨_, x, _⟩
    · exact absurd x nodiv
    · exact absurd x nqr
    rotate_left
    · exact absurd x nodiv
    have W22 := W2.call w22
    refine og_ldc2 (pc := 1069) LC_L_102 dL_acts_1069 ?_
    refine og_lcmp (pc := 1072) dL_acts_1072 ?_
    refine og_if_ne (pc := 1073) (tgt := 1080) dL_acts_1073 (by decide) (fun q => absurd ((og_cmp0 _ _).mpr rfl) q) (fun _ => ?_)
    refine og_iconst (pc := 1076) (v := 1) dL_acts_1076 (by decide) ?_
    refine og_goto (pc := 1077) (tgt := 1081) dL_acts_1077 (by decide) ?_
    exact og_zret (pc := 1081) hr rfl dL_acts_1081 (by omega) (by omega) ⟨rfl, _, _, _, W22.l hcp⟩
  refine og_aload_n (pc := 1015) dL_acts_1015 rfl ?_
  refine og_iload (pc := 1016) dL_acts_1016 rfl ?_
  refine og_callS (pc := 1018) (As := [.ref 103, .int (nI a)]) (rest := []) (l_row (E := E) (d := d) W.m a8) Y_L_row S_L_row K_L_116 dL_acts_1018 rfl rfl (Nat.le_of_ble_eq_true rfl) (by omega) (by omega) (by omega) (fun _ _ _ z => z) (fun v9 n1 h1 z9 => ?_)
  obtain ⟨rfl, rfl, W1, k1, ct1⟩ := z9
  have g1 := W1.2.2.1
  refine og_aload_n (pc := 1021) dL_acts_1021 rfl ?_
  refine og_iconst (pc := 1022) (v := 0) dL_acts_1022 (by decide) ?_
  refine og_ialdN (pc := 1023) (j := 0) rfl dL_acts_1023 (by repeat (first | exact og_set_eq _ _ _ | assumption | refine (og_set_ne _ _ (by first | assumption | omega)).trans ?_)) (by omega) (by omega) (by first | decide | assumption | omega) ?_
  rw [hcp.2.1]
  refine og_callS (pc := 1024) (As := [.ref n, .int (nI (d_o D))]) (rest := []) (c_L_isIn E d _ n (d_o D) h1 _ ct1 (by omega) ho) Y_L_isIn S_L_isIn K_L_27 dL_acts_1024 rfl rfl (Nat.le_of_ble_eq_true rfl) (by omega) (by omega) (by omega) (fun _ _ _ z => z) (fun v9 n9 h9 z9 => ?_)
  obtain ⟨e8, e9, z9⟩ := z9
  rw [e8, e9]
  rw [y_al ho ra] at z9
  rcases z9 with ⟨rfl, ina⟩ | ⟨rfl, ina⟩
  rotate_left
  · refine og_if_eq (pc := 1027) (tgt := 1057) dL_acts_1027 (by decide) (fun _ => ?_) (fun q => absurd rfl q)
    exact at1057 _ _ _ _ W1 (by omega) (by omega) (fun x => ina x.1)
  refine og_if_eq (pc := 1027) (tgt := 1057) dL_acts_1027 (by decide) (fun q => absurd q (by decide)) (fun _ => ?_)
  refine og_aload_n (pc := 1030) dL_acts_1030 rfl ?_
  refine og_iload (pc := 1031) dL_acts_1031 rfl ?_
  refine og_callS (pc := 1033) (As := [.ref 103, .int (nI b)]) (rest := []) (l_row (E := E) (d := d) W1 b8) Y_L_row S_L_row K_L_116 dL_acts_1033 rfl rfl (Nat.le_of_ble_eq_true rfl) (by omega) (by omega) (by omega) (fun _ _ _ z => z) (fun v9 n2 h2 z9 => ?_)
  obtain ⟨rfl, rfl, W2, k2, ct2⟩ := z9
  have f2_p := (k2 n (by omega)).trans ct1
  have g2 := W2.2.2.1
  refine og_aload_n (pc := 1036) dL_acts_1036 rfl ?_
  refine og_iconst (pc := 1037) (v := 0) dL_acts_1037 (by decide) ?_
  refine og_ialdN (pc := 1038) (j := 0) rfl dL_acts_1038 (by repeat (first | exact og_set_eq _ _ _ | assumption | refine (og_set_ne _ _ (by first | assumption | omega)).trans ?_)) (by omega) (by omega) (by first | decide | assumption | omega) ?_
  rw [hcp.2.1]
  refine og_callS (pc := 1039) (As := [.ref (n + 1), .int (nI (d_o D))]) (rest := []) (c_L_isIn E d _ (n + 1) (d_o D) h2 _ ct2 (by omega) ho) Y_L_isIn S_L_isIn K_L_27 dL_acts_1039 rfl rfl (Nat.le_of_ble_eq_true rfl) (by omega) (by omega) (by omega) (fun _ _ _ z => z) (fun v9 n9 h9 z9 => ?_)
  obtain ⟨e8, e9, z9⟩ := z9
  rw [e8, e9]
  rw [y_al ho rb] at z9
  rcases z9 with ⟨rfl, inb⟩ | ⟨rfl, inb⟩
  rotate_left
  · refine og_if_eq (pc := 1042) (tgt := 1057) dL_acts_1042 (by decide) (fun _ => ?_) (fun q => absurd rfl q)
    exact at1057 _ _ _ _ W2 (by omega) (by omega) (fun x => inb x.2.1)
  refine og_if_eq (pc := 1042) (tgt := 1057) dL_acts_1042 (by decide) (fun q => absurd q (by decide)) (fun _ => ?_)
  refine og_aload_n (pc := 1045) dL_acts_1045 rfl ?_
  refine og_iload (pc := 1046) dL_acts_1046 rfl ?_
  refine og_callS (pc := 1048) (As := [.ref 103, .int (nI b)]) (rest := []) (l_row (E := E) (d := d) W2 b8) Y_L_row S_L_row K_L_116 dL_acts_1048 rfl rfl (Nat.le_of_ble_eq_true rfl) (by omega) (by omega) (by omega) (fun _ _ _ z => z) (fun v9 n3 h3 z9 => ?_)
  obtain ⟨rfl, rfl, W3, k3, ct3⟩ := z9
  have f3_p := (k3 n (by omega)).trans f2_p
  have f3_q := (k3 (n + 1) (by omega)).trans ct2
  refine og_callS (pc := 1051) (As := [.ref (n + 1 + 1)]) (rest := []) (c_L_isNought E d _ (n + 1 + 1) h3 _ ct3 (by omega)) Y_L_isNought S_L_isNought K_L_35 dL_acts_1051 rfl rfl (Nat.le_of_ble_eq_true rfl) (by omega) (by omega) (by omega) (fun _ _ _ z => z) (fun v9 n9 h9 z9 => ?_)
  obtain ⟨e8, e9, z9⟩ := z9
  rw [e8, e9]
  rw [show q_zr (y_row R b) ↔ q_zr (d_R D b) from ⟨fun z j hj => by rw [← rb j hj]; exact z j hj, fun z j hj => by rw [rb j hj]; exact z j hj⟩] at z9
  rcases z9 with ⟨rfl, nz⟩ | ⟨rfl, nz⟩
  · refine og_if_eq (pc := 1054) (tgt := 1082) dL_acts_1054 (by decide) (fun q => absurd q (by decide)) (fun _ => ?_)
    exact at1057 _ _ _ _ W3 (by omega) (by omega) (fun x => x.2.2 nz)
  refine og_if_eq (pc := 1054) (tgt := 1082) dL_acts_1054 (by decide) (fun _ => ?_) (fun q => absurd rfl q)
  have dv : q_div D a b := ⟨ina, inb, nz⟩
  obtain ⟨ka, kb, kN, zq, zr⟩ := y_dvd hcp ho a8 b8 dv
  refine og_aload_n (pc := 1082) dL_acts_1082 rfl ?_
  refine og_aload_n (pc := 1083) dL_acts_1083 rfl ?_
  refine og_iload (pc := 1084) dL_acts_1084 rfl ?_
  refine og_callS (pc := 1086) (As := [.ref 103, .int (nI a)]) (rest := [.ref 101]) (l_row (E := E) (d := d) W3 a8) Y_L_row S_L_row K_L_116 dL_acts_1086 rfl rfl (Nat.le_of_ble_eq_true rfl) (by omega) (by omega) (by omega) (fun _ _ _ z => z) (fun v9 n4 h4 z9 => ?_)
  obtain ⟨rfl, rfl, W4, k4, ct4⟩ := z9
  have f4_p := (k4 n (by omega)).trans f3_p
  have f4_q := (k4 (n + 1) (by omega)).trans f3_q
  have f4_q2 := (k4 (n + 1 + 1) (by omega)).trans ct3
  refine og_aload_n (pc := 1089) dL_acts_1089 rfl ?_
  refine og_iload (pc := 1090) dL_acts_1090 rfl ?_
  refine og_callS (pc := 1092) (As := [.ref 103, .int (nI b)]) (rest := [.ref (n + 1 + 1 + 1), .ref 101]) (l_row (E := E) (d := d) W4 b8) Y_L_row S_L_row K_L_116 dL_acts_1092 rfl rfl (Nat.le_of_ble_eq_true rfl) (by omega) (by omega) (by omega) (fun _ _ _ z => z) (fun v9 n5 h5 z9 => ?_)
  obtain ⟨rfl, rfl, W5, k5, ct5⟩ := z9
  have f5_p := (k5 n (by omega)).trans f4_p
  have f5_q := (k5 (n + 1) (by omega)).trans f4_q
  have f5_q2 := (k5 (n + 1 + 1) (by omega)).trans f4_q2
  have f5_p3 := (k5 (n + 1 + 1 + 1) (by omega)).trans ct4
  have g3 := W5.2.2.1
  refine og_aload_n (pc := 1095) dL_acts_1095 rfl ?_
  refine og_iconst (pc := 1096) (v := 0) dL_acts_1096 (by decide) ?_
  refine og_ialdN (pc := 1097) (j := 0) rfl dL_acts_1097 (by repeat (first | exact og_set_eq _ _ _ | assumption | refine (og_set_ne _ _ (by first | assumption | omega)).trans ?_)) (by omega) (by omega) (by first | decide | assumption | omega) ?_
  rw [hcp.2.1]
  refine og_callS (pc := 1098) (As := [.ref 101, .ref (n + 1 + 1 + 1), .ref (n + 1 + 1 + 1 + 1), .int (nI (d_o D))]) (rest := []) (c_L_quotient E d _ 101 (n + 1 + 1 + 1) (n + 1 + 1 + 1 + 1) (d_o D) h5 _ _ W5.2.1 f5_p3 ct5 (by omega) (by omega) (by omega) (by omega) (by omega) (by omega) ho ka kb kN) Y_L_quotient S_L_quotient K_L_160 dL_acts_1098 rfl rfl (Nat.le_of_ble_eq_true rfl) (by omega) (by omega) (by omega) (fun _ _ _ z => z) (fun v9 n6 h6 z9 => ?_)
  obtain ⟨rq, rfl, q1, q2, q3, q4⟩ := z9
  have q5 := Nat.le_of_lt_succ (m := rq) (n := n6) (Nat.lt_succ_of_lt q2)
  have q6 := Nat.succ_le_of_lt (n := rq) (m := n6) q2
  have W26 := W5.ext (n1 := n6) (h1 := h6) (by omega) q3
  clear at1057
  refine og_astore_11 (pc := 1101) dL_acts_1101 rfl ?_
  refine og_aload_n (pc := 1103) dL_acts_1103 rfl ?_
  refine og_aload_n (pc := 1104) dL_acts_1104 rfl ?_
  refine og_iload (pc := 1105) dL_acts_1105 rfl ?_
  refine og_callS (pc := 1107) (As := [.ref 103, .int (nI a)]) (rest := [.ref 101]) (l_row (E := E) (d := d) W26 a8) Y_L_row S_L_row K_L_116 dL_acts_1107 rfl rfl (Nat.le_of_ble_eq_true rfl) (by omega) (by omega) (by omega) (fun _ _ _ z => z) (fun v9 n31 h31 z9 => ?_)
  obtain ⟨rfl, rfl, W31, k31, ct31⟩ := z9
  have f31_by := (k31 rq (by omega)).trans q4
  refine og_aload_n (pc := 1110) dL_acts_1110 rfl ?_
  refine og_iload (pc := 1111) dL_acts_1111 rfl ?_
  refine og_callS (pc := 1113) (As := [.ref 103, .int (nI b)]) (rest := [.ref n6, .ref 101]) (l_row (E := E) (d := d) W31 b8) Y_L_row S_L_row K_L_116 dL_acts_1113 rfl rfl (Nat.le_of_ble_eq_true rfl) (by omega) (by omega) (by omega) (fun _ _ _ z => z) (fun v9 n32 h32 z9 => ?_)
  obtain ⟨rfl, rfl, W32, k32, ct32⟩ := z9
  have f32_by := (k32 rq (by omega)).trans f31_by
  have f32_p4 := (k32 n6 (by omega)).trans ct31
  refine og_aload (pc := 1116) dL_acts_1116 rfl ?_
  refine og_callS (pc := 1118) (As := [.ref 101, .ref n6, .ref (n6 + 1), .ref rq]) (rest := []) (c_L_rest E d _ 101 n6 (n6 + 1) rq h32 _ _ _ W32.2.1 f32_p4 ct32 f32_by (by omega) (by omega) (by omega) (by omega) (by omega) (by omega) (by omega) (by omega)) Y_L_rest S_L_rest K_L_164 dL_acts_1118 rfl rfl (Nat.le_of_ble_eq_true rfl) (by omega) (by omega) (by omega) (fun _ _ _ z => z) (fun v9 n40 h40 z9 => ?_)
  obtain ⟨rfl, rfl, e40⟩ := z9
  have k40 : ∀ x, x < n6 + 1 + 1 → h40 x = h32 x := fun x hx => by rw [e40]; exact og_set_ne _ _ (by omega)
  have l40 : h40 (n6 + 1 + 1) = some (rowL (m_rem (y_row R a) (y_row R b) (d_o D))) := by rw [e40]; exact og_set_eq _ _ _
  have b40 := (k40 rq (by omega)).trans f32_by
  have W40 := W32.ext (n1 := n6 + 1 + 1 + 1) (h1 := h40) (Nat.le_succ _) k40
  clear e40
  generalize hLL : m_rem (y_row R a) (y_row R b) (d_o D) = LL at l40 zr
  generalize hBB : m_quo (y_row R a) (y_row R b) (d_o D) = BB at *
  refine og_astore_12 (pc := 1121) dL_acts_1121 rfl ?_
  refine og_bipush (pc := 1123) (v := 64) dL_acts_1123 (by decide) ?_
  refine og_newa (pc := 1125) (k := 1) (N := 64) (x := (64, .inl (fun _ => 0))) (atype := .int) AC_int rfl (by decide) dL_acts_1125 (fun _ => rfl) (by decide) (by decide) (by decide) (by omega) (by omega) ?_
  have k41 : ∀ x, x < n6 + 1 + 1 + 1 → og_set h40 (n6 + 1 + 1 + 1) (rowI 64 (fun _ => 0)) x = h40 x := fun x hx => og_set_ne _ _ (by omega)
  have s41 : og_set h40 (n6 + 1 + 1 + 1) (rowI 64 (fun _ => 0)) (n6 + 1 + 1 + 1) = some (rowI 64 (fun _ => 0)) := og_set_eq _ _ _
  have l41 := (k41 (n6 + 1 + 1) (by omega)).trans l40
  have b41 := (k41 rq (by omega)).trans b40
  have W41 := W40.ext (n1 := n6 + 1 + 1 + 1 + 1) (Nat.le_succ _) k41
  show og_G E RL cL_acts (d + 7) 300 2500 15 X (y_Qa E L xs X) _ _ (n6 + 1 + 1 + 1 + 1) (og_set h40 (n6 + 1 + 1 + 1) (rowI 64 (fun _ => 0))) _ _ _
  generalize og_set h40 (n6 + 1 + 1 + 1) (rowI 64 (fun _ => 0)) = h41 at k41 s41 l41 b41 W41 ⊢
  obtain ⟨zq1, zq2⟩ := zfit 0 (by omega) 1 (by decide) zq
  obtain ⟨zr1, zr2⟩ := zfit 0 (by omega) 1 (by decide) zr
  have at1153 : ∀ (h2 : og_H), y_wm L xs (n6 + 1 + 1 + 1 + 1) h2 D R g → ¬ (q_hall 1 BB ∧ q_hall 1 LL) → ∀ cells slots, cells ≤ 290 → slots ≤ 2400 → og_G E RL cL_acts (d + 7) 300 2500 15 X (y_Qa E L xs X) cells slots (n6 + 1 + 1 + 1 + 1) h2 1153 (y_la x v w a b r [some (.int (nI q)), some (.ref rq), some (.ref (n6 + 1 + 1)), some (.ref (n6 + 1 + 1 + 1)), none]) [] := by
    intro h2 W2 nofit cells slots hc hs
    refine og_aload_n (pc := 1153) dL_acts_1153 rfl ?_
    refine og_iload (pc := 1154) dL_acts_1154 rfl ?_
    refine og_iload (pc := 1156) dL_acts_1156 rfl ?_
    refine og_iload (pc := 1158) dL_acts_1158 rfl ?_
    refine og_iload (pc := 1160) dL_acts_1160 rfl ?_
    refine og_callSH (pc := 1162) (As := [.ref 3, .int (nI a), .int (nI b), .int (nI q), .int (nI r)]) (rest := []) (l_divides (E := E) (d := d) W2.1 a8 b8 q8 r8 (y_pos hcp)) YH_L_divides K_L_157 dL_acts_1162 rfl rfl (Nat.le_of_ble_eq_true rfl) (by omega) (by omega) (by omega) (fun v9 n22 h22 z9 => ?_)
    rcases z9 with ⟨_, _, x1, x2, _⟩ | ⟨x, _⟩ | ⟨_, x, _⟩ | ⟨_, _, _, rfl, w22⟩
    · exact absurd ⟨zq1.mp x1, zr1.mp x2⟩ nofit
    · exact absurd x nqr
    · exact absurd dv x
    have W22 := W2.call w22
    refine og_ldc2 (pc := 1165) LC_L_81 dL_acts_1165 ?_
    refine og_lcmp (pc := 1168) dL_acts_1168 ?_
    refine og_if_ne (pc := 1169) (tgt := 1176) dL_acts_1169 (by decide) (fun q => absurd ((og_cmp0 _ _).mpr rfl) q) (fun _ => ?_)
    refine og_iconst (pc := 1172) (v := 1) dL_acts_1172 (by decide) ?_
    refine og_goto (pc := 1173) (tgt := 1177) dL_acts_1173 (by decide) ?_
    exact og_zret (pc := 1177) hr rfl dL_acts_1177 (by omega) (by omega) ⟨rfl, _, _, _, W22.l hcp⟩
  refine og_astore_13 (pc := 1127) dL_acts_1127 rfl ?_
  refine og_aload (pc := 1129) dL_acts_1129 rfl ?_
  refine og_iconst (pc := 1131) (v := 0) dL_acts_1131 (by decide) ?_
  refine og_aload (pc := 1132) dL_acts_1132 rfl ?_
  refine og_lconst (pc := 1134) (v := 1) dL_acts_1134 (by decide) ?_
  refine og_callS (pc := 1135) (As := [.ref (n6 + 1 + 1 + 1), .int 0, .ref rq, .long 1]) (rest := []) (c_L_putsS E d _ (n6 + 1 + 1 + 1) rq h41 BB b41 (by omega) (by omega) (by omega) s41) Y_L_puts S_L_puts K_L_135 dL_acts_1135 rfl rfl (Nat.le_of_ble_eq_true rfl) (by omega) (by omega) (by omega) (fun _ _ _ z => z) (fun v9 n42 h42 z9 => ?_)
  obtain ⟨e8, k42, z9⟩ := z9
  rw [e8]
  rcases z9 with ⟨rfl, okq, S1, s42⟩ | ⟨rfl, okq, e42⟩
  rotate_left
  · refine og_if_eq (pc := 1138) (tgt := 1153) dL_acts_1138 (by decide) (fun _ => ?_) (fun q => absurd rfl q)
    rw [e42]
    exact at1153 h41 W41 (fun x => okq x.1) _ _ (by omega) (by omega)
  refine og_if_eq (pc := 1138) (tgt := 1153) dL_acts_1138 (by decide) (fun q => absurd q (by decide)) (fun _ => ?_)
  have W42 := W40.ext (n1 := n6 + 1 + 1 + 1 + 1) (h1 := h42) (Nat.le_succ _) (fun x hx => (k42 x (by omega)).trans (k41 x hx))
  have l42 := (k42 _ (by omega)).trans l41
  have b42 := (k42 rq (by omega)).trans b41
  refine og_aload (pc := 1141) dL_acts_1141 rfl ?_
  refine og_iconst (pc := 1143) (v := 0) dL_acts_1143 (by decide) ?_
  refine og_aload (pc := 1144) dL_acts_1144 rfl ?_
  refine og_lconst (pc := 1146) (v := 1) dL_acts_1146 (by decide) ?_
  refine og_callS (pc := 1147) (As := [.ref (n6 + 1 + 1 + 1), .int 0, .ref (n6 + 1 + 1), .long 1]) (rest := []) (c_L_putsS E d _ (n6 + 1 + 1 + 1) (n6 + 1 + 1) h42 LL l42 (by omega) (by omega) (by omega) s42) Y_L_puts S_L_puts K_L_135 dL_acts_1147 rfl rfl (Nat.le_of_ble_eq_true rfl) (by omega) (by omega) (by omega) (fun _ _ _ z => z) (fun v9 n43 h43 z9 => ?_)
  obtain ⟨e8, k43, z9⟩ := z9
  rw [e8]
  rcases z9 with ⟨rfl, okr, S2, _⟩ | ⟨rfl, okr, e43⟩
  rotate_left
  · refine og_if_ne (pc := 1150) (tgt := 1178) dL_acts_1150 (by decide) (fun q => absurd rfl q) (fun _ => ?_)
    rw [e43]
    exact at1153 h42 W42 (fun x => okr x.2) _ _ (by omega) (by omega)
  refine og_if_ne (pc := 1150) (tgt := 1178) dL_acts_1150 (by decide) (fun _ => ?_) (fun q => absurd q (by decide))
  have W43 := W40.ext (n1 := n6 + 1 + 1 + 1 + 1) (h1 := h43) (Nat.le_succ _) (fun x hx => (k43 x (by omega)).trans ((k42 x (by omega)).trans (k41 x hx)))
  have l43 := (k43 _ (by omega)).trans l42
  have b43 := (k43 rq (by omega)).trans b42
  refine og_aload_n (pc := 1178) dL_acts_1178 rfl ?_
  refine og_iload (pc := 1179) dL_acts_1179 rfl ?_
  refine og_aload (pc := 1181) dL_acts_1181 rfl ?_
  refine og_lconst (pc := 1183) (v := 1) dL_acts_1183 (by decide) ?_
  refine og_callS (pc := 1184) (As := [.ref 103, .int (nI q), .ref rq, .long 1]) (rest := []) (l_puts (E := E) (d := d) W43 q8 b43 (by omega) (by decide)) Y_L_puts S_L_puts K_L_135 dL_acts_1184 rfl rfl (Nat.le_of_ble_eq_true rfl) (by omega) (by omega) (by omega) (fun _ _ _ z => z) (fun v9 n44 h44 z9 => ?_)
  obtain ⟨e8, k44, z9⟩ := z9
  rw [e8]
  rcases z9 with ⟨rfl, _, W44⟩ | ⟨_, z, _⟩
  rotate_left
  · exact absurd okq z
  refine og_if_eq (pc := 1187) (tgt := 1206) dL_acts_1187 (by decide) (fun q => absurd q (by decide)) (fun _ => ?_)
  have l44 := (k44 _ (by omega)).trans l43
  refine og_aload_n (pc := 1190) dL_acts_1190 rfl ?_
  refine og_iload (pc := 1191) dL_acts_1191 rfl ?_
  refine og_aload (pc := 1193) dL_acts_1193 rfl ?_
  refine og_lconst (pc := 1195) (v := 1) dL_acts_1195 (by decide) ?_
  refine og_callS (pc := 1196) (As := [.ref 103, .int (nI r), .ref (n6 + 1 + 1), .long 1]) (rest := []) (l_puts (E := E) (d := d) W44 r8 l44 (by omega) (by decide)) Y_L_puts S_L_puts K_L_135 dL_acts_1196 rfl rfl (Nat.le_of_ble_eq_true rfl) (by omega) (by omega) (by omega) (fun _ _ _ z => z) (fun v9 n45 h45 z9 => ?_)
  obtain ⟨e8, k45, z9⟩ := z9
  rw [e8]
  rcases z9 with ⟨rfl, _, W45⟩ | ⟨_, z, _⟩
  rotate_left
  · exact absurd okr z
  refine og_if_eq (pc := 1199) (tgt := 1206) dL_acts_1199 (by decide) (fun q => absurd q (by decide)) (fun _ => ?_)
  have l45 := (k45 _ (by omega)).trans l44
  have f45 := W45.2.2.1
  refine og_iconst (pc := 1202) (v := 1) dL_acts_1202 (by decide) ?_
  refine og_goto (pc := 1203) (tgt := 1207) dL_acts_1203 (by decide) ?_
  refine og_istore_14 (pc := 1207) dL_acts_1207 rfl ?_
  refine og_aload_n (pc := 1209) dL_acts_1209 rfl ?_
  refine og_iconst (pc := 1210) (v := 2) dL_acts_1210 (by decide) ?_
  refine og_dup2 (pc := 1211) dL_acts_1211 rfl rfl ?_
  refine og_ialdN (pc := 1212) (j := 2) rfl dL_acts_1212 (by repeat (first | exact og_set_eq _ _ _ | assumption | refine (og_set_ne _ _ (by first | assumption | omega)).trans ?_)) (by omega) (by omega) (by first | decide | assumption | omega) ?_
  refine og_iconst (pc := 1213) (v := 1) dL_acts_1213 (by decide) ?_
  refine og_iadd (pc := 1214) dL_acts_1214 ?_
  refine og_iastN (pc := 1215) (j := 2) rfl dL_acts_1215 (by repeat (first | exact og_set_eq _ _ _ | assumption | refine (og_set_ne _ _ (by first | assumption | omega)).trans ?_)) (by omega) (by omega) (by first | decide | assumption | omega) ?_
  have W46 := W45.wg (upd g 2 (g 2 + 1))
  have l46 := (og_set_ne h45 (a := 102) (rowI 3 (upd g 2 (g 2 + 1))) (show _ ≠ 102 by omega)).trans l45
  generalize og_set h45 102 (rowI 3 (upd g 2 (g 2 + 1))) = h46 at W46 l46 ⊢
  refine og_iload (pc := 1216) dL_acts_1216 rfl ?_
  refine og_if_eq (pc := 1218) (tgt := 1246) dL_acts_1218 (by decide) (fun q => absurd q (by decide)) (fun _ => ?_)
  refine og_aload_n (pc := 1221) dL_acts_1221 rfl ?_
  refine og_iload (pc := 1222) dL_acts_1222 rfl ?_
  refine og_iload (pc := 1224) dL_acts_1224 rfl ?_
  refine og_iload (pc := 1226) dL_acts_1226 rfl ?_
  refine og_iload (pc := 1228) dL_acts_1228 rfl ?_
  refine og_callSH (pc := 1230) (As := [.ref 3, .int (nI a), .int (nI b), .int (nI q), .int (nI r)]) (rest := []) (l_divides (E := E) (d := d) W46.1 a8 b8 q8 r8 (y_pos hcp)) YH_L_divides K_L_157 dL_acts_1230 rfl rfl (Nat.le_of_ble_eq_true rfl) (by omega) (by omega) (by omega) (fun v9 n47 h47 z9 => ?_)
  rcases z9 with ⟨_, _, fq, fr, rfl, w47⟩ | ⟨x, _⟩ | ⟨_, x, _⟩ | ⟨_, _, x, _⟩
  rotate_left
  · exact absurd x nqr
  · exact absurd dv x
  · exact absurd ⟨zq1.mpr okq, zr1.mpr okr⟩ x
  have W47 := W46.call w47
  have l47 := (w47.fr _ (by omega) (by omega)).trans l46
  refine og_aload (pc := 1233) dL_acts_1233 rfl ?_
  refine og_callS (pc := 1235) (As := [.ref (n6 + 1 + 1)]) (rest := [.long (q_inner (q_fv 0 (d_rem D a b)) (q_fv 0 (d_rem D a b)) 8)]) (c_L_square E d _ (n6 + 1 + 1) h47 LL l47 (by omega)) Y_L_square S_L_square K_L_43 dL_acts_1235 rfl rfl (Nat.le_of_ble_eq_true rfl) (by omega) (by omega) (by omega) (fun _ _ _ z => z) (fun v9 n9 h9 z9 => ?_)
  obtain ⟨rfl, e8, e9⟩ := z9
  have z3 : zE (q_fv 0 (d_rem D a b)) (q_dv 1 LL) := zr2 fr
  rw [e8, e9, q_inn 8 z3, y_dv1]
  refine og_lcmp (pc := 1238) dL_acts_1238 ?_
  refine og_if_ne (pc := 1239) (tgt := 1246) dL_acts_1239 (by decide) (fun q => absurd ((og_cmp0 _ _).mpr rfl) q) (fun _ => ?_)
  refine og_iconst (pc := 1242) (v := 1) dL_acts_1242 (by decide) ?_
  refine og_goto (pc := 1243) (tgt := 1247) dL_acts_1243 (by decide) ?_
  have cp1 := y_cp.fit (D1 := d_reg (d_wSt (q_save D) ((d_st D).1, (d_st D).2.1, (d_st D).2.2.1, (d_st D).2.2.2 + 1)) q (q_fv 0 (d_quo D a b))) (g1 := upd g 2 (g 2 + 1)) (r := q) (t := 0) (p := 1) hcp (by omega) (by decide) q8 zq fq rfl ((if_neg (by decide)).trans hcp.2.1) ((if_neg (by decide)).trans hcp.2.2.1) ((if_pos rfl).trans (by rw [hcp.2.2.2]; rfl))
  have cp2 := y_cp.fit (D1 := d_reg (d_reg (d_wSt (q_save D) ((d_st D).1, (d_st D).2.1, (d_st D).2.2.1, (d_st D).2.2.2 + 1)) q (q_fv 0 (d_quo D a b))) r (q_fv 0 (d_rem D a b))) (g1 := upd g 2 (g 2 + 1)) (r := r) (t := 0) (p := 1) cp1 (by omega) (by decide) r8 zr fr rfl ((if_neg (by decide)).trans hcp.2.1) ((if_neg (by decide)).trans hcp.2.2.1) ((if_pos rfl).trans (by rw [hcp.2.2.2]; rfl))
  exact og_zret (pc := 1247) hr rfl dL_acts_1247 (by omega) (by omega) ⟨rfl, _, _, _, W47.l cp2⟩
