/-! ===== the law, from its start to its end ===== -/
def y_r0 : Nat → (Nat → Int32)
  | 0 => fun _ => 0
  | k + 1 => upd (y_r0 k) (9 * k) 2
theorem y_cp0 : y_cp d_0 (y_r0 8) (upd (fun _ => 0) 0 1) := by
  refine ⟨?_, rfl, rfl, rfl⟩
  decide +kernel
theorem y_not6 : ¬ q_inN 6 6 := fun ⟨k, hk, e⟩ => by
  have := (nI_eq (a := 6) (by omega) (by omega)).mp e
  omega
theorem y_notm6 : ¬ q_inN 6 (-1) := fun ⟨k, hk, e⟩ => y_nm1 (by omega) e.symm
section LW
variable {E : og_E} {X : og_X} {Q : State → Prop} {d mc ms L : Nat} {xs : Nat → Int32}
/-- what is refused, and the end -/
theorem law_tail {cells slots n : Nat} {h : og_H} {D : q_D} {R g : Nat → Int32} {a6 a7 a8 : Option Value} (hd : 8 ≤ d) (W : y_wl L xs n h D R g) (hc : cells + 20 ≤ mc) (hs : slots + 400 ≤ ms)
    (kend : ∀ (cells slots n : Nat) (h : og_H) (lv : List (Option Value)), cells ≤ mc → slots ≤ ms → og_G E RL cL_law d mc ms 9 X Q cells slots n h 260 lv [.int 1]) :
    og_G E RL cL_law d mc ms 9 X Q cells slots n h 156 [some (.ref 0), some (.ref 3), some (.ref 101), some (.ref 102), some (.ref 103), some (.int 1), a6, a7, a8] [] := by
  refine og_iload (pc := 156) dL_law_156 rfl ?_
  refine og_if_eq (pc := 158) (tgt := 259) dL_law_158 (by decide) (fun q => absurd q (by decide)) (fun _ => ?_)
  refine og_aload_n (pc := 161) dL_law_161 rfl ?_
  refine og_bipush (pc := 162) (v := 6) dL_law_162 (by decide) ?_
  refine og_callSH (pc := 164) (As := [.ref 3, .int 6]) (rest := []) (l_value_no (E := E) (d := 0) W.1 y_not6) YH_L_valueOf K_L_209 dL_law_164 rfl rfl (Nat.le_of_ble_eq_true rfl) (by omega) (by omega) (by omega) (fun v9 n1 h1 z9 => ?_)
  obtain ⟨rfl, w1⟩ := z9
  have W1 := W.call w1 rfl
  refine og_ldc (pc := 167) IC_L_58 dL_law_167 ?_
  refine og_icmp_ne (pc := 169) (tgt := 259) dL_law_169 (by decide) (fun q => absurd rfl q) (fun _ => ?_)
  refine og_aload_n (pc := 172) dL_law_172 rfl ?_
  refine og_iconst (pc := 173) (v := (-1)) dL_law_173 (by decide) ?_
  refine og_callSH (pc := 174) (As := [.ref 3, .int (-1)]) (rest := []) (l_value_no (E := E) (d := 0) W1.1 y_notm6) YH_L_valueOf K_L_209 dL_law_174 rfl rfl (Nat.le_of_ble_eq_true rfl) (by omega) (by omega) (by omega) (fun v9 n2 h2 z9 => ?_)
  obtain ⟨rfl, w2⟩ := z9
  have W2 := W1.call w2 rfl
  refine og_ldc (pc := 177) IC_L_58 dL_law_177 ?_
  refine og_icmp_ne (pc := 179) (tgt := 259) dL_law_179 (by decide) (fun q => absurd rfl q) (fun _ => ?_)
  refine og_aload_n (pc := 182) dL_law_182 rfl ?_
  refine og_bipush (pc := 183) (v := 8) dL_law_183 (by decide) ?_
  refine og_callSH (pc := 185) (As := [.ref 3, .int 8]) (rest := []) (l_norm_no (E := E) (d := 0) W2.1 y_not8) YH_L_normOf K_L_194 dL_law_185 rfl rfl (Nat.le_of_ble_eq_true rfl) (by omega) (by omega) (by omega) (fun v9 n3 h3 z9 => ?_)
  obtain ⟨rfl, w3⟩ := z9
  have W3 := W2.call w3 rfl
  refine og_ldc2 (pc := 188) LC_L_63 dL_law_188 ?_
  refine og_lcmp (pc := 191) dL_law_191 ?_
  refine og_if_ne (pc := 192) (tgt := 259) dL_law_192 (by decide) (fun q => absurd ((og_cmp0 _ _).mpr rfl) q) (fun _ => ?_)
  refine og_aload_n (pc := 195) dL_law_195 rfl ?_
  refine og_bipush (pc := 196) (v := 8) dL_law_196 (by decide) ?_
  refine og_callSH (pc := 198) (As := [.ref 3, .int 8]) (rest := []) (l_unit_no (E := E) (d := 0) W3.1 y_not8) YH_L_unitOf K_L_200 dL_law_198 rfl rfl (Nat.le_of_ble_eq_true rfl) (by omega) (by omega) (by omega) (fun v9 n4 h4 z9 => ?_)
  obtain ⟨rfl, w4⟩ := z9
  have W4 := W3.call w4 rfl
  refine og_ldc (pc := 201) IC_L_55 dL_law_201 ?_
  refine og_icmp_ne (pc := 203) (tgt := 259) dL_law_203 (by decide) (fun q => absurd rfl q) (fun _ => ?_)
  refine og_aload_n (pc := 206) dL_law_206 rfl ?_
  refine og_iconst (pc := 207) (v := (-1)) dL_law_207 (by decide) ?_
  refine og_callSH (pc := 208) (As := [.ref 3, .int (-1)]) (rest := []) (l_orders_no (E := E) (d := 0) W4.1 y_notm) YH_L_ordersOf K_L_198 dL_law_208 rfl rfl (Nat.le_of_ble_eq_true rfl) (by omega) (by omega) (by omega) (fun v9 n5 h5 z9 => ?_)
  obtain ⟨rfl, w5⟩ := z9
  have W5 := W4.call w5 rfl
  refine og_ldc (pc := 211) IC_L_55 dL_law_211 ?_
  refine og_icmp_ne (pc := 213) (tgt := 259) dL_law_213 (by decide) (fun q => absurd rfl q) (fun _ => ?_)
  refine og_aload_n (pc := 216) dL_law_216 rfl ?_
  refine og_iconst (pc := 217) (v := 0) dL_law_217 (by decide) ?_
  refine og_bipush (pc := 218) (v := 8) dL_law_218 (by decide) ?_
  refine og_callSH (pc := 220) (As := [.ref 3, .int 0, .int 8]) (rest := []) (l_coord_no (E := E) (d := 0) W5.1 (fun q => y_not8 q.2)) YH_L_coordinateOf K_L_191 dL_law_220 rfl rfl (Nat.le_of_ble_eq_true rfl) (by omega) (by omega) (by omega) (fun v9 n6 h6 z9 => ?_)
  obtain ⟨rfl, w6⟩ := z9
  have W6 := W5.call w6 rfl
  refine og_ldc (pc := 223) IC_L_55 dL_law_223 ?_
  refine og_icmp_ne (pc := 225) (tgt := 259) dL_law_225 (by decide) (fun q => absurd rfl q) (fun _ => ?_)
  refine og_aload_n (pc := 228) dL_law_228 rfl ?_
  refine og_iconst (pc := 229) (v := 0) dL_law_229 (by decide) ?_
  refine og_iconst (pc := 230) (v := 0) dL_law_230 (by decide) ?_
  refine og_bipush (pc := 231) (v := 8) dL_law_231 (by decide) ?_
  refine og_callSH (pc := 233) (As := [.ref 3, .int 0, .int 0, .int 8]) (rest := []) (l_left_no (E := E) (d := 0) W6.1 (fun q => y_not8 q.2.2)) YH_L_leftOf K_L_202 dL_law_233 rfl rfl (Nat.le_of_ble_eq_true rfl) (by omega) (by omega) (by omega) (fun v9 n7 h7 z9 => ?_)
  obtain ⟨rfl, w7⟩ := z9
  have W7 := W6.call w7 rfl
  refine og_ldc (pc := 236) IC_L_55 dL_law_236 ?_
  refine og_icmp_ne (pc := 238) (tgt := 259) dL_law_238 (by decide) (fun q => absurd rfl q) (fun _ => ?_)
  refine og_aload_n (pc := 241) dL_law_241 rfl ?_
  refine og_bipush (pc := 242) (v := 8) dL_law_242 (by decide) ?_
  refine og_iconst (pc := 244) (v := 0) dL_law_244 (by decide) ?_
  refine og_callSH (pc := 245) (As := [.ref 3, .int 8, .int 0]) (rest := []) (l_dot_no (E := E) (d := 0) W7.1 (fun q => y_not8 q.1)) YH_L_dotOf K_L_205 dL_law_245 rfl rfl (Nat.le_of_ble_eq_true rfl) (by omega) (by omega) (by omega) (fun v9 n8 h8 z9 => ?_)
  obtain ⟨rfl, w8⟩ := z9
  have W8 := W7.call w8 rfl
  refine og_ldc2 (pc := 248) LC_L_63 dL_law_248 ?_
  refine og_lcmp (pc := 251) dL_law_251 ?_
  refine og_if_ne (pc := 252) (tgt := 259) dL_law_252 (by decide) (fun q => absurd ((og_cmp0 _ _).mpr rfl) q) (fun _ => ?_)
  refine og_iconst (pc := 255) (v := 1) dL_law_255 (by decide) ?_
  refine og_goto (pc := 256) (tgt := 260) dL_law_256 (by decide) ?_
  exact kend _ _ _ _ _ (by omega) (by omega)
set_option maxRecDepth 200000 in
/-- the turns -/
theorem law_loop (hd : 8 ≤ d) (hL : L ≤ 260) {T : Nat} (hT : T < 46)
    (kend : ∀ (cells slots n : Nat) (h : og_H) (lv : List (Option Value)), cells ≤ mc → slots ≤ ms → og_G E RL cL_law d mc ms 9 X Q cells slots n h 260 lv [.int 1]) :
    ∀ m k, k + m = T → ∀ (n : Nat) (h : og_H) (D : q_D) (R g : Nat → Int32) (cells slots : Nat) (a8 : Option Value), og_c1 a8 = true → y_wl L xs n h D R g → cells + 20 + 2468 * m ≤ mc → slots + 400 + 21284 * m ≤ ms → og_G E RL cL_law d mc ms 9 X Q cells slots n h 81 [some (.ref 0), some (.ref 3), some (.ref 101), some (.ref 102), some (.ref 103), some (.int 1), some (.int (nI T)), some (.int (nI k)), a8] [] := by
  intro m
  induction m with
  | zero =>
    intro k hk n h D R g cells slots a8 _ W hc hs
    refine og_iload (pc := 81) dL_law_81 rfl ?_
    refine og_iload (pc := 83) dL_law_83 rfl ?_
    refine og_geN (pc := 85) (tgt := 156) (i := k) (N := T) dL_law_85 (by decide) rfl rfl (by omega) (by omega) (fun c_85 => ?_) (fun c_85 => ?_)
    · exact law_tail hd W (by omega) (by omega) kend
    · omega
  | succ m ih =>
    intro k hk n h D R g cells slots a8 _ W hc hs
    have hc2 : cells + 20 + (2468 * m + 2468) ≤ mc := hc
    have hs2 : slots + 400 + (21284 * m + 21284) ≤ ms := hs
    clear hc hs
    generalize 2468 * m = A at hc2 ih
    generalize 21284 * m = B at hs2 ih
    have s0 := W.2.2.2.2.1
    refine og_iload (pc := 81) dL_law_81 rfl ?_
    refine og_iload (pc := 83) dL_law_83 rfl ?_
    refine og_geN (pc := 85) (tgt := 156) (i := k) (N := T) dL_law_85 (by decide) rfl rfl (by omega) (by omega) (fun c_85 => ?_) (fun c_85 => ?_)
    · omega
    refine og_iload (pc := 88) dL_law_88 rfl ?_
    refine og_if_eq (pc := 90) (tgt := 156) dL_law_90 (by decide) (fun q => absurd q (by decide)) (fun _ => ?_)
    refine og_aload_n (pc := 93) dL_law_93 rfl ?_
    refine og_iconst (pc := 94) (v := 1) dL_law_94 (by decide) ?_
    refine og_iload (pc := 95) dL_law_95 rfl ?_
    refine og_iadd (pc := 97) dL_law_97 ?_
    rw [show (1 : Int32) + nI k = nI (1 + k) from nI_add 1 k]
    refine og_callS (pc := 98) (As := [.ref 0, .int (nI (1 + k))]) (rest := []) (c_L_cell E 0 n (1 + k) L h xs s0 hL (by omega)) Y_L_cell S_L_cell K_L_221 dL_law_98 rfl rfl (Nat.le_of_ble_eq_true rfl) (by omega) (by omega) (by omega) (fun _ _ _ z => z) (fun v9 n9 h9 z9 => ?_)
    obtain ⟨e8, e9, y, rfl⟩ := z9
    rw [e8, e9]
    refine og_sipush (pc := 101) (v := 7919) dL_law_101 (by decide) ?_
    refine og_iload (pc := 104) dL_law_104 rfl ?_
    refine og_imul (pc := 106) dL_law_106 ?_
    refine og_ixor (pc := 107) dL_law_107 ?_
    refine og_istore_8 (pc := 108) dL_law_108 rfl ?_
    generalize y ^^^ (7919 * nI k) = z
    refine og_aload_n (pc := 110) dL_law_110 rfl ?_
    refine og_aload_n (pc := 111) dL_law_111 rfl ?_
    refine og_aload (pc := 112) dL_law_112 rfl ?_
    refine og_aload_n (pc := 114) dL_law_114 rfl ?_
    refine og_iload (pc := 115) dL_law_115 rfl ?_
    refine og_callS (pc := 117) (As := [.ref 3, .ref 102, .ref 103, .ref 101, .int z]) (rest := []) (c_L_acts E 0 n L xs h D R g z W) Y_L_acts S_L_acts K_L_225 dL_law_117 rfl rfl (Nat.le_of_ble_eq_true rfl) (by omega) (by omega) (by omega) (fun _ _ _ z => z) (fun v9 n1 h1 z9 => ?_)
    obtain ⟨rfl, D1, R1, g1, W1⟩ := z9
    refine og_if_eq (pc := 120) (tgt := 147) dL_law_120 (by decide) (fun q => absurd q (by decide)) (fun _ => ?_)
    refine og_aload_n (pc := 123) dL_law_123 rfl ?_
    refine og_aload_n (pc := 124) dL_law_124 rfl ?_
    refine og_aload (pc := 125) dL_law_125 rfl ?_
    refine og_aload_n (pc := 127) dL_law_127 rfl ?_
    refine og_iload (pc := 128) dL_law_128 rfl ?_
    refine og_iconst (pc := 130) (v := 4) dL_law_130 (by decide) ?_
    refine og_ishr (pc := 131) dL_law_131 ?_
    refine og_ldc (pc := 132) IC_L_228 dL_law_132 ?_
    refine og_callS (pc := 134) (As := [.int (z >>> (4 &&& 31)), .int 100000]) (rest := [.ref 101, .ref 103, .ref 102, .ref 3]) (c_L_low E 0 n1 100000 h1 _ (by decide) (by decide)) Y_L_low S_L_low K_L_105 dL_law_134 rfl rfl (Nat.le_of_ble_eq_true rfl) (by omega) (by omega) (by omega) (fun _ _ _ z => z) (fun v9 n9 h9 z9 => ?_)
    obtain ⟨e8, e9, y2, hy2, rfl⟩ := z9
    rw [e8, e9]
    refine og_callS (pc := 137) (As := [.ref 3, .ref 102, .ref 103, .ref 101, .int (nI y2)]) (rest := []) (c_L_isSo E 0 n1 y2 L xs h1 D1 R1 g1 W1 hy2) Y_L_isSo S_L_isSo K_L_217 dL_law_137 rfl rfl (Nat.le_of_ble_eq_true rfl) (by omega) (by omega) (by omega) (fun _ _ _ z => z) (fun v9 n2 h2 z9 => ?_)
    obtain ⟨rfl, D2, _, W2⟩ := z9
    refine og_if_eq (pc := 140) (tgt := 147) dL_law_140 (by decide) (fun q => absurd q (by decide)) (fun _ => ?_)
    refine og_iconst (pc := 143) (v := 1) dL_law_143 (by decide) ?_
    refine og_goto (pc := 144) (tgt := 148) dL_law_144 (by decide) ?_
    refine og_istore_5 (pc := 148) dL_law_148 rfl ?_
    refine og_iinc_7 (pc := 150) dL_law_150 (og_inc k) rfl ?_
    refine og_goto (pc := 153) (tgt := 81) dL_law_153 (by decide) ?_
    exact ih (k + 1) (by omega) n2 h2 D2 R1 g1 _ _ _ rfl W2 (by omega) (by omega)
set_option maxRecDepth 4000 in
theorem law_enter {h : og_H} (h0 : h 0 = some (rowI L xs)) (h1 : h 1 = some q_TR) (h2 : h 2 = some q_SE) (hL : L ≤ 260) (hd : 8 ≤ d) (hmc : 120000 ≤ mc) (hms : 1100000 ≤ ms)
    (kend : ∀ (cells slots n : Nat) (h : og_H) (lv : List (Option Value)), cells ≤ mc → slots ≤ ms → og_G E RL cL_law d mc ms 9 X Q cells slots n h 260 lv [.int 1]) :
    og_G E RL cL_law d mc ms 9 X Q 0 0 3 h 0 [some (.ref 0), none, none, none, none, none, none, none, none] [] := by
  refine og_new (pc := 0) (N := 10) N_L_48 dL_law_0 rfl rfl (by omega) (by omega) ?_
  refine og_dup (pc := 3) dL_law_3 rfl ?_
  refine og_callI (pc := 4) (As := []) (rest := [.ref 3]) (c_X7_init E 0 _ (og_set_eq _ _ _)) Y_X7_init I_X7_init rfl rfl K_L_212 dL_law_4 rfl rfl (Nat.le_of_ble_eq_true rfl) (by omega) (by omega) (by omega) (fun _ _ _ z => z) (fun v n1 g1 z => ?_)
  obtain ⟨rfl, hn, w⟩ := z
  subst hn
  refine og_astore_n_1 (pc := 7) dL_law_7 rfl ?_
  refine og_callS (pc := 8) (As := []) (rest := []) (c_L_table E 0 101 g1 (by decide)) Y_L_table S_L_table K_L_213 dL_law_8 rfl rfl (Nat.le_of_ble_eq_true rfl) (by omega) (by omega) (by omega) (fun _ _ _ z => z) (fun v9 n2 g2 z9 => ?_)
  obtain ⟨rfl, rfl, e2⟩ := z9
  rw [e2]
  refine og_astore_n_2 (pc := 11) dL_law_11 rfl ?_
  refine og_iconst (pc := 12) (v := 3) dL_law_12 (by decide) ?_
  refine og_newa (pc := 13) (k := 1) (N := 3) (x := (3, .inl (fun _ => 0))) (atype := .int) AC_int rfl (by decide) dL_law_13 (fun _ => rfl) (by decide) (by decide) (by decide) (by omega) (by omega) ?_
  refine og_astore_n_3 (pc := 15) dL_law_15 rfl ?_
  refine og_bipush (pc := 16) (v := 64) dL_law_16 (by decide) ?_
  refine og_newa (pc := 18) (k := 1) (N := 64) (x := (64, .inl (fun _ => 0))) (atype := .int) AC_int rfl (by decide) dL_law_18 (fun _ => rfl) (by decide) (by decide) (by decide) (by omega) (by omega) ?_
  show og_G E RL cL_law d mc ms 9 X Q _ _ 104 (og_set (og_set (og_set g1 101 (rowI 64 y_T)) 102 (rowI 3 (fun _ => 0))) 103 (rowI 64 (fun _ => 0))) _ _ _
  refine og_astore_4 (pc := 20) dL_law_20 rfl ?_
  refine og_aload_n (pc := 22) dL_law_22 rfl ?_
  refine og_iconst (pc := 23) (v := 0) dL_law_23 (by decide) ?_
  refine og_iconst (pc := 24) (v := 1) dL_law_24 (by decide) ?_
  refine og_iastN (pc := 25) (j := 0) rfl dL_law_25 (by repeat (first | exact og_set_eq _ _ _ | assumption | refine (og_set_ne _ _ (by first | assumption | omega)).trans ?_)) (by omega) (by omega) (by first | decide | assumption | omega) ?_
  refine og_iconst (pc := 26) (v := 0) dL_law_26 (by decide) ?_
  refine og_istore_5 (pc := 27) dL_law_27 rfl ?_
  rw [og_set_comm _ _ _ (show (103 : Nat) ≠ 102 by decide), og_set_set]
  have fr1 : ∀ a, a < 3 → g1 a = h a := fun a ha => (w.2.1.2.2.2 a ha).trans (og_set_ne _ _ (by omega))
  refine og_for (i0 := 0) (N := 8) (by decide) (fun i => og_set (og_set (og_set g1 101 (rowI 64 y_T)) 102 (rowI 3 (upd (fun _ => 0) 0 1))) 103 (rowI 64 (y_r0 i))) (fun i => [some (.ref 0), some (.ref 3), some (.ref 101), some (.ref 102), some (.ref 103), some (.int (nI i)), none, none, none]) ?_ (fun i hi1 hi ih => ?_)
  rotate_left
  · refine og_iload (pc := 29) dL_law_29 rfl ?_
    refine og_bipush (pc := 31) (v := 8) dL_law_31 (by decide) ?_
    refine og_geN (pc := 33) (tgt := 51) (i := i) (N := 8) dL_law_33 (by decide) rfl rfl (by omega) (by omega) (fun c_33 => ?_) (fun c_33 => ?_)
    · omega
    refine og_aload (pc := 36) dL_law_36 rfl ?_
    refine og_bipush (pc := 38) (v := 9) dL_law_38 (by decide) ?_
    refine og_iload (pc := 40) dL_law_40 rfl ?_
    refine og_imul (pc := 42) dL_law_42 ?_
    refine og_iconst (pc := 43) (v := 2) dL_law_43 (by decide) ?_
    refine og_iastN (pc := 44) (j := (9 * i)) (nI_mul 9 i) dL_law_44 (by repeat (first | exact og_set_eq _ _ _ | assumption | refine (og_set_ne _ _ (by first | assumption | omega)).trans ?_)) (by omega) (by omega) (by first | decide | assumption | omega) ?_
    refine og_iinc_5 (pc := 45) dL_law_45 (og_inc i) rfl ?_
    refine og_goto (pc := 48) (tgt := 29) dL_law_48 (by decide) ?_
    rw [og_set_set]
    exact ih
  refine og_iload (pc := 29) dL_law_29 rfl ?_
  refine og_bipush (pc := 31) (v := 8) dL_law_31 (by decide) ?_
  refine og_geN (pc := 33) (tgt := 51) (i := 8) (N := 8) dL_law_33 (by decide) rfl rfl (by omega) (by omega) (fun c_33 => ?_) (fun c_33 => ?_)
  rotate_left
  · omega
  have W : y_wl L xs 104 (og_set (og_set (og_set g1 101 (rowI 64 y_T)) 102 (rowI 3 (upd (fun _ => 0) 0 1))) 103 (rowI 64 (y_r0 8))) d_0 (y_r0 8) (upd (fun _ => 0) 0 1) := by
    refine ⟨w.DK (fun a ha => (og_set_ne _ _ (by omega)).trans ((og_set_ne _ _ (by omega)).trans (og_set_ne _ _ (by omega)))) (by omega) ?_ ?_, (og_set_ne _ _ (by omega)).trans ((og_set_ne _ _ (by omega)).trans (og_set_eq _ _ _)), (og_set_ne _ _ (by omega)).trans (og_set_eq _ _ _), og_set_eq _ _ _, ?_, y_cp0⟩
    · exact (og_set_ne _ _ (by omega)).trans h1
    · exact (og_set_ne _ _ (by omega)).trans h2
    · exact (og_set_ne _ _ (by omega)).trans ((og_set_ne _ _ (by omega)).trans ((og_set_ne _ _ (by omega)).trans ((fr1 0 (by omega)).trans h0)))
  generalize og_set (og_set (og_set g1 101 (rowI 64 y_T)) 102 (rowI 3 (upd (fun _ => 0) 0 1))) 103 (rowI 64 (y_r0 8)) = h5 at W ⊢
  refine og_aload_n (pc := 51) dL_law_51 rfl ?_
  refine og_aload_n (pc := 52) dL_law_52 rfl ?_
  refine og_aload (pc := 53) dL_law_53 rfl ?_
  refine og_aload_n (pc := 55) dL_law_55 rfl ?_
  refine og_bipush (pc := 56) (v := 9) dL_law_56 (by decide) ?_
  refine og_callS (pc := 58) (As := [.ref 3, .ref 102, .ref 103, .ref 101, .int 9]) (rest := []) (c_L_isSo E 0 104 9 L xs h5 _ _ _ W (by decide)) Y_L_isSo S_L_isSo K_L_217 dL_law_58 rfl rfl (Nat.le_of_ble_eq_true rfl) (by omega) (by omega) (by omega) (fun _ _ _ z => z) (fun v9 n6 h6 z9 => ?_)
  obtain ⟨rfl, D6, _, W6⟩ := z9
  have s0 := W6.2.2.2.2.1
  refine og_istore_5 (pc := 61) dL_law_61 rfl ?_
  refine og_bipush (pc := 63) (v := 6) dL_law_63 (by decide) ?_
  refine og_aload_n (pc := 65) dL_law_65 rfl ?_
  refine og_iconst (pc := 66) (v := 0) dL_law_66 (by decide) ?_
  refine og_callS (pc := 67) (As := [.ref 0, .int 0]) (rest := [.int 6]) (c_L_cell E 0 n6 0 L h6 xs s0 hL (by decide)) Y_L_cell S_L_cell K_L_221 dL_law_67 rfl rfl (Nat.le_of_ble_eq_true rfl) (by omega) (by omega) (by omega) (fun _ _ _ z => z) (fun v9 n9 h9 z9 => ?_)
  obtain ⟨e8, e9, y, rfl⟩ := z9
  rw [e8, e9]
  refine og_bipush (pc := 70) (v := 40) dL_law_70 (by decide) ?_
  refine og_callS (pc := 72) (As := [.int y, .int 40]) (rest := [.int 6]) (c_L_low E 0 n6 40 h6 _ (by decide) (by decide)) Y_L_low S_L_low K_L_105 dL_law_72 rfl rfl (Nat.le_of_ble_eq_true rfl) (by omega) (by omega) (by omega) (fun _ _ _ z => z) (fun v9 n9 h9 z9 => ?_)
  obtain ⟨e8, e9, m, hm, rfl⟩ := z9
  rw [e8, e9]
  refine og_iadd (pc := 75) dL_law_75 ?_
  rw [show (6 : Int32) + nI m = nI (6 + m) from nI_add 6 m]
  refine og_istore_6 (pc := 76) dL_law_76 rfl ?_
  refine og_iconst (pc := 78) (v := 0) dL_law_78 (by decide) ?_
  refine og_istore_7 (pc := 79) dL_law_79 rfl ?_
  exact law_loop hd hL (T := 6 + m) (by omega) kend (6 + m) 0 (by omega) n6 h6 D6 _ _ _ _ none rfl W6 (by omega) (by omega)
end LW
