/-! ===== the law: its cases ===== -/
theorem zMi.at {E : og_E} {y : MethodName} {wc : Cond} {K : Nat} {As : List Value} {k : Int32} {a : Int64} {n : Nat} {h : og_H} (w : zMi E y wc K As k a n h) (d : Nat) : og_M E y wc (d + K) As n h 0 0 (fun v nn h2 => nn = n ∧ ∃ r D2 M2, v = some (.int r) ∧ (zW n h2 D2 M2 ∧ h2 123 = h 123 ∧ h2 0 = h 0) ∧ m_rf M2 = k ∧ (k = 0 → a = r.toInt64)) no_x := w d
theorem zMl.at {E : og_E} {y : MethodName} {wc : Cond} {K : Nat} {As : List Value} {k : Int32} {a : Int64} {n : Nat} {h : og_H} (w : zMl E y wc K As k a n h) (d : Nat) : og_M E y wc (d + K) As n h 0 0 (fun v nn h2 => nn = n ∧ ∃ r D2 M2, v = some (.long r) ∧ (zW n h2 D2 M2 ∧ h2 123 = h 123 ∧ h2 0 = h 0) ∧ m_rf M2 = k ∧ (k = 0 → a = r)) no_x := w d
theorem zMz.at {E : og_E} {y : MethodName} {wc : Cond} {K : Nat} {As : List Value} {k : Int32} {a : Int64} {n : Nat} {h : og_H} (w : zMz E y wc K As k a n h) (d : Nat) : og_M E y wc (d + K) As n h 0 0 (fun v nn h2 => nn = n ∧ ∃ r D2 M2, v = some (.int r) ∧ (zW n h2 D2 M2 ∧ h2 123 = h 123 ∧ h2 0 = h 0) ∧ m_rf M2 = k ∧ (k = 0 → a = if r = 0 then 0 else 1)) no_x := w d
theorem zCi.at {E : og_E} {y : MethodName} {wc : Cond} {K : Nat} {As : List Value} {r : Value} {n : Nat} {h : og_H} (w : zCi E y wc K As r n h) (d : Nat) : og_M E y wc (d + K) As n h 0 0 (fun v nn h2 => nn = n ∧ v = some r ∧ ∃ D2 M2, zW n h2 D2 M2 ∧ h2 123 = h 123 ∧ h2 0 = h 0) no_x := w d
set_option maxRecDepth 4000 in
theorem law_set {E : og_E} {X : og_X} {Q : State → Prop} {d mc ms cells slots n L i : Nat} {h : og_H} {xs : Nat → Int32} {D : q_D} {M : q_M} {f : Nat → Int64} (W : zW n h D M) (h123 : h 123 = some (row1 f)) (h0 : h 0 = some (rowI L xs)) (hi : i + 7 ≤ L) (hL : L ≤ 3584) (hd : 40 ≤ d) (hmc : cells + 180 ≤ mc) (hms : slots + 3000 ≤ ms)
    (kk : ∀ n2 h2 D2 M2 f2, zW n2 h2 D2 M2 → h2 123 = some (row1 f2) → h2 0 = some (rowI L xs) → og_G E RL cL_law d mc ms 8 X Q (cells + 180) (slots + 3000) n2 h2 2054 [some (.ref 0), some (.ref 3), some (.ref 101), some (.ref 123), some (.int (nI i)), none, none, none] []) :
    og_G E RL cL_law d mc ms 8 X Q cells slots n h 172 [some (.ref 0), some (.ref 3), some (.ref 101), some (.ref 123), some (.int (nI i)), none, none, none] [] := by
  refine og_aload_n (pc := 172) dL_law_172 rfl ?_
  refine og_aload_n (pc := 173) dL_law_173 rfl ?_
  refine og_iload (pc := 174) dL_law_174 rfl ?_
  refine og_iconst (pc := 176) (v := 1) dL_law_176 (by decide) ?_
  refine og_iadd (pc := 177) dL_law_177 ?_
  refine og_saldN (pc := 178) (j := i + 1) (nI_add i 1) dL_law_178 h0 (by omega) (by omega) (by omega) ?_
  refine og_aload_n (pc := 179) dL_law_179 rfl ?_
  refine og_iload (pc := 180) dL_law_180 rfl ?_
  refine og_iconst (pc := 182) (v := 2) dL_law_182 (by decide) ?_
  refine og_iadd (pc := 183) dL_law_183 ?_
  refine og_saldN (pc := 184) (j := i + 2) (nI_add i 2) dL_law_184 h0 (by omega) (by omega) (by omega) ?_
  refine og_aload_n (pc := 185) dL_law_185 rfl ?_
  refine og_iload (pc := 186) dL_law_186 rfl ?_
  refine og_iconst (pc := 188) (v := 3) dL_law_188 (by decide) ?_
  refine og_iadd (pc := 189) dL_law_189 ?_
  refine og_saldN (pc := 190) (j := i + 3) (nI_add i 3) dL_law_190 h0 (by omega) (by omega) (by omega) ?_
  refine og_aload_n (pc := 191) dL_law_191 rfl ?_
  refine og_callSH (pc := 192) (As := [.ref 3, .int (xs (i + 1)), .int (xs (i + 2)), .int (xs (i + 3)), .ref 123]) (rest := []) (P_set E 0 n h _ _ _ W h123) YH_L_set K_L_111 dL_law_192 rfl rfl (Nat.le_of_ble_eq_true rfl) (by omega) (by omega) (by omega) (fun v n1 h1 z => ?_)
  obtain ⟨k, f1, rfl, hn1, g123, g0, ⟨fs, g101⟩, hM⟩ := z
  refine og_istore_5 (pc := 195) dL_law_195 rfl ?_
  refine og_aload_n (pc := 197) dL_law_197 rfl ?_
  refine og_aload_n (pc := 198) dL_law_198 rfl ?_
  refine og_iload (pc := 199) dL_law_199 rfl ?_
  refine og_iconst (pc := 201) (v := 1) dL_law_201 (by decide) ?_
  refine og_iadd (pc := 202) dL_law_202 ?_
  refine og_saldN (pc := 203) (j := i + 1) (nI_add i 1) dL_law_203 (g0.trans h0) (by omega) (by omega) (by omega) ?_
  refine og_aload_n (pc := 204) dL_law_204 rfl ?_
  refine og_iload (pc := 205) dL_law_205 rfl ?_
  refine og_iconst (pc := 207) (v := 2) dL_law_207 (by decide) ?_
  refine og_iadd (pc := 208) dL_law_208 ?_
  refine og_saldN (pc := 209) (j := i + 2) (nI_add i 2) dL_law_209 (g0.trans h0) (by omega) (by omega) (by omega) ?_
  refine og_aload_n (pc := 210) dL_law_210 rfl ?_
  refine og_iload (pc := 211) dL_law_211 rfl ?_
  refine og_iconst (pc := 213) (v := 3) dL_law_213 (by decide) ?_
  refine og_iadd (pc := 214) dL_law_214 ?_
  refine og_saldN (pc := 215) (j := i + 3) (nI_add i 3) dL_law_215 (g0.trans h0) (by omega) (by omega) (by omega) ?_
  refine og_callV (pc := 216) (As := [.int (xs (i + 1)), .int (xs (i + 2)), .int (xs (i + 3))]) (rest := []) (hM.at 0) Y_X8_set I_X8_set V_X8_set g101 (by omega) rfl rfl K_L_116 dL_law_216 rfl rfl (Nat.le_of_ble_eq_true rfl) (by omega) (by omega) (by omega) (fun _ _ _ z => z) (fun v n2 h2 z => ?_)
  obtain ⟨hnn, r, D2, M2, rfl, ⟨W2, g2, g20⟩, hrf, hans⟩ := z
  subst hnn
  refine og_istore_6 (pc := 219) dL_law_219 rfl ?_
  refine og_aload_n (pc := 221) dL_law_221 rfl ?_
  refine og_callV (pc := 222) (As := []) (rest := []) (c_X8_thrown E 0 _ _ W2.2.1.m) Y_X8_thrown I_X8_thrown V_X8_thrown W2.2.1.m (by omega) rfl rfl K_L_117 dL_law_222 rfl rfl (Nat.le_of_ble_eq_true rfl) (by omega) (by omega) (by omega) (fun _ _ _ z => z) (fun v n3 h3 z => ?_)
  obtain ⟨rfl, hn3, rfl⟩ := z
  subst hn3
  refine og_iload (pc := 225) dL_law_225 rfl ?_
  refine og_icmp_eq (pc := 227) (tgt := 232) dL_law_227 (by decide) (fun _ => ?_) (fun c => absurd hrf c)
  refine og_iload (pc := 232) dL_law_232 rfl ?_
  refine og_if_ne (pc := 234) (tgt := 249) dL_law_234 (by decide) (fun _ => ?_) (fun ck => ?_)
  · skip
    refine og_goto (pc := 249) (tgt := 2054) dL_law_249 (by decide) ?_
    refine og_forget_5 (og_forget_6 ?_)
    refine og_widen (k2 := cells + 180) (n2 := slots + 3000) (by omega) (by omega) ?_
    exact kk _ _ _ _ _ W2 (g2.trans g123) (g20.trans (g0.trans h0))
  · skip
    refine og_aload_n (pc := 237) dL_law_237 rfl ?_
    refine og_iconst (pc := 238) (v := 0) dL_law_238 (by decide) ?_
    refine og_laldN (pc := 239) (j := 0) rfl dL_law_239 (g2.trans g123) (by omega) (by omega) (by omega) ?_
    refine og_iload (pc := 240) dL_law_240 rfl ?_
    refine og_i2l (pc := 242) dL_law_242 rfl ?_
    refine og_lcmp (pc := 243) dL_law_243 ?_
    refine og_if_eq (pc := 244) (tgt := 249) dL_law_244 (by decide) (fun _ => ?_) (fun c => absurd ((og_cmp0 _ _).mpr (hans ck)) c)
    refine og_goto (pc := 249) (tgt := 2054) dL_law_249 (by decide) ?_
    refine og_forget_5 (og_forget_6 ?_)
    refine og_widen (k2 := cells + 180) (n2 := slots + 3000) (by omega) (by omega) ?_
    exact kk _ _ _ _ _ W2 (g2.trans g123) (g20.trans (g0.trans h0))
set_option maxRecDepth 4000 in
theorem law_norm {E : og_E} {X : og_X} {Q : State → Prop} {d mc ms cells slots n L i : Nat} {h : og_H} {xs : Nat → Int32} {D : q_D} {M : q_M} {f : Nat → Int64} (W : zW n h D M) (h123 : h 123 = some (row1 f)) (h0 : h 0 = some (rowI L xs)) (hi : i + 7 ≤ L) (hL : L ≤ 3584) (hd : 40 ≤ d) (hmc : cells + 180 ≤ mc) (hms : slots + 3000 ≤ ms)
    (kk : ∀ n2 h2 D2 M2 f2, zW n2 h2 D2 M2 → h2 123 = some (row1 f2) → h2 0 = some (rowI L xs) → og_G E RL cL_law d mc ms 8 X Q (cells + 180) (slots + 3000) n2 h2 2054 [some (.ref 0), some (.ref 3), some (.ref 101), some (.ref 123), some (.int (nI i)), none, none, none] []) :
    og_G E RL cL_law d mc ms 8 X Q cells slots n h 1080 [some (.ref 0), some (.ref 3), some (.ref 101), some (.ref 123), some (.int (nI i)), none, none, none] [] := by
  refine og_aload_n (pc := 1080) dL_law_1080 rfl ?_
  refine og_aload_n (pc := 1081) dL_law_1081 rfl ?_
  refine og_iload (pc := 1082) dL_law_1082 rfl ?_
  refine og_iconst (pc := 1084) (v := 1) dL_law_1084 (by decide) ?_
  refine og_iadd (pc := 1085) dL_law_1085 ?_
  refine og_saldN (pc := 1086) (j := i + 1) (nI_add i 1) dL_law_1086 h0 (by omega) (by omega) (by omega) ?_
  refine og_aload_n (pc := 1087) dL_law_1087 rfl ?_
  refine og_callSH (pc := 1088) (As := [.ref 3, .int (xs (i + 1)), .ref 123]) (rest := []) (P_norm E 0 n h _ W h123) YH_L_norm K_L_155 dL_law_1088 rfl rfl (Nat.le_of_ble_eq_true rfl) (by omega) (by omega) (by omega) (fun v n1 h1 z => ?_)
  obtain ⟨k, f1, rfl, hn1, g123, g0, ⟨fs, g101⟩, hM⟩ := z
  refine og_istore_5 (pc := 1091) dL_law_1091 rfl ?_
  refine og_aload_n (pc := 1093) dL_law_1093 rfl ?_
  refine og_aload_n (pc := 1094) dL_law_1094 rfl ?_
  refine og_iload (pc := 1095) dL_law_1095 rfl ?_
  refine og_iconst (pc := 1097) (v := 1) dL_law_1097 (by decide) ?_
  refine og_iadd (pc := 1098) dL_law_1098 ?_
  refine og_saldN (pc := 1099) (j := i + 1) (nI_add i 1) dL_law_1099 (g0.trans h0) (by omega) (by omega) (by omega) ?_
  refine og_callV (pc := 1100) (As := [.int (xs (i + 1))]) (rest := []) (hM.at 0) Y_X8_norm I_X8_norm V_X8_norm g101 (by omega) rfl rfl K_L_157 dL_law_1100 rfl rfl (Nat.le_of_ble_eq_true rfl) (by omega) (by omega) (by omega) (fun _ _ _ z => z) (fun v n2 h2 z => ?_)
  obtain ⟨hnn, r, D2, M2, rfl, ⟨W2, g2, g20⟩, hrf, hans⟩ := z
  subst hnn
  refine og_lstore_6 (pc := 1103) dL_law_1103 rfl ?_
  refine og_aload_n (pc := 1105) dL_law_1105 rfl ?_
  refine og_callV (pc := 1106) (As := []) (rest := []) (c_X8_thrown E 0 _ _ W2.2.1.m) Y_X8_thrown I_X8_thrown V_X8_thrown W2.2.1.m (by omega) rfl rfl K_L_117 dL_law_1106 rfl rfl (Nat.le_of_ble_eq_true rfl) (by omega) (by omega) (by omega) (fun _ _ _ z => z) (fun v n3 h3 z => ?_)
  obtain ⟨rfl, hn3, rfl⟩ := z
  subst hn3
  refine og_iload (pc := 1109) dL_law_1109 rfl ?_
  refine og_icmp_eq (pc := 1111) (tgt := 1116) dL_law_1111 (by decide) (fun _ => ?_) (fun c => absurd hrf c)
  refine og_iload (pc := 1116) dL_law_1116 rfl ?_
  refine og_if_ne (pc := 1118) (tgt := 1132) dL_law_1118 (by decide) (fun _ => ?_) (fun ck => ?_)
  · skip
    refine og_goto (pc := 1132) (tgt := 2054) dL_law_1132 (by decide) ?_
    refine og_forget_5 (og_forget_6 ?_)
    refine og_widen (k2 := cells + 180) (n2 := slots + 3000) (by omega) (by omega) ?_
    exact kk _ _ _ _ _ W2 (g2.trans g123) (g20.trans (g0.trans h0))
  · skip
    refine og_aload_n (pc := 1121) dL_law_1121 rfl ?_
    refine og_iconst (pc := 1122) (v := 0) dL_law_1122 (by decide) ?_
    refine og_laldN (pc := 1123) (j := 0) rfl dL_law_1123 (g2.trans g123) (by omega) (by omega) (by omega) ?_
    refine og_lload (pc := 1124) dL_law_1124 rfl ?_
    refine og_lcmp (pc := 1126) dL_law_1126 ?_
    refine og_if_eq (pc := 1127) (tgt := 1132) dL_law_1127 (by decide) (fun _ => ?_) (fun c => absurd ((og_cmp0 _ _).mpr (hans ck)) c)
    refine og_goto (pc := 1132) (tgt := 2054) dL_law_1132 (by decide) ?_
    refine og_forget_5 (og_forget_6 ?_)
    refine og_widen (k2 := cells + 180) (n2 := slots + 3000) (by omega) (by omega) ?_
    exact kk _ _ _ _ _ W2 (g2.trans g123) (g20.trans (g0.trans h0))
set_option maxRecDepth 4000 in
theorem law_commute {E : og_E} {X : og_X} {Q : State → Prop} {d mc ms cells slots n L i : Nat} {h : og_H} {xs : Nat → Int32} {D : q_D} {M : q_M} {f : Nat → Int64} (W : zW n h D M) (h123 : h 123 = some (row1 f)) (h0 : h 0 = some (rowI L xs)) (hi : i + 7 ≤ L) (hL : L ≤ 3584) (hd : 40 ≤ d) (hmc : cells + 180 ≤ mc) (hms : slots + 3000 ≤ ms)
    (kk : ∀ n2 h2 D2 M2 f2, zW n2 h2 D2 M2 → h2 123 = some (row1 f2) → h2 0 = some (rowI L xs) → og_G E RL cL_law d mc ms 8 X Q (cells + 180) (slots + 3000) n2 h2 2054 [some (.ref 0), some (.ref 3), some (.ref 101), some (.ref 123), some (.int (nI i)), none, none, none] []) :
    og_G E RL cL_law d mc ms 8 X Q cells slots n h 1506 [some (.ref 0), some (.ref 3), some (.ref 101), some (.ref 123), some (.int (nI i)), none, none, none] [] := by
  refine og_aload_n (pc := 1506) dL_law_1506 rfl ?_
  refine og_aload_n (pc := 1507) dL_law_1507 rfl ?_
  refine og_iload (pc := 1508) dL_law_1508 rfl ?_
  refine og_iconst (pc := 1510) (v := 1) dL_law_1510 (by decide) ?_
  refine og_iadd (pc := 1511) dL_law_1511 ?_
  refine og_saldN (pc := 1512) (j := i + 1) (nI_add i 1) dL_law_1512 h0 (by omega) (by omega) (by omega) ?_
  refine og_aload_n (pc := 1513) dL_law_1513 rfl ?_
  refine og_iload (pc := 1514) dL_law_1514 rfl ?_
  refine og_iconst (pc := 1516) (v := 2) dL_law_1516 (by decide) ?_
  refine og_iadd (pc := 1517) dL_law_1517 ?_
  refine og_saldN (pc := 1518) (j := i + 2) (nI_add i 2) dL_law_1518 h0 (by omega) (by omega) (by omega) ?_
  refine og_aload_n (pc := 1519) dL_law_1519 rfl ?_
  refine og_callSH (pc := 1520) (As := [.ref 3, .int (xs (i + 1)), .int (xs (i + 2)), .ref 123]) (rest := []) (P_commute E 0 n h _ _ W h123) YH_L_commute K_L_176 dL_law_1520 rfl rfl (Nat.le_of_ble_eq_true rfl) (by omega) (by omega) (by omega) (fun v n1 h1 z => ?_)
  obtain ⟨k, f1, rfl, hn1, g123, g0, ⟨fs, g101⟩, hM⟩ := z
  refine og_istore_5 (pc := 1523) dL_law_1523 rfl ?_
  refine og_aload_n (pc := 1525) dL_law_1525 rfl ?_
  refine og_aload_n (pc := 1526) dL_law_1526 rfl ?_
  refine og_iload (pc := 1527) dL_law_1527 rfl ?_
  refine og_iconst (pc := 1529) (v := 1) dL_law_1529 (by decide) ?_
  refine og_iadd (pc := 1530) dL_law_1530 ?_
  refine og_saldN (pc := 1531) (j := i + 1) (nI_add i 1) dL_law_1531 (g0.trans h0) (by omega) (by omega) (by omega) ?_
  refine og_aload_n (pc := 1532) dL_law_1532 rfl ?_
  refine og_iload (pc := 1533) dL_law_1533 rfl ?_
  refine og_iconst (pc := 1535) (v := 2) dL_law_1535 (by decide) ?_
  refine og_iadd (pc := 1536) dL_law_1536 ?_
  refine og_saldN (pc := 1537) (j := i + 2) (nI_add i 2) dL_law_1537 (g0.trans h0) (by omega) (by omega) (by omega) ?_
  refine og_callV (pc := 1538) (As := [.int (xs (i + 1)), .int (xs (i + 2))]) (rest := []) (hM.at 0) Y_X8_commute I_X8_commute V_X8_commute g101 (by omega) rfl rfl K_L_178 dL_law_1538 rfl rfl (Nat.le_of_ble_eq_true rfl) (by omega) (by omega) (by omega) (fun _ _ _ z => z) (fun v n2 h2 z => ?_)
  obtain ⟨hnn, r, D2, M2, rfl, ⟨W2, g2, g20⟩, hrf, hans⟩ := z
  subst hnn
  refine og_istore_6 (pc := 1541) dL_law_1541 rfl ?_
  refine og_aload_n (pc := 1543) dL_law_1543 rfl ?_
  refine og_callV (pc := 1544) (As := []) (rest := []) (c_X8_thrown E 0 _ _ W2.2.1.m) Y_X8_thrown I_X8_thrown V_X8_thrown W2.2.1.m (by omega) rfl rfl K_L_117 dL_law_1544 rfl rfl (Nat.le_of_ble_eq_true rfl) (by omega) (by omega) (by omega) (fun _ _ _ z => z) (fun v n3 h3 z => ?_)
  obtain ⟨rfl, hn3, rfl⟩ := z
  subst hn3
  refine og_iload (pc := 1547) dL_law_1547 rfl ?_
  refine og_icmp_eq (pc := 1549) (tgt := 1554) dL_law_1549 (by decide) (fun _ => ?_) (fun c => absurd hrf c)
  refine og_iload (pc := 1554) dL_law_1554 rfl ?_
  refine og_if_ne (pc := 1556) (tgt := 1578) dL_law_1556 (by decide) (fun _ => ?_) (fun ck => ?_)
  · skip
    refine og_goto (pc := 1578) (tgt := 2054) dL_law_1578 (by decide) ?_
    refine og_forget_5 (og_forget_6 ?_)
    refine og_widen (k2 := cells + 180) (n2 := slots + 3000) (by omega) (by omega) ?_
    exact kk _ _ _ _ _ W2 (g2.trans g123) (g20.trans (g0.trans h0))
  · skip
    refine og_aload_n (pc := 1559) dL_law_1559 rfl ?_
    refine og_iconst (pc := 1560) (v := 0) dL_law_1560 (by decide) ?_
    refine og_laldN (pc := 1561) (j := 0) rfl dL_law_1561 (g2.trans g123) (by omega) (by omega) (by omega) ?_
    refine og_iload (pc := 1562) dL_law_1562 rfl ?_
    refine og_if_eq (pc := 1564) (tgt := 1571) dL_law_1564 (by decide) (fun cr => ?_) (fun cr => ?_)
    · skip
      refine og_lconst (pc := 1571) (v := 0) dL_law_1571 (by decide) ?_
      refine og_lcmp (pc := 1572) dL_law_1572 ?_
      refine og_if_eq (pc := 1573) (tgt := 1578) dL_law_1573 (by decide) (fun _ => ?_) (fun c => absurd ((og_cmp0 _ _).mpr ((hans ck).trans (if_pos cr))) c)
      refine og_goto (pc := 1578) (tgt := 2054) dL_law_1578 (by decide) ?_
      refine og_forget_5 (og_forget_6 ?_)
      refine og_widen (k2 := cells + 180) (n2 := slots + 3000) (by omega) (by omega) ?_
      exact kk _ _ _ _ _ W2 (g2.trans g123) (g20.trans (g0.trans h0))
    · skip
      refine og_lconst (pc := 1567) (v := 1) dL_law_1567 (by decide) ?_
      refine og_goto (pc := 1568) (tgt := 1572) dL_law_1568 (by decide) ?_
      refine og_lcmp (pc := 1572) dL_law_1572 ?_
      refine og_if_eq (pc := 1573) (tgt := 1578) dL_law_1573 (by decide) (fun _ => ?_) (fun c => absurd ((og_cmp0 _ _).mpr ((hans ck).trans (if_neg cr))) c)
      refine og_goto (pc := 1578) (tgt := 2054) dL_law_1578 (by decide) ?_
      refine og_forget_5 (og_forget_6 ?_)
      refine og_widen (k2 := cells + 180) (n2 := slots + 3000) (by omega) (by omega) ?_
      exact kk _ _ _ _ _ W2 (g2.trans g123) (g20.trans (g0.trans h0))
