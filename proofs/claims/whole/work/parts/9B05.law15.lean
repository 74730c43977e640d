/-! ===== the law: clearText, carryOut, digest ===== -/
set_option maxRecDepth 4000 in
theorem law_clearText {E : og_E} {X : og_X} {Q : State → Prop} {d mc ms cells slots n L i : Nat} {h : og_H} {xs : Nat → Int32} {D : q_D} {M : q_M} {f : Nat → Int64} (W : zW n h D M) (h123 : h 123 = some (row1 f)) (h0 : h 0 = some (rowI L xs)) (hi : i + 7 ≤ L) (hL : L ≤ 3584) (hd : 40 ≤ d) (hmc : cells + 180 ≤ mc) (hms : slots + 3000 ≤ ms)
    (kk : ∀ n2 h2 D2 M2 f2, zW n2 h2 D2 M2 → h2 123 = some (row1 f2) → h2 0 = some (rowI L xs) → og_G E RL cL_law d mc ms 8 X Q (cells + 180) (slots + 3000) n2 h2 2054 [some (.ref 0), some (.ref 3), some (.ref 101), some (.ref 123), some (.int (nI i)), none, none, none] []) :
    og_G E RL cL_law d mc ms 8 X Q cells slots n h 1970 [some (.ref 0), some (.ref 3), some (.ref 101), some (.ref 123), some (.int (nI i)), none, none, none] [] := by
  refine og_aload_n (pc := 1970) dL_law_1970 rfl ?_
  refine og_callV (pc := 1971) (As := []) (rest := []) (P_clearText E 0 n h W) Y_X7_clearText I_X7_clearText V_X7_clearText W.1.d3 (by omega) rfl rfl K_L_197 dL_law_1971 rfl rfl (Nat.le_of_ble_eq_true rfl) (by omega) (by omega) (by omega) (fun _ _ _ z => z) (fun v n1 h1 z => ?_)
  obtain ⟨r, rfl, ⟨x, rfl⟩, hn1, g123, g0, ⟨fs, g101⟩, hM⟩ := z
  refine og_aload_n (pc := 1974) dL_law_1974 rfl ?_
  refine og_callV (pc := 1975) (As := []) (rest := [.int x]) (hM.at 0) Y_X8_clearText I_X8_clearText V_X8_clearText g101 (by omega) rfl rfl K_L_200 dL_law_1975 rfl rfl (Nat.le_of_ble_eq_true rfl) (by omega) (by omega) (by omega) (fun _ _ _ z => z) (fun v n2 h2 z => ?_)
  obtain ⟨hnn, rfl, D2, M2, W2, g2, g20⟩ := z
  subst hnn
  refine og_icmp_eq (pc := 1978) (tgt := 2054) dL_law_1978 (by decide) (fun _ => ?_) (fun c => absurd rfl c)
  refine og_widen (k2 := cells + 180) (n2 := slots + 3000) (by omega) (by omega) ?_
  exact kk _ _ _ _ _ W2 (g2.trans (g123.trans h123)) (g20.trans (g0.trans h0))
set_option maxRecDepth 4000 in
theorem law_carryOut {E : og_E} {X : og_X} {Q : State → Prop} {d mc ms cells slots n L i : Nat} {h : og_H} {xs : Nat → Int32} {D : q_D} {M : q_M} {f : Nat → Int64} (W : zW n h D M) (h123 : h 123 = some (row1 f)) (h0 : h 0 = some (rowI L xs)) (hi : i + 7 ≤ L) (hL : L ≤ 3584) (hd : 40 ≤ d) (hmc : cells + 180 ≤ mc) (hms : slots + 3000 ≤ ms)
    (kk : ∀ n2 h2 D2 M2 f2, zW n2 h2 D2 M2 → h2 123 = some (row1 f2) → h2 0 = some (rowI L xs) → og_G E RL cL_law d mc ms 8 X Q (cells + 180) (slots + 3000) n2 h2 2054 [some (.ref 0), some (.ref 3), some (.ref 101), some (.ref 123), some (.int (nI i)), none, none, none] []) :
    og_G E RL cL_law d mc ms 8 X Q cells slots n h 1983 [some (.ref 0), some (.ref 3), some (.ref 101), some (.ref 123), some (.int (nI i)), none, none, none] [] := by
  refine og_aload_n (pc := 1983) dL_law_1983 rfl ?_
  refine og_callV (pc := 1984) (As := []) (rest := []) (P_carryOut E 0 n h W) Y_X7_carryOut I_X7_carryOut V_X7_carryOut W.1.d3 (by omega) rfl rfl K_L_201 dL_law_1984 rfl rfl (Nat.le_of_ble_eq_true rfl) (by omega) (by omega) (by omega) (fun _ _ _ z => z) (fun v n1 h1 z => ?_)
  obtain ⟨r, rfl, ⟨x, rfl⟩, hn1, g123, g0, ⟨fs, g101⟩, hM⟩ := z
  refine og_aload_n (pc := 1987) dL_law_1987 rfl ?_
  refine og_callV (pc := 1988) (As := []) (rest := [.int x]) (hM.at 0) Y_X8_carryOut I_X8_carryOut V_X8_carryOut g101 (by omega) rfl rfl K_L_204 dL_law_1988 rfl rfl (Nat.le_of_ble_eq_true rfl) (by omega) (by omega) (by omega) (fun _ _ _ z => z) (fun v n2 h2 z => ?_)
  obtain ⟨hnn, rfl, D2, M2, W2, g2, g20⟩ := z
  subst hnn
  refine og_icmp_eq (pc := 1991) (tgt := 2054) dL_law_1991 (by decide) (fun _ => ?_) (fun c => absurd rfl c)
  refine og_widen (k2 := cells + 180) (n2 := slots + 3000) (by omega) (by omega) ?_
  exact kk _ _ _ _ _ W2 (g2.trans (g123.trans h123)) (g20.trans (g0.trans h0))
set_option maxRecDepth 4000 in
theorem law_digest {E : og_E} {X : og_X} {Q : State → Prop} {d mc ms cells slots n L i : Nat} {h : og_H} {xs : Nat → Int32} {D : q_D} {M : q_M} {f : Nat → Int64} (W : zW n h D M) (h123 : h 123 = some (row1 f)) (h0 : h 0 = some (rowI L xs)) (hi : i + 7 ≤ L) (hL : L ≤ 3584) (hd : 40 ≤ d) (hmc : cells + 180 ≤ mc) (hms : slots + 3000 ≤ ms)
    (kk : ∀ n2 h2 D2 M2 f2, zW n2 h2 D2 M2 → h2 123 = some (row1 f2) → h2 0 = some (rowI L xs) → og_G E RL cL_law d mc ms 8 X Q (cells + 180) (slots + 3000) n2 h2 2054 [some (.ref 0), some (.ref 3), some (.ref 101), some (.ref 123), some (.int (nI i)), none, none, none] []) :
    og_G E RL cL_law d mc ms 8 X Q cells slots n h 2040 [some (.ref 0), some (.ref 3), some (.ref 101), some (.ref 123), some (.int (nI i)), none, none, none] [] := by
  refine og_aload_n (pc := 2040) dL_law_2040 rfl ?_
  refine og_callV (pc := 2041) (As := []) (rest := []) (P_digest E 0 n h W) Y_X7_digest I_X7_digest V_X7_digest W.1.d3 (by omega) rfl rfl K_L_209 dL_law_2041 rfl rfl (Nat.le_of_ble_eq_true rfl) (by omega) (by omega) (by omega) (fun _ _ _ z => z) (fun v n1 h1 z => ?_)
  obtain ⟨r, rfl, ⟨x, rfl⟩, hn1, g123, g0, ⟨fs, g101⟩, hM⟩ := z
  refine og_aload_n (pc := 2044) dL_law_2044 rfl ?_
  refine og_callV (pc := 2045) (As := []) (rest := [.long x]) (hM.at 0) Y_X8_digest I_X8_digest V_X8_digest g101 (by omega) rfl rfl K_L_213 dL_law_2045 rfl rfl (Nat.le_of_ble_eq_true rfl) (by omega) (by omega) (by omega) (fun _ _ _ z => z) (fun v n2 h2 z => ?_)
  obtain ⟨hnn, rfl, D2, M2, W2, g2, g20⟩ := z
  subst hnn
  refine og_lcmp (pc := 2048) dL_law_2048 ?_
  refine og_if_eq (pc := 2049) (tgt := 2054) dL_law_2049 (by decide) (fun _ => ?_) (fun c => absurd ((og_cmp0 _ _).mpr rfl) c)
  refine og_widen (k2 := cells + 180) (n2 := slots + 3000) (by omega) (by omega) ?_
  exact kk _ _ _ _ _ W2 (g2.trans (g123.trans h123)) (g20.trans (g0.trans h0))
