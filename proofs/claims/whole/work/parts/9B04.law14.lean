/-! ===== the law: its cases ===== -/
set_option maxRecDepth 4000 in
theorem law_value {E : og_E} {X : og_X} {Q : State → Prop} {d mc ms cells slots n L i : Nat} {h : og_H} {xs : Nat → Int32} {D : q_D} {M : q_M} {f : Nat → Int64} (W : zW n h D M) (h123 : h 123 = some (row1 f)) (h0 : h 0 = some (rowI L xs)) (hi : i + 7 ≤ L) (hL : L ≤ 3584) (hd : 40 ≤ d) (hmc : cells + 180 ≤ mc) (hms : slots + 3000 ≤ ms)
    (kk : ∀ n2 h2 D2 M2 f2, zW n2 h2 D2 M2 → h2 123 = some (row1 f2) → h2 0 = some (rowI L xs) → og_G E RL cL_law d mc ms 8 X Q (cells + 180) (slots + 3000) n2 h2 2054 [some (.ref 0), some (.ref 3), some (.ref 101), some (.ref 123), some (.int (nI i)), none, none, none] []) :
    og_G E RL cL_law d mc ms 8 X Q cells slots n h 1394 [some (.ref 0), some (.ref 3), some (.ref 101), some (.ref 123), some (.int (nI i)), none, none, none] [] := by
  refine og_aload_n (pc := 1394) dL_law_1394 rfl ?_
  refine og_aload_n (pc := 1395) dL_law_1395 rfl ?_
  refine og_iload (pc := 1396) dL_law_1396 rfl ?_
  refine og_iconst (pc := 1398) (v := 1) dL_law_1398 (by decide) ?_
  refine og_iadd (pc := 1399) dL_law_1399 ?_
  refine og_saldN (pc := 1400) (j := i + 1) (nI_add i 1) dL_law_1400 h0 (by omega) (by omega) (by omega) ?_
  refine og_aload_n (pc := 1401) dL_law_1401 rfl ?_
  refine og_callSH (pc := 1402) (As := [.ref 3, .int (xs (i + 1)), .ref 123]) (rest := []) (P_value E 0 n h _ W h123) YH_L_value K_L_170 dL_law_1402 rfl rfl (Nat.le_of_ble_eq_true rfl) (by omega) (by omega) (by omega) (fun v n1 h1 z => ?_)
  obtain ⟨k, f1, rfl, hn1, g123, g0, ⟨fs, g101⟩, hM⟩ := z
  refine og_istore_5 (pc := 1405) dL_law_1405 rfl ?_
  refine og_aload_n (pc := 1407) dL_law_1407 rfl ?_
  refine og_aload_n (pc := 1408) dL_law_1408 rfl ?_
  refine og_iload (pc := 1409) dL_law_1409 rfl ?_
  refine og_iconst (pc := 1411) (v := 1) dL_law_1411 (by decide) ?_
  refine og_iadd (pc := 1412) dL_law_1412 ?_
  refine og_saldN (pc := 1413) (j := i + 1) (nI_add i 1) dL_law_1413 (g0.trans h0) (by omega) (by omega) (by omega) ?_
  refine og_callV (pc := 1414) (As := [.int (xs (i + 1))]) (rest := []) (hM.at 0) Y_X8_value I_X8_value V_X8_value g101 (by omega) rfl rfl K_L_172 dL_law_1414 rfl rfl (Nat.le_of_ble_eq_true rfl) (by omega) (by omega) (by omega) (fun _ _ _ z => z) (fun v n2 h2 z => ?_)
  obtain ⟨hnn, r, D2, M2, rfl, ⟨W2, g2, g20⟩, hrf, hans⟩ := z
  subst hnn
  refine og_istore_6 (pc := 1417) dL_law_1417 rfl ?_
  refine og_aload_n (pc := 1419) dL_law_1419 rfl ?_
  refine og_callV (pc := 1420) (As := []) (rest := []) (c_X8_thrown E 0 _ _ W2.2.1.m) Y_X8_thrown I_X8_thrown V_X8_thrown W2.2.1.m (by omega) rfl rfl K_L_117 dL_law_1420 rfl rfl (Nat.le_of_ble_eq_true rfl) (by omega) (by omega) (by omega) (fun _ _ _ z => z) (fun v n3 h3 z => ?_)
  obtain ⟨rfl, hn3, rfl⟩ := z
  subst hn3
  refine og_iload (pc := 1423) dL_law_1423 rfl ?_
  refine og_icmp_eq (pc := 1425) (tgt := 1430) dL_law_1425 (by decide) (fun _ => ?_) (fun c => absurd hrf c)
  refine og_iload (pc := 1430) dL_law_1430 rfl ?_
  refine og_if_ne (pc := 1432) (tgt := 1447) dL_law_1432 (by decide) (fun _ => ?_) (fun ck => ?_)
  · skip
    refine og_goto (pc := 1447) (tgt := 2054) dL_law_1447 (by decide) ?_
    refine og_forget_5 (og_forget_6 ?_)
    refine og_widen (k2 := cells + 180) (n2 := slots + 3000) (by omega) (by omega) ?_
    exact kk _ _ _ _ _ W2 (g2.trans g123) (g20.trans (g0.trans h0))
  · skip
    refine og_aload_n (pc := 1435) dL_law_1435 rfl ?_
    refine og_iconst (pc := 1436) (v := 0) dL_law_1436 (by decide) ?_
    refine og_laldN (pc := 1437) (j := 0) rfl dL_law_1437 (g2.trans g123) (by omega) (by omega) (by omega) ?_
    refine og_iload (pc := 1438) dL_law_1438 rfl ?_
    refine og_i2l (pc := 1440) dL_law_1440 rfl ?_
    refine og_lcmp (pc := 1441) dL_law_1441 ?_
    refine og_if_eq (pc := 1442) (tgt := 1447) dL_law_1442 (by decide) (fun _ => ?_) (fun c => absurd ((og_cmp0 _ _).mpr (hans ck)) c)
    refine og_goto (pc := 1447) (tgt := 2054) dL_law_1447 (by decide) ?_
    refine og_forget_5 (og_forget_6 ?_)
    refine og_widen (k2 := cells + 180) (n2 := slots + 3000) (by omega) (by omega) ?_
    exact kk _ _ _ _ _ W2 (g2.trans g123) (g20.trans (g0.trans h0))
set_option maxRecDepth 4000 in
theorem law_elements {E : og_E} {X : og_X} {Q : State → Prop} {d mc ms cells slots n L i : Nat} {h : og_H} {xs : Nat → Int32} {D : q_D} {M : q_M} {f : Nat → Int64} (W : zW n h D M) (h123 : h 123 = some (row1 f)) (h0 : h 0 = some (rowI L xs)) (hi : i + 7 ≤ L) (hL : L ≤ 3584) (hd : 40 ≤ d) (hmc : cells + 180 ≤ mc) (hms : slots + 3000 ≤ ms)
    (kk : ∀ n2 h2 D2 M2 f2, zW n2 h2 D2 M2 → h2 123 = some (row1 f2) → h2 0 = some (rowI L xs) → og_G E RL cL_law d mc ms 8 X Q (cells + 180) (slots + 3000) n2 h2 2054 [some (.ref 0), some (.ref 3), some (.ref 101), some (.ref 123), some (.int (nI i)), none, none, none] []) :
    og_G E RL cL_law d mc ms 8 X Q cells slots n h 1668 [some (.ref 0), some (.ref 3), some (.ref 101), some (.ref 123), some (.int (nI i)), none, none, none] [] := by
  refine og_aload_n (pc := 1668) dL_law_1668 rfl ?_
  refine og_aload_n (pc := 1669) dL_law_1669 rfl ?_
  refine og_iload (pc := 1670) dL_law_1670 rfl ?_
  refine og_iconst (pc := 1672) (v := 1) dL_law_1672 (by decide) ?_
  refine og_iadd (pc := 1673) dL_law_1673 ?_
  refine og_saldN (pc := 1674) (j := i + 1) (nI_add i 1) dL_law_1674 h0 (by omega) (by omega) (by omega) ?_
  refine og_aload_n (pc := 1675) dL_law_1675 rfl ?_
  refine og_callSH (pc := 1676) (As := [.ref 3, .int (xs (i + 1)), .ref 123]) (rest := []) (P_elements E 0 n h _ W h123) YH_L_elements K_L_182 dL_law_1676 rfl rfl (Nat.le_of_ble_eq_true rfl) (by omega) (by omega) (by omega) (fun v n1 h1 z => ?_)
  obtain ⟨k, f1, rfl, hn1, g123, g0, ⟨fs, g101⟩, hM⟩ := z
  refine og_istore_5 (pc := 1679) dL_law_1679 rfl ?_
  refine og_aload_n (pc := 1681) dL_law_1681 rfl ?_
  refine og_aload_n (pc := 1682) dL_law_1682 rfl ?_
  refine og_iload (pc := 1683) dL_law_1683 rfl ?_
  refine og_iconst (pc := 1685) (v := 1) dL_law_1685 (by decide) ?_
  refine og_iadd (pc := 1686) dL_law_1686 ?_
  refine og_saldN (pc := 1687) (j := i + 1) (nI_add i 1) dL_law_1687 (g0.trans h0) (by omega) (by omega) (by omega) ?_
  refine og_callV (pc := 1688) (As := [.int (xs (i + 1))]) (rest := []) (hM.at 0) Y_X8_elements I_X8_elements V_X8_elements g101 (by omega) rfl rfl K_L_184 dL_law_1688 rfl rfl (Nat.le_of_ble_eq_true rfl) (by omega) (by omega) (by omega) (fun _ _ _ z => z) (fun v n2 h2 z => ?_)
  obtain ⟨hnn, r, D2, M2, rfl, ⟨W2, g2, g20⟩, hrf, hans⟩ := z
  subst hnn
  refine og_lstore_6 (pc := 1691) dL_law_1691 rfl ?_
  refine og_aload_n (pc := 1693) dL_law_1693 rfl ?_
  refine og_callV (pc := 1694) (As := []) (rest := []) (c_X8_thrown E 0 _ _ W2.2.1.m) Y_X8_thrown I_X8_thrown V_X8_thrown W2.2.1.m (by omega) rfl rfl K_L_117 dL_law_1694 rfl rfl (Nat.le_of_ble_eq_true rfl) (by omega) (by omega) (by omega) (fun _ _ _ z => z) (fun v n3 h3 z => ?_)
  obtain ⟨rfl, hn3, rfl⟩ := z
  subst hn3
  refine og_iload (pc := 1697) dL_law_1697 rfl ?_
  refine og_icmp_eq (pc := 1699) (tgt := 1704) dL_law_1699 (by decide) (fun _ => ?_) (fun c => absurd hrf c)
  refine og_iload (pc := 1704) dL_law_1704 rfl ?_
  refine og_if_ne (pc := 1706) (tgt := 1720) dL_law_1706 (by decide) (fun _ => ?_) (fun ck => ?_)
  · skip
    refine og_goto (pc := 1720) (tgt := 2054) dL_law_1720 (by decide) ?_
    refine og_forget_5 (og_forget_6 ?_)
    refine og_widen (k2 := cells + 180) (n2 := slots + 3000) (by omega) (by omega) ?_
    exact kk _ _ _ _ _ W2 (g2.trans g123) (g20.trans (g0.trans h0))
  · skip
    refine og_aload_n (pc := 1709) dL_law_1709 rfl ?_
    refine og_iconst (pc := 1710) (v := 0) dL_law_1710 (by decide) ?_
    refine og_laldN (pc := 1711) (j := 0) rfl dL_law_1711 (g2.trans g123) (by omega) (by omega) (by omega) ?_
    refine og_lload (pc := 1712) dL_law_1712 rfl ?_
    refine og_lcmp (pc := 1714) dL_law_1714 ?_
    refine og_if_eq (pc := 1715) (tgt := 1720) dL_law_1715 (by decide) (fun _ => ?_) (fun c => absurd ((og_cmp0 _ _).mpr (hans ck)) c)
    refine og_goto (pc := 1720) (tgt := 2054) dL_law_1720 (by decide) ?_
    refine og_forget_5 (og_forget_6 ?_)
    refine og_widen (k2 := cells + 180) (n2 := slots + 3000) (by omega) (by omega) ?_
    exact kk _ _ _ _ _ W2 (g2.trans g123) (g20.trans (g0.trans h0))
set_option maxRecDepth 4000 in
theorem law_steps {E : og_E} {X : og_X} {Q : State → Prop} {d mc ms cells slots n L i : Nat} {h : og_H} {xs : Nat → Int32} {D : q_D} {M : q_M} {f : Nat → Int64} (W : zW n h D M) (h123 : h 123 = some (row1 f)) (h0 : h 0 = some (rowI L xs)) (hi : i + 7 ≤ L) (hL : L ≤ 3584) (hd : 40 ≤ d) (hmc : cells + 180 ≤ mc) (hms : slots + 3000 ≤ ms)
    (kk : ∀ n2 h2 D2 M2 f2, zW n2 h2 D2 M2 → h2 123 = some (row1 f2) → h2 0 = some (rowI L xs) → og_G E RL cL_law d mc ms 8 X Q (cells + 180) (slots + 3000) n2 h2 2054 [some (.ref 0), some (.ref 3), some (.ref 101), some (.ref 123), some (.int (nI i)), none, none, none] []) :
    og_G E RL cL_law d mc ms 8 X Q cells slots n h 1723 [some (.ref 0), some (.ref 3), some (.ref 101), some (.ref 123), some (.int (nI i)), none, none, none] [] := by
  refine og_aload_n (pc := 1723) dL_law_1723 rfl ?_
  refine og_aload_n (pc := 1724) dL_law_1724 rfl ?_
  refine og_iload (pc := 1725) dL_law_1725 rfl ?_
  refine og_iconst (pc := 1727) (v := 1) dL_law_1727 (by decide) ?_
  refine og_iadd (pc := 1728) dL_law_1728 ?_
  refine og_saldN (pc := 1729) (j := i + 1) (nI_add i 1) dL_law_1729 h0 (by omega) (by omega) (by omega) ?_
  refine og_aload_n (pc := 1730) dL_law_1730 rfl ?_
  refine og_iload (pc := 1731) dL_law_1731 rfl ?_
  refine og_iconst (pc := 1733) (v := 2) dL_law_1733 (by decide) ?_
  refine og_iadd (pc := 1734) dL_law_1734 ?_
  refine og_saldN (pc := 1735) (j := i + 2) (nI_add i 2) dL_law_1735 h0 (by omega) (by omega) (by omega) ?_
  refine og_aload_n (pc := 1736) dL_law_1736 rfl ?_
  refine og_callSH (pc := 1737) (As := [.ref 3, .int (xs (i + 1)), .int (xs (i + 2)), .ref 123]) (rest := []) (P_steps E 0 n h _ _ W h123) YH_L_steps K_L_185 dL_law_1737 rfl rfl (Nat.le_of_ble_eq_true rfl) (by omega) (by omega) (by omega) (fun v n1 h1 z => ?_)
  obtain ⟨k, f1, rfl, hn1, g123, g0, ⟨fs, g101⟩, hM⟩ := z
  refine og_istore_5 (pc := 1740) dL_law_1740 rfl ?_
  refine og_aload_n (pc := 1742) dL_law_1742 rfl ?_
  refine og_aload_n (pc := 1743) dL_law_1743 rfl ?_
  refine og_iload (pc := 1744) dL_law_1744 rfl ?_
  refine og_iconst (pc := 1746) (v := 1) dL_law_1746 (by decide) ?_
  refine og_iadd (pc := 1747) dL_law_1747 ?_
  refine og_saldN (pc := 1748) (j := i + 1) (nI_add i 1) dL_law_1748 (g0.trans h0) (by omega) (by omega) (by omega) ?_
  refine og_aload_n (pc := 1749) dL_law_1749 rfl ?_
  refine og_iload (pc := 1750) dL_law_1750 rfl ?_
  refine og_iconst (pc := 1752) (v := 2) dL_law_1752 (by decide) ?_
  refine og_iadd (pc := 1753) dL_law_1753 ?_
  refine og_saldN (pc := 1754) (j := i + 2) (nI_add i 2) dL_law_1754 (g0.trans h0) (by omega) (by omega) (by omega) ?_
  refine og_callV (pc := 1755) (As := [.int (xs (i + 1)), .int (xs (i + 2))]) (rest := []) (hM.at 0) Y_X8_steps I_X8_steps V_X8_steps g101 (by omega) rfl rfl K_L_187 dL_law_1755 rfl rfl (Nat.le_of_ble_eq_true rfl) (by omega) (by omega) (by omega) (fun _ _ _ z => z) (fun v n2 h2 z => ?_)
  obtain ⟨hnn, r, D2, M2, rfl, ⟨W2, g2, g20⟩, hrf, hans⟩ := z
  subst hnn
  refine og_istore_6 (pc := 1758) dL_law_1758 rfl ?_
  refine og_aload_n (pc := 1760) dL_law_1760 rfl ?_
  refine og_callV (pc := 1761) (As := []) (rest := []) (c_X8_thrown E 0 _ _ W2.2.1.m) Y_X8_thrown I_X8_thrown V_X8_thrown W2.2.1.m (by omega) rfl rfl K_L_117 dL_law_1761 rfl rfl (Nat.le_of_ble_eq_true rfl) (by omega) (by omega) (by omega) (fun _ _ _ z => z) (fun v n3 h3 z => ?_)
  obtain ⟨rfl, hn3, rfl⟩ := z
  subst hn3
  refine og_iload (pc := 1764) dL_law_1764 rfl ?_
  refine og_icmp_eq (pc := 1766) (tgt := 1771) dL_law_1766 (by decide) (fun _ => ?_) (fun c => absurd hrf c)
  refine og_iload (pc := 1771) dL_law_1771 rfl ?_
  refine og_if_ne (pc := 1773) (tgt := 1788) dL_law_1773 (by decide) (fun _ => ?_) (fun ck => ?_)
  · skip
    refine og_goto (pc := 1788) (tgt := 2054) dL_law_1788 (by decide) ?_
    refine og_forget_5 (og_forget_6 ?_)
    refine og_widen (k2 := cells + 180) (n2 := slots + 3000) (by omega) (by omega) ?_
    exact kk _ _ _ _ _ W2 (g2.trans g123) (g20.trans (g0.trans h0))
  · skip
    refine og_aload_n (pc := 1776) dL_law_1776 rfl ?_
    refine og_iconst (pc := 1777) (v := 0) dL_law_1777 (by decide) ?_
    refine og_laldN (pc := 1778) (j := 0) rfl dL_law_1778 (g2.trans g123) (by omega) (by omega) (by omega) ?_
    refine og_iload (pc := 1779) dL_law_1779 rfl ?_
    refine og_i2l (pc := 1781) dL_law_1781 rfl ?_
    refine og_lcmp (pc := 1782) dL_law_1782 ?_
    refine og_if_eq (pc := 1783) (tgt := 1788) dL_law_1783 (by decide) (fun _ => ?_) (fun c => absurd ((og_cmp0 _ _).mpr (hans ck)) c)
    refine og_goto (pc := 1788) (tgt := 2054) dL_law_1788 (by decide) ?_
    refine og_forget_5 (og_forget_6 ?_)
    refine og_widen (k2 := cells + 180) (n2 := slots + 3000) (by omega) (by omega) ?_
    exact kk _ _ _ _ _ W2 (g2.trans g123) (g20.trans (g0.trans h0))
set_option maxRecDepth 4000 in
theorem law_lastNorm {E : og_E} {X : og_X} {Q : State → Prop} {d mc ms cells slots n L i : Nat} {h : og_H} {xs : Nat → Int32} {D : q_D} {M : q_M} {f : Nat → Int64} (W : zW n h D M) (h123 : h 123 = some (row1 f)) (h0 : h 0 = some (rowI L xs)) (hi : i + 7 ≤ L) (hL : L ≤ 3584) (hd : 40 ≤ d) (hmc : cells + 180 ≤ mc) (hms : slots + 3000 ≤ ms)
    (kk : ∀ n2 h2 D2 M2 f2, zW n2 h2 D2 M2 → h2 123 = some (row1 f2) → h2 0 = some (rowI L xs) → og_G E RL cL_law d mc ms 8 X Q (cells + 180) (slots + 3000) n2 h2 2054 [some (.ref 0), some (.ref 3), some (.ref 101), some (.ref 123), some (.int (nI i)), none, none, none] []) :
    og_G E RL cL_law d mc ms 8 X Q cells slots n h 1791 [some (.ref 0), some (.ref 3), some (.ref 101), some (.ref 123), some (.int (nI i)), none, none, none] [] := by
  refine og_aload_n (pc := 1791) dL_law_1791 rfl ?_
  refine og_aload_n (pc := 1792) dL_law_1792 rfl ?_
  refine og_iload (pc := 1793) dL_law_1793 rfl ?_
  refine og_iconst (pc := 1795) (v := 1) dL_law_1795 (by decide) ?_
  refine og_iadd (pc := 1796) dL_law_1796 ?_
  refine og_saldN (pc := 1797) (j := i + 1) (nI_add i 1) dL_law_1797 h0 (by omega) (by omega) (by omega) ?_
  refine og_aload_n (pc := 1798) dL_law_1798 rfl ?_
  refine og_iload (pc := 1799) dL_law_1799 rfl ?_
  refine og_iconst (pc := 1801) (v := 2) dL_law_1801 (by decide) ?_
  refine og_iadd (pc := 1802) dL_law_1802 ?_
  refine og_saldN (pc := 1803) (j := i + 2) (nI_add i 2) dL_law_1803 h0 (by omega) (by omega) (by omega) ?_
  refine og_aload_n (pc := 1804) dL_law_1804 rfl ?_
  refine og_callSH (pc := 1805) (As := [.ref 3, .int (xs (i + 1)), .int (xs (i + 2)), .ref 123]) (rest := []) (P_lastNorm E 0 n h _ _ W h123) YH_L_lastNorm K_L_188 dL_law_1805 rfl rfl (Nat.le_of_ble_eq_true rfl) (by omega) (by omega) (by omega) (fun v n1 h1 z => ?_)
  obtain ⟨k, f1, rfl, hn1, g123, g0, ⟨fs, g101⟩, hM⟩ := z
  refine og_istore_5 (pc := 1808) dL_law_1808 rfl ?_
  refine og_aload_n (pc := 1810) dL_law_1810 rfl ?_
  refine og_aload_n (pc := 1811) dL_law_1811 rfl ?_
  refine og_iload (pc := 1812) dL_law_1812 rfl ?_
  refine og_iconst (pc := 1814) (v := 1) dL_law_1814 (by decide) ?_
  refine og_iadd (pc := 1815) dL_law_1815 ?_
  refine og_saldN (pc := 1816) (j := i + 1) (nI_add i 1) dL_law_1816 (g0.trans h0) (by omega) (by omega) (by omega) ?_
  refine og_aload_n (pc := 1817) dL_law_1817 rfl ?_
  refine og_iload (pc := 1818) dL_law_1818 rfl ?_
  refine og_iconst (pc := 1820) (v := 2) dL_law_1820 (by decide) ?_
  refine og_iadd (pc := 1821) dL_law_1821 ?_
  refine og_saldN (pc := 1822) (j := i + 2) (nI_add i 2) dL_law_1822 (g0.trans h0) (by omega) (by omega) (by omega) ?_
  refine og_callV (pc := 1823) (As := [.int (xs (i + 1)), .int (xs (i + 2))]) (rest := []) (hM.at 0) Y_X8_lastNorm I_X8_lastNorm V_X8_lastNorm g101 (by omega) rfl rfl K_L_190 dL_law_1823 rfl rfl (Nat.le_of_ble_eq_true rfl) (by omega) (by omega) (by omega) (fun _ _ _ z => z) (fun v n2 h2 z => ?_)
  obtain ⟨hnn, r, D2, M2, rfl, ⟨W2, g2, g20⟩, hrf, hans⟩ := z
  subst hnn
  refine og_lstore_6 (pc := 1826) dL_law_1826 rfl ?_
  refine og_aload_n (pc := 1828) dL_law_1828 rfl ?_
  refine og_callV (pc := 1829) (As := []) (rest := []) (c_X8_thrown E 0 _ _ W2.2.1.m) Y_X8_thrown I_X8_thrown V_X8_thrown W2.2.1.m (by omega) rfl rfl K_L_117 dL_law_1829 rfl rfl (Nat.le_of_ble_eq_true rfl) (by omega) (by omega) (by omega) (fun _ _ _ z => z) (fun v n3 h3 z => ?_)
  obtain ⟨rfl, hn3, rfl⟩ := z
  subst hn3
  refine og_iload (pc := 1832) dL_law_1832 rfl ?_
  refine og_icmp_eq (pc := 1834) (tgt := 1839) dL_law_1834 (by decide) (fun _ => ?_) (fun c => absurd hrf c)
  refine og_iload (pc := 1839) dL_law_1839 rfl ?_
  refine og_if_ne (pc := 1841) (tgt := 1855) dL_law_1841 (by decide) (fun _ => ?_) (fun ck => ?_)
  · skip
    refine og_goto (pc := 1855) (tgt := 2054) dL_law_1855 (by decide) ?_
    refine og_forget_5 (og_forget_6 ?_)
    refine og_widen (k2 := cells + 180) (n2 := slots + 3000) (by omega) (by omega) ?_
    exact kk _ _ _ _ _ W2 (g2.trans g123) (g20.trans (g0.trans h0))
  · skip
    refine og_aload_n (pc := 1844) dL_law_1844 rfl ?_
    refine og_iconst (pc := 1845) (v := 0) dL_law_1845 (by decide) ?_
    refine og_laldN (pc := 1846) (j := 0) rfl dL_law_1846 (g2.trans g123) (by omega) (by omega) (by omega) ?_
    refine og_lload (pc := 1847) dL_law_1847 rfl ?_
    refine og_lcmp (pc := 1849) dL_law_1849 ?_
    refine og_if_eq (pc := 1850) (tgt := 1855) dL_law_1850 (by decide) (fun _ => ?_) (fun c => absurd ((og_cmp0 _ _).mpr (hans ck)) c)
    refine og_goto (pc := 1855) (tgt := 2054) dL_law_1855 (by decide) ?_
    refine og_forget_5 (og_forget_6 ?_)
    refine og_widen (k2 := cells + 180) (n2 := slots + 3000) (by omega) (by omega) ?_
    exact kk _ _ _ _ _ W2 (g2.trans g123) (g20.trans (g0.trans h0))
set_option maxRecDepth 4000 in
theorem law_commuting {E : og_E} {X : og_X} {Q : State → Prop} {d mc ms cells slots n L i : Nat} {h : og_H} {xs : Nat → Int32} {D : q_D} {M : q_M} {f : Nat → Int64} (W : zW n h D M) (h123 : h 123 = some (row1 f)) (h0 : h 0 = some (rowI L xs)) (hi : i + 7 ≤ L) (hL : L ≤ 3584) (hd : 40 ≤ d) (hmc : cells + 180 ≤ mc) (hms : slots + 3000 ≤ ms)
    (kk : ∀ n2 h2 D2 M2 f2, zW n2 h2 D2 M2 → h2 123 = some (row1 f2) → h2 0 = some (rowI L xs) → og_G E RL cL_law d mc ms 8 X Q (cells + 180) (slots + 3000) n2 h2 2054 [some (.ref 0), some (.ref 3), some (.ref 101), some (.ref 123), some (.int (nI i)), none, none, none] []) :
    og_G E RL cL_law d mc ms 8 X Q cells slots n h 1858 [some (.ref 0), some (.ref 3), some (.ref 101), some (.ref 123), some (.int (nI i)), none, none, none] [] := by
  refine og_aload_n (pc := 1858) dL_law_1858 rfl ?_
  refine og_aload_n (pc := 1859) dL_law_1859 rfl ?_
  refine og_iload (pc := 1860) dL_law_1860 rfl ?_
  refine og_iconst (pc := 1862) (v := 1) dL_law_1862 (by decide) ?_
  refine og_iadd (pc := 1863) dL_law_1863 ?_
  refine og_saldN (pc := 1864) (j := i + 1) (nI_add i 1) dL_law_1864 h0 (by omega) (by omega) (by omega) ?_
  refine og_aload_n (pc := 1865) dL_law_1865 rfl ?_
  refine og_callSH (pc := 1866) (As := [.ref 3, .int (xs (i + 1)), .ref 123]) (rest := []) (P_commuting E 0 n h _ W h123) YH_L_commuting K_L_191 dL_law_1866 rfl rfl (Nat.le_of_ble_eq_true rfl) (by omega) (by omega) (by omega) (fun v n1 h1 z => ?_)
  obtain ⟨k, f1, rfl, hn1, g123, g0, ⟨fs, g101⟩, hM⟩ := z
  refine og_istore_5 (pc := 1869) dL_law_1869 rfl ?_
  refine og_aload_n (pc := 1871) dL_law_1871 rfl ?_
  refine og_aload_n (pc := 1872) dL_law_1872 rfl ?_
  refine og_iload (pc := 1873) dL_law_1873 rfl ?_
  refine og_iconst (pc := 1875) (v := 1) dL_law_1875 (by decide) ?_
  refine og_iadd (pc := 1876) dL_law_1876 ?_
  refine og_saldN (pc := 1877) (j := i + 1) (nI_add i 1) dL_law_1877 (g0.trans h0) (by omega) (by omega) (by omega) ?_
  refine og_callV (pc := 1878) (As := [.int (xs (i + 1))]) (rest := []) (hM.at 0) Y_X8_commuting I_X8_commuting V_X8_commuting g101 (by omega) rfl rfl K_L_193 dL_law_1878 rfl rfl (Nat.le_of_ble_eq_true rfl) (by omega) (by omega) (by omega) (fun _ _ _ z => z) (fun v n2 h2 z => ?_)
  obtain ⟨hnn, r, D2, M2, rfl, ⟨W2, g2, g20⟩, hrf, hans⟩ := z
  subst hnn
  refine og_istore_6 (pc := 1881) dL_law_1881 rfl ?_
  refine og_aload_n (pc := 1883) dL_law_1883 rfl ?_
  refine og_callV (pc := 1884) (As := []) (rest := []) (c_X8_thrown E 0 _ _ W2.2.1.m) Y_X8_thrown I_X8_thrown V_X8_thrown W2.2.1.m (by omega) rfl rfl K_L_117 dL_law_1884 rfl rfl (Nat.le_of_ble_eq_true rfl) (by omega) (by omega) (by omega) (fun _ _ _ z => z) (fun v n3 h3 z => ?_)
  obtain ⟨rfl, hn3, rfl⟩ := z
  subst hn3
  refine og_iload (pc := 1887) dL_law_1887 rfl ?_
  refine og_icmp_eq (pc := 1889) (tgt := 1894) dL_law_1889 (by decide) (fun _ => ?_) (fun c => absurd hrf c)
  refine og_iload (pc := 1894) dL_law_1894 rfl ?_
  refine og_if_ne (pc := 1896) (tgt := 1911) dL_law_1896 (by decide) (fun _ => ?_) (fun ck => ?_)
  · skip
    refine og_goto (pc := 1911) (tgt := 2054) dL_law_1911 (by decide) ?_
    refine og_forget_5 (og_forget_6 ?_)
    refine og_widen (k2 := cells + 180) (n2 := slots + 3000) (by omega) (by omega) ?_
    exact kk _ _ _ _ _ W2 (g2.trans g123) (g20.trans (g0.trans h0))
  · skip
    refine og_aload_n (pc := 1899) dL_law_1899 rfl ?_
    refine og_iconst (pc := 1900) (v := 0) dL_law_1900 (by decide) ?_
    refine og_laldN (pc := 1901) (j := 0) rfl dL_law_1901 (g2.trans g123) (by omega) (by omega) (by omega) ?_
    refine og_iload (pc := 1902) dL_law_1902 rfl ?_
    refine og_i2l (pc := 1904) dL_law_1904 rfl ?_
    refine og_lcmp (pc := 1905) dL_law_1905 ?_
    refine og_if_eq (pc := 1906) (tgt := 1911) dL_law_1906 (by decide) (fun _ => ?_) (fun c => absurd ((og_cmp0 _ _).mpr (hans ck)) c)
    refine og_goto (pc := 1911) (tgt := 2054) dL_law_1911 (by decide) ?_
    refine og_forget_5 (og_forget_6 ?_)
    refine og_widen (k2 := cells + 180) (n2 := slots + 3000) (by omega) (by omega) ?_
    exact kk _ _ _ _ _ W2 (g2.trans g123) (g20.trans (g0.trans h0))
set_option maxRecDepth 4000 in
theorem law_append {E : og_E} {X : og_X} {Q : State → Prop} {d mc ms cells slots n L i : Nat} {h : og_H} {xs : Nat → Int32} {D : q_D} {M : q_M} {f : Nat → Int64} (W : zW n h D M) (h123 : h 123 = some (row1 f)) (h0 : h 0 = some (rowI L xs)) (hi : i + 7 ≤ L) (hL : L ≤ 3584) (hd : 40 ≤ d) (hmc : cells + 180 ≤ mc) (hms : slots + 3000 ≤ ms)
    (kk : ∀ n2 h2 D2 M2 f2, zW n2 h2 D2 M2 → h2 123 = some (row1 f2) → h2 0 = some (rowI L xs) → og_G E RL cL_law d mc ms 8 X Q (cells + 180) (slots + 3000) n2 h2 2054 [some (.ref 0), some (.ref 3), some (.ref 101), some (.ref 123), some (.int (nI i)), none, none, none] []) :
    og_G E RL cL_law d mc ms 8 X Q cells slots n h 1914 [some (.ref 0), some (.ref 3), some (.ref 101), some (.ref 123), some (.int (nI i)), none, none, none] [] := by
  refine og_aload_n (pc := 1914) dL_law_1914 rfl ?_
  refine og_aload_n (pc := 1915) dL_law_1915 rfl ?_
  refine og_iload (pc := 1916) dL_law_1916 rfl ?_
  refine og_iconst (pc := 1918) (v := 1) dL_law_1918 (by decide) ?_
  refine og_iadd (pc := 1919) dL_law_1919 ?_
  refine og_saldN (pc := 1920) (j := i + 1) (nI_add i 1) dL_law_1920 h0 (by omega) (by omega) (by omega) ?_
  refine og_aload_n (pc := 1921) dL_law_1921 rfl ?_
  refine og_callSH (pc := 1922) (As := [.ref 3, .int (xs (i + 1)), .ref 123]) (rest := []) (P_append E 0 n h _ W h123) YH_L_append K_L_194 dL_law_1922 rfl rfl (Nat.le_of_ble_eq_true rfl) (by omega) (by omega) (by omega) (fun v n1 h1 z => ?_)
  obtain ⟨k, f1, rfl, hn1, g123, g0, ⟨fs, g101⟩, hM⟩ := z
  refine og_istore_5 (pc := 1925) dL_law_1925 rfl ?_
  refine og_aload_n (pc := 1927) dL_law_1927 rfl ?_
  refine og_aload_n (pc := 1928) dL_law_1928 rfl ?_
  refine og_iload (pc := 1929) dL_law_1929 rfl ?_
  refine og_iconst (pc := 1931) (v := 1) dL_law_1931 (by decide) ?_
  refine og_iadd (pc := 1932) dL_law_1932 ?_
  refine og_saldN (pc := 1933) (j := i + 1) (nI_add i 1) dL_law_1933 (g0.trans h0) (by omega) (by omega) (by omega) ?_
  refine og_callV (pc := 1934) (As := [.int (xs (i + 1))]) (rest := []) (hM.at 0) Y_X8_append I_X8_append V_X8_append g101 (by omega) rfl rfl K_L_196 dL_law_1934 rfl rfl (Nat.le_of_ble_eq_true rfl) (by omega) (by omega) (by omega) (fun _ _ _ z => z) (fun v n2 h2 z => ?_)
  obtain ⟨hnn, r, D2, M2, rfl, ⟨W2, g2, g20⟩, hrf, hans⟩ := z
  subst hnn
  refine og_istore_6 (pc := 1937) dL_law_1937 rfl ?_
  refine og_aload_n (pc := 1939) dL_law_1939 rfl ?_
  refine og_callV (pc := 1940) (As := []) (rest := []) (c_X8_thrown E 0 _ _ W2.2.1.m) Y_X8_thrown I_X8_thrown V_X8_thrown W2.2.1.m (by omega) rfl rfl K_L_117 dL_law_1940 rfl rfl (Nat.le_of_ble_eq_true rfl) (by omega) (by omega) (by omega) (fun _ _ _ z => z) (fun v n3 h3 z => ?_)
  obtain ⟨rfl, hn3, rfl⟩ := z
  subst hn3
  refine og_iload (pc := 1943) dL_law_1943 rfl ?_
  refine og_icmp_eq (pc := 1945) (tgt := 1950) dL_law_1945 (by decide) (fun _ => ?_) (fun c => absurd hrf c)
  refine og_iload (pc := 1950) dL_law_1950 rfl ?_
  refine og_if_ne (pc := 1952) (tgt := 1967) dL_law_1952 (by decide) (fun _ => ?_) (fun ck => ?_)
  · skip
    refine og_goto (pc := 1967) (tgt := 2054) dL_law_1967 (by decide) ?_
    refine og_forget_5 (og_forget_6 ?_)
    refine og_widen (k2 := cells + 180) (n2 := slots + 3000) (by omega) (by omega) ?_
    exact kk _ _ _ _ _ W2 (g2.trans g123) (g20.trans (g0.trans h0))
  · skip
    refine og_aload_n (pc := 1955) dL_law_1955 rfl ?_
    refine og_iconst (pc := 1956) (v := 0) dL_law_1956 (by decide) ?_
    refine og_laldN (pc := 1957) (j := 0) rfl dL_law_1957 (g2.trans g123) (by omega) (by omega) (by omega) ?_
    refine og_iload (pc := 1958) dL_law_1958 rfl ?_
    refine og_i2l (pc := 1960) dL_law_1960 rfl ?_
    refine og_lcmp (pc := 1961) dL_law_1961 ?_
    refine og_if_eq (pc := 1962) (tgt := 1967) dL_law_1962 (by decide) (fun _ => ?_) (fun c => absurd ((og_cmp0 _ _).mpr (hans ck)) c)
    refine og_goto (pc := 1967) (tgt := 2054) dL_law_1967 (by decide) ?_
    refine og_forget_5 (og_forget_6 ?_)
    refine og_widen (k2 := cells + 180) (n2 := slots + 3000) (by omega) (by omega) ?_
    exact kk _ _ _ _ _ W2 (g2.trans g123) (g20.trans (g0.trans h0))
set_option maxRecDepth 4000 in
theorem law_undo {E : og_E} {X : og_X} {Q : State → Prop} {d mc ms cells slots n L i : Nat} {h : og_H} {xs : Nat → Int32} {D : q_D} {M : q_M} {f : Nat → Int64} (W : zW n h D M) (h123 : h 123 = some (row1 f)) (h0 : h 0 = some (rowI L xs)) (hi : i + 7 ≤ L) (hL : L ≤ 3584) (hd : 40 ≤ d) (hmc : cells + 180 ≤ mc) (hms : slots + 3000 ≤ ms)
    (kk : ∀ n2 h2 D2 M2 f2, zW n2 h2 D2 M2 → h2 123 = some (row1 f2) → h2 0 = some (rowI L xs) → og_G E RL cL_law d mc ms 8 X Q (cells + 180) (slots + 3000) n2 h2 2054 [some (.ref 0), some (.ref 3), some (.ref 101), some (.ref 123), some (.int (nI i)), none, none, none] []) :
    og_G E RL cL_law d mc ms 8 X Q cells slots n h 1996 [some (.ref 0), some (.ref 3), some (.ref 101), some (.ref 123), some (.int (nI i)), none, none, none] [] := by
  refine og_aload_n (pc := 1996) dL_law_1996 rfl ?_
  refine og_aload_n (pc := 1997) dL_law_1997 rfl ?_
  refine og_callSH (pc := 1998) (As := [.ref 3, .ref 123]) (rest := []) (P_undo E 0 n h  W h123) YH_L_undo K_L_205 dL_law_1998 rfl rfl (Nat.le_of_ble_eq_true rfl) (by omega) (by omega) (by omega) (fun v n1 h1 z => ?_)
  obtain ⟨k, f1, rfl, hn1, g123, g0, ⟨fs, g101⟩, hM⟩ := z
  refine og_istore_5 (pc := 2001) dL_law_2001 rfl ?_
  refine og_aload_n (pc := 2003) dL_law_2003 rfl ?_
  refine og_callV (pc := 2004) (As := []) (rest := []) (hM.at 0) Y_X8_undo I_X8_undo V_X8_undo g101 (by omega) rfl rfl K_L_208 dL_law_2004 rfl rfl (Nat.le_of_ble_eq_true rfl) (by omega) (by omega) (by omega) (fun _ _ _ z => z) (fun v n2 h2 z => ?_)
  obtain ⟨hnn, r, D2, M2, rfl, ⟨W2, g2, g20⟩, hrf, hans⟩ := z
  subst hnn
  refine og_istore_6 (pc := 2007) dL_law_2007 rfl ?_
  refine og_aload_n (pc := 2009) dL_law_2009 rfl ?_
  refine og_callV (pc := 2010) (As := []) (rest := []) (c_X8_thrown E 0 _ _ W2.2.1.m) Y_X8_thrown I_X8_thrown V_X8_thrown W2.2.1.m (by omega) rfl rfl K_L_117 dL_law_2010 rfl rfl (Nat.le_of_ble_eq_true rfl) (by omega) (by omega) (by omega) (fun _ _ _ z => z) (fun v n3 h3 z => ?_)
  obtain ⟨rfl, hn3, rfl⟩ := z
  subst hn3
  refine og_iload (pc := 2013) dL_law_2013 rfl ?_
  refine og_icmp_eq (pc := 2015) (tgt := 2020) dL_law_2015 (by decide) (fun _ => ?_) (fun c => absurd hrf c)
  refine og_iload (pc := 2020) dL_law_2020 rfl ?_
  refine og_if_ne (pc := 2022) (tgt := 2037) dL_law_2022 (by decide) (fun _ => ?_) (fun ck => ?_)
  · skip
    refine og_goto (pc := 2037) (tgt := 2054) dL_law_2037 (by decide) ?_
    refine og_forget_5 (og_forget_6 ?_)
    refine og_widen (k2 := cells + 180) (n2 := slots + 3000) (by omega) (by omega) ?_
    exact kk _ _ _ _ _ W2 (g2.trans g123) (g20.trans (g0.trans h0))
  · skip
    refine og_aload_n (pc := 2025) dL_law_2025 rfl ?_
    refine og_iconst (pc := 2026) (v := 0) dL_law_2026 (by decide) ?_
    refine og_laldN (pc := 2027) (j := 0) rfl dL_law_2027 (g2.trans g123) (by omega) (by omega) (by omega) ?_
    refine og_iload (pc := 2028) dL_law_2028 rfl ?_
    refine og_i2l (pc := 2030) dL_law_2030 rfl ?_
    refine og_lcmp (pc := 2031) dL_law_2031 ?_
    refine og_if_eq (pc := 2032) (tgt := 2037) dL_law_2032 (by decide) (fun _ => ?_) (fun c => absurd ((og_cmp0 _ _).mpr (hans ck)) c)
    refine og_goto (pc := 2037) (tgt := 2054) dL_law_2037 (by decide) ?_
    refine og_forget_5 (og_forget_6 ?_)
    refine og_widen (k2 := cells + 180) (n2 := slots + 3000) (by omega) (by omega) ?_
    exact kk _ _ _ _ _ W2 (g2.trans g123) (g20.trans (g0.trans h0))
