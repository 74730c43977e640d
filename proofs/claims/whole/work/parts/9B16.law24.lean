/-! ===== the law: its cases ===== -/
set_option maxRecDepth 4000 in
theorem law_associate {E : og_E} {X : og_X} {Q : State → Prop} {d mc ms cells slots n L i : Nat} {h : og_H} {xs : Nat → Int32} {D : q_D} {M : q_M} {f : Nat → Int64} (W : zW n h D M) (h123 : h 123 = some (row1 f)) (h0 : h 0 = some (rowI L xs)) (hi : i + 7 ≤ L) (hL : L ≤ 3584) (hd : 40 ≤ d) (hmc : cells + 180 ≤ mc) (hms : slots + 3000 ≤ ms)
    (kk : ∀ n2 h2 D2 M2 f2, zW n2 h2 D2 M2 → h2 123 = some (row1 f2) → h2 0 = some (rowI L xs) → og_G E RL cL_law d mc ms 8 X Q (cells + 180) (slots + 3000) n2 h2 2054 [some (.ref 0), some (.ref 3), some (.ref 101), some (.ref 123), some (.int (nI i)), none, none, none] []) :
    og_G E RL cL_law d mc ms 8 X Q cells slots n h 1581 [some (.ref 0), some (.ref 3), some (.ref 101), some (.ref 123), some (.int (nI i)), none, none, none] [] := by
  refine og_aload_n (pc := 1581) dL_law_1581 rfl ?_
  refine og_aload_n (pc := 1582) dL_law_1582 rfl ?_
  refine og_iload (pc := 1583) dL_law_1583 rfl ?_
  refine og_iconst (pc := 1585) (v := 1) dL_law_1585 (by decide) ?_
  refine og_iadd (pc := 1586) dL_law_1586 ?_
  refine og_saldN (pc := 1587) (j := i + 1) (nI_add i 1) dL_law_1587 h0 (by omega) (by omega) (by omega) ?_
  refine og_aload_n (pc := 1588) dL_law_1588 rfl ?_
  refine og_iload (pc := 1589) dL_law_1589 rfl ?_
  refine og_iconst (pc := 1591) (v := 2) dL_law_1591 (by decide) ?_
  refine og_iadd (pc := 1592) dL_law_1592 ?_
  refine og_saldN (pc := 1593) (j := i + 2) (nI_add i 2) dL_law_1593 h0 (by omega) (by omega) (by omega) ?_
  refine og_aload_n (pc := 1594) dL_law_1594 rfl ?_
  refine og_iload (pc := 1595) dL_law_1595 rfl ?_
  refine og_iconst (pc := 1597) (v := 3) dL_law_1597 (by decide) ?_
  refine og_iadd (pc := 1598) dL_law_1598 ?_
  refine og_saldN (pc := 1599) (j := i + 3) (nI_add i 3) dL_law_1599 h0 (by omega) (by omega) (by omega) ?_
  refine og_aload_n (pc := 1600) dL_law_1600 rfl ?_
  refine og_callSH (pc := 1601) (As := [.ref 3, .int (xs (i + 1)), .int (xs (i + 2)), .int (xs (i + 3)), .ref 123]) (rest := []) (P_associate E 0 n h _ _ _ W h123) YH_L_associate K_L_179 dL_law_1601 rfl rfl (Nat.le_of_ble_eq_true rfl) (by omega) (by omega) (by omega) (fun v n1 h1 z => ?_)
  obtain ⟨k, f1, rfl, hn1, g123, g0, ⟨fs, g101⟩, hM⟩ := z
  refine og_istore_5 (pc := 1604) dL_law_1604 rfl ?_
  refine og_aload_n (pc := 1606) dL_law_1606 rfl ?_
  refine og_aload_n (pc := 1607) dL_law_1607 rfl ?_
  refine og_iload (pc := 1608) dL_law_1608 rfl ?_
  refine og_iconst (pc := 1610) (v := 1) dL_law_1610 (by decide) ?_
  refine og_iadd (pc := 1611) dL_law_1611 ?_
  refine og_saldN (pc := 1612) (j := i + 1) (nI_add i 1) dL_law_1612 (g0.trans h0) (by omega) (by omega) (by omega) ?_
  refine og_aload_n (pc := 1613) dL_law_1613 rfl ?_
  refine og_iload (pc := 1614) dL_law_1614 rfl ?_
  refine og_iconst (pc := 1616) (v := 2) dL_law_1616 (by decide) ?_
  refine og_iadd (pc := 1617) dL_law_1617 ?_
  refine og_saldN (pc := 1618) (j := i + 2) (nI_add i 2) dL_law_1618 (g0.trans h0) (by omega) (by omega) (by omega) ?_
  refine og_aload_n (pc := 1619) dL_law_1619 rfl ?_
  refine og_iload (pc := 1620) dL_law_1620 rfl ?_
  refine og_iconst (pc := 1622) (v := 3) dL_law_1622 (by decide) ?_
  refine og_iadd (pc := 1623) dL_law_1623 ?_
  refine og_saldN (pc := 1624) (j := i + 3) (nI_add i 3) dL_law_1624 (g0.trans h0) (by omega) (by omega) (by omega) ?_
  refine og_callV (pc := 1625) (As := [.int (xs (i + 1)), .int (xs (i + 2)), .int (xs (i + 3))]) (rest := []) (hM.at 0) Y_X8_associate I_X8_associate V_X8_associate g101 (by omega) rfl rfl K_L_181 dL_law_1625 rfl rfl (Nat.le_of_ble_eq_true rfl) (by omega) (by omega) (by omega) (fun _ _ _ z => z) (fun v n2 h2 z => ?_)
  obtain ⟨hnn, r, D2, M2, rfl, ⟨W2, g2, g20⟩, hrf, hans⟩ := z
  subst hnn
  refine og_istore_6 (pc := 1628) dL_law_1628 rfl ?_
  refine og_aload_n (pc := 1630) dL_law_1630 rfl ?_
  refine og_callV (pc := 1631) (As := []) (rest := []) (c_X8_thrown E 0 _ _ W2.2.1.m) Y_X8_thrown I_X8_thrown V_X8_thrown W2.2.1.m (by omega) rfl rfl K_L_117 dL_law_1631 rfl rfl (Nat.le_of_ble_eq_true rfl) (by omega) (by omega) (by omega) (fun _ _ _ z => z) (fun v n3 h3 z => ?_)
  obtain ⟨rfl, hn3, rfl⟩ := z
  subst hn3
  refine og_iload (pc := 1634) dL_law_1634 rfl ?_
  refine og_icmp_eq (pc := 1636) (tgt := 1641) dL_law_1636 (by decide) (fun _ => ?_) (fun c => absurd hrf c)
  refine og_iload (pc := 1641) dL_law_1641 rfl ?_
  refine og_if_ne (pc := 1643) (tgt := 1665) dL_law_1643 (by decide) (fun _ => ?_) (fun ck => ?_)
  · skip
    refine og_goto (pc := 1665) (tgt := 2054) dL_law_1665 (by decide) ?_
    refine og_forget_5 (og_forget_6 ?_)
    refine og_widen (k2 := cells + 180) (n2 := slots + 3000) (by omega) (by omega) ?_
    exact kk _ _ _ _ _ W2 (g2.trans g123) (g20.trans (g0.trans h0))
  · skip
    refine og_aload_n (pc := 1646) dL_law_1646 rfl ?_
    refine og_iconst (pc := 1647) (v := 0) dL_law_1647 (by decide) ?_
    refine og_laldN (pc := 1648) (j := 0) rfl dL_law_1648 (g2.trans g123) (by omega) (by omega) (by omega) ?_
    refine og_iload (pc := 1649) dL_law_1649 rfl ?_
    refine og_if_eq (pc := 1651) (tgt := 1658) dL_law_1651 (by decide) (fun cr => ?_) (fun cr => ?_)
    · skip
      refine og_lconst (pc := 1658) (v := 0) dL_law_1658 (by decide) ?_
      refine og_lcmp (pc := 1659) dL_law_1659 ?_
      refine og_if_eq (pc := 1660) (tgt := 1665) dL_law_1660 (by decide) (fun _ => ?_) (fun c => absurd ((og_cmp0 _ _).mpr ((hans ck).trans (if_pos cr))) c)
      refine og_goto (pc := 1665) (tgt := 2054) dL_law_1665 (by decide) ?_
      refine og_forget_5 (og_forget_6 ?_)
      refine og_widen (k2 := cells + 180) (n2 := slots + 3000) (by omega) (by omega) ?_
      exact kk _ _ _ _ _ W2 (g2.trans g123) (g20.trans (g0.trans h0))
    · skip
      refine og_lconst (pc := 1654) (v := 1) dL_law_1654 (by decide) ?_
      refine og_goto (pc := 1655) (tgt := 1659) dL_law_1655 (by decide) ?_
      refine og_lcmp (pc := 1659) dL_law_1659 ?_
      refine og_if_eq (pc := 1660) (tgt := 1665) dL_law_1660 (by decide) (fun _ => ?_) (fun c => absurd ((og_cmp0 _ _).mpr ((hans ck).trans (if_neg cr))) c)
      refine og_goto (pc := 1665) (tgt := 2054) dL_law_1665 (by decide) ?_
      refine og_forget_5 (og_forget_6 ?_)
      refine og_widen (k2 := cells + 180) (n2 := slots + 3000) (by omega) (by omega) ?_
      exact kk _ _ _ _ _ W2 (g2.trans g123) (g20.trans (g0.trans h0))
set_option maxRecDepth 4000 in
theorem law_dimension {E : og_E} {X : og_X} {Q : State → Prop} {d mc ms cells slots n L i : Nat} {h : og_H} {xs : Nat → Int32} {D : q_D} {M : q_M} {f : Nat → Int64} (W : zW n h D M) (h123 : h 123 = some (row1 f)) (h0 : h 0 = some (rowI L xs)) (hi : i + 7 ≤ L) (hL : L ≤ 3584) (hd : 40 ≤ d) (hmc : cells + 180 ≤ mc) (hms : slots + 3000 ≤ ms)
    (kk : ∀ n2 h2 D2 M2 f2, zW n2 h2 D2 M2 → h2 123 = some (row1 f2) → h2 0 = some (rowI L xs) → og_G E RL cL_law d mc ms 8 X Q (cells + 180) (slots + 3000) n2 h2 2054 [some (.ref 0), some (.ref 3), some (.ref 101), some (.ref 123), some (.int (nI i)), none, none, none] []) :
    og_G E RL cL_law d mc ms 8 X Q cells slots n h 1450 [some (.ref 0), some (.ref 3), some (.ref 101), some (.ref 123), some (.int (nI i)), none, none, none] [] := by
  refine og_aload_n (pc := 1450) dL_law_1450 rfl ?_
  refine og_aload_n (pc := 1451) dL_law_1451 rfl ?_
  refine og_iload (pc := 1452) dL_law_1452 rfl ?_
  refine og_iconst (pc := 1454) (v := 1) dL_law_1454 (by decide) ?_
  refine og_iadd (pc := 1455) dL_law_1455 ?_
  refine og_saldN (pc := 1456) (j := i + 1) (nI_add i 1) dL_law_1456 h0 (by omega) (by omega) (by omega) ?_
  refine og_aload_n (pc := 1457) dL_law_1457 rfl ?_
  refine og_callSH (pc := 1458) (As := [.ref 3, .int (xs (i + 1)), .ref 123]) (rest := []) (P_dimension E 0 n h _ W h123) YH_L_dimension K_L_173 dL_law_1458 rfl rfl (Nat.le_of_ble_eq_true rfl) (by omega) (by omega) (by omega) (fun v n1 h1 z => ?_)
  obtain ⟨k, f1, rfl, hn1, g123, g0, ⟨fs, g101⟩, hM⟩ := z
  refine og_istore_5 (pc := 1461) dL_law_1461 rfl ?_
  refine og_aload_n (pc := 1463) dL_law_1463 rfl ?_
  refine og_aload_n (pc := 1464) dL_law_1464 rfl ?_
  refine og_iload (pc := 1465) dL_law_1465 rfl ?_
  refine og_iconst (pc := 1467) (v := 1) dL_law_1467 (by decide) ?_
  refine og_iadd (pc := 1468) dL_law_1468 ?_
  refine og_saldN (pc := 1469) (j := i + 1) (nI_add i 1) dL_law_1469 (g0.trans h0) (by omega) (by omega) (by omega) ?_
  refine og_callV (pc := 1470) (As := [.int (xs (i + 1))]) (rest := []) (hM.at 0) Y_X8_dimension I_X8_dimension V_X8_dimension g101 (by omega) rfl rfl K_L_175 dL_law_1470 rfl rfl (Nat.le_of_ble_eq_true rfl) (by omega) (by omega) (by omega) (fun _ _ _ z => z) (fun v n2 h2 z => ?_)
  obtain ⟨hnn, r, D2, M2, rfl, ⟨W2, g2, g20⟩, hrf, hans⟩ := z
  subst hnn
  refine og_istore_6 (pc := 1473) dL_law_1473 rfl ?_
  refine og_aload_n (pc := 1475) dL_law_1475 rfl ?_
  refine og_callV (pc := 1476) (As := []) (rest := []) (c_X8_thrown E 0 _ _ W2.2.1.m) Y_X8_thrown I_X8_thrown V_X8_thrown W2.2.1.m (by omega) rfl rfl K_L_117 dL_law_1476 rfl rfl (Nat.le_of_ble_eq_true rfl) (by omega) (by omega) (by omega) (fun _ _ _ z => z) (fun v n3 h3 z => ?_)
  obtain ⟨rfl, hn3, rfl⟩ := z
  subst hn3
  refine og_iload (pc := 1479) dL_law_1479 rfl ?_
  refine og_icmp_eq (pc := 1481) (tgt := 1486) dL_law_1481 (by decide) (fun _ => ?_) (fun c => absurd hrf c)
  refine og_iload (pc := 1486) dL_law_1486 rfl ?_
  refine og_if_ne (pc := 1488) (tgt := 1503) dL_law_1488 (by decide) (fun _ => ?_) (fun ck => ?_)
  · skip
    refine og_goto (pc := 1503) (tgt := 2054) dL_law_1503 (by decide) ?_
    refine og_forget_5 (og_forget_6 ?_)
    refine og_widen (k2 := cells + 180) (n2 := slots + 3000) (by omega) (by omega) ?_
    exact kk _ _ _ _ _ W2 (g2.trans g123) (g20.trans (g0.trans h0))
  · skip
    refine og_aload_n (pc := 1491) dL_law_1491 rfl ?_
    refine og_iconst (pc := 1492) (v := 0) dL_law_1492 (by decide) ?_
    refine og_laldN (pc := 1493) (j := 0) rfl dL_law_1493 (g2.trans g123) (by omega) (by omega) (by omega) ?_
    refine og_iload (pc := 1494) dL_law_1494 rfl ?_
    refine og_i2l (pc := 1496) dL_law_1496 rfl ?_
    refine og_lcmp (pc := 1497) dL_law_1497 ?_
    refine og_if_eq (pc := 1498) (tgt := 1503) dL_law_1498 (by decide) (fun _ => ?_) (fun c => absurd ((og_cmp0 _ _).mpr (hans ck)) c)
    refine og_goto (pc := 1503) (tgt := 2054) dL_law_1503 (by decide) ?_
    refine og_forget_5 (og_forget_6 ?_)
    refine og_widen (k2 := cells + 180) (n2 := slots + 3000) (by omega) (by omega) ?_
    exact kk _ _ _ _ _ W2 (g2.trans g123) (g20.trans (g0.trans h0))
