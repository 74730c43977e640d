/-! ===== the law: its loop ===== -/
def lawStep (E : og_E) (X : og_X) (Q : State → Prop) (d mc ms L : Nat) (xs : Nat → Int32) (pc : Nat) : Prop := ∀ (cells slots n i : Nat) (h : og_H) (D : q_D) (M : q_M) (f : Nat → Int64), zW n h D M → h 123 = some (row1 f) → h 0 = some (rowI L xs) → i + 7 ≤ L → cells + 180 ≤ mc → slots + 3000 ≤ ms →
    (∀ n2 h2 D2 M2 f2, zW n2 h2 D2 M2 → h2 123 = some (row1 f2) → h2 0 = some (rowI L xs) → og_G E RL cL_law d mc ms 8 X Q (cells + 180) (slots + 3000) n2 h2 2054 [some (.ref 0), some (.ref 3), some (.ref 101), some (.ref 123), some (.int (nI i)), none, none, none] []) →
    og_G E RL cL_law d mc ms 8 X Q cells slots n h pc [some (.ref 0), some (.ref 3), some (.ref 101), some (.ref 123), some (.int (nI i)), none, none, none] []
theorem and31 (y : Int32) : ∃ t, t < 32 ∧ y &&& 31 = nI t := by
  have h : (y &&& 31).toBitVec.toNat ≤ 31 := by
    rw [Int32.toBitVec_and, BitVec.toNat_and]
    exact Nat.and_le_right
  refine ⟨(y &&& 31).toBitVec.toNat, by omega, ?_⟩
  apply Int32.toInt_inj.mp
  have e : (y &&& 31).toInt = (y &&& 31).toBitVec.toInt := rfl
  rw [e, BitVec.toInt_eq_toNat_of_lt (by omega), nI_toInt (by omega)]
theorem law_gt {i L : Nat} (hi : i < 100000) (hL : L ≤ 3584) (h : ¬ nI L - 7 < nI i) : i + 7 ≤ L := by
  have h2 : ¬ (nI L - 7).toInt < (nI i).toInt := fun q => h (Int32.lt_iff_toInt_lt.mpr q)
  rw [Int32.toInt_sub, nI_toInt (by omega), nI_toInt (by omega), show (7 : Int32).toInt = 7 from rfl, Int.bmod_eq_of_le (by omega) (by omega)] at h2
  omega
set_option maxRecDepth 4000 in
theorem law_loop {E : og_E} {X : og_X} {Q : State → Prop} {d mc ms L : Nat} {xs : Nat → Int32} (hL : L ≤ 3584) (hd : 40 ≤ d) (HA : lawStep E X Q d mc ms L xs 1581) (HD : lawStep E X Q d mc ms L xs 1450)
    (kend : ∀ (cells slots n : Nat) (h : og_H) (lv : List (Option Value)), cells ≤ mc → slots ≤ ms → og_G E RL cL_law d mc ms 8 X Q cells slots n h 2060 lv []) : ∀ (m cells slots n i : Nat) (h : og_H) (D : q_D) (M : q_M) (f : Nat → Int64), zW n h D M → h 123 = some (row1 f) → h 0 = some (rowI L xs) → L < i + 7 * m + 7 → i ≤ L + 7 → cells + 180 * m ≤ mc → slots + 3000 * m ≤ ms →
    og_G E RL cL_law d mc ms 8 X Q cells slots n h 23 [some (.ref 0), some (.ref 3), some (.ref 101), some (.ref 123), some (.int (nI i)), none, none, none] [] := by
  intro m
  induction m with
  | zero =>
    intro cells slots n i h D M f W h123 h0 hm hi hc hs
    refine og_iload (pc := 23) dL_law_23 rfl ?_
    refine og_aload_n (pc := 25) dL_law_25 rfl ?_
    refine og_slen (pc := 26) dL_law_26 h0 (by omega) ?_
    refine og_bipush (pc := 27) (v := 7) dL_law_27 (by decide) ?_
    refine og_isub (pc := 29) dL_law_29 ?_
    refine og_icmp_gt (pc := 30) (tgt := 2060) dL_law_30 (by decide) (fun _ => kend _ _ _ _ _ (by omega) (by omega)) (fun c => ?_)
    exact absurd (law_gt (by omega) hL c) (by omega)
  | succ m ih =>
    intro cells slots n i h D M f W h123 h0 hm hi hc hs
    refine og_iload (pc := 23) dL_law_23 rfl ?_
    refine og_aload_n (pc := 25) dL_law_25 rfl ?_
    refine og_slen (pc := 26) dL_law_26 h0 (by omega) ?_
    refine og_bipush (pc := 27) (v := 7) dL_law_27 (by decide) ?_
    refine og_isub (pc := 29) dL_law_29 ?_
    refine og_icmp_gt (pc := 30) (tgt := 2060) dL_law_30 (by decide) (fun _ => kend _ _ _ _ _ (by omega) (by omega)) (fun c => ?_)
    have hi7 := law_gt (by omega) hL c
    refine og_aload_n (pc := 33) dL_law_33 rfl ?_
    refine og_iload (pc := 34) dL_law_34 rfl ?_
    refine og_saldN (pc := 36) (j := i) rfl dL_law_36 h0 (by omega) (by omega) (by omega) ?_
    refine og_bipush (pc := 37) (v := 31) dL_law_37 (by decide) ?_
    refine og_iand (pc := 39) dL_law_39 ?_
    have kk : ∀ n2 h2 D2 M2 f2, zW n2 h2 D2 M2 → h2 123 = some (row1 f2) → h2 0 = some (rowI L xs) → og_G E RL cL_law d mc ms 8 X Q (cells + 180) (slots + 3000) n2 h2 2054 [some (.ref 0), some (.ref 3), some (.ref 101), some (.ref 123), some (.int (nI i)), none, none, none] [] := by
      intro n2 h2 D2 M2 f2 W2 a b
      refine og_iinc_4 (pc := 2054) dL_law_2054 (nI_add i 7) rfl ?_
      refine og_goto (pc := 2057) (tgt := 23) dL_law_2057 (by decide) ?_
      exact ih (cells + 180) (slots + 3000) n2 (i + 7) h2 D2 M2 f2 W2 a b (by omega) (by omega) (by omega) (by omega)
    have hc2 : cells + 180 ≤ mc := by omega
    have hs2 : slots + 3000 ≤ ms := Nat.le_trans (Nat.add_le_add_left (show 3000 ≤ 3000 * (m + 1) from by rw [Nat.mul_succ]; exact Nat.le_add_left _ _) slots) hs
    obtain ⟨t, ht, et⟩ := and31 (xs i)
    rw [et]
    match t, ht with
    | 0, _ => exact og_tableIn (pc := 40) (tgt := 172) (off := 132) dL_law_40 (by decide) (by decide) (by decide) (by decide) (law_set W h123 h0 hi7 hL hd hc2 hs2 kk)
    | 1, _ => exact og_tableIn (pc := 40) (tgt := 252) (off := 212) dL_law_40 (by decide) (by decide) (by decide) (by decide) (law_setFour W h123 h0 hi7 hL hd hc2 hs2 kk)
    | 2, _ => exact og_tableIn (pc := 40) (tgt := 385) (off := 345) dL_law_40 (by decide) (by decide) (by decide) (by decide) (law_setOrder W h123 h0 hi7 hL hd hc2 hs2 kk)
    | 3, _ => exact og_tableIn (pc := 40) (tgt := 441) (off := 401) dL_law_40 (by decide) (by decide) (by decide) (by decide) (law_load W h123 h0 hi7 hL hd hc2 hs2 kk)
    | 4, _ => exact og_tableIn (pc := 40) (tgt := 509) (off := 469) dL_law_40 (by decide) (by decide) (by decide) (by decide) (law_add W h123 h0 hi7 hL hd hc2 hs2 kk)
    | 5, _ => exact og_tableIn (pc := 40) (tgt := 616) (off := 576) dL_law_40 (by decide) (by decide) (by decide) (by decide) (law_multiply W h123 h0 hi7 hL hd hc2 hs2 kk)
    | 6, _ => exact og_tableIn (pc := 40) (tgt := 695) (off := 655) dL_law_40 (by decide) (by decide) (by decide) (by decide) (law_conjugate W h123 h0 hi7 hL hd hc2 hs2 kk)
    | 7, _ => exact og_tableIn (pc := 40) (tgt := 751) (off := 711) dL_law_40 (by decide) (by decide) (by decide) (by decide) (law_commutator W h123 h0 hi7 hL hd hc2 hs2 kk)
    | 8, _ => exact og_tableIn (pc := 40) (tgt := 830) (off := 790) dL_law_40 (by decide) (by decide) (by decide) (by decide) (law_associator W h123 h0 hi7 hL hd hc2 hs2 kk)
    | 9, _ => exact og_tableIn (pc := 40) (tgt := 921) (off := 881) dL_law_40 (by decide) (by decide) (by decide) (by decide) (law_divide W h123 h0 hi7 hL hd hc2 hs2 kk)
    | 10, _ => exact og_tableIn (pc := 40) (tgt := 1012) (off := 972) dL_law_40 (by decide) (by decide) (by decide) (by decide) (law_coordinate W h123 h0 hi7 hL hd hc2 hs2 kk)
    | 11, _ => exact og_tableIn (pc := 40) (tgt := 1080) (off := 1040) dL_law_40 (by decide) (by decide) (by decide) (by decide) (law_norm W h123 h0 hi7 hL hd hc2 hs2 kk)
    | 12, _ => exact og_tableIn (pc := 40) (tgt := 1135) (off := 1095) dL_law_40 (by decide) (by decide) (by decide) (by decide) (law_dot W h123 h0 hi7 hL hd hc2 hs2 kk)
    | 13, _ => exact og_tableIn (pc := 40) (tgt := 1202) (off := 1162) dL_law_40 (by decide) (by decide) (by decide) (by decide) (law_ordersOf W h123 h0 hi7 hL hd hc2 hs2 kk)
    | 14, _ => exact og_tableIn (pc := 40) (tgt := 1258) (off := 1218) dL_law_40 (by decide) (by decide) (by decide) (by decide) (law_left W h123 h0 hi7 hL hd hc2 hs2 kk)
    | 15, _ => exact og_tableIn (pc := 40) (tgt := 1338) (off := 1298) dL_law_40 (by decide) (by decide) (by decide) (by decide) (law_unitOf W h123 h0 hi7 hL hd hc2 hs2 kk)
    | 16, _ => exact og_tableIn (pc := 40) (tgt := 1394) (off := 1354) dL_law_40 (by decide) (by decide) (by decide) (by decide) (law_value W h123 h0 hi7 hL hd hc2 hs2 kk)
    | 17, _ => exact og_tableIn (pc := 40) (tgt := 1450) (off := 1410) dL_law_40 (by decide) (by decide) (by decide) (by decide) (HD _ _ _ i _ _ _ _ W h123 h0 hi7 hc2 hs2 kk)
    | 18, _ => exact og_tableIn (pc := 40) (tgt := 1506) (off := 1466) dL_law_40 (by decide) (by decide) (by decide) (by decide) (law_commute W h123 h0 hi7 hL hd hc2 hs2 kk)
    | 19, _ => exact og_tableIn (pc := 40) (tgt := 1581) (off := 1541) dL_law_40 (by decide) (by decide) (by decide) (by decide) (HA _ _ _ i _ _ _ _ W h123 h0 hi7 hc2 hs2 kk)
    | 20, _ => exact og_tableIn (pc := 40) (tgt := 1668) (off := 1628) dL_law_40 (by decide) (by decide) (by decide) (by decide) (law_elements W h123 h0 hi7 hL hd hc2 hs2 kk)
    | 21, _ => exact og_tableIn (pc := 40) (tgt := 1723) (off := 1683) dL_law_40 (by decide) (by decide) (by decide) (by decide) (law_steps W h123 h0 hi7 hL hd hc2 hs2 kk)
    | 22, _ => exact og_tableIn (pc := 40) (tgt := 1791) (off := 1751) dL_law_40 (by decide) (by decide) (by decide) (by decide) (law_lastNorm W h123 h0 hi7 hL hd hc2 hs2 kk)
    | 23, _ => exact og_tableIn (pc := 40) (tgt := 1858) (off := 1818) dL_law_40 (by decide) (by decide) (by decide) (by decide) (law_commuting W h123 h0 hi7 hL hd hc2 hs2 kk)
    | 24, _ => exact og_tableIn (pc := 40) (tgt := 1914) (off := 1874) dL_law_40 (by decide) (by decide) (by decide) (by decide) (law_append W h123 h0 hi7 hL hd hc2 hs2 kk)
    | 25, _ => exact og_tableIn (pc := 40) (tgt := 1970) (off := 1930) dL_law_40 (by decide) (by decide) (by decide) (by decide) (law_clearText W h123 h0 hi7 hL hd hc2 hs2 kk)
    | 26, _ => exact og_tableIn (pc := 40) (tgt := 1983) (off := 1943) dL_law_40 (by decide) (by decide) (by decide) (by decide) (law_carryOut W h123 h0 hi7 hL hd hc2 hs2 kk)
    | 27, _ => exact og_tableIn (pc := 40) (tgt := 1996) (off := 1956) dL_law_40 (by decide) (by decide) (by decide) (by decide) (law_undo W h123 h0 hi7 hL hd hc2 hs2 kk)
    | 28, _ => exact og_tableIn (pc := 40) (tgt := 2040) (off := 2000) dL_law_40 (by decide) (by decide) (by decide) (by decide) (law_digest W h123 h0 hi7 hL hd hc2 hs2 kk)
    | 29, _ => exact og_tableOut (pc := 40) (tgt := 2054) dL_law_40 (Or.inr (by decide)) (by decide) (og_widen (k2 := cells + 180) (n2 := slots + 3000) (by omega) (by omega) (kk _ _ _ _ _ W h123 h0))
    | 30, _ => exact og_tableOut (pc := 40) (tgt := 2054) dL_law_40 (Or.inr (by decide)) (by decide) (og_widen (k2 := cells + 180) (n2 := slots + 3000) (by omega) (by omega) (kk _ _ _ _ _ W h123 h0))
    | 31, _ => exact og_tableOut (pc := 40) (tgt := 2054) dL_law_40 (Or.inr (by decide)) (by decide) (og_widen (k2 := cells + 180) (n2 := slots + 3000) (by omega) (by omega) (kk _ _ _ _ _ W h123 h0))
    | t + 32, h => omega
