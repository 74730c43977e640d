/-! ===== the law: acts, whole ===== -/
set_option maxHeartbeats 1000000 in
theorem c_L_acts (E : og_E) (d n L : Nat) (xs : Nat → Int32) (h : og_H) (D : q_D) (R g : Nat → Int32) (x : Int32) (W : y_wl L xs n h D R g) :
    og_M E yL_acts (.code yL_acts cL_acts 15 (some .boolean)) (d + 7) [.ref 3, .ref 102, .ref 103, .ref 101, .int x] n h 300 2500 (fun v n1 h1 => v = some (.int 1) ∧ ∃ D1 R1 g1, y_wl L xs n1 h1 D1 R1 g1) no_x := by
  refine og_start (lv := [some (.ref 3), some (.ref 102), some (.ref 103), some (.ref 101), some (.int x), none, none, none, none, none, none, none, none, none, none]) (by decide) rfl rfl (Nat.le_of_ble_eq_true rfl) fun X hr hnm htb => ?_
  refine og_iload (pc := 0) dL_acts_0 rfl ?_
  refine og_iconst (pc := 2) (v := 5) dL_acts_2 (by decide) ?_
  refine og_ishr (pc := 3) dL_acts_3 ?_
  refine og_ldc (pc := 4) IC_L_104 dL_acts_4 ?_
  refine og_callS (pc := 6) (As := [.int (x >>> (5 &&& 31)), .int 10000000]) (rest := []) (c_L_low E d n 10000000 h _ (by decide) (by decide)) Y_L_low S_L_low K_L_105 dL_acts_6 rfl rfl (Nat.le_of_ble_eq_true rfl) (by omega) (by omega) (by omega) (fun _ _ _ z => z) (fun v9 n9 h9 z9 => ?_)
  obtain ⟨e8, e9, v, hv, rfl⟩ := z9
  rw [e8, e9]
  refine og_istore_5 (pc := 9) dL_acts_9 rfl ?_
  refine og_iload (pc := 11) dL_acts_11 rfl ?_
  refine og_bipush (pc := 13) (v := 24) dL_acts_13 (by decide) ?_
  refine og_callS (pc := 15) (As := [.int x, .int 24]) (rest := []) (c_L_low E d n 24 h _ (by decide) (by decide)) Y_L_low S_L_low K_L_105 dL_acts_15 rfl rfl (Nat.le_of_ble_eq_true rfl) (by omega) (by omega) (by omega) (fun _ _ _ z => z) (fun v9 n9 h9 z9 => ?_)
  obtain ⟨e8, e9, w, hw, rfl⟩ := z9
  rw [e8, e9]
  have ea : nI v - nI v / 8 * 8 = nI (v % 8) := nI_mod (b := 8) (by omega) (by omega) (by omega)
  have eb : nI v / 8 - nI v / 8 / 8 * 8 = nI (v / 8 % 8) := by
    rw [show nI v / 8 = nI (v / 8) from nI_div (b := 8) (by omega) (by omega) (by omega)]
    exact nI_mod (b := 8) (by omega) (by omega) (by omega)
  have er : nI v / 64 - nI v / 64 / 8 * 8 = nI (v / 64 % 8) := by
    rw [show nI v / 64 = nI (v / 64) from nI_div (b := 64) (by omega) (by omega) (by omega)]
    exact nI_mod (b := 8) (by omega) (by omega) (by omega)
  have a8 : v % 8 < 8 := Nat.mod_lt _ (by omega)
  have b8 : v / 8 % 8 < 8 := Nat.mod_lt _ (by omega)
  have r8 : v / 64 % 8 < 8 := Nat.mod_lt _ (by omega)
  refine og_istore_6 (pc := 18) dL_acts_18 rfl ?_
  refine og_iload (pc := 20) dL_acts_20 rfl ?_
  refine og_bipush (pc := 22) (v := 8) dL_acts_22 (by decide) ?_
  refine og_irem (pc := 24) dL_acts_24 (by decide) ?_
  rw [ea]
  refine og_istore_7 (pc := 25) dL_acts_25 rfl ?_
  refine og_iload (pc := 27) dL_acts_27 rfl ?_
  refine og_bipush (pc := 29) (v := 8) dL_acts_29 (by decide) ?_
  refine og_idiv (pc := 31) dL_acts_31 (by decide) ?_
  refine og_bipush (pc := 32) (v := 8) dL_acts_32 (by decide) ?_
  refine og_irem (pc := 34) dL_acts_34 (by decide) ?_
  rw [eb]
  refine og_istore_8 (pc := 35) dL_acts_35 rfl ?_
  refine og_iload (pc := 37) dL_acts_37 rfl ?_
  refine og_bipush (pc := 39) (v := 64) dL_acts_39 (by decide) ?_
  refine og_idiv (pc := 41) dL_acts_41 (by decide) ?_
  refine og_bipush (pc := 42) (v := 8) dL_acts_42 (by decide) ?_
  refine og_irem (pc := 44) dL_acts_44 (by decide) ?_
  rw [er]
  generalize v % 8 = a at a8 ⊢
  generalize v / 8 % 8 = b at b8 ⊢
  generalize v / 64 % 8 = r at r8 ⊢
  refine og_istore_9 (pc := 45) dL_acts_45 rfl ?_
  refine og_iload (pc := 47) dL_acts_47 rfl ?_
  refine og_iconst (pc := 49) (v := 3) dL_acts_49 (by decide) ?_
  refine og_geN (pc := 50) (tgt := 138) (i := w) (N := 3) dL_acts_50 (by decide) rfl rfl (by omega) (by omega) (fun c_50 => ?_) (fun c_50 => ?_)
  rotate_left
  · exact y_ac1 hr W hv a8 b8 r8
  refine og_iload (pc := 138) dL_acts_138 rfl ?_
  refine og_bipush (pc := 140) (v := 6) dL_acts_140 (by decide) ?_
  refine og_geN (pc := 142) (tgt := 277) (i := w) (N := 6) dL_acts_142 (by decide) rfl rfl (by omega) (by omega) (fun c_142 => ?_) (fun c_142 => ?_)
  rotate_left
  · exact y_ac2 hr W hv a8 b8 r8
  refine og_iload (pc := 277) dL_acts_277 rfl ?_
  refine og_bipush (pc := 279) (v := 6) dL_acts_279 (by decide) ?_
  refine og_icmp_ne (pc := 281) (tgt := 311) dL_acts_281 (by decide) (fun _ => ?_) (fun _ => y_ac3 hr W hv a8 b8 r8)
  refine og_iload (pc := 311) dL_acts_311 rfl ?_
  refine og_bipush (pc := 313) (v := 9) dL_acts_313 (by decide) ?_
  refine og_geN (pc := 315) (tgt := 434) (i := w) (N := 9) dL_acts_315 (by decide) rfl rfl (by omega) (by omega) (fun c_315 => ?_) (fun c_315 => ?_)
  rotate_left
  · exact y_ac4 hr W hv a8 b8 r8
  refine og_iload (pc := 434) dL_acts_434 rfl ?_
  refine og_bipush (pc := 436) (v := 12) dL_acts_436 (by decide) ?_
  refine og_geN (pc := 438) (tgt := 551) (i := w) (N := 12) dL_acts_438 (by decide) rfl rfl (by omega) (by omega) (fun c_438 => ?_) (fun c_438 => ?_)
  rotate_left
  · exact y_ac5 hr W hv a8 b8 r8
  refine og_iload (pc := 551) dL_acts_551 rfl ?_
  refine og_bipush (pc := 553) (v := 15) dL_acts_553 (by decide) ?_
  refine og_geN (pc := 555) (tgt := 683) (i := w) (N := 15) dL_acts_555 (by decide) rfl rfl (by omega) (by omega) (fun c_555 => ?_) (fun c_555 => ?_)
  rotate_left
  · exact y_ac6 hr W hv a8 b8 r8
  refine og_iload (pc := 683) dL_acts_683 rfl ?_
  refine og_bipush (pc := 685) (v := 15) dL_acts_685 (by decide) ?_
  refine og_icmp_ne (pc := 687) (tgt := 749) dL_acts_687 (by decide) (fun _ => ?_) (fun _ => y_ac7 hr W hv a8 b8 r8)
  refine og_iload (pc := 749) dL_acts_749 rfl ?_
  refine og_bipush (pc := 751) (v := 18) dL_acts_751 (by decide) ?_
  refine og_geN (pc := 753) (tgt := 842) (i := w) (N := 18) dL_acts_753 (by decide) rfl rfl (by omega) (by omega) (fun c_753 => ?_) (fun c_753 => ?_)
  rotate_left
  · exact y_ac8 hr W hv a8 b8 r8
  refine og_iload (pc := 842) dL_acts_842 rfl ?_
  refine og_bipush (pc := 844) (v := 18) dL_acts_844 (by decide) ?_
  refine og_icmp_ne (pc := 846) (tgt := 972) dL_acts_846 (by decide) (fun _ => y_ac10 hr W hv a8 b8 r8) (fun _ => y_ac9 hr W hv a8 b8 r8)
