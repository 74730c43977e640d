/-! ===== the desk: divide, steps, lastNorm ===== -/
def q_S1 (k : Nat) : Prop := (57 ≤ k ∧ k < 59) ∨ (61 ≤ k ∧ k < 64) ∨ (65 ≤ k ∧ k < 67) ∨ (68 ≤ k ∧ k < 70)
theorem og_DK.S1 {h0 : og_H} {n0 n : Nat} {h : og_H} {D : q_D} (w : og_DK h0 n0 n h D) {h1 : og_H} (hS : ∀ k, (57 ≤ k ∧ k < 59) ∨ (61 ≤ k ∧ k < 64) ∨ (65 ≤ k ∧ k < 67) ∨ (68 ≤ k ∧ k < 70) → ∃ f, h1 k = some (rowL f)) (hF : ∀ k, ¬ ((57 ≤ k ∧ k < 59) ∨ (61 ≤ k ∧ k < 64) ∨ (65 ≤ k ∧ k < 67) ∨ (68 ≤ k ∧ k < 70)) → h1 k = h k) : og_DK h0 n0 n h1 D := by
  refine w.keep (Nat.le_refl _) (fun a _ ha => hF a (by unfold q_scr at ha; omega)) (fun a ha => ?_)
  by_cases q : (57 ≤ a ∧ a < 59) ∨ (61 ≤ a ∧ a < 64) ∨ (65 ≤ a ∧ a < 67) ∨ (68 ≤ a ∧ a < 70)
  · exact hS a q
  · rw [hF a q]
    exact w.scr a ha
theorem og_DK.S2 {h0 : og_H} {n0 n : Nat} {h : og_H} {D : q_D} (w : og_DK h0 n0 n h D) {h1 : og_H} (hS : ∀ k, (57 ≤ k ∧ k < 64) ∨ (65 ≤ k ∧ k < 67) ∨ (68 ≤ k ∧ k < 70) → ∃ f, h1 k = some (rowL f)) (hF : ∀ k, ¬ ((57 ≤ k ∧ k < 64) ∨ (65 ≤ k ∧ k < 67) ∨ (68 ≤ k ∧ k < 70)) → h1 k = h k) : og_DK h0 n0 n h1 D := by
  refine w.keep (Nat.le_refl _) (fun a _ ha => hF a (by unfold q_scr at ha; omega)) (fun a ha => ?_)
  by_cases q : (57 ≤ a ∧ a < 64) ∨ (65 ≤ a ∧ a < 67) ∨ (68 ≤ a ∧ a < 70)
  · exact hS a q
  · rw [hF a q]
    exact w.scr a ha
/-- may be divided in the present order -/
def q_div (D : q_D) (a b : Nat) : Prop := q_al (d_o D) (d_R D a) ∧ q_al (d_o D) (d_R D b) ∧ ¬ q_zr (d_R D b)
noncomputable abbrev d_quo (D : q_D) (a b : Nat) : Nat → Int64 := q_quo (d_R D a) (d_R D b) (d_o D)
noncomputable abbrev d_rem (D : q_D) (a b : Nat) : Nat → Int64 := q_rem (d_R D a) (d_R D b) (d_o D)
set_option maxRecDepth 4000 in
theorem c_X7_divide (E : og_E) (d n : Nat) (h : og_H) (x y t u : Int32) {h0 : og_H} {n0 : Nat} {D : q_D} (w : og_DK h0 n0 n h D) (hpos : ∀ r, r < 8 → ¬ q_zr (d_R D r) → 0 < q_inner (d_R D r) (d_R D r) 8) :
    og_M E yX7_divide (.code yX7_divide cX7_divide 5 (some .long)) (d + 5) [.ref 3, .int x, .int y, .int t, .int u] n h 7 42 (fun v n1 h1 => ∃ a b k l, a < 8 ∧ b < 8 ∧ k < 8 ∧ l < 8 ∧ x = nI a ∧ y = nI b ∧ t = nI k ∧ u = nI l ∧ k ≠ l ∧ q_div D a b ∧ q_fitx 0 (d_quo D a b) ∧ q_fitx 0 (d_rem D a b) ∧ v = some (.long (q_inner (q_fv 0 (d_rem D a b)) (q_fv 0 (d_rem D a b)) 8)) ∧ og_DK h0 n0 n1 h1 (d_reg (d_reg (d_wSt (q_save D) ((d_st D).1, (d_st D).2.1, (d_st D).2.2.1, (d_st D).2.2.2 + 1)) k (q_fv 0 (d_quo D a b))) l (q_fv 0 (d_rem D a b)))) (fun En n1 h1 => og_DK h0 n0 n1 h1 D ∧ ((En = q_io ∧ ¬ (q_in8 x ∧ q_in8 y ∧ q_in8 t ∧ q_in8 u)) ∨ (∃ a b k l, a < 8 ∧ b < 8 ∧ k < 8 ∧ l < 8 ∧ x = nI a ∧ y = nI b ∧ t = nI k ∧ u = nI l ∧ ((En = q_ia ∧ k = l) ∨ (En = q_ist ∧ k ≠ l ∧ ¬ q_div D a b) ∨ (En = q_ae ∧ k ≠ l ∧ q_div D a b ∧ ¬ (q_fitx 0 (d_quo D a b) ∧ q_fitx 0 (d_rem D a b))))))) := by
  refine og_start (lv := [some (.ref 3), some (.int x), some (.int y), some (.int t), some (.int u)]) (by decide) rfl rfl (Nat.le_of_ble_eq_true rfl) fun X hr hnm htb => ?_
  refine og_iload_n (pc := 0) dX7_divide_0 rfl ?_
  refine og_callSX (pc := 1) (As := [.int x]) (rest := []) (c_X7_needRegister E d n h x) Y_X7_needRegister S_X7_needRegister K_X7_65 dX7_divide_1 rfl rfl (Nat.le_of_ble_eq_true rfl) (by omega) (by omega) (by omega) (htb) (by omega) (by omega) (fun En n1 h1 z => ?_) (fun v n1 h1 z => ?_)
  · obtain ⟨rfl, hn, rfl, hb⟩ := z
    exact ⟨w.more hn, Or.inl ⟨rfl, fun q => hb q.1⟩⟩
  obtain ⟨rfl, hn, hh, hx⟩ := z
  subst hn hh
  refine og_iload_n (pc := 4) dX7_divide_4 rfl ?_
  refine og_callSX (pc := 5) (As := [.int y]) (rest := []) (c_X7_needRegister E d n1 h1 y) Y_X7_needRegister S_X7_needRegister K_X7_65 dX7_divide_5 rfl rfl (Nat.le_of_ble_eq_true rfl) (by omega) (by omega) (by omega) (htb) (by omega) (by omega) (fun En n1 h1 z => ?_) (fun v n2 h2 z => ?_)
  · obtain ⟨rfl, hn, rfl, hb⟩ := z
    exact ⟨w.more hn, Or.inl ⟨rfl, fun q => hb q.2.1⟩⟩
  obtain ⟨rfl, hn, hh, hy⟩ := z
  subst hn hh
  refine og_iload_n (pc := 8) dX7_divide_8 rfl ?_
  refine og_callSX (pc := 9) (As := [.int t]) (rest := []) (c_X7_needRegister E d n2 h2 t) Y_X7_needRegister S_X7_needRegister K_X7_65 dX7_divide_9 rfl rfl (Nat.le_of_ble_eq_true rfl) (by omega) (by omega) (by omega) (htb) (by omega) (by omega) (fun En n1 h1 z => ?_) (fun v n3 h3 z => ?_)
  · obtain ⟨rfl, hn, rfl, hb⟩ := z
    exact ⟨w.more hn, Or.inl ⟨rfl, fun q => hb q.2.2.1⟩⟩
  obtain ⟨rfl, hn, hh, ht⟩ := z
  subst hn hh
  refine og_iload (pc := 12) dX7_divide_12 rfl ?_
  refine og_callSX (pc := 14) (As := [.int u]) (rest := []) (c_X7_needRegister E d n3 h3 u) Y_X7_needRegister S_X7_needRegister K_X7_65 dX7_divide_14 rfl rfl (Nat.le_of_ble_eq_true rfl) (by omega) (by omega) (by omega) (htb) (by omega) (by omega) (fun En n1 h1 z => ?_) (fun v n4 h4 z => ?_)
  · obtain ⟨rfl, hn, rfl, hb⟩ := z
    exact ⟨w.more hn, Or.inl ⟨rfl, fun q => hb q.2.2.2⟩⟩
  obtain ⟨rfl, hn, hh, hu⟩ := z
  subst hn hh
  obtain ⟨a, ha8, rfl⟩ := hx
  obtain ⟨b, hb8, rfl⟩ := hy
  obtain ⟨k, hk8, rfl⟩ := ht
  obtain ⟨l, hl8, rfl⟩ := hu
  refine og_iload_n (pc := 17) dX7_divide_17 rfl ?_
  refine og_iload (pc := 18) dX7_divide_18 rfl ?_
  refine og_icmp_ne (pc := 20) (tgt := 33) dX7_divide_20 (by decide) (fun ckl => ?_) (fun ckl => ?_)
  rotate_left
  · have hkl := (nI_eq (by omega) (by omega)).mp ckl
    exact og_throw (pc := 23) (text := "quotient and remainder are the same register") T_iae (by decide +kernel) htb dX7_divide_23 dX7_divide_26 dX7_divide_27 dX7_divide_29 dX7_divide_32 (by decide) (by omega) (by omega) (fun n1 hn => ⟨w.more hn, Or.inr ⟨a, b, k, l, ha8, hb8, hk8, hl8, rfl, rfl, rfl, rfl, Or.inl ⟨rfl, hkl⟩⟩⟩)
  have hkl : k ≠ l := fun q => ckl (by rw [q])
  refine og_aload_n (pc := 33) dX7_divide_33 rfl ?_
  refine og_iload_n (pc := 34) dX7_divide_34 rfl ?_
  refine og_iload_n (pc := 35) dX7_divide_35 rfl ?_
  refine og_callVX (pc := 36) (As := [.int (nI a), .int (nI b)]) (rest := []) (c_X7_needDivisible E d n4 a b h4 w ha8 hb8) Y_X7_needDivisible I_X7_needDivisible V_X7_needDivisible w.d3 (by omega) rfl rfl K_X7_146 dX7_divide_36 rfl rfl (Nat.le_of_ble_eq_true rfl) (by omega) (by omega) (by omega) (htb) (by omega) (by omega) (fun En n1 h1 z => ?_) (fun v n5 h5 z => ?_)
  · obtain ⟨rfl, hn, rfl, hb⟩ := z
    exact ⟨w.more hn, Or.inr ⟨a, b, k, l, ha8, hb8, hk8, hl8, rfl, rfl, rfl, rfl, Or.inr (Or.inl ⟨rfl, hkl, hb⟩)⟩⟩
  obtain ⟨rfl, hn, hh, hdiv⟩ := z
  subst hn hh
  have hdiv : q_div D a b := hdiv
  have e3 := w.d3
  have e4 := w.e4
  have e5 := w.e5
  refine og_aload_n (pc := 39) dX7_divide_39 rfl ?_
  refine og_get (pc := 40) F_X7_33 dX7_divide_40 (by repeat (first | exact og_set_eq _ _ _ | assumption | refine (og_set_ne _ _ (by first | assumption | omega)).trans ?_)) (by omega) rfl ?_
  refine og_aload_n (pc := 43) dX7_divide_43 rfl ?_
  refine og_get (pc := 44) F_X7_10 dX7_divide_44 (by repeat (first | exact og_set_eq _ _ _ | assumption | refine (og_set_ne _ _ (by first | assumption | omega)).trans ?_)) (by omega) rfl ?_
  refine og_get (pc := 47) F_X7_78 dX7_divide_47 (by repeat (first | exact og_set_eq _ _ _ | assumption | refine (og_set_ne _ _ (by first | assumption | omega)).trans ?_)) (by omega) rfl ?_
  refine og_iload_n (pc := 50) dX7_divide_50 rfl ?_
  refine og_aaldN (pc := 51) rfl dX7_divide_51 (by repeat (first | exact og_set_eq _ _ _ | assumption | refine (og_set_ne _ _ (by first | assumption | omega)).trans ?_)) (by omega) (by decide) (by decide) (by omega) (by first | decide | assumption | omega) (q_g8 ha8) ?_
  refine og_aload_n (pc := 52) dX7_divide_52 rfl ?_
  refine og_get (pc := 53) F_X7_10 dX7_divide_53 (by repeat (first | exact og_set_eq _ _ _ | assumption | refine (og_set_ne _ _ (by first | assumption | omega)).trans ?_)) (by omega) rfl ?_
  refine og_get (pc := 56) F_X7_78 dX7_divide_56 (by repeat (first | exact og_set_eq _ _ _ | assumption | refine (og_set_ne _ _ (by first | assumption | omega)).trans ?_)) (by omega) rfl ?_
  refine og_iload_n (pc := 59) dX7_divide_59 rfl ?_
  refine og_aaldN (pc := 60) rfl dX7_divide_60 (by repeat (first | exact og_set_eq _ _ _ | assumption | refine (og_set_ne _ _ (by first | assumption | omega)).trans ?_)) (by omega) (by decide) (by decide) (by omega) (by first | decide | assumption | omega) (q_g8 hb8) ?_
  refine og_aload_n (pc := 61) dX7_divide_61 rfl ?_
  refine og_get (pc := 62) F_X7_10 dX7_divide_62 (by repeat (first | exact og_set_eq _ _ _ | assumption | refine (og_set_ne _ _ (by first | assumption | omega)).trans ?_)) (by omega) rfl ?_
  refine og_get (pc := 65) F_X7_93 dX7_divide_65 (by repeat (first | exact og_set_eq _ _ _ | assumption | refine (og_set_ne _ _ (by first | assumption | omega)).trans ?_)) (by omega) rfl ?_
  refine og_callV (pc := 68) (As := [.ref (4 + 2 + a), .ref (4 + 2 + b), .int (nI (d_o D))]) (rest := []) (c_X1_work E d n5 (4 + 2 + a) (4 + 2 + b) (d_o D) h5 _ _ w.tr w.se w.ok.1 (w.r ha8) (w.r hb8) (by omega) (by omega) (Or.inl (by omega)) (Or.inl (by omega)) w.d56 w.g64 w.g67 (fun k hk => w.scr k (by unfold q_scr; omega)) (hpos b hb8 hdiv.2.2)) Y_X1_work I_X1_work V_X1_work w.d56 (by omega) rfl rfl K_X7_150 dX7_divide_68 rfl rfl (Nat.le_of_ble_eq_true rfl) (by omega) (by omega) (by omega) (fun _ _ _ z => z) (fun v n6 h6 z => ?_)
  obtain ⟨rfl, hn, e57, e58, wS, wF⟩ := z
  subst hn
  have w := w.S1 wS wF
  have bad : ∀ (n7 : Nat) (h7 : og_H), og_DK h0 n0 n7 h7 D → ¬ (q_fitx 0 (d_quo D a b) ∧ q_fitx 0 (d_rem D a b)) → og_DK h0 n0 n7 h7 D ∧ ((q_ae = q_io ∧ ¬ (q_in8 (nI a) ∧ q_in8 (nI b) ∧ q_in8 (nI k) ∧ q_in8 (nI l))) ∨ (∃ a2 b2 k2 l2, a2 < 8 ∧ b2 < 8 ∧ k2 < 8 ∧ l2 < 8 ∧ nI a = nI a2 ∧ nI b = nI b2 ∧ nI k = nI k2 ∧ nI l = nI l2 ∧ ((q_ae = q_ia ∧ k2 = l2) ∨ (q_ae = q_ist ∧ k2 ≠ l2 ∧ ¬ q_div D a2 b2) ∨ (q_ae = q_ae ∧ k2 ≠ l2 ∧ q_div D a2 b2 ∧ ¬ (q_fitx 0 (d_quo D a2 b2) ∧ q_fitx 0 (d_rem D a2 b2)))))) := fun n7 h7 w7 hb => ⟨w7, Or.inr ⟨a, b, k, l, ha8, hb8, hk8, hl8, rfl, rfl, rfl, rfl, Or.inr (Or.inr ⟨rfl, hkl, hdiv, hb⟩)⟩⟩
  have e3 := w.d3
  have e56 := w.d56
  refine og_aload_n (pc := 71) dX7_divide_71 rfl ?_
  refine og_get (pc := 72) F_X7_33 dX7_divide_72 (by repeat (first | exact og_set_eq _ _ _ | assumption | refine (og_set_ne _ _ (by first | assumption | omega)).trans ?_)) (by omega) rfl ?_
  refine og_get (pc := 75) F_X7_154 dX7_divide_75 (by repeat (first | exact og_set_eq _ _ _ | assumption | refine (og_set_ne _ _ (by first | assumption | omega)).trans ?_)) (by omega) rfl ?_
  refine og_iconst (pc := 78) (v := 0) dX7_divide_78 (by decide) ?_
  refine og_callS (pc := 79) (As := [.ref 57, .int 0]) (rest := []) (c_X3_fit E d n6 57 h6 _ 0 e57 (by omega)) Y_X3_fit S_X3_fit K_X7_117 dX7_divide_79 rfl rfl (Nat.le_of_ble_eq_true rfl) (by omega) (by omega) (by omega) (fun _ _ _ z => z) (fun v n7 h7 z => ?_)
  obtain ⟨hn, z⟩ := z
  subst hn
  rcases z with ⟨rfl, hok, hh⟩ | ⟨rfl, ⟨m9, hm8, hbad⟩, g9, hh⟩
  rotate_left
  · have w := w.row g9 (show q_scr 57 by unfold q_scr; omega)
    rw [← hh] at w
    refine og_callSX (pc := 82) (As := [.int 0]) (rest := []) (c_X7_needFit E d n7 h7 0) Y_X7_needFit S_X7_needFit K_X7_121 dX7_divide_82 rfl rfl (Nat.le_of_ble_eq_true rfl) (by omega) (by omega) (by omega) (htb) (by omega) (by omega) (fun En n1 h1 z => ?_) (fun v n8 h8 z => ?_)
    · obtain ⟨rfl, hn, rfl, hb⟩ := z
      exact bad _ _ (w.more hn) fun q => hbad (q.1 m9 hm8)
    exact absurd rfl z.2.2.2
  have hq : q_fitx 0 (d_quo D a b) := hok
  have w := w.row (q_fv 0 (d_quo D a b)) (show q_scr 57 by unfold q_scr; omega)
  have e57 : h7 57 = some (rowL (q_fv 0 (d_quo D a b))) := by rw [hh]; exact og_set_eq _ _ _
  have e58 : h7 58 = some (rowL (d_rem D a b)) := by rw [hh, og_set_ne _ _ (by omega)]; exact e58
  rw [show og_set _ 57 (rowL (q_fv 0 (d_quo D a b))) = h7 from hh.symm] at w
  clear hh
  refine og_callSX (pc := 82) (As := [.int 1]) (rest := []) (c_X7_needFit E d n7 h7 1) Y_X7_needFit S_X7_needFit K_X7_121 dX7_divide_82 rfl rfl (Nat.le_of_ble_eq_true rfl) (by omega) (by omega) (by omega) (htb) (by omega) (by omega) (fun En n1 h1 z => ?_) (fun v n8 h8 z => ?_)
  · exact absurd z.2.2.2 (by decide)
  obtain ⟨rfl, hn, hh, -⟩ := z
  subst hn hh
  have e3 := w.d3
  have e56 := w.d56
  refine og_aload_n (pc := 85) dX7_divide_85 rfl ?_
  refine og_get (pc := 86) F_X7_33 dX7_divide_86 (by repeat (first | exact og_set_eq _ _ _ | assumption | refine (og_set_ne _ _ (by first | assumption | omega)).trans ?_)) (by omega) rfl ?_
  refine og_get (pc := 89) F_X7_157 dX7_divide_89 (by repeat (first | exact og_set_eq _ _ _ | assumption | refine (og_set_ne _ _ (by first | assumption | omega)).trans ?_)) (by omega) rfl ?_
  refine og_iconst (pc := 92) (v := 0) dX7_divide_92 (by decide) ?_
  refine og_callS (pc := 93) (As := [.ref 58, .int 0]) (rest := []) (c_X3_fit E d n8 58 h8 _ 0 e58 (by omega)) Y_X3_fit S_X3_fit K_X7_117 dX7_divide_93 rfl rfl (Nat.le_of_ble_eq_true rfl) (by omega) (by omega) (by omega) (fun _ _ _ z => z) (fun v n9 h9 z => ?_)
  obtain ⟨hn, z⟩ := z
  subst hn
  rcases z with ⟨rfl, hok, hh⟩ | ⟨rfl, ⟨m9, hm8, hbad⟩, g9, hh⟩
  rotate_left
  · have w := w.row g9 (show q_scr 58 by unfold q_scr; omega)
    rw [← hh] at w
    refine og_callSX (pc := 96) (As := [.int 0]) (rest := []) (c_X7_needFit E d n9 h9 0) Y_X7_needFit S_X7_needFit K_X7_121 dX7_divide_96 rfl rfl (Nat.le_of_ble_eq_true rfl) (by omega) (by omega) (by omega) (htb) (by omega) (by omega) (fun En n1 h1 z => ?_) (fun v n10 h10 z => ?_)
    · obtain ⟨rfl, hn, rfl, hb⟩ := z
      exact bad _ _ (w.more hn) fun q => hbad (q.2 m9 hm8)
    exact absurd rfl z.2.2.2
  have hrm : q_fitx 0 (d_rem D a b) := hok
  have w := w.row (q_fv 0 (d_rem D a b)) (show q_scr 58 by unfold q_scr; omega)
  have e57 : h9 57 = some (rowL (q_fv 0 (d_quo D a b))) := by rw [hh, og_set_ne _ _ (by omega)]; exact e57
  have e58 : h9 58 = some (rowL (q_fv 0 (d_rem D a b))) := by rw [hh]; exact og_set_eq _ _ _
  rw [show og_set _ 58 (rowL (q_fv 0 (d_rem D a b))) = h9 from hh.symm] at w
  clear hh
  refine og_callSX (pc := 96) (As := [.int 1]) (rest := []) (c_X7_needFit E d n9 h9 1) Y_X7_needFit S_X7_needFit K_X7_121 dX7_divide_96 rfl rfl (Nat.le_of_ble_eq_true rfl) (by omega) (by omega) (by omega) (htb) (by omega) (by omega) (fun En n1 h1 z => ?_) (fun v n10 h10 z => ?_)
  · exact absurd z.2.2.2 (by decide)
  obtain ⟨rfl, hn, hh, -⟩ := z
  subst hn hh
  refine og_aload_n (pc := 99) dX7_divide_99 rfl ?_
  refine og_callV (pc := 100) (As := []) (rest := []) (c_X7_saveState E d n10 h10 w) Y_X7_saveState I_X7_saveState V_X7_saveState w.d3 (by omega) rfl rfl K_X7_75 dX7_divide_100 rfl rfl (Nat.le_of_ble_eq_true rfl) (by omega) (by omega) (by omega) (fun _ _ _ z => z) (fun v n11 h11 z => ?_)
  obtain ⟨rfl, hn, w2, hfr⟩ := z
  subst hn
  have e57 := (hfr 57 (by unfold q_scr; omega)).trans e57
  have e58 := (hfr 58 (by unfold q_scr; omega)).trans e58
  have e3 := w2.d3
  have e4 : h11 4 = some (og_so 4 (d_st D)) := by rw [← q_save_st]; exact w2.e4
  refine og_aload_n (pc := 103) dX7_divide_103 rfl ?_
  refine og_get (pc := 104) F_X7_10 dX7_divide_104 (by repeat (first | exact og_set_eq _ _ _ | assumption | refine (og_set_ne _ _ (by first | assumption | omega)).trans ?_)) (by omega) rfl ?_
  refine og_dup (pc := 107) dX7_divide_107 rfl ?_
  refine og_get (pc := 108) F_X7_160 dX7_divide_108 (by repeat (first | exact og_set_eq _ _ _ | assumption | refine (og_set_ne _ _ (by first | assumption | omega)).trans ?_)) (by omega) rfl ?_
  refine og_iconst (pc := 111) (v := 1) dX7_divide_111 (by decide) ?_
  refine og_iadd (pc := 112) dX7_divide_112 ?_
  refine og_put (pc := 113) P_X7_160 dX7_divide_113 (by repeat (first | exact og_set_eq _ _ _ | assumption | refine (og_set_ne _ _ (by first | assumption | omega)).trans ?_)) (by omega) rfl rfl (Nat.le_of_ble_eq_true rfl) ?_
  have hst := q_save_st D
  have w2 := w2.obj (d_o D) (d_st D).2.2.1 ((d_st D).2.2.2 + 1) w.ok.1
  rw [hst] at w2
  refine og_abs (P := fun g => og_DK h0 n0 n11 g (d_wSt (q_save D) ((d_st D).1, d_o D, (d_st D).2.2.1, (d_st D).2.2.2 + 1)) ∧ g 57 = some (rowL (q_fv 0 (d_quo D a b))) ∧ g 58 = some (rowL (q_fv 0 (d_rem D a b)))) ⟨w2, (og_set_ne _ _ (by omega)).trans e57, (og_set_ne _ _ (by omega)).trans e58⟩ fun g ⟨w2, e57, e58⟩ => ?_
  have e3 := w2.d3
  have e4 := w2.e4
  have e5 := w2.e5
  have e56 := w2.d56
  refine og_aload_n (pc := 116) dX7_divide_116 rfl ?_
  refine og_get (pc := 117) F_X7_33 dX7_divide_117 (by repeat (first | exact og_set_eq _ _ _ | assumption | refine (og_set_ne _ _ (by first | assumption | omega)).trans ?_)) (by omega) rfl ?_
  refine og_get (pc := 120) F_X7_154 dX7_divide_120 (by repeat (first | exact og_set_eq _ _ _ | assumption | refine (og_set_ne _ _ (by first | assumption | omega)).trans ?_)) (by omega) rfl ?_
  refine og_aload_n (pc := 123) dX7_divide_123 rfl ?_
  refine og_get (pc := 124) F_X7_10 dX7_divide_124 (by repeat (first | exact og_set_eq _ _ _ | assumption | refine (og_set_ne _ _ (by first | assumption | omega)).trans ?_)) (by omega) rfl ?_
  refine og_get (pc := 127) F_X7_78 dX7_divide_127 (by repeat (first | exact og_set_eq _ _ _ | assumption | refine (og_set_ne _ _ (by first | assumption | omega)).trans ?_)) (by omega) rfl ?_
  refine og_iload_n (pc := 130) dX7_divide_130 rfl ?_
  refine og_aaldN (pc := 131) rfl dX7_divide_131 (by repeat (first | exact og_set_eq _ _ _ | assumption | refine (og_set_ne _ _ (by first | assumption | omega)).trans ?_)) (by omega) (by decide) (by decide) (by omega) (by first | decide | assumption | omega) (q_g8 hk8) ?_
  refine og_callS (pc := 132) (As := [.ref 57, .ref (4 + 2 + k)]) (rest := []) (c_X3_copy E d n11 57 (4 + 2 + k) g _ _ e57 (w2.r hk8) (by omega) (by omega) (by omega)) Y_X3_copy S_X3_copy K_X7_163 dX7_divide_132 rfl rfl (Nat.le_of_ble_eq_true rfl) (by omega) (by omega) (by omega) (fun _ _ _ z => z) (fun v n12 h12 z => ?_)
  obtain ⟨rfl, hn, hh⟩ := z
  subst hn
  have w3 := w2.reg (q_fv 0 (d_quo D a b)) hk8
  have e58 : h12 58 = some (rowL (q_fv 0 (d_rem D a b))) := by rw [hh, og_set_ne _ _ (by omega)]; exact e58
  rw [show og_set g (4 + 2 + k) (rowL (q_fv 0 (d_quo D a b))) = h12 from hh.symm] at w3
  clear hh
  have e3 := w3.d3
  have e4 := w3.e4
  have e5 := w3.e5
  have e56 := w3.d56
  refine og_aload_n (pc := 135) dX7_divide_135 rfl ?_
  refine og_get (pc := 136) F_X7_33 dX7_divide_136 (by repeat (first | exact og_set_eq _ _ _ | assumption | refine (og_set_ne _ _ (by first | assumption | omega)).trans ?_)) (by omega) rfl ?_
  refine og_get (pc := 139) F_X7_157 dX7_divide_139 (by repeat (first | exact og_set_eq _ _ _ | assumption | refine (og_set_ne _ _ (by first | assumption | omega)).trans ?_)) (by omega) rfl ?_
  refine og_aload_n (pc := 142) dX7_divide_142 rfl ?_
  refine og_get (pc := 143) F_X7_10 dX7_divide_143 (by repeat (first | exact og_set_eq _ _ _ | assumption | refine (og_set_ne _ _ (by first | assumption | omega)).trans ?_)) (by omega) rfl ?_
  refine og_get (pc := 146) F_X7_78 dX7_divide_146 (by repeat (first | exact og_set_eq _ _ _ | assumption | refine (og_set_ne _ _ (by first | assumption | omega)).trans ?_)) (by omega) rfl ?_
  refine og_iload (pc := 149) dX7_divide_149 rfl ?_
  refine og_aaldN (pc := 151) rfl dX7_divide_151 (by repeat (first | exact og_set_eq _ _ _ | assumption | refine (og_set_ne _ _ (by first | assumption | omega)).trans ?_)) (by omega) (by decide) (by decide) (by omega) (by first | decide | assumption | omega) (q_g8 hl8) ?_
  refine og_callS (pc := 152) (As := [.ref 58, .ref (4 + 2 + l)]) (rest := []) (c_X3_copy E d n12 58 (4 + 2 + l) h12 _ _ e58 (w3.r hl8) (by omega) (by omega) (by omega)) Y_X3_copy S_X3_copy K_X7_163 dX7_divide_152 rfl rfl (Nat.le_of_ble_eq_true rfl) (by omega) (by omega) (by omega) (fun _ _ _ z => z) (fun v n13 h13 z => ?_)
  obtain ⟨rfl, hn, hh⟩ := z
  subst hn
  have w4 := w3.reg (q_fv 0 (d_rem D a b)) hl8
  have e58 : h13 58 = some (rowL (q_fv 0 (d_rem D a b))) := by rw [hh, og_set_ne _ _ (by omega)]; exact e58
  rw [show og_set h12 (4 + 2 + l) (rowL (q_fv 0 (d_rem D a b))) = h13 from hh.symm] at w4
  clear hh
  have e3 := w4.d3
  have e56 := w4.d56
  refine og_aload_n (pc := 155) dX7_divide_155 rfl ?_
  refine og_get (pc := 156) F_X7_33 dX7_divide_156 (by repeat (first | exact og_set_eq _ _ _ | assumption | refine (og_set_ne _ _ (by first | assumption | omega)).trans ?_)) (by omega) rfl ?_
  refine og_get (pc := 159) F_X7_157 dX7_divide_159 (by repeat (first | exact og_set_eq _ _ _ | assumption | refine (og_set_ne _ _ (by first | assumption | omega)).trans ?_)) (by omega) rfl ?_
  refine og_callS (pc := 162) (As := [.ref 58]) (rest := []) (c_X3_quarters E d n13 58 h13 _ e58 (by omega)) Y_X3_quarters S_X3_quarters K_X7_82 dX7_divide_162 rfl rfl (Nat.le_of_ble_eq_true rfl) (by omega) (by omega) (by omega) (fun _ _ _ z => z) (fun v n14 h14 z => ?_)
  obtain ⟨rfl, hn, hh⟩ := z
  subst hn hh
  exact og_lret (pc := 165) hr dX7_divide_165 (by omega) (by omega) ⟨a, b, k, l, ha8, hb8, hk8, hl8, rfl, rfl, rfl, rfl, hkl, hdiv, hq, hrm, rfl, w4⟩
/-- the divisors of Euclid's steps have a norm above 0 -/
def q_eok (D : q_D) : Prop := ∀ a b, a < 8 → b < 8 → q_div D a b → ∀ k, k < 40 → (∀ j, j < k → ¬ q_zr (q_er (d_R D a) (d_R D b) (d_o D) j)) → 0 < q_inner (q_eu (d_R D a) (d_R D b) (d_o D) k).2 (q_eu (d_R D a) (d_R D b) (d_o D) k).2 8
/-- Euclid's steps end with the division number k, from 0 -/
def q_eend (D : q_D) (a b k : Nat) : Prop := k < 40 ∧ (∀ j, j < k → ¬ q_zr (q_er (d_R D a) (d_R D b) (d_o D) j)) ∧ q_zr (q_er (d_R D a) (d_R D b) (d_o D) k)
def q_enot (D : q_D) (a b : Nat) : Prop := ∀ j, j < 40 → ¬ q_zr (q_er (d_R D a) (d_R D b) (d_o D) j)