/-! ===== the constructor of the desk ===== -/
def i_A (h g : og_H) : Prop := og_Sat g 4 q_st0 ∧ g 14 = some (og_refs 4 4 (q_sa 0)) ∧ (∀ j, j < 4 → og_Sat g (15 + 10 * j) q_st0) ∧ ∀ a, a < 3 → g a = h a
theorem i_A.keep {h g g2 : og_H} (w : i_A h g) (hk : ∀ a, a ≠ 3 → a < 55 → g2 a = g a) : i_A h g2 := ⟨w.1.kept fun k k1 k2 => hk k (by omega) (by omega), (hk _ (by omega) (by omega)).trans w.2.1, fun j hj => (w.2.2.1 j hj).kept fun k k1 k2 => hk k (by omega) (by omega), fun a ha => (hk a (by omega) (by omega)).trans (w.2.2.2 a ha)⟩
def i_C (g : og_H) : Prop := g 56 = some og_DV ∧ g 64 = some (og_grid 64 2) ∧ g 67 = some (og_grid 67 2) ∧ (∀ k, (57 ≤ k ∧ k < 64) ∨ (65 ≤ k ∧ k < 67) ∨ (68 ≤ k ∧ k < 70) → ∃ f, g k = some (rowL f)) ∧ g 55 = some (og_refs 5 8 (fun _ => none))
theorem i_C.keep {g g2 : og_H} (w : i_C g) (hk : ∀ a, a ≠ 3 → a < 70 → g2 a = g a) : i_C g2 := ⟨(hk _ (by omega) (by omega)).trans w.1, (hk _ (by omega) (by omega)).trans w.2.1, (hk _ (by omega) (by omega)).trans w.2.2.1, fun k kk => by rw [hk k (by omega) (by omega)]; exact w.2.2.2.1 k kk, (hk _ (by omega) (by omega)).trans w.2.2.2.2⟩
def i_D (g : og_H) : Prop := g 70 = some (og_tx 0 0) ∧ g 71 = some (rowB (fun _ => 0))
theorem i_D.keep {g g2 : og_H} (w : i_D g) (hk : ∀ a, a ≠ 3 → a < 72 → g2 a = g a) : i_D g2 := ⟨(hk _ (by omega) (by omega)).trans w.1, (hk _ (by omega) (by omega)).trans w.2⟩
def i_E (g : og_H) : Prop := g 72 = some (og_ca 0 0) ∧ g 73 = some (og_grid 73 7) ∧ g 81 = some (og_grid 81 7) ∧ g 89 = some (og_grid 89 7) ∧ ∀ k, (74 ≤ k ∧ k < 81) ∨ (82 ≤ k ∧ k < 89) ∨ (90 ≤ k ∧ k < 98) → ∃ f, g k = some (rowL f)
theorem i_E.keep {g g2 : og_H} (w : i_E g) (hk : ∀ a, a ≠ 3 → a < 98 → g2 a = g a) : i_E g2 := ⟨(hk _ (by omega) (by omega)).trans w.1, (hk _ (by omega) (by omega)).trans w.2.1, (hk _ (by omega) (by omega)).trans w.2.2.1, (hk _ (by omega) (by omega)).trans w.2.2.2.1, fun k kk => by rw [hk k (by omega) (by omega)]; exact w.2.2.2.2 k kk⟩
def d_0 : q_D := (q_st0, 0, 0, fun _ => q_st0, fun _ => none, 0, 0, fun _ => 0, 0, 0)
def i_all (h g : og_H) : Prop := g 3 = some (og_dk 0) ∧ i_A h g ∧ i_C g ∧ i_D g ∧ i_E g ∧ ∀ k, 98 ≤ k → k < 101 → ∃ f, g k = some (rowL f)
theorem i_all.DK {h g g2 : og_H} {n : Nat} (w : i_all h g) (hk : ∀ a, a < 101 → g2 a = g a) (hn : 104 ≤ n) (h1 : h 1 = some q_TR) (h2 : h 2 = some q_SE) : og_DK g2 n n g2 d_0 := by
  obtain ⟨w3, wA, wC, wD, wE, wr⟩ := w
  have wA := wA.keep (g2 := g2) fun a _ ha => hk a (by omega)
  have wC := wC.keep (g2 := g2) fun a _ ha => hk a (by omega)
  have wD := wD.keep (g2 := g2) fun a _ ha => hk a (by omega)
  have wE := wE.keep (g2 := g2) fun a _ ha => hk a (by omega)
  refine ⟨(hk 3 (by omega)).trans w3, wA.1, wA.2.1, wA.2.2.1, wC.2.2.2.2, fun o u hu => (by cases hu), wC.1, wC.2.1, wC.2.2.1, wD.1, wD.2, wE.1, wE.2.1, wE.2.2.1, wE.2.2.2.1, fun a ha => ?_, (wA.2.2.2 1 (by omega)).trans h1, (wA.2.2.2 2 (by omega)).trans h2, fun _ _ _ => rfl, ⟨hn, Nat.le_refl _⟩, by decide⟩
  unfold q_scr at ha
  by_cases q : a < 70
  · exact wC.2.2.2.1 a (by omega)
  · by_cases q2 : a < 98
    · exact wE.2.2.2.2 a (by omega)
    · rw [hk a (by omega)]
      exact wr a (by omega) (by omega)
set_option maxRecDepth 4000 in
theorem c_X7_init (E : og_E) (d : Nat) (h : og_H) (hb : h 3 = some (.inr (5, [.null, .null, .int 0, .null, .null, .null, .null, .null, .null, .null]))) :
    og_M E yX7_init (.code yX7_init cX7_init 2 none) (d + 1) [.ref 3] 4 h 97 830 (fun v n1 h1 => v = none ∧ n1 = 101 ∧ i_all h h1) no_x := by
  refine og_start (lv := [some (.ref 3), none]) (by decide) rfl rfl (Nat.le_of_ble_eq_true rfl) fun X hr hnm htb => ?_
  refine og_aload_n (pc := 0) dX7_init_0 rfl ?_
  refine og_objInit (pc := 1) K_X7_1 I_obj C_obj dX7_init_1 (by decide) ?_
  refine og_aload_n (pc := 4) dX7_init_4 rfl ?_
  refine og_new (pc := 5) (N := 4) N_X7_7 dX7_init_5 rfl rfl (by omega) (by omega) ?_
  refine og_dup (pc := 8) dX7_init_8 rfl ?_
  refine og_callI (pc := 9) (As := []) (rest := [.ref 4, .ref 3]) (c_X4_init E d 4 _ (og_set_eq _ _ _) (by omega)) Y_X4_init I_X4_init rfl rfl K_X7_9 dX7_init_9 rfl rfl (Nat.le_of_ble_eq_true rfl) (by omega) (by omega) (by omega) (fun _ _ _ z => z) (fun v n1 h1 z => ?_)
  obtain ⟨rfl, hn, s4, fr⟩ := z
  subst hn
  have e3 := (fr 3 (by omega)).trans ((og_set_ne _ _ (by omega)).trans hb)
  refine og_putF (pc := 12) P_X7_10 dX7_init_12 e3 (by omega) hnm rfl rfl (Nat.le_of_ble_eq_true rfl) ?_
  refine og_aload_n (pc := 15) dX7_init_15 rfl ?_
  refine og_iconst (pc := 16) (v := 4) dX7_init_16 (by decide) ?_
  refine og_newq (pc := 17) (k := 4) (ci := 2) (N := 4) rfl CL_X7_7 (fun U H0 hS => hS.2.2.2.2.2.2.2.1) rfl (by decide) dX7_init_17 (by decide) (by decide) (by decide) (by omega) (by omega) ?_
  refine og_abs (P := fun g => g 3 = some (.inr (5, [.ref 4, .null, .int 0, .null, .null, .null, .null, .null, .null, .null])) ∧ og_Sat g 4 q_st0 ∧ g 14 = some (og_refs 4 4 (fun _ => none)) ∧ ∀ a, a < 3 → g a = h a) ⟨(og_set_ne _ _ (by omega)).trans (og_set_eq _ _ _), s4.kept fun k k1 k2 => (og_set_ne _ _ (by omega)).trans (og_set_ne _ _ (by omega)), og_set_eq _ _ _, fun a ha => (og_set_ne _ _ (by omega)).trans ((og_set_ne _ _ (by omega)).trans ((fr a (by omega)).trans (og_set_ne _ _ (by omega))))⟩ fun g ⟨g1, g2, g3, g4⟩ => ?_
  refine og_putF (pc := 20) P_X7_16 dX7_init_20 g1 (by omega) hnm rfl rfl (Nat.le_of_ble_eq_true rfl) ?_
  refine og_iconst (pc := 23) (v := 0) dX7_init_23 (by decide) ?_
  refine og_istore_n_1 (pc := 24) dX7_init_24 rfl ?_
  have loop : ∀ k i : Nat, i + k = 4 → ∀ g : og_H, g 3 = some (.inr (5, [.ref 4, .ref 14, .int 0, .null, .null, .null, .null, .null, .null, .null])) → og_Sat g 4 q_st0 → g 14 = some (og_refs 4 4 (fun k => if k < i then some (15 + 10 * k) else none)) → (∀ j, j < i → og_Sat g (15 + 10 * j) q_st0) → (∀ a, a < 3 → g a = h a) → og_G E yX7_init.cls cX7_init (d + 1) 97 830 2 X (og_Q E (fun v n1 h1 => v = none ∧ n1 = 101 ∧ i_all h h1) no_x 97 830 X) (11 + 10 * i) (80 + 76 * i) (15 + 10 * i) g 25 [some (.ref 3), some (.int (nI i))] [] := by
    intro k
    induction k with
    | zero =>
      intro i hi g g1 g2 g3 g4 g5
      have ei : i = 4 := by omega
      subst ei
      have wA : i_A h g := ⟨g2, by rw [g3, show (fun k => if k < 4 then some (15 + 10 * k) else none) = q_sa 0 from funext fun k => by
        unfold q_sa
        by_cases q : k < 4
        · rw [if_pos q, if_pos q, show (k + 0) % 4 = k by omega]
        · rw [if_neg q, if_neg q]], g4, g5⟩
      clear g2 g3 g4 g5
      refine og_iload_n (pc := 25) dX7_init_25 rfl ?_
      refine og_iconst (pc := 26) (v := 4) dX7_init_26 (by decide) ?_
      refine og_geN (pc := 27) (tgt := 49) (i := 4) (N := 4) dX7_init_27 (by decide) rfl rfl (by omega) (by omega) (fun c_27 => ?_) (fun c_27 => ?_)
      · refine og_forget_1 ?_
        refine og_aload_n (pc := 49) dX7_init_49 rfl ?_
        refine og_iconst (pc := 50) (v := 0) dX7_init_50 (by decide) ?_
        refine og_put (pc := 51) P_X7_20 dX7_init_51 g1 (by omega) rfl rfl (Nat.le_of_ble_eq_true rfl) ?_
        refine og_aload_n (pc := 54) dX7_init_54 rfl ?_
        refine og_bipush (pc := 55) (v := 8) dX7_init_55 (by decide) ?_
        refine og_newq (pc := 57) (k := 5) (ci := 4) (N := 8) rfl CL_X7_24 (fun U H0 hS => hS.2.2.2.2.2.2.2.2.1) rfl (by decide) dX7_init_57 (by decide) (by decide) (by decide) (by omega) (by omega) ?_
        have e3 := (og_set_ne (og_set g 3 (.inr (5, [.ref 4, .ref 14, .int 0, .null, .null, .null, .null, .null, .null, .null]))) (og_refs 5 8 (fun _ => none)) (show 3 ≠ 15 + 10 * 4 by omega)).trans (og_set_eq _ _ _)
        refine og_putF (pc := 60) P_X7_26 dX7_init_60 e3 (by omega) hnm rfl rfl (Nat.le_of_ble_eq_true rfl) ?_
        refine og_aload_n (pc := 63) dX7_init_63 rfl ?_
        refine og_abs (P := fun m => m 3 = some (.inr (5, [.ref 4, .ref 14, .int 0, .ref 55, .null, .null, .null, .null, .null, .null])) ∧ i_A h m ∧ m 55 = some (og_refs 5 8 (fun _ => none))) ⟨og_set_eq _ _ _, wA.keep fun a a3 ha => (og_set_ne _ _ a3).trans ((og_set_ne _ _ (by omega)).trans (og_set_ne _ _ a3)), (og_set_ne _ _ (by omega)).trans (og_set_eq _ _ _)⟩ fun m ⟨m1, m2, m3⟩ => ?_
        refine og_new (pc := 64) (N := 9) N_X7_30 dX7_init_64 rfl rfl (by omega) (by omega) ?_
        refine og_dup (pc := 67) dX7_init_67 rfl ?_
        refine og_callIN (pc := 68) (As := []) (rest := [.ref 56, .ref 3]) (c_X1_init E d _ (og_set_eq _ _ _)) Y_X1_init I_X1_init rfl (fun U hU => hU.2.2.2.1) dX7_init_68 rfl rfl (Nat.le_of_ble_eq_true rfl) (by omega) (by omega) (by omega) (fun _ _ _ z => z) (fun v n2 h2 z => ?_)
        obtain ⟨rfl, hn, c1, c2, c3, c4, c5⟩ := z
        subst hn
        have e3 := (c5 3 (by omega)).trans ((og_set_ne _ _ (by omega)).trans m1)
        refine og_putF (pc := 71) P_X7_33 dX7_init_71 e3 (by omega) hnm rfl rfl (Nat.le_of_ble_eq_true rfl) ?_
        refine og_aload_n (pc := 74) dX7_init_74 rfl ?_
        refine og_abs (P := fun w => w 3 = some (.inr (5, [.ref 4, .ref 14, .int 0, .ref 55, .ref 56, .null, .null, .null, .null, .null])) ∧ i_A h w ∧ i_C w) ⟨og_set_eq _ _ _, m2.keep fun a a3 ha => (og_set_ne _ _ a3).trans ((c5 a (by omega)).trans (og_set_ne _ _ (by omega))), (og_set_ne _ _ (by omega)).trans c1, (og_set_ne _ _ (by omega)).trans c2, (og_set_ne _ _ (by omega)).trans c3, fun k kk => by rw [og_set_ne _ _ (by omega)]; exact c4 k kk, (og_set_ne _ _ (by omega)).trans ((c5 _ (by omega)).trans ((og_set_ne _ _ (by omega)).trans m3))⟩ fun w ⟨w1, w2, w3⟩ => ?_
        refine og_new (pc := 75) (N := 3) N_X7_37 dX7_init_75 rfl rfl (by omega) (by omega) ?_
        refine og_dup (pc := 78) dX7_init_78 rfl ?_
        refine og_callIN (pc := 79) (As := []) (rest := [.ref 70, .ref 3]) (c_X5_init E d _ (og_set_eq _ _ _)) Y_X5_init I_X5_init rfl (fun U hU => hU.2.2.2.2.1) dX7_init_79 rfl rfl (Nat.le_of_ble_eq_true rfl) (by omega) (by omega) (by omega) (fun _ _ _ z => z) (fun v n2 h3 z => ?_)
        obtain ⟨rfl, hn, t1, t2, t3⟩ := z
        subst hn
        have e3 := (t3 3 (by omega)).trans ((og_set_ne _ _ (by omega)).trans w1)
        refine og_putF (pc := 82) P_X7_40 dX7_init_82 e3 (by omega) hnm rfl rfl (Nat.le_of_ble_eq_true rfl) ?_
        refine og_aload_n (pc := 85) dX7_init_85 rfl ?_
        refine og_abs (P := fun u => u 3 = some (.inr (5, [.ref 4, .ref 14, .int 0, .ref 55, .ref 56, .ref 70, .null, .null, .null, .null])) ∧ i_A h u ∧ i_C u ∧ i_D u) ⟨og_set_eq _ _ _, w2.keep fun a a3 ha => (og_set_ne _ _ a3).trans ((t3 a (by omega)).trans (og_set_ne _ _ (by omega))), w3.keep fun a a3 ha => (og_set_ne _ _ a3).trans ((t3 a (by omega)).trans (og_set_ne _ _ (by omega))), (og_set_ne _ _ (by omega)).trans t1, (og_set_ne _ _ (by omega)).trans t2⟩ fun u ⟨u1, u2, u3, u4⟩ => ?_
        refine og_new (pc := 86) (N := 7) N_X7_44 dX7_init_86 rfl rfl (by omega) (by omega) ?_
        have e3 := (og_set_ne u (.inr (0, [.null, .null, .null, .null, .null, .int 0, .int 0])) (show 3 ≠ 72 by omega)).trans u1
        refine og_dup (pc := 89) dX7_init_89 rfl ?_
        refine og_aload_n (pc := 90) dX7_init_90 rfl ?_
        refine og_get (pc := 91) F_X7_40 dX7_init_91 e3 (by omega) rfl ?_
        refine og_callI (pc := 94) (As := [.ref 70]) (rest := [.ref 72, .ref 3]) (c_X0_init E d _ (og_set_eq _ _ _)) Y_X0_init I_X0_init rfl rfl K_X7_46 dX7_init_94 rfl rfl (Nat.le_of_ble_eq_true rfl) (by omega) (by omega) (by omega) (fun _ _ _ z => z) (fun v n4 h4 z => ?_)
        obtain ⟨rfl, hn, k1, k2, k3, k4, k5, k6⟩ := z
        subst hn
        have e3 := (k6 3 (by omega)).trans e3
        refine og_putF (pc := 97) P_X7_49 dX7_init_97 e3 (by omega) hnm rfl rfl (Nat.le_of_ble_eq_true rfl) ?_
        refine og_aload_n (pc := 100) dX7_init_100 rfl ?_
        refine og_bipush (pc := 101) (v := 8) dX7_init_101 (by decide) ?_
        refine og_abs (P := fun x => x 3 = some (.inr (5, [.ref 4, .ref 14, .int 0, .ref 55, .ref 56, .ref 70, .ref 72, .null, .null, .null])) ∧ i_A h x ∧ i_C x ∧ i_D x ∧ i_E x) ⟨og_set_eq _ _ _, u2.keep fun a a3 ha => (og_set_ne _ _ a3).trans ((k6 a (by omega)).trans (og_set_ne _ _ (by omega))), u3.keep fun a a3 ha => (og_set_ne _ _ a3).trans ((k6 a (by omega)).trans (og_set_ne _ _ (by omega))), u4.keep fun a a3 ha => (og_set_ne _ _ a3).trans ((k6 a (by omega)).trans (og_set_ne _ _ (by omega))), (og_set_ne _ _ (by omega)).trans k1, (og_set_ne _ _ (by omega)).trans k2, (og_set_ne _ _ (by omega)).trans k3, (og_set_ne _ _ (by omega)).trans k4, fun k kk => by rw [og_set_ne _ _ (by omega)]; exact k5 k kk⟩ fun x ⟨x1, x2, x3, x4, x5⟩ => ?_
        refine og_newa (pc := 103) (k := 2) (N := 8) (x := (8, .inr (.inl (fun _ => 0)))) (atype := .long) AC_long rfl (by decide) dX7_init_103 (fun _ => rfl) (by decide) (by decide) (by decide) (by omega) (by omega) ?_
        have e3 := (og_set_ne x (rowL (fun _ => 0)) (show 3 ≠ 98 by omega)).trans x1
        refine og_putF (pc := 105) P_X7_55 dX7_init_105 e3 (by omega) hnm rfl rfl (Nat.le_of_ble_eq_true rfl) ?_
        refine og_aload_n (pc := 108) dX7_init_108 rfl ?_
        refine og_bipush (pc := 109) (v := 8) dX7_init_109 (by decide) ?_
        refine og_newa (pc := 111) (k := 2) (N := 8) (x := (8, .inr (.inl (fun _ => 0)))) (atype := .long) AC_long rfl (by decide) dX7_init_111 (fun _ => rfl) (by decide) (by decide) (by decide) (by omega) (by omega) ?_
        have e3 := (og_set_ne (og_set (og_set x 98 (rowL (fun _ => 0))) 3 (.inr (5, [.ref 4, .ref 14, .int 0, .ref 55, .ref 56, .ref 70, .ref 72, .ref 98, .null, .null]))) (rowL (fun _ => 0)) (show 3 ≠ 99 by omega)).trans (og_set_eq _ _ _)
        refine og_putF (pc := 113) P_X7_59 dX7_init_113 e3 (by omega) hnm rfl rfl (Nat.le_of_ble_eq_true rfl) ?_
        refine og_aload_n (pc := 116) dX7_init_116 rfl ?_
        refine og_bipush (pc := 117) (v := 8) dX7_init_117 (by decide) ?_
        refine og_newa (pc := 119) (k := 2) (N := 8) (x := (8, .inr (.inl (fun _ => 0)))) (atype := .long) AC_long rfl (by decide) dX7_init_119 (fun _ => rfl) (by decide) (by decide) (by decide) (by omega) (by omega) ?_
        have fin : ∀ y : og_H, (∀ a, a ≠ 3 → a < 98 → y a = x a) → y 3 = some (.inr (5, [.ref 4, .ref 14, .int 0, .ref 55, .ref 56, .ref 70, .ref 72, .ref 98, .ref 99, .null])) → y 98 = some (rowL (fun _ => 0)) → y 99 = some (rowL (fun _ => 0)) → y 100 = some (rowL (fun _ => 0)) → og_G E yX7_init.cls cX7_init (d + 1) 97 830 2 X (og_Q E (fun v n1 h1 => v = none ∧ n1 = 101 ∧ i_all h h1) no_x 97 830 X) 97 830 101 y 121 [some (.ref 3), none] [.ref 100, .ref 3] := by
          intro y yk y3 y98 y99 y100
          refine og_putF (pc := 121) P_X7_62 dX7_init_121 y3 (by omega) hnm rfl rfl (Nat.le_of_ble_eq_true rfl) ?_
          refine og_vret (pc := 124) hr dX7_init_124 (by omega) (by omega) ⟨rfl, rfl, og_set_eq _ _ _, x2.keep fun a a3 ha => (og_set_ne _ _ a3).trans (yk a a3 (by omega)), x3.keep fun a a3 ha => (og_set_ne _ _ a3).trans (yk a a3 (by omega)), x4.keep fun a a3 ha => (og_set_ne _ _ a3).trans (yk a a3 (by omega)), x5.keep fun a a3 ha => (og_set_ne _ _ a3).trans (yk a a3 (by omega)), fun k k1 k2 => ⟨fun _ => 0, ?_⟩⟩
          rw [og_set_ne _ _ (by omega)]
          by_cases q : k = 98
          · rw [q]; exact y98
          · by_cases q2 : k = 99
            · rw [q2]; exact y99
            · rw [show k = 100 by omega]; exact y100
        refine og_widen (by omega) (by omega) (fin _ (fun a a3 ha => (og_set_ne _ _ (by omega)).trans ((og_set_ne _ _ a3).trans ((og_set_ne _ _ (by omega)).trans ((og_set_ne _ _ a3).trans (og_set_ne _ _ (by omega)))))) ((og_set_ne _ _ (by omega)).trans (og_set_eq _ _ _)) ((og_set_ne _ _ (by omega)).trans ((og_set_ne _ _ (by omega)).trans ((og_set_ne _ _ (by omega)).trans ((og_set_ne _ _ (by omega)).trans (og_set_eq _ _ _))))) ((og_set_ne _ _ (by omega)).trans ((og_set_ne _ _ (by omega)).trans (og_set_eq _ _ _))) (og_set_eq _ _ _))
      · omega
    | succ k ih =>
      intro i hi g g1 g2 g3 g4 g5
      have hi4 : i < 4 := by omega
      refine og_iload_n (pc := 25) dX7_init_25 rfl ?_
      refine og_iconst (pc := 26) (v := 4) dX7_init_26 (by decide) ?_
      refine og_geN (pc := 27) (tgt := 49) (i := i) (N := 4) dX7_init_27 (by decide) rfl rfl (by omega) (by omega) (fun c_27 => ?_) (fun c_27 => ?_)
      · omega
      refine og_aload_n (pc := 30) dX7_init_30 rfl ?_
      refine og_get (pc := 31) F_X7_16 dX7_init_31 g1 (by omega) rfl ?_
      refine og_iload_n (pc := 34) dX7_init_34 rfl ?_
      refine og_new (pc := 35) (N := 4) N_X7_7 dX7_init_35 rfl rfl (by omega) (by omega) ?_
      refine og_dup (pc := 38) dX7_init_38 rfl ?_
      refine og_callI (pc := 39) (As := []) (rest := [.ref (15 + 10 * i), .int (nI i), .ref 14]) (c_X4_init E d (15 + 10 * i) _ (og_set_eq _ _ _) (by omega)) Y_X4_init I_X4_init rfl rfl K_X7_9 dX7_init_39 rfl rfl (Nat.le_of_ble_eq_true rfl) (by omega) (by omega) (by omega) (fun _ _ _ z => z) (fun v n2 h2 z => ?_)
      obtain ⟨rfl, hn, s4, fr⟩ := z
      subst hn
      have e14 := (fr 14 (by omega)).trans ((og_set_ne _ _ (by omega)).trans g3)
      refine og_aastN (pc := 42) (j := i) (ci := 2) rfl dX7_init_42 e14 (by omega) (by decide) rfl rfl s4.1 (by omega) hi4 (by omega) ?_
      refine og_iinc_1 (pc := 43) dX7_init_43 (og_inc i) rfl ?_
      refine og_goto (pc := 46) (tgt := 25) dX7_init_46 (by decide) ?_
      have fr2 : ∀ a, a < 15 + 10 * i → a ≠ 14 → og_set h2 14 (og_refs 4 4 (va_up (fun k => if k < i then some (15 + 10 * k) else none) i (some (15 + 10 * i)))) a = g a := fun a ha h14 => (og_set_ne _ _ h14).trans ((fr a ha).trans (og_set_ne _ _ (by omega)))
      refine og_widen (by omega) (by omega) (ih (i + 1) (by omega) _ ((fr2 3 (by omega) (by omega)).trans g1) (g2.kept fun k k1 k2 => fr2 k (by omega) (by omega)) ?_ (fun j hj => ?_) (fun a ha => (fr2 a (by omega) (by omega)).trans (g5 a ha)))
      · refine (og_set_eq _ _ _).trans ?_
        refine congrArg (fun f => some (og_refs 4 4 f)) (funext fun k => ?_)
        unfold va_up
        by_cases q : k = i
        · rw [if_pos q, if_pos (by omega), q]
        · by_cases q2 : k < i
          · rw [if_neg q]
            exact (if_pos q2).trans (if_pos (by omega)).symm
          · rw [if_neg q]
            exact (if_neg q2).trans (if_neg (by omega)).symm
      · by_cases q : j = i
        · subst q
          exact s4.kept fun k k1 k2 => og_set_ne _ _ (by omega)
        · exact (g4 j (by omega)).kept fun k k1 k2 => fr2 k (by omega) (by omega)
  exact loop 4 0 rfl _ (og_set_eq _ _ _) (g2.kept fun k k1 k2 => og_set_ne _ _ (by omega)) ((og_set_ne _ _ (by omega)).trans (g3.trans (by congr 2))) (fun j hj => absurd hj (by omega)) (fun a ha => (og_set_ne _ _ (by omega)).trans (g4 a ha))
