/-! ===== the desk: units, and the calls that change it ===== -/
theorem og_DK.uni {h0 : og_H} {n0 n : Nat} {h : og_H} {D : q_D} (w : og_DK h0 n0 n h D) (f : Nat → Option Nat) (hf : ∀ o u, f o = some u → o < 8 ∧ 104 ≤ u ∧ u + 3 ≤ n ∧ h u = some (og_uo u o) ∧ h (u + 1) = some (rowI (q_cnt o) (q_uc o))) : og_DK h0 n0 n (og_set h 55 (og_refs 5 8 f)) (d_wUn D f) := by
  have h124 : 104 ≤ n := Nat.le_trans w.nn.1 w.nn.2
  refine ⟨(og_set_ne _ _ (by omega)).trans w.d3, w.now.kept (fun k k1 k2 => og_set_ne _ _ (by omega)), (og_set_ne _ _ (by omega)).trans w.s14, fun j hj => (w.sv j hj).kept fun k k1 k2 => og_set_ne _ _ (by omega), og_set_eq _ _ _, ?_, (og_set_ne _ _ (by omega)).trans w.d56, (og_set_ne _ _ (by omega)).trans w.g64, (og_set_ne _ _ (by omega)).trans w.g67, (og_set_ne _ _ (by omega)).trans w.t70, (og_set_ne _ _ (by omega)).trans w.t71, (og_set_ne _ _ (by omega)).trans w.c72, (og_set_ne _ _ (by omega)).trans w.g73, (og_set_ne _ _ (by omega)).trans w.g81, (og_set_ne _ _ (by omega)).trans w.g89, ?_, (og_set_ne _ _ (by omega)).trans w.tr, (og_set_ne _ _ (by omega)).trans w.se, fun a ha hn => (og_set_ne _ _ (by omega)).trans (w.fr a ha hn), w.nn, w.ok⟩
  · intro o u hu
    obtain ⟨a1, a2, a3, a4, a5⟩ := hf o u hu
    exact ⟨a1, a2, a3, (og_set_ne _ _ (by omega)).trans a4, (og_set_ne _ _ (by omega)).trans a5⟩
  · intro a ha
    rw [og_set_ne _ _ (by unfold q_scr at ha; omega)]
    exact w.scr a ha
theorem og_DK.unit {h0 : og_H} {n0 n : Nat} {h : og_H} {D : q_D} (w : og_DK h0 n0 n h D) {o : Nat} (ho : o < 8) (x : og_N) (r : Nat → Int64) : og_DK h0 n0 (n + 1 + 2) (og_set (og_hu (og_set h n x) n (n + 1) (q_cnt o) (q_us3 o) r) 55 (og_refs 5 8 (va_up (d_un D) o (some n)))) (d_wUn D (va_up (d_un D) o (some n))) := by
  have h124 : 104 ≤ n := Nat.le_trans w.nn.1 w.nn.2
  have hk : ∀ a, a < n → og_hu (og_set h n x) n (n + 1) (q_cnt o) (q_us3 o) r a = h a := fun a ha => (hu_ne _ _ _ (by omega) (by omega) (by omega)).trans (og_set_ne _ _ (by omega))
  have w2 : og_DK h0 n0 (n + 1 + 2) (og_hu (og_set h n x) n (n + 1) (q_cnt o) (q_us3 o) r) D := w.keep (by omega) (fun a ha _ => hk a ha) (fun a ha => by
    rw [hk a (by unfold q_scr at ha; omega)]
    exact w.scr a ha)
  refine w2.uni _ fun o2 u hu => ?_
  unfold va_up at hu
  by_cases e : o2 = o
  · rw [if_pos e] at hu
    cases hu
    subst e
    exact ⟨ho, by omega, by omega, hu_u _ _ _ (by omega), hu_n _ _ _⟩
  · rw [if_neg e] at hu
    exact w2.un o2 u hu
set_option maxRecDepth 4000 in
theorem c_X7_presentUnits (E : og_E) (d n : Nat) (h : og_H) {h0 : og_H} {n0 : Nat} {D : q_D} (w : og_DK h0 n0 n h D) :
    og_M E yX7_presentUnits (.code yX7_presentUnits cX7_presentUnits 1 (some (.object "OctavianDesk$Units"))) (d + 4) [.ref 3] n h 3 250 (fun v n1 h1 => ∃ u f, v = some (.ref u) ∧ n ≤ n1 ∧ og_DK h0 n0 n1 h1 (d_wUn D f) ∧ f (d_o D) = some u) no_x := by
  refine og_start (lv := [some (.ref 3)]) (by decide) rfl rfl (Nat.le_of_ble_eq_true rfl) fun X hr hnm htb => ?_
  have h124 : 104 ≤ n := Nat.le_trans w.nn.1 w.nn.2
  have ho : d_o D < 8 := w.ok.1
  have e3 := w.d3
  have e4 := w.e4
  have e55 := w.u55
  cases hu : d_un D (d_o D) with
  | some u =>
    refine og_aload_n (pc := 0) dX7_presentUnits_0 rfl ?_
    refine og_get (pc := 1) F_X7_26 dX7_presentUnits_1 (by repeat (first | exact og_set_eq _ _ _ | assumption | refine (og_set_ne _ _ (by first | assumption | omega)).trans ?_)) (by omega) rfl ?_
    refine og_aload_n (pc := 4) dX7_presentUnits_4 rfl ?_
    refine og_get (pc := 5) F_X7_10 dX7_presentUnits_5 (by repeat (first | exact og_set_eq _ _ _ | assumption | refine (og_set_ne _ _ (by first | assumption | omega)).trans ?_)) (by omega) rfl ?_
    refine og_get (pc := 8) F_X7_93 dX7_presentUnits_8 (by repeat (first | exact og_set_eq _ _ _ | assumption | refine (og_set_ne _ _ (by first | assumption | omega)).trans ?_)) (by omega) rfl ?_
    refine og_aaldN (pc := 11) rfl dX7_presentUnits_11 (by repeat (first | exact og_set_eq _ _ _ | assumption | refine (og_set_ne _ _ (by first | assumption | omega)).trans ?_)) (by omega) (by decide) (by decide) (by omega) (by first | decide | assumption | omega) hu ?_
    refine og_ifnonnull (pc := 12) (tgt := 41) dX7_presentUnits_12 (by decide) ?_
    refine og_aload_n (pc := 41) dX7_presentUnits_41 rfl ?_
    refine og_get (pc := 42) F_X7_26 dX7_presentUnits_42 (by repeat (first | exact og_set_eq _ _ _ | assumption | refine (og_set_ne _ _ (by first | assumption | omega)).trans ?_)) (by omega) rfl ?_
    refine og_aload_n (pc := 45) dX7_presentUnits_45 rfl ?_
    refine og_get (pc := 46) F_X7_10 dX7_presentUnits_46 (by repeat (first | exact og_set_eq _ _ _ | assumption | refine (og_set_ne _ _ (by first | assumption | omega)).trans ?_)) (by omega) rfl ?_
    refine og_get (pc := 49) F_X7_93 dX7_presentUnits_49 (by repeat (first | exact og_set_eq _ _ _ | assumption | refine (og_set_ne _ _ (by first | assumption | omega)).trans ?_)) (by omega) rfl ?_
    refine og_aaldN (pc := 52) rfl dX7_presentUnits_52 (by repeat (first | exact og_set_eq _ _ _ | assumption | refine (og_set_ne _ _ (by first | assumption | omega)).trans ?_)) (by omega) (by decide) (by decide) (by omega) (by first | decide | assumption | omega) hu ?_
    exact og_aret (pc := 53) hr dX7_presentUnits_53 (by omega) (by omega) ⟨u, d_un D, rfl, Nat.le_refl _, w, hu⟩
  | none =>
    refine og_aload_n (pc := 0) dX7_presentUnits_0 rfl ?_
    refine og_get (pc := 1) F_X7_26 dX7_presentUnits_1 (by repeat (first | exact og_set_eq _ _ _ | assumption | refine (og_set_ne _ _ (by first | assumption | omega)).trans ?_)) (by omega) rfl ?_
    refine og_aload_n (pc := 4) dX7_presentUnits_4 rfl ?_
    refine og_get (pc := 5) F_X7_10 dX7_presentUnits_5 (by repeat (first | exact og_set_eq _ _ _ | assumption | refine (og_set_ne _ _ (by first | assumption | omega)).trans ?_)) (by omega) rfl ?_
    refine og_get (pc := 8) F_X7_93 dX7_presentUnits_8 (by repeat (first | exact og_set_eq _ _ _ | assumption | refine (og_set_ne _ _ (by first | assumption | omega)).trans ?_)) (by omega) rfl ?_
    refine og_aaldZ (pc := 11) rfl dX7_presentUnits_11 (by repeat (first | exact og_set_eq _ _ _ | assumption | refine (og_set_ne _ _ (by first | assumption | omega)).trans ?_)) (by omega) (by decide) (by decide) (by omega) (by first | decide | assumption | omega) hu ?_
    refine og_ifnonnullN (pc := 12) dX7_presentUnits_12 ?_
    refine og_aload_n (pc := 15) dX7_presentUnits_15 rfl ?_
    refine og_get (pc := 16) F_X7_26 dX7_presentUnits_16 (by repeat (first | exact og_set_eq _ _ _ | assumption | refine (og_set_ne _ _ (by first | assumption | omega)).trans ?_)) (by omega) rfl ?_
    refine og_aload_n (pc := 19) dX7_presentUnits_19 rfl ?_
    refine og_get (pc := 20) F_X7_10 dX7_presentUnits_20 (by repeat (first | exact og_set_eq _ _ _ | assumption | refine (og_set_ne _ _ (by first | assumption | omega)).trans ?_)) (by omega) rfl ?_
    refine og_get (pc := 23) F_X7_93 dX7_presentUnits_23 (by repeat (first | exact og_set_eq _ _ _ | assumption | refine (og_set_ne _ _ (by first | assumption | omega)).trans ?_)) (by omega) rfl ?_
    refine og_new (pc := 26) (N := 2) N_X7_24 dX7_presentUnits_26 rfl rfl (by omega) (by omega) ?_
    have e3b : og_set h n (.inr (4, [.null, .int 0])) 3 = some (og_dk (d_sc D)) := (og_set_ne _ _ (by omega)).trans e3
    have e4b : og_set h n (.inr (4, [.null, .int 0])) 4 = some (og_so 4 (d_st D)) := (og_set_ne _ _ (by omega)).trans e4
    refine og_dup (pc := 29) dX7_presentUnits_29 rfl ?_
    refine og_aload_n (pc := 30) dX7_presentUnits_30 rfl ?_
    refine og_get (pc := 31) F_X7_10 dX7_presentUnits_31 (by repeat (first | exact og_set_eq _ _ _ | assumption | refine (og_set_ne _ _ (by first | assumption | omega)).trans ?_)) (by omega) rfl ?_
    refine og_get (pc := 34) F_X7_93 dX7_presentUnits_34 (by repeat (first | exact og_set_eq _ _ _ | assumption | refine (og_set_ne _ _ (by first | assumption | omega)).trans ?_)) (by omega) rfl ?_
    refine og_callI (pc := 37) (As := [.int (nI (d_o D))]) (rest := [.ref n, .int (nI (d_o D)), .ref 55]) (c_X6_init E d (n + 1) n (d_o D) _ ((og_set_ne _ _ (by omega)).trans w.se) ho (og_set_eq _ _ _) (by omega) (by omega)) Y_X6_init I_X6_init rfl rfl K_X7_290 dX7_presentUnits_37 rfl rfl (Nat.le_of_ble_eq_true rfl) (by omega) (by omega) (by omega) (fun _ _ _ z => z) (fun v n1 h1 z => ?_)
    obtain ⟨rfl, hn1, hh1⟩ := z
    subst hn1 hh1
    have w2 := w.unit ho (.inr (4, [.null, .int 0])) (q_r3 (d_o D) (q_sets (d_o D)))
    have e55b : og_hu (og_set h n (.inr (4, [.null, .int 0]))) n (n + 1) (q_cnt (d_o D)) (q_us3 (d_o D)) (q_r3 (d_o D) (q_sets (d_o D))) 55 = some (og_refs 5 8 (d_un D)) := (hu_ne _ _ _ (by omega) (by omega) (by omega)).trans ((og_set_ne _ _ (by omega)).trans e55)
    refine og_aastN (pc := 40) (j := d_o D) (ci := 4) rfl dX7_presentUnits_40 e55b (by omega) (by decide) rfl rfl (hu_u _ _ _ (by omega)) (by omega) ho (by omega) ?_
    have e3 := w2.d3
    have e4 := w2.e4
    have e55 := w2.u55
    have hu2 : va_up (d_un D) (d_o D) (some n) (d_o D) = some n := if_pos rfl
    refine og_aload_n (pc := 41) dX7_presentUnits_41 rfl ?_
    refine og_get (pc := 42) F_X7_26 dX7_presentUnits_42 e3 (by omega) rfl ?_
    refine og_aload_n (pc := 45) dX7_presentUnits_45 rfl ?_
    refine og_get (pc := 46) F_X7_10 dX7_presentUnits_46 e3 (by omega) rfl ?_
    refine og_get (pc := 49) F_X7_93 dX7_presentUnits_49 e4 (by omega) rfl ?_
    refine og_aaldN (pc := 52) rfl dX7_presentUnits_52 e55 (by omega) (by decide) (by decide) ho (by first | decide | assumption | omega) hu2 ?_
    exact og_aret (pc := 53) hr dX7_presentUnits_53 (by omega) (by omega) ⟨n, _, rfl, by omega, w2, hu2⟩
set_option maxRecDepth 4000 in
theorem c_X7_set (E : og_E) (d n : Nat) (h : og_H) (x y z9 : Int32) {h0 : og_H} {n0 : Nat} {D : q_D} (w : og_DK h0 n0 n h D) :
    og_M E yX7_set (.code yX7_set cX7_set 6 (some .int)) (d + 3) [.ref 3, .int x, .int y, .int z9] n h 3 18 (fun v n1 h1 => ∃ r i, r < 8 ∧ i < 8 ∧ x = nI r ∧ y = nI i ∧ q_hvs z9 ∧ v = some (.int (d_R D r i).toInt32) ∧ og_DK h0 n0 n1 h1 (d_reg (q_save D) r (vp_updL (d_R D r) i z9.toInt64))) (fun En n1 h1 => og_DK h0 n0 n1 h1 D ∧ ((En = q_io ∧ ¬ (q_in8 x ∧ q_in8 y)) ∨ (En = q_ia ∧ q_in8 x ∧ q_in8 y ∧ ¬ q_hvs z9))) := by
  refine og_start (lv := [some (.ref 3), some (.int x), some (.int y), some (.int z9), none, none]) (by decide) rfl rfl (Nat.le_of_ble_eq_true rfl) fun X hr hnm htb => ?_
  refine og_iload_n (pc := 0) dX7_set_0 rfl ?_
  refine og_callSX (pc := 1) (As := [.int x]) (rest := []) (c_X7_needRegister E d n h x) Y_X7_needRegister S_X7_needRegister K_X7_65 dX7_set_1 rfl rfl (Nat.le_of_ble_eq_true rfl) (by omega) (by omega) (by omega) (htb) (by omega) (by omega) (fun En n1 h1 z => ?_) (fun v n1 h1 z => ?_)
  · obtain ⟨rfl, hn, rfl, hb⟩ := z
    exact ⟨w.more hn, Or.inl ⟨rfl, fun q => hb q.1⟩⟩
  obtain ⟨rfl, hn, hh, hx⟩ := z
  subst hn hh
  refine og_iload_n (pc := 4) dX7_set_4 rfl ?_
  refine og_callSX (pc := 5) (As := [.int y]) (rest := []) (c_X7_needIndex E d n1 h1 y) Y_X7_needIndex S_X7_needIndex K_X7_69 dX7_set_5 rfl rfl (Nat.le_of_ble_eq_true rfl) (by omega) (by omega) (by omega) (htb) (by omega) (by omega) (fun En n1 h1 z => ?_) (fun v n2 h2 z => ?_)
  · obtain ⟨rfl, hn, rfl, hb⟩ := z
    exact ⟨w.more hn, Or.inl ⟨rfl, fun q => hb q.2⟩⟩
  obtain ⟨rfl, hn, hh, hy⟩ := z
  subst hn hh
  refine og_iload_n (pc := 8) dX7_set_8 rfl ?_
  refine og_callSX (pc := 9) (As := [.int z9]) (rest := []) (c_X7_needHalves E d n2 h2 z9) Y_X7_needHalves S_X7_needHalves K_X7_72 dX7_set_9 rfl rfl (Nat.le_of_ble_eq_true rfl) (by omega) (by omega) (by omega) (htb) (by omega) (by omega) (fun En n1 h1 z => ?_) (fun v n3 h3 z => ?_)
  · obtain ⟨rfl, hn, rfl, hb⟩ := z
    exact ⟨w.more hn, Or.inr ⟨rfl, hx, hy, hb⟩⟩
  obtain ⟨rfl, hn, hh, hz⟩ := z
  subst hn hh
  obtain ⟨r, hr8, rfl⟩ := hx
  obtain ⟨i, hi8, rfl⟩ := hy
  refine og_aload_n (pc := 12) dX7_set_12 rfl ?_
  refine og_callV (pc := 13) (As := []) (rest := []) (c_X7_saveState E d n3 h3 w) Y_X7_saveState I_X7_saveState V_X7_saveState w.d3 (by omega) rfl rfl K_X7_75 dX7_set_13 rfl rfl (Nat.le_of_ble_eq_true rfl) (by omega) (by omega) (by omega) (fun _ _ _ z => z) (fun v n4 h4 z => ?_)
  obtain ⟨rfl, hn, w2, -⟩ := z
  subst hn
  have e3 := w2.d3
  have e4 := w2.e4
  have e5 := w2.e5
  have er := w2.r hr8
  refine og_aload_n (pc := 16) dX7_set_16 rfl ?_
  refine og_get (pc := 17) F_X7_10 dX7_set_17 (by repeat (first | exact og_set_eq _ _ _ | assumption | refine (og_set_ne _ _ (by first | assumption | omega)).trans ?_)) (by omega) rfl ?_
  refine og_get (pc := 20) F_X7_78 dX7_set_20 (by repeat (first | exact og_set_eq _ _ _ | assumption | refine (og_set_ne _ _ (by first | assumption | omega)).trans ?_)) (by omega) rfl ?_
  refine og_iload_n (pc := 23) dX7_set_23 rfl ?_
  refine og_aaldN (pc := 24) rfl dX7_set_24 (by repeat (first | exact og_set_eq _ _ _ | assumption | refine (og_set_ne _ _ (by first | assumption | omega)).trans ?_)) (by omega) (by decide) (by decide) (by omega) (by first | decide | assumption | omega) (q_g8 hr8) ?_
  refine og_astore_4 (pc := 25) dX7_set_25 rfl ?_
  refine og_aload (pc := 27) dX7_set_27 rfl ?_
  refine og_iload_n (pc := 29) dX7_set_29 rfl ?_
  refine og_laldN (pc := 30) rfl dX7_set_30 er (by omega) (by omega) (by first | decide | assumption | omega) ?_
  refine og_l2i (pc := 31) dX7_set_31 rfl ?_
  refine og_istore_5 (pc := 32) dX7_set_32 rfl ?_
  refine og_aload (pc := 34) dX7_set_34 rfl ?_
  refine og_iload_n (pc := 36) dX7_set_36 rfl ?_
  refine og_iload_n (pc := 37) dX7_set_37 rfl ?_
  refine og_i2l (pc := 38) dX7_set_38 rfl ?_
  refine og_lastN (pc := 39) rfl dX7_set_39 er (by omega) (by omega) (by first | decide | assumption | omega) ?_
  have hst : d_R (q_save D) r = d_R D r := by unfold d_R; rw [q_save_st]
  refine og_iload (pc := 40) dX7_set_40 rfl ?_
  refine og_iret (pc := 42) hr dX7_set_42 (by omega) (by omega) ⟨r, i, hr8, hi8, rfl, rfl, hz, ?_, ?_⟩
  · rw [← hst]
  · rw [← hst]
    exact w2.reg _ hr8
def q_four4 (f : Nat → Int64) (k : Nat) (a b c e : Int32) : Nat → Int64 := vp_updL (vp_updL (vp_updL (vp_updL f k a.toInt64) (k + 1) b.toInt64) (k + 2) c.toInt64) (k + 3) e.toInt64
set_option maxRecDepth 4000 in
theorem c_X7_setFour (E : og_E) (d n : Nat) (h : og_H) (x u a b c e : Int32) {h0 : og_H} {n0 : Nat} {D : q_D} (w : og_DK h0 n0 n h D) :
    og_M E yX7_setFour (.code yX7_setFour cX7_setFour 9 (some .long)) (d + 3) [.ref 3, .int x, .int u, .int a, .int b, .int c, .int e] n h 5 30 (fun v n1 h1 => ∃ r, r < 8 ∧ x = nI r ∧ q_hvs a ∧ q_hvs b ∧ q_hvs c ∧ q_hvs e ∧ v = some (.long (q_inner (q_four4 (d_R D r) (if u = 0 then 0 else 4) a b c e) (q_four4 (d_R D r) (if u = 0 then 0 else 4) a b c e) 8)) ∧ og_DK h0 n0 n1 h1 (d_reg (q_save D) r (q_four4 (d_R D r) (if u = 0 then 0 else 4) a b c e))) (fun En n1 h1 => og_DK h0 n0 n1 h1 D ∧ ((En = q_io ∧ ¬ q_in8 x) ∨ (En = q_ia ∧ q_in8 x ∧ ¬ (q_hvs a ∧ q_hvs b ∧ q_hvs c ∧ q_hvs e)))) := by
  refine og_start (lv := [some (.ref 3), some (.int x), some (.int u), some (.int a), some (.int b), some (.int c), some (.int e), none, none]) (by decide) rfl rfl (Nat.le_of_ble_eq_true rfl) fun X hr hnm htb => ?_
  refine og_iload_n (pc := 0) dX7_setFour_0 rfl ?_
  refine og_callSX (pc := 1) (As := [.int x]) (rest := []) (c_X7_needRegister E d n h x) Y_X7_needRegister S_X7_needRegister K_X7_65 dX7_setFour_1 rfl rfl (Nat.le_of_ble_eq_true rfl) (by omega) (by omega) (by omega) (htb) (by omega) (by omega) (fun En n1 h1 z => ?_) (fun v n1 h1 z => ?_)
  · obtain ⟨rfl, hn, rfl, hb⟩ := z
    exact ⟨w.more hn, Or.inl ⟨rfl, hb⟩⟩
  obtain ⟨rfl, hn, hh, hx⟩ := z
  subst hn hh
  refine og_iload_n (pc := 4) dX7_setFour_4 rfl ?_
  refine og_callSX (pc := 5) (As := [.int a]) (rest := []) (c_X7_needHalves E d n1 h1 a) Y_X7_needHalves S_X7_needHalves K_X7_72 dX7_setFour_5 rfl rfl (Nat.le_of_ble_eq_true rfl) (by omega) (by omega) (by omega) (htb) (by omega) (by omega) (fun En n1 h1 z => ?_) (fun v n2 h2 z => ?_)
  · obtain ⟨rfl, hn, rfl, hb⟩ := z
    exact ⟨w.more hn, Or.inr ⟨rfl, hx, fun q => hb q.1⟩⟩
  obtain ⟨rfl, hn, hh, ha⟩ := z
  subst hn hh
  refine og_iload (pc := 8) dX7_setFour_8 rfl ?_
  refine og_callSX (pc := 10) (As := [.int b]) (rest := []) (c_X7_needHalves E d n2 h2 b) Y_X7_needHalves S_X7_needHalves K_X7_72 dX7_setFour_10 rfl rfl (Nat.le_of_ble_eq_true rfl) (by omega) (by omega) (by omega) (htb) (by omega) (by omega) (fun En n1 h1 z => ?_) (fun v n3 h3 z => ?_)
  · obtain ⟨rfl, hn, rfl, hb⟩ := z
    exact ⟨w.more hn, Or.inr ⟨rfl, hx, fun q => hb q.2.1⟩⟩
  obtain ⟨rfl, hn, hh, hb⟩ := z
  subst hn hh
  refine og_iload (pc := 13) dX7_setFour_13 rfl ?_
  refine og_callSX (pc := 15) (As := [.int c]) (rest := []) (c_X7_needHalves E d n3 h3 c) Y_X7_needHalves S_X7_needHalves K_X7_72 dX7_setFour_15 rfl rfl (Nat.le_of_ble_eq_true rfl) (by omega) (by omega) (by omega) (htb) (by omega) (by omega) (fun En n1 h1 z => ?_) (fun v n4 h4 z => ?_)
  · obtain ⟨rfl, hn, rfl, hb⟩ := z
    exact ⟨w.more hn, Or.inr ⟨rfl, hx, fun q => hb q.2.2.1⟩⟩
  obtain ⟨rfl, hn, hh, hc⟩ := z
  subst hn hh
  refine og_iload (pc := 18) dX7_setFour_18 rfl ?_
  refine og_callSX (pc := 20) (As := [.int e]) (rest := []) (c_X7_needHalves E d n4 h4 e) Y_X7_needHalves S_X7_needHalves K_X7_72 dX7_setFour_20 rfl rfl (Nat.le_of_ble_eq_true rfl) (by omega) (by omega) (by omega) (htb) (by omega) (by omega) (fun En n1 h1 z => ?_) (fun v n5 h5 z => ?_)
  · obtain ⟨rfl, hn, rfl, hb⟩ := z
    exact ⟨w.more hn, Or.inr ⟨rfl, hx, fun q => hb q.2.2.2⟩⟩
  obtain ⟨rfl, hn, hh, he⟩ := z
  subst hn hh
  obtain ⟨r, hr8, rfl⟩ := hx
  refine og_aload_n (pc := 23) dX7_setFour_23 rfl ?_
  refine og_callV (pc := 24) (As := []) (rest := []) (c_X7_saveState E d n5 h5 w) Y_X7_saveState I_X7_saveState V_X7_saveState w.d3 (by omega) rfl rfl K_X7_75 dX7_setFour_24 rfl rfl (Nat.le_of_ble_eq_true rfl) (by omega) (by omega) (by omega) (fun _ _ _ z => z) (fun v n6 h6 z => ?_)
  obtain ⟨rfl, hn, w2, -⟩ := z
  subst hn
  have e3 := w2.d3
  have e4 := w2.e4
  have e5 := w2.e5
  have hst : d_R (q_save D) r = d_R D r := by unfold d_R; rw [q_save_st]
  have er : h6 (4 + 2 + r) = some (rowL (d_R D r)) := by rw [← hst]; exact w2.r hr8
  refine og_aload_n (pc := 27) dX7_setFour_27 rfl ?_
  refine og_get (pc := 28) F_X7_10 dX7_setFour_28 (by repeat (first | exact og_set_eq _ _ _ | assumption | refine (og_set_ne _ _ (by first | assumption | omega)).trans ?_)) (by omega) rfl ?_
  refine og_get (pc := 31) F_X7_78 dX7_setFour_31 (by repeat (first | exact og_set_eq _ _ _ | assumption | refine (og_set_ne _ _ (by first | assumption | omega)).trans ?_)) (by omega) rfl ?_
  refine og_iload_n (pc := 34) dX7_setFour_34 rfl ?_
  refine og_aaldN (pc := 35) rfl dX7_setFour_35 (by repeat (first | exact og_set_eq _ _ _ | assumption | refine (og_set_ne _ _ (by first | assumption | omega)).trans ?_)) (by omega) (by decide) (by decide) (by omega) (by first | decide | assumption | omega) (q_g8 hr8) ?_
  refine og_astore_7 (pc := 36) dX7_setFour_36 rfl ?_
  refine og_iload_n (pc := 38) dX7_setFour_38 rfl ?_
  have tail : ∀ k, k = (if u = 0 then 0 else 4) → og_G E yX7_setFour.cls cX7_setFour (d + 3) 5 30 9 X (og_Q E (fun v n1 h1 => ∃ r2, r2 < 8 ∧ nI r = nI r2 ∧ q_hvs a ∧ q_hvs b ∧ q_hvs c ∧ q_hvs e ∧ v = some (.long (q_inner (q_four4 (d_R D r2) (if u = 0 then 0 else 4) a b c e) (q_four4 (d_R D r2) (if u = 0 then 0 else 4) a b c e) 8)) ∧ og_DK h0 n0 n1 h1 (d_reg (q_save D) r2 (q_four4 (d_R D r2) (if u = 0 then 0 else 4) a b c e))) (fun En n1 h1 => og_DK h0 n0 n1 h1 D ∧ ((En = q_io ∧ ¬ q_in8 (nI r)) ∨ (En = q_ia ∧ q_in8 (nI r) ∧ ¬ (q_hvs a ∧ q_hvs b ∧ q_hvs c ∧ q_hvs e)))) 5 30 X) (0 + 1 + 1 + 1 + 1 + 1 + 0) (0 + 6 + 6 + 6 + 6 + 6 + 0) n6 h6 47 [some (.ref 3), some (.int (nI r)), some (.int u), some (.int a), some (.int b), some (.int c), some (.int e), some (.ref (4 + 2 + r)), none] [.int (nI k)] := by
    intro k hk
    have hk4 : k ≤ 4 := by rw [hk]; split <;> omega
    refine og_istore_8 (pc := 47) dX7_setFour_47 rfl ?_
    refine og_aload (pc := 49) dX7_setFour_49 rfl ?_
    refine og_iload (pc := 51) dX7_setFour_51 rfl ?_
    refine og_iload_n (pc := 53) dX7_setFour_53 rfl ?_
    refine og_i2l (pc := 54) dX7_setFour_54 rfl ?_
    refine og_lastN (pc := 55) rfl dX7_setFour_55 er (by omega) (by omega) (by first | decide | assumption | omega) ?_
    refine og_aload (pc := 56) dX7_setFour_56 rfl ?_
    refine og_iload (pc := 58) dX7_setFour_58 rfl ?_
    refine og_iconst (pc := 60) (v := 1) dX7_setFour_60 (by decide) ?_
    refine og_iadd (pc := 61) dX7_setFour_61 ?_
    rw [nI_1]
    refine og_iload (pc := 62) dX7_setFour_62 rfl ?_
    refine og_i2l (pc := 64) dX7_setFour_64 rfl ?_
    refine og_lastN (pc := 65) rfl dX7_setFour_65 (by repeat (first | exact og_set_eq _ _ _ | assumption | refine (og_set_ne _ _ (by first | assumption | omega)).trans ?_)) (by omega) (by omega) (by first | decide | assumption | omega) ?_
    refine og_aload (pc := 66) dX7_setFour_66 rfl ?_
    refine og_iload (pc := 68) dX7_setFour_68 rfl ?_
    refine og_iconst (pc := 70) (v := 2) dX7_setFour_70 (by decide) ?_
    refine og_iadd (pc := 71) dX7_setFour_71 ?_
    rw [og_set_set, show nI k + 2 = nI (k + 2) from nI_add k 2]
    refine og_iload (pc := 72) dX7_setFour_72 rfl ?_
    refine og_i2l (pc := 74) dX7_setFour_74 rfl ?_
    refine og_lastN (pc := 75) rfl dX7_setFour_75 (by repeat (first | exact og_set_eq _ _ _ | assumption | refine (og_set_ne _ _ (by first | assumption | omega)).trans ?_)) (by omega) (by omega) (by first | decide | assumption | omega) ?_
    refine og_aload (pc := 76) dX7_setFour_76 rfl ?_
    refine og_iload (pc := 78) dX7_setFour_78 rfl ?_
    refine og_iconst (pc := 80) (v := 3) dX7_setFour_80 (by decide) ?_
    refine og_iadd (pc := 81) dX7_setFour_81 ?_
    rw [og_set_set, show nI k + 3 = nI (k + 3) from nI_add k 3]
    refine og_iload (pc := 82) dX7_setFour_82 rfl ?_
    refine og_i2l (pc := 84) dX7_setFour_84 rfl ?_
    refine og_lastN (pc := 85) rfl dX7_setFour_85 (by repeat (first | exact og_set_eq _ _ _ | assumption | refine (og_set_ne _ _ (by first | assumption | omega)).trans ?_)) (by omega) (by omega) (by first | decide | assumption | omega) ?_
    rw [og_set_set]
    refine og_aload (pc := 86) dX7_setFour_86 rfl ?_
    have ef := w2.reg (q_four4 (d_R D r) k a b c e) hr8
    refine og_callS (pc := 88) (As := [.ref (4 + 2 + r)]) (rest := []) (c_X3_quarters E d n6 (4 + 2 + r) _ (q_four4 (d_R D r) k a b c e) (og_set_eq _ _ _) (by omega)) Y_X3_quarters S_X3_quarters K_X7_82 dX7_setFour_88 rfl rfl (Nat.le_of_ble_eq_true rfl) (by omega) (by omega) (by omega) (fun _ _ _ z => z) (fun v n7 h7 z => ?_)
    obtain ⟨rfl, hn, rfl⟩ := z
    subst hn
    refine og_lret (pc := 91) hr dX7_setFour_91 (by omega) (by omega) ⟨r, hr8, rfl, ha, hb, hc, he, ?_, ?_⟩
    · rw [← hk]
    · rw [← hk]
      exact ef
  refine og_if_eq (pc := 39) (tgt := 46) dX7_setFour_39 (by decide) (fun c => ?_) (fun c => ?_)
  · refine og_iconst (pc := 46) (v := 0) dX7_setFour_46 (by decide) ?_
    exact tail 0 (if_pos c).symm
  · refine og_iconst (pc := 42) (v := 4) dX7_setFour_42 (by decide) ?_
    refine og_goto (pc := 43) (tgt := 47) dX7_setFour_43 (by decide) ?_
    exact tail 4 (if_neg c).symm
theorem c_X7_setOrder (E : og_E) (d n : Nat) (h : og_H) (x : Int32) {h0 : og_H} {n0 : Nat} {D : q_D} (w : og_DK h0 n0 n h D) :
    og_M E yX7_setOrder (.code yX7_setOrder cX7_setOrder 3 (some .int)) (d + 3) [.ref 3, .int x] n h 1 6 (fun v n1 h1 => ∃ o, o < 8 ∧ x = nI o ∧ v = some (.int (nI (d_o D))) ∧ og_DK h0 n0 n1 h1 (d_wSt (q_save D) ((d_st D).1, o, (d_st D).2.2))) (fun En n1 h1 => og_DK h0 n0 n1 h1 D ∧ En = q_ia ∧ ¬ q_in8 x) := by
  refine og_start (lv := [some (.ref 3), some (.int x), none]) (by decide) rfl rfl (Nat.le_of_ble_eq_true rfl) fun X hr hnm htb => ?_
  have bad : (¬ q_in8 x) → og_G E yX7_setOrder.cls cX7_setOrder (d + 3) 1 6 3 X (og_Q E (fun v n1 h1 => ∃ o, o < 8 ∧ x = nI o ∧ v = some (.int (nI (d_o D))) ∧ og_DK h0 n0 n1 h1 (d_wSt (q_save D) ((d_st D).1, o, (d_st D).2.2))) (fun En n1 h1 => og_DK h0 n0 n1 h1 D ∧ En = q_ia ∧ ¬ q_in8 x) 1 6 X) 0 0 n h 10 [some (.ref 3), some (.int x), none] [] := fun hb =>
    og_throw (pc := 10) (text := "no such order") T_iae (by decide +kernel) htb dX7_setOrder_10 dX7_setOrder_13 dX7_setOrder_14 dX7_setOrder_16 dX7_setOrder_19 (by decide) (by omega) (by omega) (fun n1 hn => ⟨w.more hn, rfl, hb⟩)
  refine og_iload_n (pc := 0) dX7_setOrder_0 rfl ?_
  refine og_if_lt (pc := 1) (tgt := 10) dX7_setOrder_1 (by decide) (fun c => bad ?_) (fun c => ?_)
  · rintro ⟨r, hr8, e⟩
    rw [e] at c
    exact nI_pos (by omega) c
  refine og_iload_n (pc := 4) dX7_setOrder_4 rfl ?_
  refine og_bipush (pc := 5) (v := 8) dX7_setOrder_5 (by decide) ?_
  refine og_icmp_lt (pc := 7) (tgt := 20) dX7_setOrder_7 (by decide) (fun c2 => ?_) (fun c2 => bad ?_)
  · obtain ⟨o, ho8, rfl⟩ := q_e8_nat c c2
    refine og_aload_n (pc := 20) dX7_setOrder_20 rfl ?_
    refine og_callV (pc := 21) (As := []) (rest := []) (c_X7_saveState E d n h w) Y_X7_saveState I_X7_saveState V_X7_saveState w.d3 (by omega) rfl rfl K_X7_75 dX7_setOrder_21 rfl rfl (Nat.le_of_ble_eq_true rfl) (by omega) (by omega) (by omega) (fun _ _ _ z => z) (fun v n1 h1 z => ?_)
    obtain ⟨rfl, hn, w2, -⟩ := z
    subst hn
    have hst := q_save_st D
    have w3 := w2.obj o (d_st (q_save D)).2.2.1 (d_st (q_save D)).2.2.2 ho8
    have e3 := w2.d3
    have e4 := w2.e4
    refine og_aload_n (pc := 24) dX7_setOrder_24 rfl ?_
    refine og_get (pc := 25) F_X7_10 dX7_setOrder_25 (by repeat (first | exact og_set_eq _ _ _ | assumption | refine (og_set_ne _ _ (by first | assumption | omega)).trans ?_)) (by omega) rfl ?_
    refine og_get (pc := 28) F_X7_93 dX7_setOrder_28 (by repeat (first | exact og_set_eq _ _ _ | assumption | refine (og_set_ne _ _ (by first | assumption | omega)).trans ?_)) (by omega) rfl ?_
    refine og_istore_n_2 (pc := 31) dX7_setOrder_31 rfl ?_
    refine og_aload_n (pc := 32) dX7_setOrder_32 rfl ?_
    refine og_get (pc := 33) F_X7_10 dX7_setOrder_33 (by repeat (first | exact og_set_eq _ _ _ | assumption | refine (og_set_ne _ _ (by first | assumption | omega)).trans ?_)) (by omega) rfl ?_
    refine og_iload_n (pc := 36) dX7_setOrder_36 rfl ?_
    refine og_put (pc := 37) P_X7_93 dX7_setOrder_37 (by repeat (first | exact og_set_eq _ _ _ | assumption | refine (og_set_ne _ _ (by first | assumption | omega)).trans ?_)) (by omega) rfl rfl (Nat.le_of_ble_eq_true rfl) ?_
    refine og_iload_n (pc := 40) dX7_setOrder_40 rfl ?_
    refine og_iret (pc := 41) hr dX7_setOrder_41 (by omega) (by omega) ⟨o, ho8, rfl, ?_, ?_⟩
    · rw [hst]
    · rw [← hst]
      exact w3
  · rintro ⟨r, hr8, e⟩
    rw [e] at c2
    exact c2 (nI_lt (a := r) (b := 8) (by omega) (by omega))
