/-! ===== the desk: what the calls share ===== -/
section DK2
variable {E : og_E} {own : String} {cc : ByteArray} {dd mc ms nL : Nat} {X : og_X} {Q : State → Prop} {cells slots n : Nat} {h : og_H} {pc : Nat} {lv : List (Option Value)} {st : List Value}
theorem og_abs {P : og_H → Prop} (hp : P h) (k : ∀ h2, P h2 → og_G E own cc dd mc ms nL X Q cells slots n h2 pc lv st) : og_G E own cc dd mc ms nL X Q cells slots n h pc lv st := k h hp
theorem og_heq (h2 : og_H) (e : h = h2) (k : og_G E own cc dd mc ms nL X Q cells slots n h2 pc lv st) : og_G E own cc dd mc ms nL X Q cells slots n h pc lv st := e ▸ k
theorem og_aastN {a N ka ci b j : Nat} {r : vw_C} {fs : List Value} {f : Nat → Option Nat} {i : Int32} (hi : i = nI j) (hd : decode cc pc = .ok (.aastore, 1)) (ha : h a = some (.inl (ka, N, .inr (.inr (.inr (.inr f)))))) (h3 : 3 ≤ a) (hka : ka < 7) (hc : og_cl[ci]? = some r) (hty : og_ty ka = .object r.1) (hb : h b = some (.inr (ci, fs))) (hb3 : 3 ≤ b) (hj : j < N) (hN : N < 2147483648)
    (kk : og_G E own cc dd mc ms nL X Q cells slots n (og_set h a (.inl (ka, N, .inr (.inr (.inr (.inr (va_up f j (some b)))))))) (pc + 1) lv st) : og_G E own cc dd mc ms nL X Q cells slots n h pc lv (.ref b :: .int i :: .ref a :: st) := by
  subst hi
  refine og_aast hd ha h3 hka hc hty hb hb3 (vp_in_nI hj hN) ?_
  rw [nI_clamp (by omega)]
  exact kk
end DK2
theorem nI_s1 (i : Nat) : nI (i + 1) - 1 = nI i := by
  rw [← nI_1]
  exact Int32.add_sub_cancel _ _
theorem q_g8 {r : Nat} (hr : r < 8) : (fun i => if i < 8 then some (5 + 1 + i) else none) r = some (4 + 2 + r) := if_pos hr
theorem og_DK.r {h0 : og_H} {n0 n : Nat} {h : og_H} {D : q_D} (w : og_DK h0 n0 n h D) {r : Nat} (hr : r < 8) : h (4 + 2 + r) = some (rowL ((d_st D).1 r)) := w.now.2.2 r hr
theorem og_DK.e4 {h0 : og_H} {n0 n : Nat} {h : og_H} {D : q_D} (w : og_DK h0 n0 n h D) : h 4 = some (og_so 4 (d_st D)) := w.now.1
theorem og_DK.e5 {h0 : og_H} {n0 n : Nat} {h : og_H} {D : q_D} (w : og_DK h0 n0 n h D) : h 5 = some (og_grid 5 8) := w.now.2.1
def q_al (o : Nat) (f : Nat → Int64) : Prop := ∃ m, m < q_sets o ∧ q_os o m = q_odd f 8
abbrev d_R (D : q_D) (r : Nat) : Nat → Int64 := (d_st D).1 r
abbrev d_o (D : q_D) : Nat := (d_st D).2.1
theorem c_X7_isInOrder (E : og_E) (d n r : Nat) (h : og_H) {h0 : og_H} {n0 : Nat} {D : q_D} (w : og_DK h0 n0 n h D) (hr8 : r < 8) :
    og_M E yX7_isInOrder (.code yX7_isInOrder cX7_isInOrder 2 (some .boolean)) (d + 3) [.ref 3, .int (nI r)] n h 0 0 (fun v n1 h1 => n1 = n ∧ h1 = h ∧ ((v = some (.int 1) ∧ q_al (d_o D) (d_R D r)) ∨ (v = some (.int 0) ∧ ¬ q_al (d_o D) (d_R D r)))) no_x := by
  refine og_start (lv := [some (.ref 3), some (.int (nI r))]) (by decide) rfl rfl (Nat.le_of_ble_eq_true rfl) fun X hr hnm htb => ?_
  have e3 := w.d3
  have e4 := w.e4
  have e5 := w.e5
  refine og_aload_n (pc := 0) dX7_isInOrder_0 rfl ?_
  refine og_get (pc := 1) F_X7_10 dX7_isInOrder_1 (by repeat (first | exact og_set_eq _ _ _ | assumption | refine (og_set_ne _ _ (by first | assumption | omega)).trans ?_)) (by omega) rfl ?_
  refine og_get (pc := 4) F_X7_93 dX7_isInOrder_4 (by repeat (first | exact og_set_eq _ _ _ | assumption | refine (og_set_ne _ _ (by first | assumption | omega)).trans ?_)) (by omega) rfl ?_
  refine og_aload_n (pc := 7) dX7_isInOrder_7 rfl ?_
  refine og_get (pc := 8) F_X7_10 dX7_isInOrder_8 (by repeat (first | exact og_set_eq _ _ _ | assumption | refine (og_set_ne _ _ (by first | assumption | omega)).trans ?_)) (by omega) rfl ?_
  refine og_get (pc := 11) F_X7_78 dX7_isInOrder_11 (by repeat (first | exact og_set_eq _ _ _ | assumption | refine (og_set_ne _ _ (by first | assumption | omega)).trans ?_)) (by omega) rfl ?_
  refine og_iload_n (pc := 14) dX7_isInOrder_14 rfl ?_
  refine og_aaldN (pc := 15) rfl dX7_isInOrder_15 (by repeat (first | exact og_set_eq _ _ _ | assumption | refine (og_set_ne _ _ (by first | assumption | omega)).trans ?_)) (by omega) (by decide) (by decide) (by omega) (by first | decide | assumption | omega) (q_g8 hr8) ?_
  refine og_callS (pc := 16) (As := [.ref (4 + 2 + r)]) (rest := [.int (nI (d_o D))]) (c_X3_oddSet E d n (4 + 2 + r) h _ (w.r hr8) (by omega)) Y_X3_oddSet S_X3_oddSet K_X7_170 dX7_isInOrder_16 rfl rfl (Nat.le_of_ble_eq_true rfl) (by omega) (by omega) (by omega) (fun _ _ _ z => z) (fun v n1 h1 z => ?_)
  obtain ⟨rfl, hn1, rfl⟩ := z
  subst hn1
  refine og_callS (pc := 19) (As := [.int (nI (d_o D)), .int (q_odd (d_R D r) 8)]) (rest := []) (c_X2_allows E d n1 (d_o D) (q_odd (d_R D r) 8) _ w.se w.ok.1) Y_X2_allows S_X2_allows K_X7_174 dX7_isInOrder_19 rfl rfl (Nat.le_of_ble_eq_true rfl) (by omega) (by omega) (by omega) (fun _ _ _ z => z) (fun v n1 h1 z => ?_)
  obtain ⟨hn2, rfl, z⟩ := z
  subst hn2
  rcases z with ⟨rfl, z⟩ | ⟨rfl, z⟩
  · exact og_zret (pc := 22) hr rfl dX7_isInOrder_22 (by omega) (by omega) ⟨rfl, rfl, Or.inl ⟨rfl, z⟩⟩
  · exact og_zret (pc := 22) hr rfl dX7_isInOrder_22 (by omega) (by omega) ⟨rfl, rfl, Or.inr ⟨rfl, fun ⟨m, m1, m2⟩ => z m m1 m2⟩⟩
theorem c_X7_needDivisible (E : og_E) (d n a b : Nat) (h : og_H) {h0 : og_H} {n0 : Nat} {D : q_D} (w : og_DK h0 n0 n h D) (ha8 : a < 8) (hb8 : b < 8) :
    og_M E yX7_needDivisible (.code yX7_needDivisible cX7_needDivisible 3 none) (d + 4) [.ref 3, .int (nI a), .int (nI b)] n h 1 6 (fun v n1 h1 => v = none ∧ n1 = n ∧ h1 = h ∧ q_al (d_o D) (d_R D a) ∧ q_al (d_o D) (d_R D b) ∧ ¬ q_zr (d_R D b)) (fun En n1 h1 => En = q_ist ∧ n ≤ n1 ∧ h1 = h ∧ ¬ (q_al (d_o D) (d_R D a) ∧ q_al (d_o D) (d_R D b) ∧ ¬ q_zr (d_R D b))) := by
  refine og_start (lv := [some (.ref 3), some (.int (nI a)), some (.int (nI b))]) (by decide) rfl rfl (Nat.le_of_ble_eq_true rfl) fun X hr hnm htb => ?_
  have e3 := w.d3
  have e4 := w.e4
  have e5 := w.e5
  have bad : (¬ (q_al (d_o D) (d_R D a) ∧ q_al (d_o D) (d_R D b) ∧ ¬ q_zr (d_R D b))) → og_G E yX7_needDivisible.cls cX7_needDivisible (d + 4) 1 6 3 X (og_Q E (fun v n1 h1 => v = none ∧ n1 = n ∧ h1 = h ∧ q_al (d_o D) (d_R D a) ∧ q_al (d_o D) (d_R D b) ∧ ¬ q_zr (d_R D b)) (fun En n1 h1 => En = q_ist ∧ n ≤ n1 ∧ h1 = h ∧ ¬ (q_al (d_o D) (d_R D a) ∧ q_al (d_o D) (d_R D b) ∧ ¬ q_zr (d_R D b))) 1 6 X) 0 0 n h 31 [some (.ref 3), some (.int (nI a)), some (.int (nI b))] [] := fun hb =>
    og_throwW (pc := 31) (text := "not in the present order, or the divisor is 0") T_ise (by decide +kernel) htb dX7_needDivisible_31 dX7_needDivisible_34 dX7_needDivisible_35 dX7_needDivisible_38 dX7_needDivisible_41 (by decide) (by omega) (by omega) (fun n1 hn => ⟨rfl, hn, rfl, hb⟩)
  refine og_aload_n (pc := 0) dX7_needDivisible_0 rfl ?_
  refine og_iload_n (pc := 1) dX7_needDivisible_1 rfl ?_
  refine og_callV (pc := 2) (As := [.int (nI a)]) (rest := []) (c_X7_isInOrder E d n a h w ha8) Y_X7_isInOrder I_X7_isInOrder V_X7_isInOrder e3 (by omega) rfl rfl K_X7_281 dX7_needDivisible_2 rfl rfl (Nat.le_of_ble_eq_true rfl) (by omega) (by omega) (by omega) (fun _ _ _ z => z) (fun v n1 h1 z => ?_)
  obtain ⟨hn1, hh1, z⟩ := z
  subst hn1 hh1
  rcases z with ⟨rfl, z⟩ | ⟨rfl, z⟩
  · refine og_if_eq (pc := 5) (tgt := 31) dX7_needDivisible_5 (by decide) (fun c => absurd c (by decide)) (fun _ => ?_)
    refine og_aload_n (pc := 8) dX7_needDivisible_8 rfl ?_
    refine og_iload_n (pc := 9) dX7_needDivisible_9 rfl ?_
    refine og_callV (pc := 10) (As := [.int (nI b)]) (rest := []) (c_X7_isInOrder E d n1 b h1 w hb8) Y_X7_isInOrder I_X7_isInOrder V_X7_isInOrder e3 (by omega) rfl rfl K_X7_281 dX7_needDivisible_10 rfl rfl (Nat.le_of_ble_eq_true rfl) (by omega) (by omega) (by omega) (fun _ _ _ z => z) (fun v n2 h2 z => ?_)
    obtain ⟨hn2, hh2, z2⟩ := z
    subst hn2 hh2
    rcases z2 with ⟨rfl, z2⟩ | ⟨rfl, z2⟩
    · refine og_if_eq (pc := 13) (tgt := 31) dX7_needDivisible_13 (by decide) (fun c => absurd c (by decide)) (fun _ => ?_)
      refine og_aload_n (pc := 16) dX7_needDivisible_16 rfl ?_
      refine og_get (pc := 17) F_X7_10 dX7_needDivisible_17 (by repeat (first | exact og_set_eq _ _ _ | assumption | refine (og_set_ne _ _ (by first | assumption | omega)).trans ?_)) (by omega) rfl ?_
      refine og_get (pc := 20) F_X7_78 dX7_needDivisible_20 (by repeat (first | exact og_set_eq _ _ _ | assumption | refine (og_set_ne _ _ (by first | assumption | omega)).trans ?_)) (by omega) rfl ?_
      refine og_iload_n (pc := 23) dX7_needDivisible_23 rfl ?_
      refine og_aaldN (pc := 24) rfl dX7_needDivisible_24 (by repeat (first | exact og_set_eq _ _ _ | assumption | refine (og_set_ne _ _ (by first | assumption | omega)).trans ?_)) (by omega) (by decide) (by decide) (by omega) (by first | decide | assumption | omega) (q_g8 hb8) ?_
      refine og_callS (pc := 25) (As := [.ref (4 + 2 + b)]) (rest := []) (c_X3_isZero E d n2 (4 + 2 + b) h2 _ (w.r hb8) (by omega)) Y_X3_isZero S_X3_isZero K_X7_285 dX7_needDivisible_25 rfl rfl (Nat.le_of_ble_eq_true rfl) (by omega) (by omega) (by omega) (fun _ _ _ z => z) (fun v n3 h3 z => ?_)
      obtain ⟨hn3, hh3, z3⟩ := z
      subst hn3 hh3
      rcases z3 with ⟨rfl, z3⟩ | ⟨rfl, z3⟩
      · exact og_if_eq (pc := 28) (tgt := 42) dX7_needDivisible_28 (by decide) (fun c => absurd c (by decide)) (fun _ => bad fun q => q.2.2 z3)
      · refine og_if_eq (pc := 28) (tgt := 42) dX7_needDivisible_28 (by decide) (fun _ => ?_) (fun c => absurd rfl c)
        exact og_vret (pc := 42) hr dX7_needDivisible_42 (by omega) (by omega) ⟨rfl, rfl, rfl, z, z2, z3⟩
    · exact og_if_eq (pc := 13) (tgt := 31) dX7_needDivisible_13 (by decide) (fun _ => bad fun q => z2 q.2.1) (fun c => absurd rfl c)
  · exact og_if_eq (pc := 5) (tgt := 31) dX7_needDivisible_5 (by decide) (fun _ => bad fun q => z q.1) (fun c => absurd rfl c)

/-! the saved states -/
def q_sav2 (D : q_D) : q_D := d_wSc (d_wS D (fun j => if j = (d_sc D + d_rot D) % 4 then d_st D else d_S D j)) (d_sc D + 1)
def q_save (D : q_D) : q_D := if d_sc D = 4 then q_sav2 (d_wRot (d_wSc D 3) ((d_rot D + 1) % 4)) else q_sav2 D
theorem q_save_st (D : q_D) : d_st (q_save D) = d_st D := by
  unfold q_save
  split <;> rfl
theorem q_sa_at (t : Nat) {i : Nat} (hi : i < 4) : q_sa t i = some (15 + 10 * ((i + t) % 4)) := if_pos hi
def q_rt (t i : Nat) : Nat → Option Nat := fun k => if k + 1 < i then q_sa t (k + 1) else q_sa t k
theorem q_rt_1 (t : Nat) : q_rt t 1 = q_sa t := by
  funext k
  exact if_neg (by omega)
theorem q_rt_up (t i : Nat) (hi : 1 ≤ i) (h4 : i < 4) : va_up (q_rt t i) (i - 1) (some (15 + 10 * ((i + t) % 4))) = q_rt t (i + 1) := by
  funext k
  unfold va_up q_rt
  by_cases e : k = i - 1
  · rw [if_pos e, if_pos (by omega), show k + 1 = i by omega, q_sa_at t h4]
  · rw [if_neg e]
    by_cases e2 : k + 1 < i
    · rw [if_pos e2, if_pos (by omega)]
    · rw [if_neg e2, if_neg (by omega)]
theorem q_rt_4 (t : Nat) : va_up (q_rt t 4) 3 (some (15 + 10 * ((0 + t) % 4))) = q_sa ((t + 1) % 4) := by
  funext k
  unfold va_up q_rt q_sa
  by_cases e : k = 3
  · rw [if_pos e, if_pos (by omega)]
    congr 1
    omega
  · rw [if_neg e]
    by_cases e2 : k + 1 < 4
    · rw [if_pos e2, if_pos (by omega), if_pos (by omega)]
      congr 1
      omega
    · rw [if_neg e2, if_neg (by omega), if_neg (by omega)]
theorem og_DK.svs {h0 : og_H} {n0 n : Nat} {h : og_H} {D : q_D} (w : og_DK h0 n0 n h D) {j : Nat} {s : og_SD} {h1 : og_H} (hj : j < 4) (hs : og_Sat h1 (15 + 10 * j) s) (hk : ∀ k, ¬ (15 + 10 * j ≤ k ∧ k < 15 + 10 * j + 10) → h1 k = h k) : og_DK h0 n0 n h1 (d_wS D (fun i => if i = j then s else d_S D i)) := by
  have h124 : 104 ≤ n := Nat.le_trans w.nn.1 w.nn.2
  refine ⟨(hk _ (by omega)).trans w.d3, w.now.kept (fun k k1 k2 => hk k (by omega)), (hk _ (by omega)).trans w.s14, ?_, (hk _ (by omega)).trans w.u55, ?_, (hk _ (by omega)).trans w.d56, (hk _ (by omega)).trans w.g64, (hk _ (by omega)).trans w.g67, (hk _ (by omega)).trans w.t70, (hk _ (by omega)).trans w.t71, (hk _ (by omega)).trans w.c72, (hk _ (by omega)).trans w.g73, (hk _ (by omega)).trans w.g81, (hk _ (by omega)).trans w.g89, ?_, (hk _ (by omega)).trans w.tr, (hk _ (by omega)).trans w.se, ?_, w.nn, w.ok⟩
  · intro i hi
    show og_Sat h1 (15 + 10 * i) (if i = j then s else d_S D i)
    by_cases e : i = j
    · rw [if_pos e, e]
      exact hs
    · rw [if_neg e]
      exact (w.sv i hi).kept fun k k1 k2 => hk k (by omega)
  · intro o u hu
    obtain ⟨a1, a2, a3, a4, a5⟩ := w.un o u hu
    exact ⟨a1, a2, a3, (hk _ (by omega)).trans a4, (hk _ (by omega)).trans a5⟩
  · intro a ha
    rw [hk a (by unfold q_scr at ha; omega)]
    exact w.scr a ha
  · intro a ha hn
    exact (hk a (by omega)).trans (w.fr a ha hn)
set_option maxRecDepth 4000 in
theorem c_X7_saveState (E : og_E) (d n : Nat) (h : og_H) {h0 : og_H} {n0 : Nat} {D : q_D} (w : og_DK h0 n0 n h D) :
    og_M E yX7_saveState (.code yX7_saveState cX7_saveState 3 none) (d + 2) [.ref 3] n h 0 0 (fun v n1 h1 => v = none ∧ n1 = n ∧ og_DK h0 n0 n h1 (q_save D) ∧ ∀ a, q_scr a → h1 a = h a) no_x := by
  refine og_start (lv := [some (.ref 3), none, none]) (by decide) rfl rfl (Nat.le_of_ble_eq_true rfl) fun X hr hnm htb => ?_
  have ph2 : ∀ (D2 : q_D) (h2 : og_H), og_DK h0 n0 n h2 D2 → d_sc D2 < 4 → (∀ a, q_scr a → h2 a = h a) → og_G E yX7_saveState.cls cX7_saveState (d + 2) 0 0 3 X (og_Q E (fun v n1 h1 => v = none ∧ n1 = n ∧ og_DK h0 n0 n h1 (q_sav2 D2) ∧ ∀ a, q_scr a → h1 a = h a) no_x 0 0 X) 0 0 n h2 59 [some (.ref 3), none, none] [] := by
    intro D2 h2 w2 hc hfr
    have e3 := w2.d3
    have e14 := w2.s14
    have e4 := w2.e4
    have hj : (d_sc D2 + d_rot D2) % 4 < 4 := Nat.mod_lt _ (by omega)
    refine og_aload_n (pc := 59) dX7_saveState_59 rfl ?_
    refine og_get (pc := 60) F_X7_16 dX7_saveState_60 (by repeat (first | exact og_set_eq _ _ _ | assumption | refine (og_set_ne _ _ (by first | assumption | omega)).trans ?_)) (by omega) rfl ?_
    refine og_aload_n (pc := 63) dX7_saveState_63 rfl ?_
    refine og_get (pc := 64) F_X7_20 dX7_saveState_64 (by repeat (first | exact og_set_eq _ _ _ | assumption | refine (og_set_ne _ _ (by first | assumption | omega)).trans ?_)) (by omega) rfl ?_
    refine og_aaldN (pc := 67) rfl dX7_saveState_67 (by repeat (first | exact og_set_eq _ _ _ | assumption | refine (og_set_ne _ _ (by first | assumption | omega)).trans ?_)) (by omega) (by decide) (by decide) (by omega) (by first | decide | assumption | omega) (q_sa_at _ hc) ?_
    refine og_aload_n (pc := 68) dX7_saveState_68 rfl ?_
    refine og_get (pc := 69) F_X7_10 dX7_saveState_69 (by repeat (first | exact og_set_eq _ _ _ | assumption | refine (og_set_ne _ _ (by first | assumption | omega)).trans ?_)) (by omega) rfl ?_
    have esv := (w2.sv _ hj).1
    refine og_callV (pc := 72) (As := [.ref 4]) (rest := []) (c_X4_takeFrom E d n (15 + 10 * ((d_sc D2 + d_rot D2) % 4)) 4 h2 _ _ (w2.sv _ hj) w2.now (by omega) (by omega) (by omega)) Y_X4_takeFrom I_X4_takeFrom V_X4_takeFrom esv (by omega) rfl rfl K_X7_249 dX7_saveState_72 rfl rfl (Nat.le_of_ble_eq_true rfl) (by omega) (by omega) (by omega) (fun _ _ _ z => z) (fun v n1 h1 z => ?_)
    obtain ⟨rfl, hn1, hs, hk⟩ := z
    subst hn1
    have w3 := w2.svs hj hs hk
    have w4 := w3.cnt (d_sc D2 + 1) (by omega)
    have e3 : h1 3 = some (og_dk (d_sc D2)) := w3.d3
    refine og_aload_n (pc := 75) dX7_saveState_75 rfl ?_
    refine og_dup (pc := 76) dX7_saveState_76 rfl ?_
    refine og_get (pc := 77) F_X7_20 dX7_saveState_77 (by repeat (first | exact og_set_eq _ _ _ | assumption | refine (og_set_ne _ _ (by first | assumption | omega)).trans ?_)) (by omega) rfl ?_
    refine og_iconst (pc := 80) (v := 1) dX7_saveState_80 (by decide) ?_
    refine og_iadd (pc := 81) dX7_saveState_81 ?_
    rw [nI_1]
    refine og_put (pc := 82) P_X7_20 dX7_saveState_82 (by repeat (first | exact og_set_eq _ _ _ | assumption | refine (og_set_ne _ _ (by first | assumption | omega)).trans ?_)) (by omega) rfl rfl (Nat.le_of_ble_eq_true rfl) ?_
    refine og_vret (pc := 85) hr dX7_saveState_85 (by omega) (by omega) ⟨rfl, rfl, w4, fun a ha => ?_⟩
    rw [og_set_ne _ _ (by unfold q_scr at ha; omega), hk a (by unfold q_scr at ha; omega)]
    exact hfr a ha
  have e3 := w.d3
  have e14 := w.s14
  refine og_aload_n (pc := 0) dX7_saveState_0 rfl ?_
  refine og_get (pc := 1) F_X7_20 dX7_saveState_1 (by repeat (first | exact og_set_eq _ _ _ | assumption | refine (og_set_ne _ _ (by first | assumption | omega)).trans ?_)) (by omega) rfl ?_
  refine og_iconst (pc := 4) (v := 4) dX7_saveState_4 (by decide) ?_
  refine og_icmp_ne (pc := 5) (tgt := 59) dX7_saveState_5 (by decide) (fun c => ?_) (fun c => ?_)
  · have hne : d_sc D ≠ 4 := fun q => c (by rw [q]; rfl)
    have eq : q_save D = q_sav2 D := if_neg hne
    rw [eq]
    exact ph2 D h w (by have := w.ok.2.1; omega) (fun _ _ => rfl)
  · have hc : d_sc D = 4 := (nI_eq (by have := w.ok.2.1; omega) (by omega)).mp c
    have eq : q_save D = q_sav2 (d_wRot (d_wSc D 3) ((d_rot D + 1) % 4)) := if_pos hc
    rw [eq]
    refine og_aload_n (pc := 8) dX7_saveState_8 rfl ?_
    refine og_get (pc := 9) F_X7_16 dX7_saveState_9 (by repeat (first | exact og_set_eq _ _ _ | assumption | refine (og_set_ne _ _ (by first | assumption | omega)).trans ?_)) (by omega) rfl ?_
    refine og_iconst (pc := 12) (v := 0) dX7_saveState_12 (by decide) ?_
    refine og_aaldN (pc := 13) (j := 0) rfl dX7_saveState_13 (by repeat (first | exact og_set_eq _ _ _ | assumption | refine (og_set_ne _ _ (by first | assumption | omega)).trans ?_)) (by omega) (by decide) (by decide) (by omega) (by first | decide | assumption | omega) (q_sa_at _ (show 0 < 4 by omega)) ?_
    refine og_astore_n_1 (pc := 14) dX7_saveState_14 rfl ?_
    refine og_iconst (pc := 15) (v := 1) dX7_saveState_15 (by decide) ?_
    refine og_istore_n_2 (pc := 16) dX7_saveState_16 rfl ?_
    refine og_heq (og_set h 14 (og_refs 4 4 (q_rt (d_rot D) 1))) (by rw [q_rt_1, og_set_same e14]) ?_
    refine og_for (i0 := 1) (N := 4) (by decide) (fun i => og_set h 14 (og_refs 4 4 (q_rt (d_rot D) i))) (fun i => [some (.ref 3), some (.ref (15 + 10 * ((0 + d_rot D) % 4))), some (.int (nI i))]) ?_ (fun i h1i hi ih => ?_)
    · have e14b : og_set h 14 (og_refs 4 4 (q_rt (d_rot D) 4)) 14 = some (og_refs 4 4 (q_rt (d_rot D) 4)) := og_set_eq _ _ _
      have hj : (0 + d_rot D) % 4 < 4 := Nat.mod_lt _ (by omega)
      have esv := (w.sv _ hj).1
      refine og_iload_n (pc := 17) dX7_saveState_17 rfl ?_
      refine og_iconst (pc := 18) (v := 4) dX7_saveState_18 (by decide) ?_
      refine og_geN (pc := 19) (tgt := 42) (i := 4) (N := 4) dX7_saveState_19 (by decide) rfl rfl (by omega) (by omega) (fun c_19 => ?_) (fun c_19 => ?_)
      · refine og_aload_n (pc := 42) dX7_saveState_42 rfl ?_
        refine og_get (pc := 43) F_X7_16 dX7_saveState_43 (by repeat (first | exact og_set_eq _ _ _ | assumption | refine (og_set_ne _ _ (by first | assumption | omega)).trans ?_)) (by omega) rfl ?_
        refine og_iconst (pc := 46) (v := 3) dX7_saveState_46 (by decide) ?_
        refine og_aload_n (pc := 47) dX7_saveState_47 rfl ?_
        refine og_aastN (pc := 48) (j := 3) (ci := 2) rfl dX7_saveState_48 e14b (by omega) (by decide) rfl rfl ((og_set_ne _ _ (by omega)).trans esv) (by omega) (by omega) (by omega) ?_
        rw [og_set_set, q_rt_4]
        have e3c : og_set h 14 (.inl (4, 4, .inr (.inr (.inr (.inr (q_sa ((d_rot D + 1) % 4))))))) 3 = some (og_dk 4) := by rw [og_set_ne _ _ (by omega), ← hc]; exact e3
        refine og_aload_n (pc := 49) dX7_saveState_49 rfl ?_
        refine og_dup (pc := 50) dX7_saveState_50 rfl ?_
        refine og_get (pc := 51) F_X7_20 dX7_saveState_51 e3c (by omega) rfl ?_
        refine og_iconst (pc := 54) (v := 1) dX7_saveState_54 (by decide) ?_
        refine og_isub (pc := 55) dX7_saveState_55 ?_
        refine og_put (pc := 56) P_X7_20 dX7_saveState_56 e3c (by omega) rfl rfl (Nat.le_of_ble_eq_true rfl) ?_
        refine og_forget_1 (og_forget_2 ?_)
        refine ph2 (d_wRot (d_wSc D 3) ((d_rot D + 1) % 4)) _ ((w.sav _ (Nat.mod_lt _ (by omega))).cnt 3 (by omega)) (by show 3 < 4; omega) (fun a ha => ?_)
        rw [og_set_ne _ _ (by unfold q_scr at ha; omega), og_set_ne _ _ (by unfold q_scr at ha; omega)]
      · omega
    · have e14b : og_set h 14 (og_refs 4 4 (q_rt (d_rot D) i)) 14 = some (og_refs 4 4 (q_rt (d_rot D) i)) := og_set_eq _ _ _
      have e3b : og_set h 14 (og_refs 4 4 (q_rt (d_rot D) i)) 3 = some (og_dk (d_sc D)) := (og_set_ne _ _ (by omega)).trans e3
      have hj : (i + d_rot D) % 4 < 4 := Nat.mod_lt _ (by omega)
      have esv := (w.sv _ hj).1
      have hrd : q_rt (d_rot D) i i = some (15 + 10 * ((i + d_rot D) % 4)) := (if_neg (by omega)).trans (q_sa_at _ hi)
      refine og_iload_n (pc := 17) dX7_saveState_17 rfl ?_
      refine og_iconst (pc := 18) (v := 4) dX7_saveState_18 (by decide) ?_
      refine og_geN (pc := 19) (tgt := 42) (i := i) (N := 4) dX7_saveState_19 (by decide) rfl rfl (by omega) (by omega) (fun c_19 => ?_) (fun c_19 => ?_)
      · omega
      refine og_aload_n (pc := 22) dX7_saveState_22 rfl ?_
      refine og_get (pc := 23) F_X7_16 dX7_saveState_23 (by repeat (first | exact og_set_eq _ _ _ | assumption | refine (og_set_ne _ _ (by first | assumption | omega)).trans ?_)) (by omega) rfl ?_
      refine og_iload_n (pc := 26) dX7_saveState_26 rfl ?_
      refine og_iconst (pc := 27) (v := 1) dX7_saveState_27 (by decide) ?_
      refine og_isub (pc := 28) dX7_saveState_28 ?_
      refine og_aload_n (pc := 29) dX7_saveState_29 rfl ?_
      refine og_get (pc := 30) F_X7_16 dX7_saveState_30 (by repeat (first | exact og_set_eq _ _ _ | assumption | refine (og_set_ne _ _ (by first | assumption | omega)).trans ?_)) (by omega) rfl ?_
      refine og_iload_n (pc := 33) dX7_saveState_33 rfl ?_
      refine og_aaldN (pc := 34) rfl dX7_saveState_34 e14b (by omega) (by decide) (by decide) (by omega) (by first | decide | assumption | omega) hrd ?_
      refine og_aastN (pc := 35) (j := i - 1) (ci := 2) (by obtain ⟨k, rfl⟩ : ∃ k, i = k + 1 := ⟨i - 1, by omega⟩; exact nI_s1 k) dX7_saveState_35 e14b (by omega) (by decide) rfl rfl ((og_set_ne _ _ (by omega)).trans esv) (by omega) (by omega) (by omega) ?_
      rw [og_set_set, q_rt_up _ _ h1i hi]
      refine og_iinc_2 (pc := 36) dX7_saveState_36 (og_inc i) rfl ?_
      refine og_goto (pc := 39) (tgt := 17) dX7_saveState_39 (by decide) ?_
      exact ih

theorem c_X7_put (E : og_E) (d n r : Nat) (h : og_H) {h0 : og_H} {n0 : Nat} {D : q_D} {f : Nat → Int64} (w : og_DK h0 n0 n h D) (hr8 : r < 8) (hf : h 98 = some (rowL f)) :
    og_M E yX7_put (.code yX7_put cX7_put 2 (some .long)) (d + 2) [.ref 3, .int (nI r)] n h 0 0 (fun v n1 h1 => v = some (.long (q_inner f f 8)) ∧ n1 = n ∧ og_DK h0 n0 n h1 (d_reg D r f)) no_x := by
  refine og_start (lv := [some (.ref 3), some (.int (nI r))]) (by decide) rfl rfl (Nat.le_of_ble_eq_true rfl) fun X hr hnm htb => ?_
  have e3 := w.d3
  have e4 := w.e4
  have e5 := w.e5
  refine og_aload_n (pc := 0) dX7_put_0 rfl ?_
  refine og_get (pc := 1) F_X7_55 dX7_put_1 (by repeat (first | exact og_set_eq _ _ _ | assumption | refine (og_set_ne _ _ (by first | assumption | omega)).trans ?_)) (by omega) rfl ?_
  refine og_aload_n (pc := 4) dX7_put_4 rfl ?_
  refine og_get (pc := 5) F_X7_10 dX7_put_5 (by repeat (first | exact og_set_eq _ _ _ | assumption | refine (og_set_ne _ _ (by first | assumption | omega)).trans ?_)) (by omega) rfl ?_
  refine og_get (pc := 8) F_X7_78 dX7_put_8 (by repeat (first | exact og_set_eq _ _ _ | assumption | refine (og_set_ne _ _ (by first | assumption | omega)).trans ?_)) (by omega) rfl ?_
  refine og_iload_n (pc := 11) dX7_put_11 rfl ?_
  refine og_aaldN (pc := 12) rfl dX7_put_12 (by repeat (first | exact og_set_eq _ _ _ | assumption | refine (og_set_ne _ _ (by first | assumption | omega)).trans ?_)) (by omega) (by decide) (by decide) (by omega) (by first | decide | assumption | omega) (q_g8 hr8) ?_
  refine og_callS (pc := 13) (As := [.ref 98, .ref (4 + 2 + r)]) (rest := []) (c_X3_copy E d n 98 (4 + 2 + r) h f _ hf (w.r hr8) (by omega) (by omega) (by omega)) Y_X3_copy S_X3_copy K_X7_163 dX7_put_13 rfl rfl (Nat.le_of_ble_eq_true rfl) (by omega) (by omega) (by omega) (fun _ _ _ z => z) (fun v n1 h1 z => ?_)
  obtain ⟨rfl, hn1, rfl⟩ := z
  subst hn1
  have e3 : og_set h (4 + 2 + r) (rowL f) 3 = some (og_dk (d_sc D)) := (og_set_ne _ _ (by omega)).trans w.d3
  refine og_aload_n (pc := 16) dX7_put_16 rfl ?_
  refine og_get (pc := 17) F_X7_55 dX7_put_17 (by repeat (first | exact og_set_eq _ _ _ | assumption | refine (og_set_ne _ _ (by first | assumption | omega)).trans ?_)) (by omega) rfl ?_
  refine og_callS (pc := 20) (As := [.ref 98]) (rest := []) (c_X3_quarters E d n1 98 _ f ((og_set_ne _ _ (by omega)).trans hf) (by omega)) Y_X3_quarters S_X3_quarters K_X7_82 dX7_put_20 rfl rfl (Nat.le_of_ble_eq_true rfl) (by omega) (by omega) (by omega) (fun _ _ _ z => z) (fun v n2 h2 z => ?_)
  obtain ⟨rfl, hn2, rfl⟩ := z
  subst hn2
  exact og_lret (pc := 23) hr dX7_put_23 (by omega) (by omega) ⟨rfl, rfl, w.reg f hr8⟩
/-- (a b) c - a (b c), in eighths -/
def q_asc (f g k : Nat → Int64) : Nat → Int64 := q_total (q_prod (q_prod f g) k) (q_prod f (q_prod g k)) 1
set_option maxRecDepth 4000 in
theorem c_X7_workAssociator (E : og_E) (d n a b c : Nat) (h : og_H) {h0 : og_H} {n0 : Nat} {D : q_D} (w : og_DK h0 n0 n h D) (ha8 : a < 8) (hb8 : b < 8) (hc8 : c < 8) :
    og_M E yX7_workAssociator (.code yX7_workAssociator cX7_workAssociator 4 none) (d + 1) [.ref 3, .int (nI a), .int (nI b), .int (nI c)] n h 0 0 (fun v n1 h1 => v = none ∧ n1 = n ∧ og_DK h0 n0 n h1 D ∧ h1 98 = some (rowL (q_asc (d_R D a) (d_R D b) (d_R D c)))) no_x := by
  refine og_start (lv := [some (.ref 3), some (.int (nI a)), some (.int (nI b)), some (.int (nI c))]) (by decide) rfl rfl (Nat.le_of_ble_eq_true rfl) fun X hr hnm htb => ?_
  have e3 := w.d3
  have e4 := w.e4
  have e5 := w.e5
  obtain ⟨f0, e100⟩ := w.scr 100 (by unfold q_scr; omega)
  refine og_aload_n (pc := 0) dX7_workAssociator_0 rfl ?_
  refine og_get (pc := 1) F_X7_10 dX7_workAssociator_1 (by repeat (first | exact og_set_eq _ _ _ | assumption | refine (og_set_ne _ _ (by first | assumption | omega)).trans ?_)) (by omega) rfl ?_
  refine og_get (pc := 4) F_X7_78 dX7_workAssociator_4 (by repeat (first | exact og_set_eq _ _ _ | assumption | refine (og_set_ne _ _ (by first | assumption | omega)).trans ?_)) (by omega) rfl ?_
  refine og_iload_n (pc := 7) dX7_workAssociator_7 rfl ?_
  refine og_aaldN (pc := 8) rfl dX7_workAssociator_8 (by repeat (first | exact og_set_eq _ _ _ | assumption | refine (og_set_ne _ _ (by first | assumption | omega)).trans ?_)) (by omega) (by decide) (by decide) (by omega) (by first | decide | assumption | omega) (q_g8 ha8) ?_
  refine og_aload_n (pc := 9) dX7_workAssociator_9 rfl ?_
  refine og_get (pc := 10) F_X7_10 dX7_workAssociator_10 (by repeat (first | exact og_set_eq _ _ _ | assumption | refine (og_set_ne _ _ (by first | assumption | omega)).trans ?_)) (by omega) rfl ?_
  refine og_get (pc := 13) F_X7_78 dX7_workAssociator_13 (by repeat (first | exact og_set_eq _ _ _ | assumption | refine (og_set_ne _ _ (by first | assumption | omega)).trans ?_)) (by omega) rfl ?_
  refine og_iload_n (pc := 16) dX7_workAssociator_16 rfl ?_
  refine og_aaldN (pc := 17) rfl dX7_workAssociator_17 (by repeat (first | exact og_set_eq _ _ _ | assumption | refine (og_set_ne _ _ (by first | assumption | omega)).trans ?_)) (by omega) (by decide) (by decide) (by omega) (by first | decide | assumption | omega) (q_g8 hb8) ?_
  refine og_aload_n (pc := 18) dX7_workAssociator_18 rfl ?_
  refine og_get (pc := 19) F_X7_62 dX7_workAssociator_19 (by repeat (first | exact og_set_eq _ _ _ | assumption | refine (og_set_ne _ _ (by first | assumption | omega)).trans ?_)) (by omega) rfl ?_
  refine og_callS (pc := 22) (As := [.ref (4 + 2 + a), .ref (4 + 2 + b), .ref 100]) (rest := []) (c_X3_product E d n (4 + 2 + a) (4 + 2 + b) 100 h _ _ _ w.tr (w.r ha8) (w.r hb8) e100 (by omega) (by omega) (by omega) (by omega) (by omega)) Y_X3_product S_X3_product K_X7_129 dX7_workAssociator_22 rfl rfl (Nat.le_of_ble_eq_true rfl) (by omega) (by omega) (by omega) (fun _ _ _ z => z) (fun v n1 h1 z => ?_)
  obtain ⟨rfl, hn1, rfl⟩ := z
  subst hn1
  refine og_abs (P := fun h2 => og_DK h0 n0 n1 h2 D ∧ h2 100 = some (rowL (q_prod (d_R D a) (d_R D b)))) ⟨w.row _ (by unfold q_scr; omega), og_set_eq _ _ _⟩ fun h2 ⟨w2, e100⟩ => ?_
  have e3 := w2.d3
  have e4 := w2.e4
  have e5 := w2.e5
  obtain ⟨f1, e98⟩ := w2.scr 98 (by unfold q_scr; omega)
  refine og_aload_n (pc := 25) dX7_workAssociator_25 rfl ?_
  refine og_get (pc := 26) F_X7_62 dX7_workAssociator_26 (by repeat (first | exact og_set_eq _ _ _ | assumption | refine (og_set_ne _ _ (by first | assumption | omega)).trans ?_)) (by omega) rfl ?_
  refine og_aload_n (pc := 29) dX7_workAssociator_29 rfl ?_
  refine og_get (pc := 30) F_X7_10 dX7_workAssociator_30 (by repeat (first | exact og_set_eq _ _ _ | assumption | refine (og_set_ne _ _ (by first | assumption | omega)).trans ?_)) (by omega) rfl ?_
  refine og_get (pc := 33) F_X7_78 dX7_workAssociator_33 (by repeat (first | exact og_set_eq _ _ _ | assumption | refine (og_set_ne _ _ (by first | assumption | omega)).trans ?_)) (by omega) rfl ?_
  refine og_iload_n (pc := 36) dX7_workAssociator_36 rfl ?_
  refine og_aaldN (pc := 37) rfl dX7_workAssociator_37 (by repeat (first | exact og_set_eq _ _ _ | assumption | refine (og_set_ne _ _ (by first | assumption | omega)).trans ?_)) (by omega) (by decide) (by decide) (by omega) (by first | decide | assumption | omega) (q_g8 hc8) ?_
  refine og_aload_n (pc := 38) dX7_workAssociator_38 rfl ?_
  refine og_get (pc := 39) F_X7_55 dX7_workAssociator_39 (by repeat (first | exact og_set_eq _ _ _ | assumption | refine (og_set_ne _ _ (by first | assumption | omega)).trans ?_)) (by omega) rfl ?_
  refine og_callS (pc := 42) (As := [.ref 100, .ref (4 + 2 + c), .ref 98]) (rest := []) (c_X3_product E d n1 100 (4 + 2 + c) 98 h2 _ _ _ w2.tr e100 (w2.r hc8) e98 (by omega) (by omega) (by omega) (by omega) (by omega)) Y_X3_product S_X3_product K_X7_129 dX7_workAssociator_42 rfl rfl (Nat.le_of_ble_eq_true rfl) (by omega) (by omega) (by omega) (fun _ _ _ z => z) (fun v n2 h2 z => ?_)
  obtain ⟨rfl, hn2, rfl⟩ := z
  subst hn2
  refine og_abs (P := fun h3 => og_DK h0 n0 n2 h3 D ∧ h3 98 = some (rowL (q_prod (q_prod (d_R D a) (d_R D b)) (d_R D c)))) ⟨w2.row _ (by unfold q_scr; omega), og_set_eq _ _ _⟩ fun h3 ⟨w3, e98⟩ => ?_
  have e3 := w3.d3
  have e4 := w3.e4
  have e5 := w3.e5
  obtain ⟨f2, e100⟩ := w3.scr 100 (by unfold q_scr; omega)
  refine og_aload_n (pc := 45) dX7_workAssociator_45 rfl ?_
  refine og_get (pc := 46) F_X7_10 dX7_workAssociator_46 (by repeat (first | exact og_set_eq _ _ _ | assumption | refine (og_set_ne _ _ (by first | assumption | omega)).trans ?_)) (by omega) rfl ?_
  refine og_get (pc := 49) F_X7_78 dX7_workAssociator_49 (by repeat (first | exact og_set_eq _ _ _ | assumption | refine (og_set_ne _ _ (by first | assumption | omega)).trans ?_)) (by omega) rfl ?_
  refine og_iload_n (pc := 52) dX7_workAssociator_52 rfl ?_
  refine og_aaldN (pc := 53) rfl dX7_workAssociator_53 (by repeat (first | exact og_set_eq _ _ _ | assumption | refine (og_set_ne _ _ (by first | assumption | omega)).trans ?_)) (by omega) (by decide) (by decide) (by omega) (by first | decide | assumption | omega) (q_g8 hb8) ?_
  refine og_aload_n (pc := 54) dX7_workAssociator_54 rfl ?_
  refine og_get (pc := 55) F_X7_10 dX7_workAssociator_55 (by repeat (first | exact og_set_eq _ _ _ | assumption | refine (og_set_ne _ _ (by first | assumption | omega)).trans ?_)) (by omega) rfl ?_
  refine og_get (pc := 58) F_X7_78 dX7_workAssociator_58 (by repeat (first | exact og_set_eq _ _ _ | assumption | refine (og_set_ne _ _ (by first | assumption | omega)).trans ?_)) (by omega) rfl ?_
  refine og_iload_n (pc := 61) dX7_workAssociator_61 rfl ?_
  refine og_aaldN (pc := 62) rfl dX7_workAssociator_62 (by repeat (first | exact og_set_eq _ _ _ | assumption | refine (og_set_ne _ _ (by first | assumption | omega)).trans ?_)) (by omega) (by decide) (by decide) (by omega) (by first | decide | assumption | omega) (q_g8 hc8) ?_
  refine og_aload_n (pc := 63) dX7_workAssociator_63 rfl ?_
  refine og_get (pc := 64) F_X7_62 dX7_workAssociator_64 (by repeat (first | exact og_set_eq _ _ _ | assumption | refine (og_set_ne _ _ (by first | assumption | omega)).trans ?_)) (by omega) rfl ?_
  refine og_callS (pc := 67) (As := [.ref (4 + 2 + b), .ref (4 + 2 + c), .ref 100]) (rest := []) (c_X3_product E d n2 (4 + 2 + b) (4 + 2 + c) 100 h3 _ _ _ w3.tr (w3.r hb8) (w3.r hc8) e100 (by omega) (by omega) (by omega) (by omega) (by omega)) Y_X3_product S_X3_product K_X7_129 dX7_workAssociator_67 rfl rfl (Nat.le_of_ble_eq_true rfl) (by omega) (by omega) (by omega) (fun _ _ _ z => z) (fun v n3 h3 z => ?_)
  obtain ⟨rfl, hn3, rfl⟩ := z
  subst hn3
  refine og_abs (P := fun h4 => og_DK h0 n0 n3 h4 D ∧ h4 98 = some (rowL (q_prod (q_prod (d_R D a) (d_R D b)) (d_R D c))) ∧ h4 100 = some (rowL (q_prod (d_R D b) (d_R D c)))) ⟨w3.row _ (by unfold q_scr; omega), (og_set_ne _ _ (by omega)).trans e98, og_set_eq _ _ _⟩ fun h4 ⟨w4, e98, e100⟩ => ?_
  have e3 := w4.d3
  have e4 := w4.e4
  have e5 := w4.e5
  obtain ⟨f4, e99⟩ := w4.scr 99 (by unfold q_scr; omega)
  refine og_aload_n (pc := 70) dX7_workAssociator_70 rfl ?_
  refine og_get (pc := 71) F_X7_10 dX7_workAssociator_71 (by repeat (first | exact og_set_eq _ _ _ | assumption | refine (og_set_ne _ _ (by first | assumption | omega)).trans ?_)) (by omega) rfl ?_
  refine og_get (pc := 74) F_X7_78 dX7_workAssociator_74 (by repeat (first | exact og_set_eq _ _ _ | assumption | refine (og_set_ne _ _ (by first | assumption | omega)).trans ?_)) (by omega) rfl ?_
  refine og_iload_n (pc := 77) dX7_workAssociator_77 rfl ?_
  refine og_aaldN (pc := 78) rfl dX7_workAssociator_78 (by repeat (first | exact og_set_eq _ _ _ | assumption | refine (og_set_ne _ _ (by first | assumption | omega)).trans ?_)) (by omega) (by decide) (by decide) (by omega) (by first | decide | assumption | omega) (q_g8 ha8) ?_
  refine og_aload_n (pc := 79) dX7_workAssociator_79 rfl ?_
  refine og_get (pc := 80) F_X7_62 dX7_workAssociator_80 (by repeat (first | exact og_set_eq _ _ _ | assumption | refine (og_set_ne _ _ (by first | assumption | omega)).trans ?_)) (by omega) rfl ?_
  refine og_aload_n (pc := 83) dX7_workAssociator_83 rfl ?_
  refine og_get (pc := 84) F_X7_59 dX7_workAssociator_84 (by repeat (first | exact og_set_eq _ _ _ | assumption | refine (og_set_ne _ _ (by first | assumption | omega)).trans ?_)) (by omega) rfl ?_
  refine og_callS (pc := 87) (As := [.ref (4 + 2 + a), .ref 100, .ref 99]) (rest := []) (c_X3_product E d n3 (4 + 2 + a) 100 99 h4 _ _ _ w4.tr (w4.r ha8) e100 e99 (by omega) (by omega) (by omega) (by omega) (by omega)) Y_X3_product S_X3_product K_X7_129 dX7_workAssociator_87 rfl rfl (Nat.le_of_ble_eq_true rfl) (by omega) (by omega) (by omega) (fun _ _ _ z => z) (fun v n4 h4 z => ?_)
  obtain ⟨rfl, hn4, rfl⟩ := z
  subst hn4
  refine og_abs (P := fun h5 => og_DK h0 n0 n4 h5 D ∧ h5 98 = some (rowL (q_prod (q_prod (d_R D a) (d_R D b)) (d_R D c))) ∧ h5 99 = some (rowL (q_prod (d_R D a) (q_prod (d_R D b) (d_R D c))))) ⟨w4.row _ (by unfold q_scr; omega), (og_set_ne _ _ (by omega)).trans e98, og_set_eq _ _ _⟩ fun h5 ⟨w5, e98, e99⟩ => ?_
  have e3 := w5.d3
  refine og_aload_n (pc := 90) dX7_workAssociator_90 rfl ?_
  refine og_get (pc := 91) F_X7_55 dX7_workAssociator_91 (by repeat (first | exact og_set_eq _ _ _ | assumption | refine (og_set_ne _ _ (by first | assumption | omega)).trans ?_)) (by omega) rfl ?_
  refine og_aload_n (pc := 94) dX7_workAssociator_94 rfl ?_
  refine og_get (pc := 95) F_X7_59 dX7_workAssociator_95 (by repeat (first | exact og_set_eq _ _ _ | assumption | refine (og_set_ne _ _ (by first | assumption | omega)).trans ?_)) (by omega) rfl ?_
  refine og_iconst (pc := 98) (v := 1) dX7_workAssociator_98 (by decide) ?_
  refine og_aload_n (pc := 99) dX7_workAssociator_99 rfl ?_
  refine og_get (pc := 100) F_X7_55 dX7_workAssociator_100 (by repeat (first | exact og_set_eq _ _ _ | assumption | refine (og_set_ne _ _ (by first | assumption | omega)).trans ?_)) (by omega) rfl ?_
  refine og_callS (pc := 103) (As := [.ref 98, .ref 99, .int 1, .ref 98]) (rest := []) (c_X3_totalA E d n4 98 99 h5 _ _ 1 e98 e99 (by omega) (by omega) (by omega)) Y_X3_total S_X3_total K_X7_113 dX7_workAssociator_103 rfl rfl (Nat.le_of_ble_eq_true rfl) (by omega) (by omega) (by omega) (fun _ _ _ z => z) (fun v n5 h5 z => ?_)
  obtain ⟨rfl, hn5, rfl⟩ := z
  subst hn5
  exact og_vret (pc := 106) hr dX7_workAssociator_106 (by omega) (by omega) ⟨rfl, rfl, w5.row _ (by unfold q_scr; omega), og_set_eq _ _ _⟩
/-- how many of the first k hold -/
noncomputable def q_many (P : Nat → Prop) : Nat → Nat
  | 0 => 0
  | k + 1 => q_many P k + q_if (P k) 1 0
theorem q_many_le (P : Nat → Prop) (k : Nat) : q_many P k ≤ k := by
  induction k with
  | zero => exact Nat.le_refl _
  | succ k ih =>
    rw [q_many]
    unfold q_if
    split <;> omega
theorem q_if_t {α : Type} {P : Prop} (a b : α) (h : P) : q_if P a b = a := by
  unfold q_if
  exact if_pos h
theorem q_if_f {α : Type} {P : Prop} (a b : α) (h : ¬ P) : q_if P a b = b := by
  unfold q_if
  exact if_neg h
theorem q_many_t (P : Nat → Prop) {k : Nat} (h : P k) : q_many P (k + 1) = q_many P k + 1 := by
  rw [q_many, q_if_t _ _ h]
theorem q_many_f (P : Nat → Prop) {k : Nat} (h : ¬ P k) : q_many P (k + 1) = q_many P k := by
  rw [q_many, q_if_f _ _ h, Nat.add_zero]
theorem c_X7_registersInOrder (E : og_E) (d n : Nat) (h : og_H) {h0 : og_H} {n0 : Nat} {D : q_D} (w : og_DK h0 n0 n h D) :
    og_M E yX7_registersInOrder (.code yX7_registersInOrder cX7_registersInOrder 3 (some .int)) (d + 4) [.ref 3] n h 0 0 (fun v n1 h1 => v = some (.int (nI (q_many (fun r => q_al (d_o D) (d_R D r)) 8))) ∧ n1 = n ∧ h1 = h) no_x := by
  refine og_start (lv := [some (.ref 3), none, none]) (by decide) rfl rfl (Nat.le_of_ble_eq_true rfl) fun X hr hnm htb => ?_
  have e3 := w.d3
  refine og_iconst (pc := 0) (v := 0) dX7_registersInOrder_0 (by decide) ?_
  refine og_istore_n_1 (pc := 1) dX7_registersInOrder_1 rfl ?_
  refine og_iconst (pc := 2) (v := 0) dX7_registersInOrder_2 (by decide) ?_
  refine og_istore_n_2 (pc := 3) dX7_registersInOrder_3 rfl ?_
  refine og_for (i0 := 0) (N := 8) (by decide) (fun _ => h) (fun i => [some (.ref 3), some (.int (nI (q_many (fun r => q_al (d_o D) (d_R D r)) i))), some (.int (nI i))]) ?_ (fun i _ hi ih => ?_)
  · refine og_iload_n (pc := 4) dX7_registersInOrder_4 rfl ?_
    refine og_bipush (pc := 5) (v := 8) dX7_registersInOrder_5 (by decide) ?_
    refine og_geN (pc := 7) (tgt := 27) (i := 8) (N := 8) dX7_registersInOrder_7 (by decide) rfl rfl (by omega) (by omega) (fun c_7 => ?_) (fun c_7 => ?_)
    · refine og_iload_n (pc := 27) dX7_registersInOrder_27 rfl ?_
      exact og_iret (pc := 28) hr dX7_registersInOrder_28 (by omega) (by omega) ⟨rfl, rfl, rfl⟩
    · omega
  · refine og_iload_n (pc := 4) dX7_registersInOrder_4 rfl ?_
    refine og_bipush (pc := 5) (v := 8) dX7_registersInOrder_5 (by decide) ?_
    refine og_geN (pc := 7) (tgt := 27) (i := i) (N := 8) dX7_registersInOrder_7 (by decide) rfl rfl (by omega) (by omega) (fun c_7 => ?_) (fun c_7 => ?_)
    · omega
    refine og_aload_n (pc := 10) dX7_registersInOrder_10 rfl ?_
    refine og_iload_n (pc := 11) dX7_registersInOrder_11 rfl ?_
    refine og_callV (pc := 12) (As := [.int (nI i)]) (rest := []) (c_X7_isInOrder E d n i h w hi) Y_X7_isInOrder I_X7_isInOrder V_X7_isInOrder e3 (by omega) rfl rfl K_X7_281 dX7_registersInOrder_12 rfl rfl (Nat.le_of_ble_eq_true rfl) (by omega) (by omega) (by omega) (fun _ _ _ z => z) (fun v n1 h1 z => ?_)
    obtain ⟨hn1, hh1, z⟩ := z
    subst hn1 hh1
    rcases z with ⟨rfl, z⟩ | ⟨rfl, z⟩
    · refine og_if_eq (pc := 15) (tgt := 21) dX7_registersInOrder_15 (by decide) (fun c => absurd c (by decide)) (fun _ => ?_)
      refine og_iinc_1 (pc := 18) dX7_registersInOrder_18 (og_inc (q_many (fun r => q_al (d_o D) (d_R D r)) i)) rfl ?_
      refine og_iinc_2 (pc := 21) dX7_registersInOrder_21 (og_inc i) rfl ?_
      refine og_goto (pc := 24) (tgt := 4) dX7_registersInOrder_24 (by decide) ?_
      rw [q_many_t (fun r => q_al (d_o D) (d_R D r)) z] at ih
      exact ih
    · refine og_if_eq (pc := 15) (tgt := 21) dX7_registersInOrder_15 (by decide) (fun _ => ?_) (fun c => absurd rfl c)
      refine og_iinc_2 (pc := 21) dX7_registersInOrder_21 (og_inc i) rfl ?_
      refine og_goto (pc := 24) (tgt := 4) dX7_registersInOrder_24 (by decide) ?_
      rw [q_many_f (fun r => q_al (d_o D) (d_R D r)) z] at ih
      exact ih
theorem c_X7_zeroRegisters (E : og_E) (d n : Nat) (h : og_H) {h0 : og_H} {n0 : Nat} {D : q_D} (w : og_DK h0 n0 n h D) :
    og_M E yX7_zeroRegisters (.code yX7_zeroRegisters cX7_zeroRegisters 3 (some .int)) (d + 2) [.ref 3] n h 0 0 (fun v n1 h1 => v = some (.int (nI (q_many (fun r => q_zr (d_R D r)) 8))) ∧ n1 = n ∧ h1 = h) no_x := by
  refine og_start (lv := [some (.ref 3), none, none]) (by decide) rfl rfl (Nat.le_of_ble_eq_true rfl) fun X hr hnm htb => ?_
  have e3 := w.d3
  have e4 := w.e4
  have e5 := w.e5
  refine og_iconst (pc := 0) (v := 0) dX7_zeroRegisters_0 (by decide) ?_
  refine og_istore_n_1 (pc := 1) dX7_zeroRegisters_1 rfl ?_
  refine og_iconst (pc := 2) (v := 0) dX7_zeroRegisters_2 (by decide) ?_
  refine og_istore_n_2 (pc := 3) dX7_zeroRegisters_3 rfl ?_
  refine og_for (i0 := 0) (N := 8) (by decide) (fun _ => h) (fun i => [some (.ref 3), some (.int (nI (q_many (fun r => q_zr (d_R D r)) i))), some (.int (nI i))]) ?_ (fun i _ hi ih => ?_)
  · refine og_iload_n (pc := 4) dX7_zeroRegisters_4 rfl ?_
    refine og_bipush (pc := 5) (v := 8) dX7_zeroRegisters_5 (by decide) ?_
    refine og_geN (pc := 7) (tgt := 34) (i := 8) (N := 8) dX7_zeroRegisters_7 (by decide) rfl rfl (by omega) (by omega) (fun c_7 => ?_) (fun c_7 => ?_)
    · refine og_iload_n (pc := 34) dX7_zeroRegisters_34 rfl ?_
      exact og_iret (pc := 35) hr dX7_zeroRegisters_35 (by omega) (by omega) ⟨rfl, rfl, rfl⟩
    · omega
  · refine og_iload_n (pc := 4) dX7_zeroRegisters_4 rfl ?_
    refine og_bipush (pc := 5) (v := 8) dX7_zeroRegisters_5 (by decide) ?_
    refine og_geN (pc := 7) (tgt := 34) (i := i) (N := 8) dX7_zeroRegisters_7 (by decide) rfl rfl (by omega) (by omega) (fun c_7 => ?_) (fun c_7 => ?_)
    · omega
    refine og_aload_n (pc := 10) dX7_zeroRegisters_10 rfl ?_
    refine og_get (pc := 11) F_X7_10 dX7_zeroRegisters_11 (by repeat (first | exact og_set_eq _ _ _ | assumption | refine (og_set_ne _ _ (by first | assumption | omega)).trans ?_)) (by omega) rfl ?_
    refine og_get (pc := 14) F_X7_78 dX7_zeroRegisters_14 (by repeat (first | exact og_set_eq _ _ _ | assumption | refine (og_set_ne _ _ (by first | assumption | omega)).trans ?_)) (by omega) rfl ?_
    refine og_iload_n (pc := 17) dX7_zeroRegisters_17 rfl ?_
    refine og_aaldN (pc := 18) rfl dX7_zeroRegisters_18 (by repeat (first | exact og_set_eq _ _ _ | assumption | refine (og_set_ne _ _ (by first | assumption | omega)).trans ?_)) (by omega) (by decide) (by decide) (by omega) (by first | decide | assumption | omega) (q_g8 hi) ?_
    refine og_callS (pc := 19) (As := [.ref (4 + 2 + i)]) (rest := []) (c_X3_isZero E d n (4 + 2 + i) h _ (w.r hi) (by omega)) Y_X3_isZero S_X3_isZero K_X7_285 dX7_zeroRegisters_19 rfl rfl (Nat.le_of_ble_eq_true rfl) (by omega) (by omega) (by omega) (fun _ _ _ z => z) (fun v n1 h1 z => ?_)
    obtain ⟨hn1, hh1, z⟩ := z
    subst hn1 hh1
    rcases z with ⟨rfl, z⟩ | ⟨rfl, z⟩
    · refine og_if_eq (pc := 22) (tgt := 28) dX7_zeroRegisters_22 (by decide) (fun c => absurd c (by decide)) (fun _ => ?_)
      refine og_iinc_1 (pc := 25) dX7_zeroRegisters_25 (og_inc (q_many (fun r => q_zr (d_R D r)) i)) rfl ?_
      refine og_iinc_2 (pc := 28) dX7_zeroRegisters_28 (og_inc i) rfl ?_
      refine og_goto (pc := 31) (tgt := 4) dX7_zeroRegisters_31 (by decide) ?_
      rw [q_many_t (fun r => q_zr (d_R D r)) z] at ih
      exact ih
    · refine og_if_eq (pc := 22) (tgt := 28) dX7_zeroRegisters_22 (by decide) (fun _ => ?_) (fun c => absurd rfl c)
      refine og_iinc_2 (pc := 28) dX7_zeroRegisters_28 (og_inc i) rfl ?_
      refine og_goto (pc := 31) (tgt := 4) dX7_zeroRegisters_31 (by decide) ?_
      rw [q_many_f (fun r => q_zr (d_R D r)) z] at ih
      exact ih
