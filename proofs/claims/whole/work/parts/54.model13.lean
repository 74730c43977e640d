/-! ===== the model: divides ===== -/
def q_sbit (w k : Nat) : Int32 := (nI w >>> (nI k &&& 31)) &&& 1
def q_ner (N : Int64) (kp : Nat → Int64) (w : Nat) : Nat → Int64 := fun k => q_nr (kp k) N (q_sbit w k)
def q_frr (N : Int64) (kp near : Nat → Int64) : Nat → Int64
  | 0 => 0
  | k + 1 => q_frr N kp near k + (near k * N - 2 * kp k) * (near k * N - 2 * kp k)
def q_okS (o w : Nat) : Prop := (o = 0 ∧ w = 0) ∨ (o ≠ 0 ∧ q_isQ (q_its (nI w) o) 7)
def q_btr (N : Int64) (kp : Nat → Int64) (w : Nat) (st : Int64 × (Nat → Int64)) : Prop := st.1 < 0 ∨ q_frr N kp (q_ner N kp w) 8 < st.1 ∨ (q_frr N kp (q_ner N kp w) 8 = st.1 ∧ q_first (q_ner N kp w) st.2)
noncomputable def q_dvS (N : Int64) (kp : Nat → Int64) (o : Nat) (q0 : Nat → Int64) : Nat → Int64 × (Nat → Int64)
  | 0 => (-1, q0)
  | w + 1 => q_if (q_okS o w) (q_if (q_btr N kp w (q_dvS N kp o q0 w)) (q_frr N kp (q_ner N kp w) 8, q_ner N kp w) (q_dvS N kp o q0 w)) (q_dvS N kp o q0 w)
theorem q_mir2 (f : Nat → Int64) : q_mirror (q_mirror f) = f := by
  funext j
  unfold q_mirror
  by_cases e : j = 0
  · rw [if_pos e, if_pos e]
  · rw [if_neg e, if_neg e]
    exact Int64.neg_neg
theorem q_mir_at (f : Nat → Int64) {i : Nat} (h : 1 ≤ i) : q_mirror f i = -f i := if_neg (by omega)
theorem q_dvS_no {N : Int64} {kp : Nat → Int64} {o w : Nat} {q0 : Nat → Int64} (h : ¬ q_okS o w) : q_dvS N kp o q0 (w + 1) = q_dvS N kp o q0 w := by
  rw [q_dvS, q_if_f _ _ h]
theorem q_dvS_keep {N : Int64} {kp : Nat → Int64} {o w : Nat} {q0 : Nat → Int64} (h : q_okS o w) (h2 : ¬ q_btr N kp w (q_dvS N kp o q0 w)) : q_dvS N kp o q0 (w + 1) = q_dvS N kp o q0 w := by
  rw [q_dvS, q_if_t _ _ h, q_if_f _ _ h2]
theorem q_dvS_new {N : Int64} {kp : Nat → Int64} {o w : Nat} {q0 : Nat → Int64} (h : q_okS o w) (h2 : q_btr N kp w (q_dvS N kp o q0 w)) : q_dvS N kp o q0 (w + 1) = (q_frr N kp (q_ner N kp w) 8, q_ner N kp w) := by
  rw [q_dvS, q_if_t _ _ h, q_if_t _ _ h2]
noncomputable def q_quo2 (f g q0 : Nat → Int64) (o : Nat) : Nat → Int64 := (q_dvS (q_inner g g 8) (q_prod f (q_mirror g)) o q0 256).2
noncomputable def q_rem2 (f g q0 : Nat → Int64) (o : Nat) : Nat → Int64 := fun k => f k - q_prod (q_quo2 f g q0 o) g k / 2
set_option maxRecDepth 4000 in
theorem c_X8_divides (E : og_E) (d n : Nat) (h : og_H) {h0 : og_H} {M : q_M} {o : Nat} {f g q0 : Nat → Int64} (w : og_MK h0 h M) (ho : m_s M 64 = nI o) (ho8 : o < 8) (e107 : h 107 = some (rowL f)) (e108 : h 108 = some (rowL g)) (e114 : h 114 = some (rowL q0)) (hN : ¬ q_inner g g 8 = 0) :
    og_M E yX8_divides (.code yX8_divides cX8_divides 11 none) (d + 2) [.ref 101] n h 0 0 (fun v n1 h1 => n1 = n ∧ v = none ∧ og_MK h0 h1 M ∧ h1 107 = some (rowL f) ∧ h1 108 = some (rowL g) ∧ h1 114 = some (rowL (q_quo2 f g q0 o)) ∧ h1 115 = some (rowL (q_rem2 f g q0 o))) no_x := by
  refine og_start (lv := [some (.ref 101), none, none, none, none, none, none, none, none, none, none]) (by decide) rfl rfl (Nat.le_of_ble_eq_true rfl) fun X hr hnm htb => ?_
  have wm := w.m
  refine og_aload_n (pc := 0) dX8_divides_0 rfl ?_
  refine og_get (pc := 1) F_X8_29 dX8_divides_1 (by repeat (first | exact og_set_eq _ _ _ | assumption | refine (og_set_ne _ _ (by first | assumption | omega)).trans ?_)) (by omega) rfl ?_
  refine og_callS (pc := 4) (As := [.ref 108]) (rest := []) (c_X8_square E d n 108 h g e108 (by omega)) Y_X8_square S_X8_square K_X8_97 dX8_divides_4 rfl rfl (Nat.le_of_ble_eq_true rfl) (by omega) (by omega) (by omega) (fun _ _ _ z => z) (fun v n1 h1 z => ?_)
  obtain ⟨rfl, hn, hh⟩ := z
  subst hn hh
  generalize hNN : q_inner g g 8 = N at hN
  refine og_lstore_n_1 (pc := 7) dX8_divides_7 rfl ?_
  refine og_iconst (pc := 8) (v := 1) dX8_divides_8 (by decide) ?_
  refine og_istore_n_3 (pc := 9) dX8_divides_9 rfl ?_
  refine og_congL (fun j => if j < 1 then q_mirror g j else g j) e108 (by omega) (fun j _ => by by_cases hj : j = 0 <;> simp [hj, q_mirror]) ?_
  refine og_for (i0 := 1) (N := 8) (by decide) (fun i => og_set h1 108 (rowL (fun j => if j < i then q_mirror g j else g j))) (fun i => [some (.ref 101), some (.long N), none, some (.int (nI i)), none, none, none, none, none, none, none]) ?_ (fun i hi1 hi ih => ?_)
  rotate_left
  · have wm := (w.row (fun j => if j < i then q_mirror g j else g j) (show q_ms 108 by unfold q_ms; omega)).m
    refine og_iload_n (pc := 10) dX8_divides_10 rfl ?_
    refine og_bipush (pc := 11) (v := 8) dX8_divides_11 (by decide) ?_
    refine og_geN (pc := 13) (tgt := 35) (i := i) (N := 8) dX8_divides_13 (by decide) rfl rfl (by omega) (by omega) (fun c_13 => ?_) (fun c_13 => ?_)
    · omega
    refine og_aload_n (pc := 16) dX8_divides_16 rfl ?_
    refine og_get (pc := 17) F_X8_29 dX8_divides_17 (by repeat (first | exact og_set_eq _ _ _ | assumption | refine (og_set_ne _ _ (by first | assumption | omega)).trans ?_)) (by omega) rfl ?_
    refine og_iload_n (pc := 20) dX8_divides_20 rfl ?_
    refine og_aload_n (pc := 21) dX8_divides_21 rfl ?_
    refine og_get (pc := 22) F_X8_29 dX8_divides_22 (by repeat (first | exact og_set_eq _ _ _ | assumption | refine (og_set_ne _ _ (by first | assumption | omega)).trans ?_)) (by omega) rfl ?_
    refine og_iload_n (pc := 25) dX8_divides_25 rfl ?_
    refine og_laldN (pc := 26) rfl dX8_divides_26 (by repeat (first | exact og_set_eq _ _ _ | assumption | refine (og_set_ne _ _ (by first | assumption | omega)).trans ?_)) (by omega) (by omega) (by first | decide | assumption | omega) ?_
    refine og_lneg (pc := 27) dX8_divides_27 ?_
    refine og_lastN (pc := 28) rfl dX8_divides_28 (by repeat (first | exact og_set_eq _ _ _ | assumption | refine (og_set_ne _ _ (by first | assumption | omega)).trans ?_)) (by omega) (by omega) (by first | decide | assumption | omega) ?_
    refine og_iinc_3 (pc := 29) dX8_divides_29 (og_inc i) rfl ?_
    refine og_goto (pc := 32) (tgt := 10) dX8_divides_32 (by decide) ?_
    rw [og_set_set, og_fill (by rw [if_neg (by omega)]; unfold q_mirror; rw [if_neg (by omega)])]
    exact ih
  refine og_iload_n (pc := 10) dX8_divides_10 rfl ?_
  refine og_bipush (pc := 11) (v := 8) dX8_divides_11 (by decide) ?_
  refine og_geN (pc := 13) (tgt := 35) (i := 8) (N := 8) dX8_divides_13 (by decide) rfl rfl (by omega) (by omega) (fun c_13 => ?_) (fun c_13 => ?_)
  rotate_left
  · omega
  refine og_congL (q_mirror g) (og_set_eq _ _ _) (by omega) (fun j hj => by rw [if_pos (by omega)]) ?_
  rw [og_set_set]
  refine og_abs (P := fun z => og_MK h0 z M ∧ z 107 = some (rowL f) ∧ z 108 = some (rowL (q_mirror g)) ∧ z 114 = some (rowL q0)) ⟨w.row _ (by unfold q_ms; omega), (og_set_ne _ _ (by omega)).trans e107, og_set_eq _ _ _, (og_set_ne _ _ (by omega)).trans e114⟩ fun z ⟨w, e107, e108, e114⟩ => ?_
  have wm := w.m
  obtain ⟨f1, e111⟩ := w.scr 111 (by unfold q_ms; omega)
  obtain ⟨f2, e112⟩ := w.scr 112 (by unfold q_ms; omega)
  refine og_forget_3 ?_
  refine og_aload_n (pc := 35) dX8_divides_35 rfl ?_
  refine og_aload_n (pc := 36) dX8_divides_36 rfl ?_
  refine og_get (pc := 37) F_X8_25 dX8_divides_37 (by repeat (first | exact og_set_eq _ _ _ | assumption | refine (og_set_ne _ _ (by first | assumption | omega)).trans ?_)) (by omega) rfl ?_
  refine og_aload_n (pc := 40) dX8_divides_40 rfl ?_
  refine og_get (pc := 41) F_X8_29 dX8_divides_41 (by repeat (first | exact og_set_eq _ _ _ | assumption | refine (og_set_ne _ _ (by first | assumption | omega)).trans ?_)) (by omega) rfl ?_
  refine og_aload_n (pc := 44) dX8_divides_44 rfl ?_
  refine og_get (pc := 45) F_X8_41 dX8_divides_45 (by repeat (first | exact og_set_eq _ _ _ | assumption | refine (og_set_ne _ _ (by first | assumption | omega)).trans ?_)) (by omega) rfl ?_
  refine og_callV (pc := 48) (As := [.ref 107, .ref 108, .ref 112]) (rest := []) (c_X8_times E d n1 107 108 112 z f (q_mirror g) f2 f1 wm w.to w.sg e111 e107 e108 e112 (by omega) (by omega) (by omega) (by omega) (by omega) (by omega)) Y_X8_times I_X8_times V_X8_times wm (by omega) rfl rfl K_X8_148 dX8_divides_48 rfl rfl (Nat.le_of_ble_eq_true rfl) (by omega) (by omega) (by omega) (fun _ _ _ z => z) (fun v n2 h2 z => ?_)
  obtain ⟨rfl, hn, hh⟩ := z
  subst hn
  refine og_abs (P := fun z => og_MK h0 z M ∧ z 107 = some (rowL f) ∧ z 108 = some (rowL (q_mirror g)) ∧ z 114 = some (rowL q0) ∧ z 112 = some (rowL (q_prod f (q_mirror g)))) (by rw [hh]; exact ⟨w.tim _ _ (by unfold q_ms; omega), (og_set_ne _ _ (by omega)).trans ((og_set_ne _ _ (by omega)).trans e107), (og_set_ne _ _ (by omega)).trans ((og_set_ne _ _ (by omega)).trans e108), (og_set_ne _ _ (by omega)).trans ((og_set_ne _ _ (by omega)).trans e114), og_set_eq _ _ _⟩) fun z ⟨w, e107, e108, e114, e112⟩ => ?_
  have wm := w.m
  refine og_iconst (pc := 51) (v := 1) dX8_divides_51 (by decide) ?_
  refine og_istore_n_3 (pc := 52) dX8_divides_52 rfl ?_
  refine og_congL (fun j => if j < 1 then q_mirror (q_mirror g) j else q_mirror g j) e108 (by omega) (fun j _ => by by_cases hj : j = 0 <;> simp [hj, q_mirror]) ?_
  refine og_for (i0 := 1) (N := 8) (by decide) (fun i => og_set z 108 (rowL (fun j => if j < i then q_mirror (q_mirror g) j else q_mirror g j))) (fun i => [some (.ref 101), some (.long N), none, some (.int (nI i)), none, none, none, none, none, none, none]) ?_ (fun i hi1 hi ih => ?_)
  rotate_left
  · have wm := (w.row (fun j => if j < i then q_mirror (q_mirror g) j else q_mirror g j) (show q_ms 108 by unfold q_ms; omega)).m
    refine og_iload_n (pc := 53) dX8_divides_53 rfl ?_
    refine og_bipush (pc := 54) (v := 8) dX8_divides_54 (by decide) ?_
    refine og_geN (pc := 56) (tgt := 78) (i := i) (N := 8) dX8_divides_56 (by decide) rfl rfl (by omega) (by omega) (fun c_56 => ?_) (fun c_56 => ?_)
    · omega
    refine og_aload_n (pc := 59) dX8_divides_59 rfl ?_
    refine og_get (pc := 60) F_X8_29 dX8_divides_60 (by repeat (first | exact og_set_eq _ _ _ | assumption | refine (og_set_ne _ _ (by first | assumption | omega)).trans ?_)) (by omega) rfl ?_
    refine og_iload_n (pc := 63) dX8_divides_63 rfl ?_
    refine og_aload_n (pc := 64) dX8_divides_64 rfl ?_
    refine og_get (pc := 65) F_X8_29 dX8_divides_65 (by repeat (first | exact og_set_eq _ _ _ | assumption | refine (og_set_ne _ _ (by first | assumption | omega)).trans ?_)) (by omega) rfl ?_
    refine og_iload_n (pc := 68) dX8_divides_68 rfl ?_
    refine og_laldN (pc := 69) rfl dX8_divides_69 (by repeat (first | exact og_set_eq _ _ _ | assumption | refine (og_set_ne _ _ (by first | assumption | omega)).trans ?_)) (by omega) (by omega) (by first | decide | assumption | omega) ?_
    refine og_lneg (pc := 70) dX8_divides_70 ?_
    refine og_lastN (pc := 71) rfl dX8_divides_71 (by repeat (first | exact og_set_eq _ _ _ | assumption | refine (og_set_ne _ _ (by first | assumption | omega)).trans ?_)) (by omega) (by omega) (by first | decide | assumption | omega) ?_
    refine og_iinc_3 (pc := 72) dX8_divides_72 (og_inc i) rfl ?_
    refine og_goto (pc := 75) (tgt := 53) dX8_divides_75 (by decide) ?_
    rw [og_set_set, og_fill (by rw [if_neg (by omega), q_mir_at (q_mirror g) hi1])]
    exact ih
  refine og_iload_n (pc := 53) dX8_divides_53 rfl ?_
  refine og_bipush (pc := 54) (v := 8) dX8_divides_54 (by decide) ?_
  refine og_geN (pc := 56) (tgt := 78) (i := 8) (N := 8) dX8_divides_56 (by decide) rfl rfl (by omega) (by omega) (fun c_56 => ?_) (fun c_56 => ?_)
  rotate_left
  · omega
  refine og_congL g (og_set_eq _ _ _) (by omega) (fun j hj => by rw [if_pos (by omega), q_mir2]) ?_
  rw [og_set_set]
  refine og_abs (P := fun z => og_MK h0 z M ∧ z 107 = some (rowL f) ∧ z 108 = some (rowL g) ∧ z 114 = some (rowL q0) ∧ z 112 = some (rowL (q_prod f (q_mirror g)))) ⟨w.row _ (by unfold q_ms; omega), (og_set_ne _ _ (by omega)).trans e107, og_set_eq _ _ _, (og_set_ne _ _ (by omega)).trans e114, (og_set_ne _ _ (by omega)).trans e112⟩ fun z ⟨w, e107, e108, e114, e112⟩ => ?_
  refine og_forget_3 ?_
  refine og_ldc2 (pc := 78) LC_X8_163 dX8_divides_78 ?_
  refine og_lstore_n_3 (pc := 81) dX8_divides_81 rfl ?_
  refine og_iconst (pc := 82) (v := 0) dX8_divides_82 (by decide) ?_
  refine og_istore_5 (pc := 83) dX8_divides_83 rfl ?_
  generalize hkp : q_prod f (q_mirror g) = kp at e112
  have loop : ∀ k v : Nat, v + k = 256 → ∀ z : og_H, og_MK h0 z M → z 107 = some (rowL f) → z 108 = some (rowL g) → z 114 = some (rowL (q_dvS N kp o q0 v).2) → z 112 = some (rowL kp) → og_G E yX8_divides.cls cX8_divides (d + 2) 0 0 11 X (og_Q E (fun v n1 h1 => n1 = n2 ∧ v = none ∧ og_MK h0 h1 M ∧ h1 107 = some (rowL f) ∧ h1 108 = some (rowL g) ∧ h1 114 = some (rowL (q_quo2 f g q0 o)) ∧ h1 115 = some (rowL (q_rem2 f g q0 o))) no_x 0 0 X) (0 + 0 + 0) (0 + 0 + 0) n2 z 85 [some (.ref 101), some (.long N), none, some (.long (q_dvS N kp o q0 v).1), none, some (.int (nI v)), none, none, none, none, none] [] := by
    intro k
    induction k with
    | zero =>
      intro v hv z w e107 e108 e114 e112
      have ev : v = 256 := by omega
      subst ev
      have eq : (q_dvS N kp o q0 256).2 = q_quo2 f g q0 o := by rw [q_quo2, hNN, hkp]
      rw [eq] at e114
      have wm := w.m
      obtain ⟨f1, e111⟩ := w.scr 111 (by unfold q_ms; omega)
      obtain ⟨f2, e115⟩ := w.scr 115 (by unfold q_ms; omega)
      refine og_iload (pc := 85) dX8_divides_85 rfl ?_
      refine og_sipush (pc := 87) (v := 256) dX8_divides_87 (by decide) ?_
      refine og_geN (pc := 90) (tgt := 270) (i := 256) (N := 256) dX8_divides_90 (by decide) rfl rfl (by omega) (by omega) (fun c_90 => ?_) (fun c_90 => ?_)
      rotate_left
      · omega
      refine og_aload_n (pc := 270) dX8_divides_270 rfl ?_
      refine og_aload_n (pc := 271) dX8_divides_271 rfl ?_
      refine og_get (pc := 272) F_X8_51 dX8_divides_272 (by repeat (first | exact og_set_eq _ _ _ | assumption | refine (og_set_ne _ _ (by first | assumption | omega)).trans ?_)) (by omega) rfl ?_
      refine og_aload_n (pc := 275) dX8_divides_275 rfl ?_
      refine og_get (pc := 276) F_X8_29 dX8_divides_276 (by repeat (first | exact og_set_eq _ _ _ | assumption | refine (og_set_ne _ _ (by first | assumption | omega)).trans ?_)) (by omega) rfl ?_
      refine og_aload_n (pc := 279) dX8_divides_279 rfl ?_
      refine og_get (pc := 280) F_X8_54 dX8_divides_280 (by repeat (first | exact og_set_eq _ _ _ | assumption | refine (og_set_ne _ _ (by first | assumption | omega)).trans ?_)) (by omega) rfl ?_
      refine og_callV (pc := 283) (As := [.ref 114, .ref 108, .ref 115]) (rest := []) (c_X8_times E d n2 114 108 115 z (q_quo2 f g q0 o) g f2 f1 wm w.to w.sg e111 e114 e108 e115 (by omega) (by omega) (by omega) (by omega) (by omega) (by omega)) Y_X8_times I_X8_times V_X8_times wm (by omega) rfl rfl K_X8_148 dX8_divides_283 rfl rfl (Nat.le_of_ble_eq_true rfl) (by omega) (by omega) (by omega) (fun _ _ _ z => z) (fun v n3 h3 z => ?_)
      obtain ⟨rfl, hn, hh⟩ := z
      subst hn
      refine og_abs (P := fun z => og_MK h0 z M ∧ z 107 = some (rowL f) ∧ z 108 = some (rowL g) ∧ z 114 = some (rowL (q_quo2 f g q0 o)) ∧ z 115 = some (rowL (q_prod (q_quo2 f g q0 o) g))) (by rw [hh]; exact ⟨w.tim _ _ (by unfold q_ms; omega), (og_set_ne _ _ (by omega)).trans ((og_set_ne _ _ (by omega)).trans e107), (og_set_ne _ _ (by omega)).trans ((og_set_ne _ _ (by omega)).trans e108), (og_set_ne _ _ (by omega)).trans ((og_set_ne _ _ (by omega)).trans e114), og_set_eq _ _ _⟩) fun z ⟨w, e107, e108, e114, e115⟩ => ?_
      refine og_iconst (pc := 286) (v := 0) dX8_divides_286 (by decide) ?_
      refine og_istore_5 (pc := 287) dX8_divides_287 rfl ?_
      refine og_congL (fun j => if j < 0 then q_rem2 f g q0 o j else q_prod (q_quo2 f g q0 o) g j) e115 (by omega) (fun j _ => by simp) ?_
      refine og_for (i0 := 0) (N := 8) (by decide) (fun i => og_set z 115 (rowL (fun j => if j < i then q_rem2 f g q0 o j else q_prod (q_quo2 f g q0 o) g j))) (fun i => [some (.ref 101), some (.long N), none, some (.long (q_dvS N kp o q0 256).1), none, some (.int (nI i)), none, none, none, none, none]) ?_ (fun i _ hi ih => ?_)
      · refine og_iload (pc := 289) dX8_divides_289 rfl ?_
        refine og_bipush (pc := 291) (v := 8) dX8_divides_291 (by decide) ?_
        refine og_geN (pc := 293) (tgt := 328) (i := 8) (N := 8) dX8_divides_293 (by decide) rfl rfl (by omega) (by omega) (fun c_293 => ?_) (fun c_293 => ?_)
        · refine og_congL (q_rem2 f g q0 o) (og_set_eq _ _ _) (by omega) (fun j hj => by rw [if_pos (by omega)]) ?_
          rw [og_set_set]
          exact og_vret (pc := 328) hr dX8_divides_328 (by omega) (by omega) ⟨rfl, rfl, w.row _ (by unfold q_ms; omega), (og_set_ne _ _ (by omega)).trans e107, (og_set_ne _ _ (by omega)).trans e108, (og_set_ne _ _ (by omega)).trans e114, og_set_eq _ _ _⟩
        · omega
      · have wm := (w.row (fun j => if j < i then q_rem2 f g q0 o j else q_prod (q_quo2 f g q0 o) g j) (show q_ms 115 by unfold q_ms; omega)).m
        have e107b := (og_set_ne z (rowL (fun j => if j < i then q_rem2 f g q0 o j else q_prod (q_quo2 f g q0 o) g j)) (show 107 ≠ 115 by omega)).trans e107
        refine og_iload (pc := 289) dX8_divides_289 rfl ?_
        refine og_bipush (pc := 291) (v := 8) dX8_divides_291 (by decide) ?_
        refine og_geN (pc := 293) (tgt := 328) (i := i) (N := 8) dX8_divides_293 (by decide) rfl rfl (by omega) (by omega) (fun c_293 => ?_) (fun c_293 => ?_)
        · omega
        refine og_aload_n (pc := 296) dX8_divides_296 rfl ?_
        refine og_get (pc := 297) F_X8_54 dX8_divides_297 (by repeat (first | exact og_set_eq _ _ _ | assumption | refine (og_set_ne _ _ (by first | assumption | omega)).trans ?_)) (by omega) rfl ?_
        refine og_iload (pc := 300) dX8_divides_300 rfl ?_
        refine og_aload_n (pc := 302) dX8_divides_302 rfl ?_
        refine og_get (pc := 303) F_X8_25 dX8_divides_303 (by repeat (first | exact og_set_eq _ _ _ | assumption | refine (og_set_ne _ _ (by first | assumption | omega)).trans ?_)) (by omega) rfl ?_
        refine og_iload (pc := 306) dX8_divides_306 rfl ?_
        refine og_laldN (pc := 308) rfl dX8_divides_308 (by repeat (first | exact og_set_eq _ _ _ | assumption | refine (og_set_ne _ _ (by first | assumption | omega)).trans ?_)) (by omega) (by omega) (by first | decide | assumption | omega) ?_
        refine og_aload_n (pc := 309) dX8_divides_309 rfl ?_
        refine og_get (pc := 310) F_X8_54 dX8_divides_310 (by repeat (first | exact og_set_eq _ _ _ | assumption | refine (og_set_ne _ _ (by first | assumption | omega)).trans ?_)) (by omega) rfl ?_
        refine og_iload (pc := 313) dX8_divides_313 rfl ?_
        refine og_laldN (pc := 315) rfl dX8_divides_315 (by repeat (first | exact og_set_eq _ _ _ | assumption | refine (og_set_ne _ _ (by first | assumption | omega)).trans ?_)) (by omega) (by omega) (by first | decide | assumption | omega) ?_
        refine og_ldc2 (pc := 316) LC_X8_101 dX8_divides_316 ?_
        refine og_ldiv (pc := 319) dX8_divides_319 (by decide) ?_
        refine og_lsub (pc := 320) dX8_divides_320 ?_
        refine og_lastN (pc := 321) rfl dX8_divides_321 (by repeat (first | exact og_set_eq _ _ _ | assumption | refine (og_set_ne _ _ (by first | assumption | omega)).trans ?_)) (by omega) (by omega) (by first | decide | assumption | omega) ?_
        refine og_iinc_5 (pc := 322) dX8_divides_322 (og_inc i) rfl ?_
        refine og_goto (pc := 325) (tgt := 289) dX8_divides_325 (by decide) ?_
        rw [og_set_set, og_fill (by rw [if_neg (by omega)]; rfl)]
        exact ih
    | succ k ih =>
      intro v hv z w e107 e108 e114 e112
      have wm := w.m
      have ws := w.s
      have back : ∀ z2 : og_H, og_MK h0 z2 M → z2 107 = some (rowL f) → z2 108 = some (rowL g) → z2 114 = some (rowL (q_dvS N kp o q0 (v + 1)).2) → z2 112 = some (rowL kp) → og_G E yX8_divides.cls cX8_divides (d + 2) 0 0 11 X (og_Q E (fun v n1 h1 => n1 = n2 ∧ v = none ∧ og_MK h0 h1 M ∧ h1 107 = some (rowL f) ∧ h1 108 = some (rowL g) ∧ h1 114 = some (rowL (q_quo2 f g q0 o)) ∧ h1 115 = some (rowL (q_rem2 f g q0 o))) no_x 0 0 X) (0 + 0 + 0) (0 + 0 + 0) n2 z2 264 [some (.ref 101), some (.long N), none, some (.long (q_dvS N kp o q0 (v + 1)).1), none, some (.int (nI v)), none, none, none, none, none] [] := by
        intro z2 w2 a1 a2 a3 a4
        refine og_iinc_5 (pc := 264) dX8_divides_264 (og_inc v) rfl ?_
        refine og_goto (pc := 267) (tgt := 85) dX8_divides_267 (by decide) ?_
        exact ih (v + 1) (by omega) z2 w2 a1 a2 a3 a4
      have work : q_okS o v → og_G E yX8_divides.cls cX8_divides (d + 2) 0 0 11 X (og_Q E (fun v n1 h1 => n1 = n2 ∧ v = none ∧ og_MK h0 h1 M ∧ h1 107 = some (rowL f) ∧ h1 108 = some (rowL g) ∧ h1 114 = some (rowL (q_quo2 f g q0 o)) ∧ h1 115 = some (rowL (q_rem2 f g q0 o))) no_x 0 0 X) (0 + 0 + 0) (0 + 0 + 0) n2 z 127 [some (.ref 101), some (.long N), none, some (.long (q_dvS N kp o q0 v).1), none, some (.int (nI v)), none, none, none, none, none] [] := by
        intro hok
        obtain ⟨nr, e116⟩ := w.scr 116 (by unfold q_ms; omega)
        refine og_lconst (pc := 127) (v := 0) dX8_divides_127 (by decide) ?_
        refine og_lstore_6 (pc := 128) dX8_divides_128 rfl ?_
        refine og_iconst (pc := 130) (v := 0) dX8_divides_130 (by decide) ?_
        refine og_istore_8 (pc := 131) dX8_divides_131 rfl ?_
        refine og_congL (fun j => if j < 0 then q_ner N kp v j else nr j) e116 (by omega) (fun j _ => by simp) ?_
        refine og_for (i0 := 0) (N := 8) (by decide) (fun i => og_set z 116 (rowL (fun j => if j < i then q_ner N kp v j else nr j))) (fun i => [some (.ref 101), some (.long N), none, some (.long (q_dvS N kp o q0 v).1), none, some (.int (nI v)), some (.long (q_frr N kp (q_ner N kp v) i)), none, some (.int (nI i)), none, none]) ?_ (fun i _ hi ih2 => ?_)
        · refine og_iload (pc := 133) dX8_divides_133 rfl ?_
          refine og_bipush (pc := 135) (v := 8) dX8_divides_135 (by decide) ?_
          refine og_geN (pc := 137) (tgt := 204) (i := 8) (N := 8) dX8_divides_137 (by decide) rfl rfl (by omega) (by omega) (fun c_137 => ?_) (fun c_137 => ?_)
          rotate_left
          · omega
          refine og_congL (q_ner N kp v) (og_set_eq _ _ _) (by omega) (fun j hj => by rw [if_pos (by omega)]) ?_
          rw [og_set_set]
          refine og_abs (P := fun z => og_MK h0 z M ∧ z 107 = some (rowL f) ∧ z 108 = some (rowL g) ∧ z 114 = some (rowL (q_dvS N kp o q0 v).2) ∧ z 112 = some (rowL kp) ∧ z 116 = some (rowL (q_ner N kp v))) ⟨w.row _ (by unfold q_ms; omega), (og_set_ne _ _ (by omega)).trans e107, (og_set_ne _ _ (by omega)).trans e108, (og_set_ne _ _ (by omega)).trans e114, (og_set_ne _ _ (by omega)).trans e112, og_set_eq _ _ _⟩ fun z ⟨w, e107, e108, e114, e112, e116⟩ => ?_
          have wm := w.m
          refine og_forget_8 ?_
          have keep : ¬ q_btr N kp v (q_dvS N kp o q0 v) → og_G E yX8_divides.cls cX8_divides (d + 2) 0 0 11 X (og_Q E (fun v n1 h1 => n1 = n2 ∧ v = none ∧ og_MK h0 h1 M ∧ h1 107 = some (rowL f) ∧ h1 108 = some (rowL g) ∧ h1 114 = some (rowL (q_quo2 f g q0 o)) ∧ h1 115 = some (rowL (q_rem2 f g q0 o))) no_x 0 0 X) (0 + 0 + 0) (0 + 0 + 0) n2 z 264 [some (.ref 101), some (.long N), none, some (.long (q_dvS N kp o q0 v).1), none, some (.int (nI v)), some (.long (q_frr N kp (q_ner N kp v) 8)), none, none, none, none] [] := by
            intro hk
            refine og_forget_6 ?_
            have q := back z w e107 e108 (by rw [q_dvS_keep hok hk]; exact e114) e112
            rw [q_dvS_keep hok hk] at q
            exact q
          have take : q_btr N kp v (q_dvS N kp o q0 v) → og_G E yX8_divides.cls cX8_divides (d + 2) 0 0 11 X (og_Q E (fun v n1 h1 => n1 = n2 ∧ v = none ∧ og_MK h0 h1 M ∧ h1 107 = some (rowL f) ∧ h1 108 = some (rowL g) ∧ h1 114 = some (rowL (q_quo2 f g q0 o)) ∧ h1 115 = some (rowL (q_rem2 f g q0 o))) no_x 0 0 X) (0 + 0 + 0) (0 + 0 + 0) n2 z 231 [some (.ref 101), some (.long N), none, some (.long (q_dvS N kp o q0 v).1), none, some (.int (nI v)), some (.long (q_frr N kp (q_ner N kp v) 8)), none, none, none, none] [] := by
            intro hk
            refine og_lload (pc := 231) dX8_divides_231 rfl ?_
            refine og_lstore_n_3 (pc := 233) dX8_divides_233 rfl ?_
            refine og_iconst (pc := 234) (v := 0) dX8_divides_234 (by decide) ?_
            refine og_istore_8 (pc := 235) dX8_divides_235 rfl ?_
            refine og_congL (fun j => if j < 0 then q_ner N kp v j else (q_dvS N kp o q0 v).2 j) e114 (by omega) (fun j _ => by simp) ?_
            refine og_for (i0 := 0) (N := 8) (by decide) (fun i => og_set z 114 (rowL (fun j => if j < i then q_ner N kp v j else (q_dvS N kp o q0 v).2 j))) (fun i => [some (.ref 101), some (.long N), none, some (.long (q_frr N kp (q_ner N kp v) 8)), none, some (.int (nI v)), some (.long (q_frr N kp (q_ner N kp v) 8)), none, some (.int (nI i)), none, none]) ?_ (fun i _ hi ih3 => ?_)
            · refine og_iload (pc := 237) dX8_divides_237 rfl ?_
              refine og_bipush (pc := 239) (v := 8) dX8_divides_239 (by decide) ?_
              refine og_geN (pc := 241) (tgt := 264) (i := 8) (N := 8) dX8_divides_241 (by decide) rfl rfl (by omega) (by omega) (fun c_241 => ?_) (fun c_241 => ?_)
              rotate_left
              · omega
              refine og_congL (q_ner N kp v) (og_set_eq _ _ _) (by omega) (fun j hj => by rw [if_pos (by omega)]) ?_
              rw [og_set_set]
              refine og_forget_6 (og_forget_8 ?_)
              have q := back (og_set z 114 (rowL (q_ner N kp v))) (w.row _ (by unfold q_ms; omega)) ((og_set_ne _ _ (by omega)).trans e107) ((og_set_ne _ _ (by omega)).trans e108) (by rw [q_dvS_new hok hk]; exact og_set_eq _ _ _) ((og_set_ne _ _ (by omega)).trans e112)
              rw [q_dvS_new hok hk] at q
              exact q
            · have wm := (w.row (fun j => if j < i then q_ner N kp v j else (q_dvS N kp o q0 v).2 j) (show q_ms 114 by unfold q_ms; omega)).m
              have e116b := (og_set_ne z (rowL (fun j => if j < i then q_ner N kp v j else (q_dvS N kp o q0 v).2 j)) (show 116 ≠ 114 by omega)).trans e116
              refine og_iload (pc := 237) dX8_divides_237 rfl ?_
              refine og_bipush (pc := 239) (v := 8) dX8_divides_239 (by decide) ?_
              refine og_geN (pc := 241) (tgt := 264) (i := i) (N := 8) dX8_divides_241 (by decide) rfl rfl (by omega) (by omega) (fun c_241 => ?_) (fun c_241 => ?_)
              · omega
              refine og_aload_n (pc := 244) dX8_divides_244 rfl ?_
              refine og_get (pc := 245) F_X8_51 dX8_divides_245 (by repeat (first | exact og_set_eq _ _ _ | assumption | refine (og_set_ne _ _ (by first | assumption | omega)).trans ?_)) (by omega) rfl ?_
              refine og_iload (pc := 248) dX8_divides_248 rfl ?_
              refine og_aload_n (pc := 250) dX8_divides_250 rfl ?_
              refine og_get (pc := 251) F_X8_57 dX8_divides_251 (by repeat (first | exact og_set_eq _ _ _ | assumption | refine (og_set_ne _ _ (by first | assumption | omega)).trans ?_)) (by omega) rfl ?_
              refine og_iload (pc := 254) dX8_divides_254 rfl ?_
              refine og_laldN (pc := 256) rfl dX8_divides_256 (by repeat (first | exact og_set_eq _ _ _ | assumption | refine (og_set_ne _ _ (by first | assumption | omega)).trans ?_)) (by omega) (by omega) (by first | decide | assumption | omega) ?_
              refine og_lastN (pc := 257) rfl dX8_divides_257 (by repeat (first | exact og_set_eq _ _ _ | assumption | refine (og_set_ne _ _ (by first | assumption | omega)).trans ?_)) (by omega) (by omega) (by first | decide | assumption | omega) ?_
              refine og_iinc_8 (pc := 258) dX8_divides_258 (og_inc i) rfl ?_
              refine og_goto (pc := 261) (tgt := 237) dX8_divides_261 (by decide) ?_
              rw [og_set_set, og_fill (by rfl)]
              exact ih3
          refine og_lload_n (pc := 204) dX8_divides_204 rfl ?_
          refine og_lconst (pc := 205) (v := 0) dX8_divides_205 (by decide) ?_
          refine og_lcmp (pc := 206) dX8_divides_206 ?_
          refine og_if_lt (pc := 207) (tgt := 231) dX8_divides_207 (by decide) (fun c => take (Or.inl ((og_cmpL _ _).mp c))) (fun c1 => ?_)
          refine og_lload (pc := 210) dX8_divides_210 rfl ?_
          refine og_lload_n (pc := 212) dX8_divides_212 rfl ?_
          refine og_lcmp (pc := 213) dX8_divides_213 ?_
          refine og_if_lt (pc := 214) (tgt := 231) dX8_divides_214 (by decide) (fun c => take (Or.inr (Or.inl ((og_cmpL _ _).mp c)))) (fun c2 => ?_)
          refine og_lload (pc := 217) dX8_divides_217 rfl ?_
          refine og_lload_n (pc := 219) dX8_divides_219 rfl ?_
          refine og_lcmp (pc := 220) dX8_divides_220 ?_
          refine og_if_ne (pc := 221) (tgt := 264) dX8_divides_221 (by decide) (fun c => keep fun q => ?_) (fun c3 => ?_)
          · rcases q with q | q | q
            · exact c1 ((og_cmpL _ _).mpr q)
            · exact c2 ((og_cmpL _ _).mpr q)
            · exact c ((og_cmp0 _ _).mpr q.1)
          refine og_aload_n (pc := 224) dX8_divides_224 rfl ?_
          refine og_callV (pc := 225) (As := []) (rest := []) (c_X8_isLower E d n2 z w e114 e116) Y_X8_isLower I_X8_isLower V_X8_isLower wm (by omega) rfl rfl K_X8_169 dX8_divides_225 rfl rfl (Nat.le_of_ble_eq_true rfl) (by omega) (by omega) (by omega) (fun _ _ _ z => z) (fun v n5 h5 z => ?_)
          obtain ⟨hn, hh, y⟩ := z
          subst hn hh
          rcases y with ⟨rfl, y⟩ | ⟨rfl, y⟩
          · refine og_if_eq (pc := 228) (tgt := 264) dX8_divides_228 (by decide) (fun q => absurd q (by decide)) (fun _ => ?_)
            exact take (Or.inr (Or.inr ⟨(og_cmp0 _ _).mp c3, y⟩))
          · refine og_if_eq (pc := 228) (tgt := 264) dX8_divides_228 (by decide) (fun _ => ?_) (fun q => absurd rfl q)
            refine keep fun q => ?_
            rcases q with q | q | q
            · exact c1 ((og_cmpL _ _).mpr q)
            · exact c2 ((og_cmpL _ _).mpr q)
            · exact y q.2
        · have w2 := w.row (fun j => if j < i then q_ner N kp v j else nr j) (show q_ms 116 by unfold q_ms; omega)
          have wm := w2.m
          have e112b := (og_set_ne z (rowL (fun j => if j < i then q_ner N kp v j else nr j)) (show 112 ≠ 116 by omega)).trans e112
          refine og_iload (pc := 133) dX8_divides_133 rfl ?_
          refine og_bipush (pc := 135) (v := 8) dX8_divides_135 (by decide) ?_
          refine og_geN (pc := 137) (tgt := 204) (i := i) (N := 8) dX8_divides_137 (by decide) rfl rfl (by omega) (by omega) (fun c_137 => ?_) (fun c_137 => ?_)
          · omega
          refine og_aload_n (pc := 140) dX8_divides_140 rfl ?_
          refine og_get (pc := 141) F_X8_57 dX8_divides_141 (by repeat (first | exact og_set_eq _ _ _ | assumption | refine (og_set_ne _ _ (by first | assumption | omega)).trans ?_)) (by omega) rfl ?_
          refine og_iload (pc := 144) dX8_divides_144 rfl ?_
          refine og_aload_n (pc := 146) dX8_divides_146 rfl ?_
          refine og_get (pc := 147) F_X8_41 dX8_divides_147 (by repeat (first | exact og_set_eq _ _ _ | assumption | refine (og_set_ne _ _ (by first | assumption | omega)).trans ?_)) (by omega) rfl ?_
          refine og_iload (pc := 150) dX8_divides_150 rfl ?_
          refine og_laldN (pc := 152) rfl dX8_divides_152 (by repeat (first | exact og_set_eq _ _ _ | assumption | refine (og_set_ne _ _ (by first | assumption | omega)).trans ?_)) (by omega) (by omega) (by first | decide | assumption | omega) ?_
          refine og_lload_n (pc := 153) dX8_divides_153 rfl ?_
          refine og_iload (pc := 154) dX8_divides_154 rfl ?_
          refine og_iload (pc := 156) dX8_divides_156 rfl ?_
          refine og_ishr (pc := 158) dX8_divides_158 ?_
          refine og_iconst (pc := 159) (v := 1) dX8_divides_159 (by decide) ?_
          refine og_iand (pc := 160) dX8_divides_160 ?_
          refine og_callS (pc := 161) (As := [.long (kp i), .long N, .int (q_sbit v i)]) (rest := [.int (nI i), .ref 116]) (c_X8_nearest E d n2 _ (kp i) N (q_sbit v i) hN) Y_X8_nearest S_X8_nearest K_X8_165 dX8_divides_161 rfl rfl (Nat.le_of_ble_eq_true rfl) (by omega) (by omega) (by omega) (fun _ _ _ z => z) (fun v n5 h5 z => ?_)
          obtain ⟨hn, hh, rfl⟩ := z
          subst hn
          rw [hh]
          refine og_lastN (pc := 164) rfl dX8_divides_164 (og_set_eq _ _ _) (by omega) (by omega) (by first | decide | assumption | omega) ?_
          rw [og_set_set, og_fill (by rfl)]
          have w3 := w.row (fun j => if j < i + 1 then q_ner N kp v j else nr j) (show q_ms 116 by unfold q_ms; omega)
          have wm := w3.m
          have e112c := (og_set_ne z (rowL (fun j => if j < i + 1 then q_ner N kp v j else nr j)) (show 112 ≠ 116 by omega)).trans e112
          have en : (if i < i + 1 then q_ner N kp v i else nr i) = q_ner N kp v i := if_pos (by omega)
          refine og_aload_n (pc := 165) dX8_divides_165 rfl ?_
          refine og_get (pc := 166) F_X8_57 dX8_divides_166 (by repeat (first | exact og_set_eq _ _ _ | assumption | refine (og_set_ne _ _ (by first | assumption | omega)).trans ?_)) (by omega) rfl ?_
          refine og_iload (pc := 169) dX8_divides_169 rfl ?_
          refine og_laldN (pc := 171) rfl dX8_divides_171 (by repeat (first | exact og_set_eq _ _ _ | assumption | refine (og_set_ne _ _ (by first | assumption | omega)).trans ?_)) (by omega) (by omega) (by first | decide | assumption | omega) ?_
          rw [en]
          refine og_lload_n (pc := 172) dX8_divides_172 rfl ?_
          refine og_lmul (pc := 173) dX8_divides_173 ?_
          refine og_ldc2 (pc := 174) LC_X8_101 dX8_divides_174 ?_
          refine og_aload_n (pc := 177) dX8_divides_177 rfl ?_
          refine og_get (pc := 178) F_X8_41 dX8_divides_178 (by repeat (first | exact og_set_eq _ _ _ | assumption | refine (og_set_ne _ _ (by first | assumption | omega)).trans ?_)) (by omega) rfl ?_
          refine og_iload (pc := 181) dX8_divides_181 rfl ?_
          refine og_laldN (pc := 183) rfl dX8_divides_183 (by repeat (first | exact og_set_eq _ _ _ | assumption | refine (og_set_ne _ _ (by first | assumption | omega)).trans ?_)) (by omega) (by omega) (by first | decide | assumption | omega) ?_
          refine og_lmul (pc := 184) dX8_divides_184 ?_
          refine og_lsub (pc := 185) dX8_divides_185 ?_
          refine og_lstore_9 (pc := 186) dX8_divides_186 rfl ?_
          refine og_lload (pc := 188) dX8_divides_188 rfl ?_
          refine og_lload (pc := 190) dX8_divides_190 rfl ?_
          refine og_lload (pc := 192) dX8_divides_192 rfl ?_
          refine og_lmul (pc := 194) dX8_divides_194 ?_
          refine og_ladd (pc := 195) dX8_divides_195 ?_
          refine og_lstore_6 (pc := 196) dX8_divides_196 rfl ?_
          refine og_forget_9 ?_
          refine og_iinc_8 (pc := 198) dX8_divides_198 (og_inc i) rfl ?_
          refine og_goto (pc := 201) (tgt := 133) dX8_divides_201 (by decide) ?_
          exact ih2
      have skip : ¬ q_okS o v → og_G E yX8_divides.cls cX8_divides (d + 2) 0 0 11 X (og_Q E (fun v n1 h1 => n1 = n2 ∧ v = none ∧ og_MK h0 h1 M ∧ h1 107 = some (rowL f) ∧ h1 108 = some (rowL g) ∧ h1 114 = some (rowL (q_quo2 f g q0 o)) ∧ h1 115 = some (rowL (q_rem2 f g q0 o))) no_x 0 0 X) (0 + 0 + 0) (0 + 0 + 0) n2 z 264 [some (.ref 101), some (.long N), none, some (.long (q_dvS N kp o q0 v).1), none, some (.int (nI v)), none, none, none, none, none] [] := by
        intro hno
        have q := back z w e107 e108 (by rw [q_dvS_no hno]; exact e114) e112
        rw [q_dvS_no hno] at q
        exact q
      refine og_iload (pc := 85) dX8_divides_85 rfl ?_
      refine og_sipush (pc := 87) (v := 256) dX8_divides_87 (by decide) ?_
      refine og_geN (pc := 90) (tgt := 270) (i := v) (N := 256) dX8_divides_90 (by decide) rfl rfl (by omega) (by omega) (fun c_90 => ?_) (fun c_90 => ?_)
      · omega
      refine og_aload_n (pc := 93) dX8_divides_93 rfl ?_
      refine og_get (pc := 94) F_X8_7 dX8_divides_94 (by repeat (first | exact og_set_eq _ _ _ | assumption | refine (og_set_ne _ _ (by first | assumption | omega)).trans ?_)) (by omega) rfl ?_
      refine og_bipush (pc := 97) (v := 64) dX8_divides_97 (by decide) ?_
      refine og_ialdN (pc := 99) (j := 64) (show (64 : Int32) = nI 64 from rfl) dX8_divides_99 ws (by omega) (by omega) (by first | decide | assumption | omega) ?_
      rw [ho]
      refine og_if_ne (pc := 100) (tgt := 111) dX8_divides_100 (by decide) (fun c => ?_) (fun c => ?_)
      · have hone : o ≠ 0 := fun q => c (by rw [q]; rfl)
        refine og_aload_n (pc := 111) dX8_divides_111 rfl ?_
        refine og_iload (pc := 112) dX8_divides_112 rfl ?_
        refine og_aload_n (pc := 114) dX8_divides_114 rfl ?_
        refine og_get (pc := 115) F_X8_7 dX8_divides_115 (by repeat (first | exact og_set_eq _ _ _ | assumption | refine (og_set_ne _ _ (by first | assumption | omega)).trans ?_)) (by omega) rfl ?_
        refine og_bipush (pc := 118) (v := 64) dX8_divides_118 (by decide) ?_
        refine og_ialdN (pc := 120) (j := 64) (show (64 : Int32) = nI 64 from rfl) dX8_divides_120 ws (by omega) (by omega) (by first | decide | assumption | omega) ?_
        rw [ho]
        refine og_callV (pc := 121) (As := [.int (nI v), .int (nI o)]) (rest := []) (c_X8_isSet E d n2 o z (nI v) ho8) Y_X8_isSet I_X8_isSet V_X8_isSet wm (by omega) rfl rfl K_X8_103 dX8_divides_121 rfl rfl (Nat.le_of_ble_eq_true rfl) (by omega) (by omega) (by omega) (fun _ _ _ z => z) (fun v n3 h3 z => ?_)
        obtain ⟨hn, hh, y⟩ := z
        subst hn hh
        rcases y with ⟨rfl, y⟩ | ⟨rfl, y⟩
        · refine og_if_eq (pc := 124) (tgt := 264) dX8_divides_124 (by decide) (fun q => absurd q (by decide)) (fun _ => ?_)
          exact work (Or.inr ⟨hone, y⟩)
        · refine og_if_eq (pc := 124) (tgt := 264) dX8_divides_124 (by decide) (fun _ => ?_) (fun q => absurd rfl q)
          exact skip fun q => q.elim (fun q => hone q.1) (fun q => y q.2)
      · have ho0 : o = 0 := by
          rcases Nat.eq_zero_or_pos o with q | q
          · exact q
          · exact absurd c (nI_ne0 q (by omega))
        refine og_iload (pc := 103) dX8_divides_103 rfl ?_
        refine og_if_ne (pc := 105) (tgt := 264) dX8_divides_105 (by decide) (fun c2 => ?_) (fun c2 => ?_)
        · exact skip fun q => q.elim (fun q => c2 (by rw [q.2]; rfl)) (fun q => q.1 ho0)
        · refine og_goto (pc := 108) (tgt := 127) dX8_divides_108 (by decide) ?_
          refine work (Or.inl ⟨ho0, ?_⟩)
          rcases Nat.eq_zero_or_pos v with q | q
          · exact q
          · exact absurd c2 (nI_ne0 q (by omega))
  exact loop 256 0 rfl z w e107 e108 e114 e112
