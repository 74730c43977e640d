/-! ===== the model: opens, ends, endsTerm ===== -/
abbrev q_T : Type := (Nat → Int64) × (Nat → Int64) × (Nat → Int64) × (Nat → Int32) × (Nat → Int32) × (Nat → Int32) × Nat × Int32
def m_wW (M : q_M) (dp : Nat) (wl ct : Int32) : q_M := m_wO M (m_ps M) (m_ty M) (m_rf M) (m_la M) (m_un M) (m_ls M) (nI dp) wl ct
/-- the reader in the heap: now, sums, products, signs, hasProduct, digits, deep, counted -/
def m_CK (h0 h : og_H) (M : q_M) (wl : Int32) (nw su pr : Nat → Int64) (sg hp dg : Nat → Int32) (dp : Nat) (ct : Int32) : Prop :=
  og_MK h0 h (m_wW M dp wl ct) ∧ h 117 = some (rowL56 su) ∧ h 118 = some (rowL56 pr) ∧ h 119 = some (rowI 7 sg) ∧ h 120 = some (rowZ7 hp) ∧ h 121 = some (rowI 7 dg) ∧ h 122 = some (rowL nw) ∧ dp ≤ 6
def m_CT (h0 h : og_H) (M : q_M) (wl : Int32) (T : q_T) : Prop := m_CK h0 h M wl T.1 T.2.1 T.2.2.1 T.2.2.2.1 T.2.2.2.2.1 T.2.2.2.2.2.1 T.2.2.2.2.2.2.1 T.2.2.2.2.2.2.2
section CK
variable {h0 h : og_H} {M : q_M} {wl : Int32} {nw su pr : Nat → Int64} {sg hp dg : Nat → Int32} {dp : Nat} {ct : Int32}
theorem m_CK.mk (w : m_CK h0 h M wl nw su pr sg hp dg dp ct) : og_MK h0 h (m_wW M dp wl ct) := w.1
theorem m_CK.m (w : m_CK h0 h M wl nw su pr sg hp dg dp ct) : h 101 = some (og_mM (m_wW M dp wl ct)) := w.1.m
theorem m_CK.e7 (w : m_CK h0 h M wl nw su pr sg hp dg dp ct) : h 117 = some (rowL56 su) := w.2.1
theorem m_CK.e8 (w : m_CK h0 h M wl nw su pr sg hp dg dp ct) : h 118 = some (rowL56 pr) := w.2.2.1
theorem m_CK.e9 (w : m_CK h0 h M wl nw su pr sg hp dg dp ct) : h 119 = some (rowI 7 sg) := w.2.2.2.1
theorem m_CK.e0 (w : m_CK h0 h M wl nw su pr sg hp dg dp ct) : h 120 = some (rowZ7 hp) := w.2.2.2.2.1
theorem m_CK.e1 (w : m_CK h0 h M wl nw su pr sg hp dg dp ct) : h 121 = some (rowI 7 dg) := w.2.2.2.2.2.1
theorem m_CK.e2 (w : m_CK h0 h M wl nw su pr sg hp dg dp ct) : h 122 = some (rowL nw) := w.2.2.2.2.2.2.1
theorem m_CK.d6 (w : m_CK h0 h M wl nw su pr sg hp dg dp ct) : dp ≤ 6 := w.2.2.2.2.2.2.2
theorem m_CK.s7 (w : m_CK h0 h M wl nw su pr sg hp dg dp ct) (f : Nat → Int64) : m_CK h0 (og_set h 117 (rowL56 f)) M wl nw f pr sg hp dg dp ct :=
  ⟨w.1.s7 f, og_set_eq _ _ _, ((og_set_ne _ _ (by omega)).trans w.e8), ((og_set_ne _ _ (by omega)).trans w.e9), ((og_set_ne _ _ (by omega)).trans w.e0), ((og_set_ne _ _ (by omega)).trans w.e1), ((og_set_ne _ _ (by omega)).trans w.e2), w.d6⟩
theorem m_CK.s8 (w : m_CK h0 h M wl nw su pr sg hp dg dp ct) (f : Nat → Int64) : m_CK h0 (og_set h 118 (rowL56 f)) M wl nw su f sg hp dg dp ct :=
  ⟨w.1.s8 f, ((og_set_ne _ _ (by omega)).trans w.e7), og_set_eq _ _ _, ((og_set_ne _ _ (by omega)).trans w.e9), ((og_set_ne _ _ (by omega)).trans w.e0), ((og_set_ne _ _ (by omega)).trans w.e1), ((og_set_ne _ _ (by omega)).trans w.e2), w.d6⟩
theorem m_CK.s9 (w : m_CK h0 h M wl nw su pr sg hp dg dp ct) (f : Nat → Int32) : m_CK h0 (og_set h 119 (rowI 7 f)) M wl nw su pr f hp dg dp ct :=
  ⟨w.1.s9 f, ((og_set_ne _ _ (by omega)).trans w.e7), ((og_set_ne _ _ (by omega)).trans w.e8), og_set_eq _ _ _, ((og_set_ne _ _ (by omega)).trans w.e0), ((og_set_ne _ _ (by omega)).trans w.e1), ((og_set_ne _ _ (by omega)).trans w.e2), w.d6⟩
theorem m_CK.s0 (w : m_CK h0 h M wl nw su pr sg hp dg dp ct) (f : Nat → Int32) : m_CK h0 (og_set h 120 (rowZ7 f)) M wl nw su pr sg f dg dp ct :=
  ⟨w.1.s0 f, ((og_set_ne _ _ (by omega)).trans w.e7), ((og_set_ne _ _ (by omega)).trans w.e8), ((og_set_ne _ _ (by omega)).trans w.e9), og_set_eq _ _ _, ((og_set_ne _ _ (by omega)).trans w.e1), ((og_set_ne _ _ (by omega)).trans w.e2), w.d6⟩
theorem m_CK.s1 (w : m_CK h0 h M wl nw su pr sg hp dg dp ct) (f : Nat → Int32) : m_CK h0 (og_set h 121 (rowI 7 f)) M wl nw su pr sg hp f dp ct :=
  ⟨w.1.s1 f, ((og_set_ne _ _ (by omega)).trans w.e7), ((og_set_ne _ _ (by omega)).trans w.e8), ((og_set_ne _ _ (by omega)).trans w.e9), ((og_set_ne _ _ (by omega)).trans w.e0), og_set_eq _ _ _, ((og_set_ne _ _ (by omega)).trans w.e2), w.d6⟩
theorem m_CK.s2 (w : m_CK h0 h M wl nw su pr sg hp dg dp ct) (f : Nat → Int64) : m_CK h0 (og_set h 122 (rowL f)) M wl f su pr sg hp dg dp ct :=
  ⟨w.1.row f (by unfold q_ms; omega), ((og_set_ne _ _ (by omega)).trans w.e7), ((og_set_ne _ _ (by omega)).trans w.e8), ((og_set_ne _ _ (by omega)).trans w.e9), ((og_set_ne _ _ (by omega)).trans w.e0), ((og_set_ne _ _ (by omega)).trans w.e1), og_set_eq _ _ _, w.d6⟩
theorem m_CK.row (w : m_CK h0 h M wl nw su pr sg hp dg dp ct) {x : Nat} (f : Nat → Int64) (hx : q_ms x) (hx2 : x ≠ 122) : m_CK h0 (og_set h x (rowL f)) M wl nw su pr sg hp dg dp ct := by
  have hx1 : (107 ≤ x ∧ x < 113) ∨ (114 ≤ x ∧ x < 117) ∨ x = 122 := hx
  exact ⟨w.1.row f hx, ((og_set_ne _ _ (by omega)).trans w.e7), ((og_set_ne _ _ (by omega)).trans w.e8), ((og_set_ne _ _ (by omega)).trans w.e9), ((og_set_ne _ _ (by omega)).trans w.e0), ((og_set_ne _ _ (by omega)).trans w.e1), ((og_set_ne _ _ (by omega)).trans w.e2), w.d6⟩
theorem m_CK.sO (w : m_CK h0 h M wl nw su pr sg hp dg dp ct) (dp2 : Nat) (wl2 ct2 : Int32) (hd : dp2 ≤ 6) : m_CK h0 (og_set h 101 (og_mM (m_wW M dp2 wl2 ct2))) M wl2 nw su pr sg hp dg dp2 ct2 :=
  ⟨w.1.sO (m_ps M) (m_ty M) (m_rf M) (m_la M) (m_un M) (m_ls M) (nI dp2) wl2 ct2 w.1.ok.1 w.1.ok.2, ((og_set_ne _ _ (by omega)).trans w.e7), ((og_set_ne _ _ (by omega)).trans w.e8), ((og_set_ne _ _ (by omega)).trans w.e9), ((og_set_ne _ _ (by omega)).trans w.e0), ((og_set_ne _ _ (by omega)).trans w.e1), ((og_set_ne _ _ (by omega)).trans w.e2), hd⟩
end CK
theorem og_MK.ck {h0 h : og_H} {M : q_M} {dp : Nat} {wl ct : Int32} (w : og_MK h0 h (m_wW M dp wl ct)) (hd : dp ≤ 6) : ∃ nw su pr sg hp dg, m_CK h0 h M wl nw su pr sg hp dg dp ct := by
  obtain ⟨a, ea⟩ := w.b7
  obtain ⟨b, eb⟩ := w.b8
  obtain ⟨c, ec⟩ := w.b9
  obtain ⟨d, ed⟩ := w.c0
  obtain ⟨e, ee⟩ := w.c1
  obtain ⟨f, ef⟩ := w.scr 122 (by unfold q_ms; omega)
  exact ⟨f, a, b, c, d, e, w, ea, eb, ec, ed, ee, ef, hd⟩
theorem q_nar0 : vp_nar .boolean 0 = 0 := by decide
theorem q_nar1 : vp_nar .boolean 1 = 1 := by decide
def q_blk (f : Nat → Int64) (r : Nat) (g : Nat → Int64) : Nat → Int64 := fun j => if 8 * r ≤ j ∧ j < 8 * r + 8 then g (j - 8 * r) else f j
def q_bki (f : Nat → Int64) (r : Nat) (g : Nat → Int64) (i : Nat) : Nat → Int64 := fun j => if 8 * r ≤ j ∧ j < 8 * r + i then g (j - 8 * r) else f j
def q_row8 (f : Nat → Int64) (r : Nat) : Nat → Int64 := fun k => f (8 * r + k)
theorem q_bki_next (f : Nat → Int64) (r : Nat) (g : Nat → Int64) (i : Nat) : vp_updL (q_bki f r g i) (8 * r + i) (g i) = q_bki f r g (i + 1) := by
  funext j
  unfold vp_updL q_bki
  by_cases h : j = 8 * r + i
  · subst h
    rw [if_pos rfl, if_pos (by omega)]
    congr 1
    omega
  · rw [if_neg h]
    by_cases h2 : 8 * r ≤ j ∧ j < 8 * r + i
    · rw [if_pos h2, if_pos (by omega)]
    · rw [if_neg h2, if_neg (by omega)]
noncomputable def r_put (T : q_T) (g : Nat → Int64) (ct : Int32) : q_T := (g, T.2.1, q_blk T.2.2.1 T.2.2.2.2.2.2.1 g, T.2.2.2.1, upd T.2.2.2.2.1 T.2.2.2.2.2.2.1 1, upd T.2.2.2.2.2.1 T.2.2.2.2.2.2.1 1, T.2.2.2.2.2.2.1, ct)
/-- the operand is whole -/
noncomputable def r_ends (T : q_T) : Option q_T :=
  q_if (q_hall 1 (q_scale T.1 (T.2.2.2.2.2.1 T.2.2.2.2.2.2.1).toInt64))
    (q_if (T.2.2.2.2.1 T.2.2.2.2.2.2.1 = 0) (some (r_put T (q_dv 1 (q_scale T.1 (T.2.2.2.2.2.1 T.2.2.2.2.2.2.1).toInt64)) T.2.2.2.2.2.2.2))
      (q_if (q_hall 2 (q_prod (q_row8 T.2.2.1 T.2.2.2.2.2.2.1) (q_dv 1 (q_scale T.1 (T.2.2.2.2.2.1 T.2.2.2.2.2.2.1).toInt64))))
        (some (r_put T (q_dv 2 (q_prod (q_row8 T.2.2.1 T.2.2.2.2.2.2.1) (q_dv 1 (q_scale T.1 (T.2.2.2.2.2.1 T.2.2.2.2.2.2.1).toInt64)))) (T.2.2.2.2.2.2.2 + 1))) none)) none
def r_sum (T : q_T) : Nat → Int64 := if T.2.2.2.1 T.2.2.2.2.2.2.1 = 0 then q_row8 T.2.2.1 T.2.2.2.2.2.2.1 else fun k => T.2.1 (8 * T.2.2.2.2.2.2.1 + k) + (T.2.2.2.1 T.2.2.2.2.2.2.1).toInt64 * T.2.2.1 (8 * T.2.2.2.2.2.2.1 + k)
/-- the term is whole -/
noncomputable def r_endsTerm (T : q_T) (nx : Int32) : Option q_T :=
  q_if (q_hall 1 (r_sum T)) (some (q_dv 1 (r_sum T), q_blk T.2.1 T.2.2.2.2.2.2.1 (q_dv 1 (r_sum T)), T.2.2.1, upd T.2.2.2.1 T.2.2.2.2.2.2.1 nx, upd T.2.2.2.2.1 T.2.2.2.2.2.2.1 0, T.2.2.2.2.2.1, T.2.2.2.2.2.2.1, T.2.2.2.2.2.2.2)) none
set_option maxRecDepth 4000 in
theorem c_X8_opens (E : og_E) (d n : Nat) (h : og_H) {h0 : og_H} {M : q_M} {wl : Int32} {nw su pr : Nat → Int64} {sg hp dg : Nat → Int32} {dp : Nat} {ct : Int32} (w : m_CK h0 h M wl nw su pr sg hp dg dp ct) :
    og_M E yX8_opens (.code yX8_opens cX8_opens 1 none) d [.ref 101] n h 0 0 (fun v nn h1 => nn = n ∧ v = none ∧ m_CK h0 h1 M wl nw su pr (upd sg dp 0) (upd hp dp 0) (upd dg dp 1) dp ct) no_x := by
  refine og_start (lv := [some (.ref 101)]) (by decide) rfl rfl (Nat.le_of_ble_eq_true rfl) fun X hr hnm htb => ?_
  have hd := w.d6
  have wm := w.m
  have g9 := w.e9
  refine og_aload_n (pc := 0) dX8_opens_0 rfl ?_
  refine og_get (pc := 1) F_X8_66 dX8_opens_1 (by repeat (first | exact og_set_eq _ _ _ | assumption | refine (og_set_ne _ _ (by first | assumption | omega)).trans ?_)) (by omega) rfl ?_
  refine og_aload_n (pc := 4) dX8_opens_4 rfl ?_
  refine og_get (pc := 5) F_X8_214 dX8_opens_5 (by repeat (first | exact og_set_eq _ _ _ | assumption | refine (og_set_ne _ _ (by first | assumption | omega)).trans ?_)) (by omega) rfl ?_
  refine og_iconst (pc := 8) (v := 0) dX8_opens_8 (by decide) ?_
  refine og_iastN (pc := 9) (j := dp) rfl dX8_opens_9 g9 (by omega) (by omega) (by first | decide | assumption | omega) ?_
  have w := w.s9 (upd sg dp 0)
  have wm := w.m
  have g0 := w.e0
  refine og_aload_n (pc := 10) dX8_opens_10 rfl ?_
  refine og_get (pc := 11) F_X8_69 dX8_opens_11 (by repeat (first | exact og_set_eq _ _ _ | assumption | refine (og_set_ne _ _ (by first | assumption | omega)).trans ?_)) (by omega) rfl ?_
  refine og_aload_n (pc := 14) dX8_opens_14 rfl ?_
  refine og_get (pc := 15) F_X8_214 dX8_opens_15 (by repeat (first | exact og_set_eq _ _ _ | assumption | refine (og_set_ne _ _ (by first | assumption | omega)).trans ?_)) (by omega) rfl ?_
  refine og_iconst (pc := 18) (v := 0) dX8_opens_18 (by decide) ?_
  refine og_zastN (pc := 19) (j := dp) rfl dX8_opens_19 g0 (by omega) (by omega) (by first | decide | assumption | omega) ?_
  rw [q_nar0]
  have w := w.s0 (upd hp dp 0)
  have wm := w.m
  have g1 := w.e1
  refine og_aload_n (pc := 20) dX8_opens_20 rfl ?_
  refine og_get (pc := 21) F_X8_73 dX8_opens_21 (by repeat (first | exact og_set_eq _ _ _ | assumption | refine (og_set_ne _ _ (by first | assumption | omega)).trans ?_)) (by omega) rfl ?_
  refine og_aload_n (pc := 24) dX8_opens_24 rfl ?_
  refine og_get (pc := 25) F_X8_214 dX8_opens_25 (by repeat (first | exact og_set_eq _ _ _ | assumption | refine (og_set_ne _ _ (by first | assumption | omega)).trans ?_)) (by omega) rfl ?_
  refine og_iconst (pc := 28) (v := 1) dX8_opens_28 (by decide) ?_
  refine og_iastN (pc := 29) (j := dp) rfl dX8_opens_29 g1 (by omega) (by omega) (by first | decide | assumption | omega) ?_
  exact og_vret (pc := 30) hr dX8_opens_30 (by omega) (by omega) ⟨rfl, rfl, w.s1 (upd dg dp 1)⟩
set_option maxRecDepth 4000 in
theorem c_X8_ends (E : og_E) (d n : Nat) (h : og_H) {h0 : og_H} {M : q_M} {nw su pr : Nat → Int64} {sg hp dg : Nat → Int32} {dp : Nat} {ct : Int32} (w : m_CK h0 h M 1 nw su pr sg hp dg dp ct) :
    og_M E yX8_ends (.code yX8_ends cX8_ends 2 none) (d + 2) [.ref 101] n h 0 0 (fun (v : Option Value) (nn : Nat) (h1 : og_H) => nn = n ∧ v = none ∧ ((r_ends (nw, su, pr, sg, hp, dg, dp, ct) = none ∧ ∃ T, T.2.2.2.2.2.2.1 = dp ∧ m_CT h0 h1 M 0 T) ∨ (∃ T, r_ends (nw, su, pr, sg, hp, dg, dp, ct) = some T ∧ m_CT h0 h1 M 1 T))) no_x := by
  refine og_start (lv := [some (.ref 101), none]) (by decide) rfl rfl (Nat.le_of_ble_eq_true rfl) fun X hr hnm htb => ?_
  have hd := w.d6
  have tail : ∀ (g : og_H) (wl ct2 : Int32) (nw2 : Nat → Int64) (dg2 : Nat → Int32) (l1 : Option Value), m_CK h0 g M wl nw2 su pr sg hp dg2 dp ct2 → (∀ h1, m_CK h0 h1 M wl nw2 su (q_blk pr dp nw2) sg (upd hp dp 1) dg2 dp ct2 → (fun (v : Option Value) (nn : Nat) (h1 : og_H) => nn = n ∧ v = none ∧ ((r_ends (nw, su, pr, sg, hp, dg, dp, ct) = none ∧ ∃ T, T.2.2.2.2.2.2.1 = dp ∧ m_CT h0 h1 M 0 T) ∨ (∃ T, r_ends (nw, su, pr, sg, hp, dg, dp, ct) = some T ∧ m_CT h0 h1 M 1 T))) none n h1) → og_G E yX8_ends.cls cX8_ends (d + 2) 0 0 2 X (og_Q E (fun (v : Option Value) (nn : Nat) (h1 : og_H) => nn = n ∧ v = none ∧ ((r_ends (nw, su, pr, sg, hp, dg, dp, ct) = none ∧ ∃ T, T.2.2.2.2.2.2.1 = dp ∧ m_CT h0 h1 M 0 T) ∨ (∃ T, r_ends (nw, su, pr, sg, hp, dg, dp, ct) = some T ∧ m_CT h0 h1 M 1 T))) no_x 0 0 X) 0 0 n g 161 [some (.ref 101), l1] [] := by
    intro g wl ct2 nw2 dg2 l1 w hp9
    have wm := w.m
    have g0 := w.e0
    refine og_aload_n (pc := 161) dX8_ends_161 rfl ?_
    refine og_get (pc := 162) F_X8_69 dX8_ends_162 (by repeat (first | exact og_set_eq _ _ _ | assumption | refine (og_set_ne _ _ (by first | assumption | omega)).trans ?_)) (by omega) rfl ?_
    refine og_aload_n (pc := 165) dX8_ends_165 rfl ?_
    refine og_get (pc := 166) F_X8_214 dX8_ends_166 (by repeat (first | exact og_set_eq _ _ _ | assumption | refine (og_set_ne _ _ (by first | assumption | omega)).trans ?_)) (by omega) rfl ?_
    refine og_iconst (pc := 169) (v := 1) dX8_ends_169 (by decide) ?_
    refine og_zastN (pc := 170) (j := dp) rfl dX8_ends_170 g0 (by omega) (by omega) (by first | decide | assumption | omega) ?_
    rw [q_nar1]
    have w := w.s0 (upd hp dp 1)
    refine og_abs (P := fun g => m_CK h0 g M wl nw2 su pr sg (upd hp dp 1) dg2 dp ct2) w fun g w => ?_
    refine og_iconst (pc := 171) (v := 0) dX8_ends_171 (by decide) ?_
    refine og_istore_n_1 (pc := 172) dX8_ends_172 rfl ?_
    refine og_heq (og_set g 118 (rowL56 (q_bki pr dp nw2 0))) (by rw [show q_bki pr dp nw2 0 = pr from funext fun j => if_neg (by omega), og_set_same w.e8]) ?_
    refine og_for (i0 := 0) (N := 8) (by decide) (fun i => og_set g 118 (rowL56 (q_bki pr dp nw2 i))) (fun i => [some (.ref 101), some (.int (nI i))]) ?_ (fun i _ hi ih => ?_)
    · refine og_iload_n (pc := 173) dX8_ends_173 rfl ?_
      refine og_bipush (pc := 174) (v := 8) dX8_ends_174 (by decide) ?_
      refine og_geN (pc := 176) (tgt := 205) (i := 8) (N := 8) dX8_ends_176 (by decide) rfl rfl (by omega) (by omega) (fun c_176 => ?_) (fun c_176 => ?_)
      rotate_left
      · omega
      exact og_vret (pc := 205) hr dX8_ends_205 (by omega) (by omega) (hp9 _ (w.s8 (q_bki pr dp nw2 8)))
    · have w2 := w.s8 (q_bki pr dp nw2 i)
      have wm := w2.m
      have g8 : og_set g 118 (rowL56 (q_bki pr dp nw2 i)) 118 = some (rowL56 (q_bki pr dp nw2 i)) := og_set_eq _ _ _
      have g2 := w2.e2
      refine og_iload_n (pc := 173) dX8_ends_173 rfl ?_
      refine og_bipush (pc := 174) (v := 8) dX8_ends_174 (by decide) ?_
      refine og_geN (pc := 176) (tgt := 205) (i := i) (N := 8) dX8_ends_176 (by decide) rfl rfl (by omega) (by omega) (fun c_176 => ?_) (fun c_176 => ?_)
      · omega
      refine og_aload_n (pc := 179) dX8_ends_179 rfl ?_
      refine og_get (pc := 180) F_X8_63 dX8_ends_180 (by repeat (first | exact og_set_eq _ _ _ | assumption | refine (og_set_ne _ _ (by first | assumption | omega)).trans ?_)) (by omega) rfl ?_
      refine og_bipush (pc := 183) (v := 8) dX8_ends_183 (by decide) ?_
      refine og_aload_n (pc := 185) dX8_ends_185 rfl ?_
      refine og_get (pc := 186) F_X8_214 dX8_ends_186 (by repeat (first | exact og_set_eq _ _ _ | assumption | refine (og_set_ne _ _ (by first | assumption | omega)).trans ?_)) (by omega) rfl ?_
      refine og_imul (pc := 189) dX8_ends_189 ?_
      refine og_iload_n (pc := 190) dX8_ends_190 rfl ?_
      refine og_iadd (pc := 191) dX8_ends_191 ?_
      refine og_aload_n (pc := 192) dX8_ends_192 rfl ?_
      refine og_get (pc := 193) F_X8_76 dX8_ends_193 (by repeat (first | exact og_set_eq _ _ _ | assumption | refine (og_set_ne _ _ (by first | assumption | omega)).trans ?_)) (by omega) rfl ?_
      refine og_iload_n (pc := 196) dX8_ends_196 rfl ?_
      refine og_laldN (pc := 197) rfl dX8_ends_197 g2 (by omega) (by omega) (by first | decide | assumption | omega) ?_
      refine og_lastN (pc := 198) (j := (8 * dp + i)) (og_i8 dp i) dX8_ends_198 g8 (by omega) (by omega) (by first | decide | assumption | omega) ?_
      refine og_iinc_1 (pc := 199) dX8_ends_199 (og_inc i) rfl ?_
      refine og_goto (pc := 202) (tgt := 173) dX8_ends_202 (by decide) ?_
      rw [og_set_set, q_bki_next]
      exact ih
  have bad : ∀ (g : og_H) (nw2 : Nat → Int64) (l1 : Option Value), r_ends (nw, su, pr, sg, hp, dg, dp, ct) = none → m_CK h0 g M 0 nw2 su pr sg hp dg dp ct → og_G E yX8_ends.cls cX8_ends (d + 2) 0 0 2 X (og_Q E (fun (v : Option Value) (nn : Nat) (h1 : og_H) => nn = n ∧ v = none ∧ ((r_ends (nw, su, pr, sg, hp, dg, dp, ct) = none ∧ ∃ T, T.2.2.2.2.2.2.1 = dp ∧ m_CT h0 h1 M 0 T) ∨ (∃ T, r_ends (nw, su, pr, sg, hp, dg, dp, ct) = some T ∧ m_CT h0 h1 M 1 T))) no_x 0 0 X) 0 0 n g 60 [some (.ref 101), l1] [] := by
    intro g nw2 l1 hno w
    have wm := w.m
    have g1 := w.e1
    refine og_aload_n (pc := 60) dX8_ends_60 rfl ?_
    refine og_get (pc := 61) F_X8_73 dX8_ends_61 (by repeat (first | exact og_set_eq _ _ _ | assumption | refine (og_set_ne _ _ (by first | assumption | omega)).trans ?_)) (by omega) rfl ?_
    refine og_aload_n (pc := 64) dX8_ends_64 rfl ?_
    refine og_get (pc := 65) F_X8_214 dX8_ends_65 (by repeat (first | exact og_set_eq _ _ _ | assumption | refine (og_set_ne _ _ (by first | assumption | omega)).trans ?_)) (by omega) rfl ?_
    refine og_iconst (pc := 68) (v := 1) dX8_ends_68 (by decide) ?_
    refine og_iastN (pc := 69) (j := dp) rfl dX8_ends_69 g1 (by omega) (by omega) (by first | decide | assumption | omega) ?_
    have w := w.s1 (upd dg dp 1)
    have wm := w.m
    have g0 := w.e0
    refine og_aload_n (pc := 70) dX8_ends_70 rfl ?_
    refine og_get (pc := 71) F_X8_69 dX8_ends_71 (by repeat (first | exact og_set_eq _ _ _ | assumption | refine (og_set_ne _ _ (by first | assumption | omega)).trans ?_)) (by omega) rfl ?_
    refine og_aload_n (pc := 74) dX8_ends_74 rfl ?_
    refine og_get (pc := 75) F_X8_214 dX8_ends_75 (by repeat (first | exact og_set_eq _ _ _ | assumption | refine (og_set_ne _ _ (by first | assumption | omega)).trans ?_)) (by omega) rfl ?_
    refine og_zaldN (pc := 78) (j := dp) rfl dX8_ends_78 g0 (by omega) (by omega) (by first | decide | assumption | omega) ?_
    have fin : og_G E yX8_ends.cls cX8_ends (d + 2) 0 0 2 X (og_Q E (fun (v : Option Value) (nn : Nat) (h1 : og_H) => nn = n ∧ v = none ∧ ((r_ends (nw, su, pr, sg, hp, dg, dp, ct) = none ∧ ∃ T, T.2.2.2.2.2.2.1 = dp ∧ m_CT h0 h1 M 0 T) ∨ (∃ T, r_ends (nw, su, pr, sg, hp, dg, dp, ct) = some T ∧ m_CT h0 h1 M 1 T))) no_x 0 0 X) 0 0 n (og_set g 121 (rowI 7 (upd dg dp 1))) 161 [some (.ref 101), l1] [] := tail _ 0 ct nw2 (upd dg dp 1) l1 w (fun h1 w1 => ⟨rfl, rfl, Or.inl ⟨hno, (nw2, su, q_blk pr dp nw2, sg, upd hp dp 1, upd dg dp 1, dp, ct), rfl, w1⟩⟩)
    refine og_if_eq (pc := 79) (tgt := 161) dX8_ends_79 (by decide) (fun _ => fin) (fun _ => ?_)
    refine og_aload_n (pc := 82) dX8_ends_82 rfl ?_
    refine og_get (pc := 83) F_X8_220 dX8_ends_83 (by repeat (first | exact og_set_eq _ _ _ | assumption | refine (og_set_ne _ _ (by first | assumption | omega)).trans ?_)) (by omega) rfl ?_
    exact og_if_eq (pc := 86) (tgt := 161) dX8_ends_86 (by decide) (fun _ => fin) (fun q => absurd rfl q)
  have wm := w.m
  refine og_iconst (pc := 0) (v := 0) dX8_ends_0 (by decide) ?_
  refine og_istore_n_1 (pc := 1) dX8_ends_1 rfl ?_
  refine og_heq (og_set h 122 (rowL (fun j => if j < 0 then (q_scale nw (dg dp).toInt64) j else nw j))) (by rw [show (fun j => if j < 0 then (q_scale nw (dg dp).toInt64) j else nw j) = nw from funext fun j => if_neg (by omega), og_set_same w.e2]) ?_
  refine og_for (i0 := 0) (N := 8) (by decide) (fun i => og_set h 122 (rowL (fun j => if j < i then (q_scale nw (dg dp).toInt64) j else nw j))) (fun i => [some (.ref 101), some (.int (nI i))]) ?_ (fun i _ hi ih => ?_)
  rotate_left
  · have w2 := w.s2 (fun j => if j < i then (q_scale nw (dg dp).toInt64) j else nw j)
    have wm := w2.m
    have g2 := w2.e2
    have g1 := w2.e1
    refine og_iload_n (pc := 2) dX8_ends_2 rfl ?_
    refine og_bipush (pc := 3) (v := 8) dX8_ends_3 (by decide) ?_
    refine og_geN (pc := 5) (tgt := 33) (i := i) (N := 8) dX8_ends_5 (by decide) rfl rfl (by omega) (by omega) (fun c_5 => ?_) (fun c_5 => ?_)
    · omega
    refine og_aload_n (pc := 8) dX8_ends_8 rfl ?_
    refine og_get (pc := 9) F_X8_76 dX8_ends_9 (by repeat (first | exact og_set_eq _ _ _ | assumption | refine (og_set_ne _ _ (by first | assumption | omega)).trans ?_)) (by omega) rfl ?_
    refine og_iload_n (pc := 12) dX8_ends_12 rfl ?_
    refine og_dup2 (pc := 13) dX8_ends_13 rfl rfl ?_
    refine og_laldN (pc := 14) (j := i) rfl dX8_ends_14 g2 (by omega) (by omega) (by first | decide | assumption | omega) ?_
    refine og_aload_n (pc := 15) dX8_ends_15 rfl ?_
    refine og_get (pc := 16) F_X8_73 dX8_ends_16 (by repeat (first | exact og_set_eq _ _ _ | assumption | refine (og_set_ne _ _ (by first | assumption | omega)).trans ?_)) (by omega) rfl ?_
    refine og_aload_n (pc := 19) dX8_ends_19 rfl ?_
    refine og_get (pc := 20) F_X8_214 dX8_ends_20 (by repeat (first | exact og_set_eq _ _ _ | assumption | refine (og_set_ne _ _ (by first | assumption | omega)).trans ?_)) (by omega) rfl ?_
    refine og_ialdN (pc := 23) (j := dp) rfl dX8_ends_23 g1 (by omega) (by omega) (by first | decide | assumption | omega) ?_
    refine og_i2l (pc := 24) dX8_ends_24 rfl ?_
    refine og_lmul (pc := 25) dX8_ends_25 ?_
    refine og_lastN (pc := 26) (j := i) rfl dX8_ends_26 g2 (by omega) (by omega) (by first | decide | assumption | omega) ?_
    refine og_iinc_1 (pc := 27) dX8_ends_27 (og_inc i) rfl ?_
    refine og_goto (pc := 30) (tgt := 2) dX8_ends_30 (by decide) ?_
    rw [og_set_set, og_fill (by rw [if_neg (by omega)]; rfl)]
    exact ih
  refine og_iload_n (pc := 2) dX8_ends_2 rfl ?_
  refine og_bipush (pc := 3) (v := 8) dX8_ends_3 (by decide) ?_
  refine og_geN (pc := 5) (tgt := 33) (i := 8) (N := 8) dX8_ends_5 (by decide) rfl rfl (by omega) (by omega) (fun c_5 => ?_) (fun c_5 => ?_)
  rotate_left
  · omega
  refine og_congL (q_scale nw (dg dp).toInt64) (og_set_eq _ _ _) (by omega) (fun j hj => by rw [if_pos (by omega)]) ?_
  rw [og_set_set]
  refine og_abs (P := fun g => m_CK h0 g M 1 (q_scale nw (dg dp).toInt64) su pr sg hp dg dp ct) (w.s2 (q_scale nw (dg dp).toInt64)) fun g w => ?_
  have wm := w.m
  refine og_aload_n (pc := 33) dX8_ends_33 rfl ?_
  refine og_aload_n (pc := 34) dX8_ends_34 rfl ?_
  refine og_get (pc := 35) F_X8_220 dX8_ends_35 wm (by omega) rfl ?_
  refine og_if_eq (pc := 38) (tgt := 56) dX8_ends_38 (by decide) (fun q => absurd q (show ¬ (1 : Int32) = 0 by decide)) (fun _ => ?_)
  refine og_aload_n (pc := 41) dX8_ends_41 rfl ?_
  refine og_get (pc := 42) F_X8_76 dX8_ends_42 wm (by omega) rfl ?_
  refine og_iconst (pc := 45) (v := 1) dX8_ends_45 (by decide) ?_
  refine og_callS (pc := 46) (As := [.ref 122, .int 1]) (rest := [.ref 101]) (c_X8_halves E d n 122 g (q_scale nw (dg dp).toInt64) 1 (by decide) w.e2 (by omega)) Y_X8_halves S_X8_halves K_X8_142 dX8_ends_46 rfl rfl (Nat.le_of_ble_eq_true rfl) (by omega) (by omega) (by omega) (fun _ _ _ z => z) (fun v n1 h1 z => ?_)
  obtain ⟨hn, z⟩ := z
  subst hn
  rcases z with ⟨rfl, hok, hh⟩ | ⟨rfl, hbad, hh⟩
  rotate_left
  · subst hh
    refine og_if_eq (pc := 49) (tgt := 56) dX8_ends_49 (by decide) (fun _ => ?_) (fun q => absurd rfl q)
    refine og_iconst (pc := 56) (v := 0) dX8_ends_56 (by decide) ?_
    refine og_put (pc := 57) P_X8_220 dX8_ends_57 wm (by omega) rfl rfl (Nat.le_of_ble_eq_true rfl) ?_
    refine og_forget_1 ?_
    exact bad _ _ none (q_if_neg hbad) (w.sO dp 0 ct hd)
  refine og_if_eq (pc := 49) (tgt := 56) dX8_ends_49 (by decide) (fun q => absurd q (by decide)) (fun _ => ?_)
  have hok : q_hall 1 (q_scale nw (dg dp).toInt64) := hok
  clear bad
  refine og_abs (P := fun g => m_CK h0 g M 1 (q_dv 1 (q_scale nw (dg dp).toInt64)) su pr sg hp dg dp ct) (by rw [hh]; exact w.s2 (q_dv 1 (q_scale nw (dg dp).toInt64))) fun g w => ?_
  have wm := w.m
  refine og_iconst (pc := 52) (v := 1) dX8_ends_52 (by decide) ?_
  refine og_goto (pc := 53) (tgt := 57) dX8_ends_53 (by decide) ?_
  refine og_put (pc := 57) P_X8_220 dX8_ends_57 wm (by omega) rfl rfl (Nat.le_of_ble_eq_true rfl) ?_
  refine og_abs (P := fun g => m_CK h0 g M 1 (q_dv 1 (q_scale nw (dg dp).toInt64)) su pr sg hp dg dp ct) (w.sO dp 1 ct hd) fun g w => ?_
  have wm := w.m
  have g1 := w.e1
  refine og_aload_n (pc := 60) dX8_ends_60 rfl ?_
  refine og_get (pc := 61) F_X8_73 dX8_ends_61 (by repeat (first | exact og_set_eq _ _ _ | assumption | refine (og_set_ne _ _ (by first | assumption | omega)).trans ?_)) (by omega) rfl ?_
  refine og_aload_n (pc := 64) dX8_ends_64 rfl ?_
  refine og_get (pc := 65) F_X8_214 dX8_ends_65 (by repeat (first | exact og_set_eq _ _ _ | assumption | refine (og_set_ne _ _ (by first | assumption | omega)).trans ?_)) (by omega) rfl ?_
  refine og_iconst (pc := 68) (v := 1) dX8_ends_68 (by decide) ?_
  refine og_iastN (pc := 69) (j := dp) rfl dX8_ends_69 g1 (by omega) (by omega) (by first | decide | assumption | omega) ?_
  refine og_abs (P := fun g => m_CK h0 g M 1 (q_dv 1 (q_scale nw (dg dp).toInt64)) su pr sg hp (upd dg dp 1) dp ct) (w.s1 (upd dg dp 1)) fun g w => ?_
  have wm := w.m
  have g0 := w.e0
  refine og_aload_n (pc := 70) dX8_ends_70 rfl ?_
  refine og_get (pc := 71) F_X8_69 dX8_ends_71 (by repeat (first | exact og_set_eq _ _ _ | assumption | refine (og_set_ne _ _ (by first | assumption | omega)).trans ?_)) (by omega) rfl ?_
  refine og_aload_n (pc := 74) dX8_ends_74 rfl ?_
  refine og_get (pc := 75) F_X8_214 dX8_ends_75 (by repeat (first | exact og_set_eq _ _ _ | assumption | refine (og_set_ne _ _ (by first | assumption | omega)).trans ?_)) (by omega) rfl ?_
  refine og_zaldN (pc := 78) (j := dp) rfl dX8_ends_78 g0 (by omega) (by omega) (by first | decide | assumption | omega) ?_
  refine og_if_eq (pc := 79) (tgt := 161) dX8_ends_79 (by decide) (fun q => ?_) (fun q => ?_)
  · refine tail g 1 ct (q_dv 1 (q_scale nw (dg dp).toInt64)) (upd dg dp 1) _ w (fun h1 w1 => ⟨rfl, rfl, Or.inr ⟨_, (q_if_pos hok).trans (q_if_pos q), w1⟩⟩)
  refine og_aload_n (pc := 82) dX8_ends_82 rfl ?_
  refine og_get (pc := 83) F_X8_220 dX8_ends_83 wm (by omega) rfl ?_
  refine og_if_eq (pc := 86) (tgt := 161) dX8_ends_86 (by decide) (fun q => absurd q (show ¬ (1 : Int32) = 0 by decide)) (fun _ => ?_)
  have hpn : ¬ hp dp = 0 := q
  obtain ⟨f7, e107⟩ := w.mk.scr 107 (by unfold q_ms; omega)
  refine og_iconst (pc := 89) (v := 0) dX8_ends_89 (by decide) ?_
  refine og_istore_n_1 (pc := 90) dX8_ends_90 rfl ?_
  refine og_congL (fun j => if j < 0 then q_row8 pr dp j else f7 j) e107 (by omega) (fun j _ => by simp) ?_
  refine og_for (i0 := 0) (N := 8) (by decide) (fun i => og_set g 107 (rowL (fun j => if j < i then q_row8 pr dp j else f7 j))) (fun i => [some (.ref 101), some (.int (nI i))]) ?_ (fun i _ hi ih => ?_)
  rotate_left
  · have w2 := w.row (fun j => if j < i then q_row8 pr dp j else f7 j) (show q_ms 107 by unfold q_ms; omega) (by omega)
    have wm := w2.m
    have g8 := w2.e8
    have g7 : og_set g 107 (rowL (fun j => if j < i then q_row8 pr dp j else f7 j)) 107 = some (rowL (fun j => if j < i then q_row8 pr dp j else f7 j)) := og_set_eq _ _ _
    refine og_iload_n (pc := 91) dX8_ends_91 rfl ?_
    refine og_bipush (pc := 92) (v := 8) dX8_ends_92 (by decide) ?_
    refine og_geN (pc := 94) (tgt := 123) (i := i) (N := 8) dX8_ends_94 (by decide) rfl rfl (by omega) (by omega) (fun c_94 => ?_) (fun c_94 => ?_)
    · omega
    refine og_aload_n (pc := 97) dX8_ends_97 rfl ?_
    refine og_get (pc := 98) F_X8_25 dX8_ends_98 (by repeat (first | exact og_set_eq _ _ _ | assumption | refine (og_set_ne _ _ (by first | assumption | omega)).trans ?_)) (by omega) rfl ?_
    refine og_iload_n (pc := 101) dX8_ends_101 rfl ?_
    refine og_aload_n (pc := 102) dX8_ends_102 rfl ?_
    refine og_get (pc := 103) F_X8_63 dX8_ends_103 (by repeat (first | exact og_set_eq _ _ _ | assumption | refine (og_set_ne _ _ (by first | assumption | omega)).trans ?_)) (by omega) rfl ?_
    refine og_bipush (pc := 106) (v := 8) dX8_ends_106 (by decide) ?_
    refine og_aload_n (pc := 108) dX8_ends_108 rfl ?_
    refine og_get (pc := 109) F_X8_214 dX8_ends_109 (by repeat (first | exact og_set_eq _ _ _ | assumption | refine (og_set_ne _ _ (by first | assumption | omega)).trans ?_)) (by omega) rfl ?_
    refine og_imul (pc := 112) dX8_ends_112 ?_
    refine og_iload_n (pc := 113) dX8_ends_113 rfl ?_
    refine og_iadd (pc := 114) dX8_ends_114 ?_
    refine og_laldN (pc := 115) (j := (8 * dp + i)) (og_i8 dp i) dX8_ends_115 g8 (by omega) (by omega) (by first | decide | assumption | omega) ?_
    refine og_lastN (pc := 116) (j := i) rfl dX8_ends_116 g7 (by omega) (by omega) (by first | decide | assumption | omega) ?_
    refine og_iinc_1 (pc := 117) dX8_ends_117 (og_inc i) rfl ?_
    refine og_goto (pc := 120) (tgt := 91) dX8_ends_120 (by decide) ?_
    rw [og_set_set, og_fill (by rfl)]
    exact ih
  refine og_iload_n (pc := 91) dX8_ends_91 rfl ?_
  refine og_bipush (pc := 92) (v := 8) dX8_ends_92 (by decide) ?_
  refine og_geN (pc := 94) (tgt := 123) (i := 8) (N := 8) dX8_ends_94 (by decide) rfl rfl (by omega) (by omega) (fun c_94 => ?_) (fun c_94 => ?_)
  rotate_left
  · omega
  refine og_congL (q_row8 pr dp) (og_set_eq _ _ _) (by omega) (fun j hj => by rw [if_pos (by omega)]) ?_
  rw [og_set_set]
  refine og_abs (P := fun g => m_CK h0 g M 1 (q_dv 1 (q_scale nw (dg dp).toInt64)) su pr sg hp (upd dg dp 1) dp ct ∧ g 107 = some (rowL (q_row8 pr dp))) ⟨w.row _ (by unfold q_ms; omega) (by omega), og_set_eq _ _ _⟩ fun g ⟨w, e107⟩ => ?_
  have wm := w.m
  obtain ⟨f111, e111⟩ := w.mk.scr 111 (by unfold q_ms; omega)
  refine og_aload_n (pc := 123) dX8_ends_123 rfl ?_
  refine og_aload_n (pc := 124) dX8_ends_124 rfl ?_
  refine og_get (pc := 125) F_X8_25 dX8_ends_125 (by repeat (first | exact og_set_eq _ _ _ | assumption | refine (og_set_ne _ _ (by first | assumption | omega)).trans ?_)) (by omega) rfl ?_
  refine og_aload_n (pc := 128) dX8_ends_128 rfl ?_
  refine og_get (pc := 129) F_X8_76 dX8_ends_129 (by repeat (first | exact og_set_eq _ _ _ | assumption | refine (og_set_ne _ _ (by first | assumption | omega)).trans ?_)) (by omega) rfl ?_
  refine og_aload_n (pc := 132) dX8_ends_132 rfl ?_
  refine og_get (pc := 133) F_X8_76 dX8_ends_133 (by repeat (first | exact og_set_eq _ _ _ | assumption | refine (og_set_ne _ _ (by first | assumption | omega)).trans ?_)) (by omega) rfl ?_
  refine og_callV (pc := 136) (As := [.ref 107, .ref 122, .ref 122]) (rest := []) (c_X8_times E d n1 107 122 122 g _ _ _ f111 wm w.mk.to w.mk.sg e111 e107 w.e2 w.e2 (by omega) (by omega) (by omega) (by omega) (by omega) (by omega)) Y_X8_times I_X8_times V_X8_times wm (by omega) rfl rfl K_X8_148 dX8_ends_136 rfl rfl (Nat.le_of_ble_eq_true rfl) (by omega) (by omega) (by omega) (fun _ _ _ z => z) (fun v n2 h2 z => ?_)
  obtain ⟨rfl, hn, hh⟩ := z
  subst hn
  refine og_abs (P := fun g => m_CK h0 g M 1 (q_prod (q_row8 pr dp) (q_dv 1 (q_scale nw (dg dp).toInt64))) su pr sg hp (upd dg dp 1) dp ct) (by rw [hh]; exact (w.row _ (by unfold q_ms; omega) (by omega)).s2 _) fun g w => ?_
  have wm := w.m
  refine og_aload_n (pc := 139) dX8_ends_139 rfl ?_
  refine og_aload_n (pc := 140) dX8_ends_140 rfl ?_
  refine og_get (pc := 141) F_X8_76 dX8_ends_141 wm (by omega) rfl ?_
  refine og_iconst (pc := 144) (v := 2) dX8_ends_144 (by decide) ?_
  refine og_callS (pc := 145) (As := [.ref 122, .int 2]) (rest := [.ref 101]) (c_X8_halves E d n2 122 g (q_prod (q_row8 pr dp) (q_dv 1 (q_scale nw (dg dp).toInt64))) 2 (by decide) w.e2 (by omega)) Y_X8_halves S_X8_halves K_X8_142 dX8_ends_145 rfl rfl (Nat.le_of_ble_eq_true rfl) (by omega) (by omega) (by omega) (fun _ _ _ z => z) (fun v n3 h3 z => ?_)
  obtain ⟨hn, z⟩ := z
  subst hn
  rcases z with ⟨rfl, hok2, hh⟩ | ⟨rfl, hbad, hh⟩
  rotate_left
  · subst hh
    refine og_put (pc := 148) P_X8_220 dX8_ends_148 wm (by omega) rfl rfl (Nat.le_of_ble_eq_true rfl) ?_
    refine og_abs (P := fun g => m_CK h0 g M 0 (q_prod (q_row8 pr dp) (q_dv 1 (q_scale nw (dg dp).toInt64))) su pr sg hp (upd dg dp 1) dp ct) (w.sO dp 0 ct hd) fun g w => ?_
    have wm := w.m
    refine og_aload_n (pc := 151) dX8_ends_151 rfl ?_
    refine og_dup (pc := 152) dX8_ends_152 rfl ?_
    refine og_get (pc := 153) F_X8_224 dX8_ends_153 wm (by omega) rfl ?_
    refine og_iconst (pc := 156) (v := 1) dX8_ends_156 (by decide) ?_
    refine og_iadd (pc := 157) dX8_ends_157 ?_
    refine og_put (pc := 158) P_X8_224 dX8_ends_158 wm (by omega) rfl rfl (Nat.le_of_ble_eq_true rfl) ?_
    refine og_abs (P := fun g => m_CK h0 g M 0 (q_prod (q_row8 pr dp) (q_dv 1 (q_scale nw (dg dp).toInt64))) su pr sg hp (upd dg dp 1) dp (ct + 1)) (w.sO dp 0 (ct + 1) hd) fun g w => ?_
    exact tail g 0 (ct + 1) (q_prod (q_row8 pr dp) (q_dv 1 (q_scale nw (dg dp).toInt64))) (upd dg dp 1) _ w (fun h1 w1 => ⟨rfl, rfl, Or.inl ⟨(q_if_pos hok).trans ((q_if_neg hpn).trans (q_if_neg hbad)), ((q_prod (q_row8 pr dp) (q_dv 1 (q_scale nw (dg dp).toInt64))), su, q_blk pr dp (q_prod (q_row8 pr dp) (q_dv 1 (q_scale nw (dg dp).toInt64))), sg, upd hp dp 1, upd dg dp 1, dp, ct + 1), rfl, w1⟩⟩)
  refine og_abs (P := fun g => m_CK h0 g M 1 (q_dv 2 (q_prod (q_row8 pr dp) (q_dv 1 (q_scale nw (dg dp).toInt64)))) su pr sg hp (upd dg dp 1) dp ct) (by rw [hh]; exact w.s2 (q_dv 2 (q_prod (q_row8 pr dp) (q_dv 1 (q_scale nw (dg dp).toInt64))))) fun g w => ?_
  have wm := w.m
  refine og_put (pc := 148) P_X8_220 dX8_ends_148 wm (by omega) rfl rfl (Nat.le_of_ble_eq_true rfl) ?_
  refine og_abs (P := fun g => m_CK h0 g M 1 (q_dv 2 (q_prod (q_row8 pr dp) (q_dv 1 (q_scale nw (dg dp).toInt64)))) su pr sg hp (upd dg dp 1) dp ct) (w.sO dp 1 ct hd) fun g w => ?_
  have wm := w.m
  refine og_aload_n (pc := 151) dX8_ends_151 rfl ?_
  refine og_dup (pc := 152) dX8_ends_152 rfl ?_
  refine og_get (pc := 153) F_X8_224 dX8_ends_153 wm (by omega) rfl ?_
  refine og_iconst (pc := 156) (v := 1) dX8_ends_156 (by decide) ?_
  refine og_iadd (pc := 157) dX8_ends_157 ?_
  refine og_put (pc := 158) P_X8_224 dX8_ends_158 wm (by omega) rfl rfl (Nat.le_of_ble_eq_true rfl) ?_
  refine og_abs (P := fun g => m_CK h0 g M 1 (q_dv 2 (q_prod (q_row8 pr dp) (q_dv 1 (q_scale nw (dg dp).toInt64)))) su pr sg hp (upd dg dp 1) dp (ct + 1)) (w.sO dp 1 (ct + 1) hd) fun g w => ?_
  exact tail g 1 (ct + 1) (q_dv 2 (q_prod (q_row8 pr dp) (q_dv 1 (q_scale nw (dg dp).toInt64)))) (upd dg dp 1) _ w (fun h1 w1 => ⟨rfl, rfl, Or.inr ⟨_, (q_if_pos hok).trans ((q_if_neg hpn).trans (q_if_pos hok2)), w1⟩⟩)
