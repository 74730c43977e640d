/-! ===== the law: one world for the desk and the model ===== -/
theorem og_M.mono {E : og_E} {y : MethodName} {wc : Cond} {d : Nat} {As : List Value} {n : Nat} {h : og_H} {mc ms : Nat} {Po Po2 : Option Value → Nat → og_H → Prop} {Px Px2 : String → Nat → og_H → Prop} (w : og_M E y wc d As n h mc ms Po Px) (hp : ∀ v n1 h1, Po v n1 h1 → Po2 v n1 h1) (hx : ∀ En n1 h1, Px En n1 h1 → Px2 En n1 h1) : og_M E y wc d As n h mc ms Po2 Px2 := fun l hl => by
  refine MetFree.mono (w l hl) (fun _ _ z => z) (fun _ _ _ _ _ z => z) (fun a s o t _ q => ?_)
  rcases q with ⟨⟨⟨v, n1, h1, e, p, k⟩, F⟩, L⟩ | ⟨q, e, En, ce, L, ⟨⟨n1, h1, p, k⟩, F⟩, z⟩
  · exact Or.inl ⟨⟨⟨v, n1, h1, e, hp _ _ _ p, k⟩, F⟩, L⟩
  · exact Or.inr ⟨q, e, En, ce, L, ⟨⟨n1, h1, hx _ _ _ p, k⟩, F⟩, z⟩
theorem og_DK.mod {h0 : og_H} {n0 n : Nat} {h : og_H} {D : q_D} (w : og_DK h0 n0 n h D) {h1 : og_H} (hk : ∀ a, a < n → 1 ≤ a → ¬ (101 ≤ a ∧ a < 124) → h1 a = h a) : og_DK h1 n n h1 D := by
  have h124 : 124 ≤ n := Nat.le_trans w.nn.1 w.nn.2
  refine ⟨(hk _ (by omega) (by omega) (by omega)).trans w.d3, w.now.kept (fun k k1 k2 => hk k (by omega) (by omega) (by omega)), (hk _ (by omega) (by omega) (by omega)).trans w.s14, fun j hj => (w.sv j hj).kept fun k k1 k2 => hk k (by omega) (by omega) (by omega), (hk _ (by omega) (by omega) (by omega)).trans w.u55, ?_, (hk _ (by omega) (by omega) (by omega)).trans w.d56, (hk _ (by omega) (by omega) (by omega)).trans w.g64, (hk _ (by omega) (by omega) (by omega)).trans w.g67, (hk _ (by omega) (by omega) (by omega)).trans w.t70, (hk _ (by omega) (by omega) (by omega)).trans w.t71, (hk _ (by omega) (by omega) (by omega)).trans w.c72, (hk _ (by omega) (by omega) (by omega)).trans w.g73, (hk _ (by omega) (by omega) (by omega)).trans w.g81, (hk _ (by omega) (by omega) (by omega)).trans w.g89, ?_, (hk _ (by omega) (by omega) (by omega)).trans w.tr, (hk _ (by omega) (by omega) (by omega)).trans w.se, fun a _ _ => rfl, ⟨h124, Nat.le_refl n⟩, w.ok⟩
  · intro o u hu
    obtain ⟨a1, a2, a3, a4, a5⟩ := w.un o u hu
    exact ⟨a1, a2, a3, (hk _ (by omega) (by omega) (by omega)).trans a4, (hk _ (by omega) (by omega) (by omega)).trans a5⟩
  · intro a ha
    rw [hk a (by unfold q_scr at ha; omega) (by unfold q_scr at ha; omega) (by unfold q_scr at ha; omega)]
    exact w.scr a ha
theorem og_MK.mod {h0 h : og_H} {M : q_M} (w : og_MK h0 h M) {h1 : og_H} (hk : ∀ a, 101 ≤ a → a < 123 → h1 a = h a) : og_MK h1 h1 M := by
  refine ⟨(hk _ (by omega) (by omega)).trans w.m, (hk _ (by omega) (by omega)).trans w.s, (hk _ (by omega) (by omega)).trans w.p, (hk _ (by omega) (by omega)).trans w.t, (hk _ (by omega) (by omega)).trans w.to, (hk _ (by omega) (by omega)).trans w.sg, ?_, (hk _ (by omega) (by omega)).trans w.u, w.b7.elim fun f hf => ⟨f, (hk _ (by omega) (by omega)).trans hf⟩, w.b8.elim fun f hf => ⟨f, (hk _ (by omega) (by omega)).trans hf⟩, w.b9.elim fun f hf => ⟨f, (hk _ (by omega) (by omega)).trans hf⟩, w.c0.elim fun f hf => ⟨f, (hk _ (by omega) (by omega)).trans hf⟩, w.c1.elim fun f hf => ⟨f, (hk _ (by omega) (by omega)).trans hf⟩, fun a _ => rfl, w.ok⟩
  intro a ha
  rw [hk a (by unfold q_ms at ha; omega) (by unfold q_ms at ha; omega)]
  exact w.scr a ha
def zW (n : Nat) (h : og_H) (D : q_D) (M : q_M) : Prop := og_DK h n n h D ∧ og_MK h h M ∧ cp D M
theorem zW_ok {n n1 : Nat} {h h2 : og_H} {D D2 : q_D} {M : q_M} (W : zW n h D M) (w : og_DK h n n1 h2 D2) (g : og_N) : og_DK (og_set h2 123 g) n1 n1 (og_set h2 123 g) D2 ∧ og_MK (og_set h2 123 g) (og_set h2 123 g) M ∧ (og_set h2 123 g) 0 = h 0 ∧ n ≤ n1 := by
  have hn := w.nn
  refine ⟨w.mod fun a _ _ ha => og_set_ne _ _ (by omega), W.2.1.mod fun a h1 h2 => ?_, ?_, hn.2⟩
  · exact (og_set_ne _ _ (by omega)).trans (w.fr a (by omega) (by omega))
  · exact (og_set_ne _ _ (by omega)).trans (w.fr 0 (by omega) (by omega))
theorem zW_ex {n n1 : Nat} {h h2 : og_H} {D D2 : q_D} {M : q_M} (W : zW n h D M) (w : og_DK h n n1 h2 D2) : og_DK h2 n1 n1 h2 D2 ∧ og_MK h2 h2 M ∧ h2 0 = h 0 ∧ h2 123 = h 123 ∧ n ≤ n1 := by
  have hn := w.nn
  exact ⟨w.mod fun a _ _ ha => rfl, W.2.1.mod fun a h1 h2 => w.fr a (by omega) (by omega), w.fr 0 (by omega) (by omega), w.fr 123 (by omega) (by omega), hn.2⟩
theorem zW_fin {n : Nat} {h h2 : og_H} {D2 : q_D} {M2 : q_M} (w : og_DK h n n h D2) (k : og_MK h h2 M2) (c : cp D2 M2) : zW n h2 D2 M2 ∧ h2 123 = h 123 ∧ h2 0 = h 0 :=
  ⟨⟨w.mod fun a _ _ ha => k.fr a (by omega), k.mod fun a _ _ => rfl, c⟩, k.fr 123 (by omega), k.fr 0 (by omega)⟩
/-- what the model then answers -/
def zMi (E : og_E) (y : MethodName) (wc : Cond) (K : Nat) (As : List Value) (k : Int32) (a : Int64) (n : Nat) (h : og_H) : Prop := ∀ d, og_M E y wc (d + K) As n h 0 0 (fun v nn h2 => nn = n ∧ ∃ r D2 M2, v = some (.int r) ∧ (zW n h2 D2 M2 ∧ h2 123 = h 123 ∧ h2 0 = h 0) ∧ m_rf M2 = k ∧ (k = 0 → a = r.toInt64)) no_x
def zMl (E : og_E) (y : MethodName) (wc : Cond) (K : Nat) (As : List Value) (k : Int32) (a : Int64) (n : Nat) (h : og_H) : Prop := ∀ d, og_M E y wc (d + K) As n h 0 0 (fun v nn h2 => nn = n ∧ ∃ r D2 M2, v = some (.long r) ∧ (zW n h2 D2 M2 ∧ h2 123 = h 123 ∧ h2 0 = h 0) ∧ m_rf M2 = k ∧ (k = 0 → a = r)) no_x
def zMz (E : og_E) (y : MethodName) (wc : Cond) (K : Nat) (As : List Value) (k : Int32) (a : Int64) (n : Nat) (h : og_H) : Prop := ∀ d, og_M E y wc (d + K) As n h 0 0 (fun v nn h2 => nn = n ∧ ∃ r D2 M2, v = some (.int r) ∧ (zW n h2 D2 M2 ∧ h2 123 = h 123 ∧ h2 0 = h 0) ∧ m_rf M2 = k ∧ (k = 0 → a = if r = 0 then 0 else 1)) no_x
def zLo (n : Nat) (h : og_H) (Q : Int32 → Int64 → Nat → og_H → Prop) : Option Value → Nat → og_H → Prop := fun v n1 h1 => ∃ k f, v = some (.int k) ∧ n ≤ n1 ∧ h1 123 = some (row1 f) ∧ h1 0 = h 0 ∧ (∃ fs, h1 101 = some (.inr (6, fs))) ∧ Q k (f 0) n1 h1
theorem cs_congr {st : og_SD} {s t : Nat → Int32} (h : cs st s) (e : ∀ i, i < 67 → t i = s i) : cs st t := by
  refine ⟨fun r hr k hk => ?_, ?_, h.2.2.1, ?_, ?_⟩
  · rw [e _ (by omega)]
    exact h.1 r hr k hk
  · rw [e _ (by omega)]
    exact h.2.1
  · rw [e _ (by omega)]
    exact h.2.2.2.1
  · rw [e _ (by omega)]
    exact h.2.2.2.2
theorem cs_put {st : og_SD} {s s2 : Nat → Int32} (h : cs st s) {r : Nat} (hr : r < 8) {f : Nat → Int64} {a b : Int32} (h1 : ∀ j, j < 8 → s2 (8 * r + j) = (f j).toInt32 ∧ -2000 ≤ (f j).toInt ∧ (f j).toInt ≤ 2000) (h2 : ∀ j, j < 65 → ¬ (8 * r ≤ j ∧ j < 8 * r + 8) → s2 j = s j) (ha : s2 65 = a) (hb : s2 66 = b) : cs (q_upR st.1 r f, st.2.1, a, b) s2 := by
  refine ⟨fun r2 hr2 k hk => ?_, ?_, h.2.2.1, ha, hb⟩
  · show _ = (q_upR st.1 r f r2 k).toInt32 ∧ -2000 ≤ (q_upR st.1 r f r2 k).toInt ∧ (q_upR st.1 r f r2 k).toInt ≤ 2000
    by_cases z : r2 = r
    · have e3 : q_upR st.1 r f r2 = f := by rw [z]; exact if_pos rfl
      rw [e3, z]
      exact h1 k hk
    · have e3 : q_upR st.1 r f r2 = st.1 r2 := if_neg z
      rw [e3, h2 _ (by omega) (by omega)]
      exact h.1 r2 hr2 k hk
  · show s2 64 = _
    rw [h2 64 (by omega) (by omega)]
    exact h.2.1
theorem cp_rf {D : q_D} {M : q_M} (c : cp D M) (x : Int32) : cp D (m_wRf M x) := c
theorem cp_wS {D : q_D} {M : q_M} (c : cp D M) {st : og_SD} {s : Nat → Int32} (h : cs st s) : cp (d_wSt D st) (m_wS M s) := ⟨h, c.2⟩
theorem cp_save {D : q_D} {M : q_M} (c : cp D M) : cp (q_save D) (m_save M) := by
  obtain ⟨c1, c2, c3, c4, c5, c6, c7, c8, c9⟩ := c
  have hst : (d_st D).2.1 < 8 := c1.2.2.1
  by_cases z : d_sc D = 4
  · have e1 : q_save D = q_sav2 (d_wRot (d_wSc D 3) ((d_rot D + 1) % 4)) := if_pos z
    have e2 : m_save M = m_wO (m_wP M (q_sv (q_dr (m_p M)) (m_s M) 3)) 4 (m_ty M) (m_rf M) (m_la M) (m_un M) (m_ls M) (m_dp M) (m_wl M) (m_ct M) := if_neg (by omega)
    rw [e1, e2]
    refine ⟨c1, rfl, Nat.le_refl 4, fun j hj => ?_, c5, c6, c7, c8, fun j => ?_⟩
    · have hj : j < 4 := hj
      show cs (if (j + (d_rot D + 1) % 4) % 4 = (3 + (d_rot D + 1) % 4) % 4 then d_st D else d_S D ((j + (d_rot D + 1) % 4) % 4)) (fun i => q_sv (q_dr (m_p M)) (m_s M) 3 (67 * j + i))
      by_cases y : j = 3
      · rw [if_pos (by rw [y])]
        refine cs_congr c1 fun i hi => ?_
        show q_sv (q_dr (m_p M)) (m_s M) 3 (67 * j + i) = m_s M i
        unfold q_sv
        rw [if_pos (by omega)]
        exact congrArg (m_s M) (by omega)
      · rw [if_neg (by omega)]
        have := c4 (j + 1) (by omega)
        rw [show (j + 1 + d_rot D) % 4 = (j + (d_rot D + 1) % 4) % 4 by omega] at this
        refine cs_congr this fun i hi => ?_
        show q_sv (q_dr (m_p M)) (m_s M) 3 (67 * j + i) = m_p M (67 * (j + 1) + i)
        unfold q_sv q_dr
        rw [if_neg (by omega), if_pos (by omega)]
        exact congrArg (m_p M) (by omega)
    · show (if j = (3 + (d_rot D + 1) % 4) % 4 then d_st D else d_S D j).2.1 < 8
      by_cases y : j = (3 + (d_rot D + 1) % 4) % 4
      · rw [if_pos y]; exact hst
      · rw [if_neg y]; exact c9 j
  · have e1 : q_save D = q_sav2 D := if_neg z
    have e2 : m_save M = m_wO (m_wP M (q_sv (m_p M) (m_s M) (m_ps M))) (m_ps M + 1) (m_ty M) (m_rf M) (m_la M) (m_un M) (m_ls M) (m_dp M) (m_wl M) (m_ct M) := if_pos (by omega)
    rw [e1, e2]
    refine ⟨c1, congrArg (· + 1) c2, by show d_sc D + 1 ≤ 4; omega, fun j hj => ?_, c5, c6, c7, c8, fun j => ?_⟩
    · have hj : j < d_sc D + 1 := hj
      show cs (if (j + d_rot D) % 4 = (d_sc D + d_rot D) % 4 then d_st D else d_S D ((j + d_rot D) % 4)) (fun i => q_sv (m_p M) (m_s M) (m_ps M) (67 * j + i))
      by_cases y : j = d_sc D
      · rw [if_pos (by rw [y])]
        refine cs_congr c1 fun i hi => ?_
        show q_sv (m_p M) (m_s M) (m_ps M) (67 * j + i) = m_s M i
        unfold q_sv
        rw [if_pos (by omega)]
        exact congrArg (m_s M) (by omega)
      · rw [if_neg (by omega)]
        refine cs_congr (c4 j (by omega)) fun i hi => ?_
        show q_sv (m_p M) (m_s M) (m_ps M) (67 * j + i) = m_p M (67 * j + i)
        unfold q_sv
        rw [if_neg (by omega)]
    · show (if j = (d_sc D + d_rot D) % 4 then d_st D else d_S D j).2.1 < 8
      by_cases y : j = (d_sc D + d_rot D) % 4
      · rw [if_pos y]; exact hst
      · rw [if_neg y]; exact c9 j
/-- a change of the state, behind a save -/
theorem cp_to {D : q_D} {M : q_M} (c : cp D M) {st : og_SD} {s : Nat → Int32} (h : cs st s) : cp (d_wSt (q_save D) st) (m_wS (m_save (m_wRf M 0)) s) := cp_wS (cp_save (cp_rf c 0)) h
theorem cp_reg {D : q_D} {M : q_M} (c : cp D M) {r : Nat} {f : Nat → Int64} {s : Nat → Int32} (h : cs (q_upR (d_st D).1 r f, (d_st D).2.1, (d_st D).2.2.1, (d_st D).2.2.2) s) : cp (d_reg (q_save D) r f) (m_wS (m_save (m_wRf M 0)) s) := by
  have := cp_to c h
  unfold d_reg
  rw [q_save_st]
  exact this
