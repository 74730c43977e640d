/-! ===== the model: carryOut ===== -/
theorem q_syn_step {bf : Nat → Int32} {i s dp : Nat} (h : q_syn bf i = some (s, dp)) : q_syn bf (i + 1) = q_fol s dp (bf i) := by
  show (match q_syn bf i with | none => none | some q => q_fol q.1 q.2 (bf i)) = _
  rw [h]
theorem q_syn_back {bf : Nat → Int32} {i : Nat} {q : Nat × Nat} (h : q_syn bf (i + 1) = some q) : ∃ q2, q_syn bf i = some q2 := by
  cases e : q_syn bf i with
  | none =>
    have : q_syn bf (i + 1) = none := by
      show (match q_syn bf i with | none => none | some q => q_fol q.1 q.2 (bf i)) = _
      rw [e]
    rw [this] at h
    cases h
  | some q2 => exact ⟨q2, rfl⟩
theorem q_syn_all {bf : Nat → Int32} : ∀ (k i : Nat) {q : Nat × Nat}, q_syn bf (i + k) = some q → ∃ q2, q_syn bf i = some q2
  | 0, i, q, h => ⟨q, h⟩
  | k + 1, i, q, h => by
    obtain ⟨q2, h2⟩ := q_syn_back (i := i + k) h
    exact q_syn_all k i h2
theorem q_syn_le {bf : Nat → Int32} : ∀ (i : Nat) {q : Nat × Nat}, q_syn bf i = some q → q.1 ≤ 4 ∧ q.2 ≤ 6
  | 0, q, h => by cases h; exact ⟨by omega, by omega⟩
  | i + 1, q, h => by
    obtain ⟨⟨s, dp⟩, h2⟩ := q_syn_back h
    rw [q_syn_step h2] at h
    exact q_fol_le (q_syn_le i h2).2 h
theorem q_fol_0 {dp : Nat} {x : Int32} {q : Nat × Nat} (h : q_fol 0 dp x = some q) : q_letter x ∧ q = (1, dp) := by
  have h : q_if (q_letter x) (some (1, dp)) none = some q := h
  by_cases z : q_letter x
  · rw [q_if_pos z] at h
    cases h
    exact ⟨z, rfl⟩
  · rw [q_if_neg z] at h
    cases h
theorem q_fol_1 {dp : Nat} {x : Int32} {q : Nat × Nat} (h : q_fol 1 dp x = some q) : x = 61 ∧ q = (2, dp) := by
  have h : q_if (x = 61) (some (2, dp)) none = some q := h
  by_cases z : x = 61
  · rw [q_if_pos z] at h
    cases h
    exact ⟨z, rfl⟩
  · rw [q_if_neg z] at h
    cases h
theorem q_fop_is {dp : Nat} {x : Int32} {q : Nat × Nat} (h : q_fop dp x = some q) : (x = 40 ∧ dp < 6 ∧ q = (2, dp + 1)) ∨ (q_letter x ∧ q = (4, dp)) := by
  unfold q_fop at h
  by_cases z : x = 40 ∧ dp < 6
  · rw [q_if_pos z] at h
    cases h
    exact Or.inl ⟨z.1, z.2, rfl⟩
  · rw [q_if_neg z] at h
    by_cases y : q_letter x
    · rw [q_if_pos y] at h
      cases h
      exact Or.inr ⟨y, rfl⟩
    · rw [q_if_neg y] at h
      cases h
theorem q_ffa_is {dp : Nat} {x : Int32} {q : Nat × Nat} (h : q_ffa dp x = some q) : (x = 39 ∧ q = (4, dp)) ∨ ((x = 42 ∨ x = 43 ∨ x = 45) ∧ q = (2, dp)) ∨ (x = 41 ∧ 0 < dp ∧ q = (4, dp - 1)) ∨ (x = 59 ∧ dp = 0 ∧ q = (0, dp)) := by
  unfold q_ffa at h
  by_cases z : x = 39
  · rw [q_if_pos z] at h
    cases h
    exact Or.inl ⟨z, rfl⟩
  · rw [q_if_neg z] at h
    by_cases y : x = 42 ∨ x = 43 ∨ x = 45
    · rw [q_if_pos y] at h
      cases h
      exact Or.inr (Or.inl ⟨y, rfl⟩)
    · rw [q_if_neg y] at h
      by_cases u : x = 41 ∧ 0 < dp
      · rw [q_if_pos u] at h
        cases h
        exact Or.inr (Or.inr (Or.inl ⟨u.1, u.2, rfl⟩))
      · rw [q_if_neg u] at h
        by_cases t : x = 59 ∧ dp = 0
        · rw [q_if_pos t] at h
          cases h
          exact Or.inr (Or.inr (Or.inr ⟨t.1, t.2, rfl⟩))
        · rw [q_if_neg t] at h
          cases h
/-- a byte inside of an assignment, behind its sign -/
theorem q_fol_in {st dp : Nat} {x : Int32} {q : Nat × Nat} (hs : 2 ≤ st) (hs4 : st ≤ 4) (h : q_fol st dp x = some q) : (st = 2 ∧ q_digit x ∧ q = (3, dp)) ∨ (st ≤ 3 ∧ x = 40 ∧ dp < 6 ∧ q = (2, dp + 1)) ∨ (st ≤ 3 ∧ q_letter x ∧ q = (4, dp)) ∨ (st = 4 ∧ x = 39 ∧ q = (4, dp)) ∨ (st = 4 ∧ (x = 42 ∨ x = 43 ∨ x = 45) ∧ q = (2, dp)) ∨ (st = 4 ∧ x = 41 ∧ 0 < dp ∧ q = (4, dp - 1)) ∨ (st = 4 ∧ x = 59 ∧ dp = 0 ∧ q = (0, dp)) := by
  have op : q_fop dp x = some q → st ≤ 3 → (st = 2 ∧ q_digit x ∧ q = (3, dp)) ∨ (st ≤ 3 ∧ x = 40 ∧ dp < 6 ∧ q = (2, dp + 1)) ∨ (st ≤ 3 ∧ q_letter x ∧ q = (4, dp)) ∨ (st = 4 ∧ x = 39 ∧ q = (4, dp)) ∨ (st = 4 ∧ (x = 42 ∨ x = 43 ∨ x = 45) ∧ q = (2, dp)) ∨ (st = 4 ∧ x = 41 ∧ 0 < dp ∧ q = (4, dp - 1)) ∨ (st = 4 ∧ x = 59 ∧ dp = 0 ∧ q = (0, dp)) := fun h h3 => by
    rcases q_fop_is h with ⟨a, b, c⟩ | ⟨a, b⟩
    · exact Or.inr (Or.inl ⟨h3, a, b, c⟩)
    · exact Or.inr (Or.inr (Or.inl ⟨h3, a, b⟩))
  rcases (show st = 2 ∨ st = 3 ∨ st = 4 by omega) with rfl | rfl | rfl
  · have h : q_if (q_digit x) (some (3, dp)) (q_fop dp x) = some q := h
    by_cases z : q_digit x
    · rw [q_if_pos z] at h
      cases h
      exact Or.inl ⟨rfl, z, rfl⟩
    · rw [q_if_neg z] at h
      exact op h (by omega)
  · exact op h (by omega)
  · rcases q_ffa_is h with ⟨a, b⟩ | ⟨a, b⟩ | ⟨a, b, c⟩ | ⟨a, b, c⟩
    · exact Or.inr (Or.inr (Or.inr (Or.inl ⟨rfl, a, b⟩)))
    · exact Or.inr (Or.inr (Or.inr (Or.inr (Or.inl ⟨rfl, a, b⟩))))
    · exact Or.inr (Or.inr (Or.inr (Or.inr (Or.inr (Or.inl ⟨rfl, a, b, c⟩)))))
    · exact Or.inr (Or.inr (Or.inr (Or.inr (Or.inr (Or.inr ⟨rfl, a, b, c⟩)))))
/-- state 0 stands at depth 0 -/
theorem q_syn_00 {bf : Nat → Int32} : ∀ (i : Nat) {s dp : Nat}, q_syn bf i = some (s, dp) → s ≤ 1 ∨ (s = 2 ∧ dp = 0) → dp = 0
  | 0, s, dp, h, _ => by cases h; rfl
  | i + 1, s, dp, h, hs => by
    rcases hs with hs | hs
    rotate_left
    · exact hs.2
    obtain ⟨⟨s2, dp2⟩, h2⟩ := q_syn_back h
    have hle := (q_syn_le i h2).1
    have hle : s2 ≤ 4 := hle
    rw [q_syn_step h2] at h
    rcases (show s2 = 0 ∨ s2 = 1 ∨ 2 ≤ s2 by omega) with rfl | rfl | h3
    · obtain ⟨-, e⟩ := q_fol_0 h
      cases e
      exact q_syn_00 i h2 (Or.inl (by omega))
    · obtain ⟨-, e⟩ := q_fol_1 h
      cases e
      omega
    · rcases q_fol_in h3 hle h with ⟨-, -, e⟩ | ⟨-, -, -, e⟩ | ⟨-, -, e⟩ | ⟨-, -, e⟩ | ⟨-, -, e⟩ | ⟨-, -, -, e⟩ | ⟨-, -, z, e⟩ <;> cases e <;> first | omega | assumption
/-- the next semicolon -/
theorem q_syn_semi {bf : Nat → Int32} {L z : Nat} (hL : q_syn bf L = some (0, z)) : ∀ (k c : Nat) {st dp : Nat}, c + k = L → q_syn bf c = some (st, dp) → 2 ≤ st → ∃ e, c ≤ e ∧ e < L ∧ bf e = 59 ∧ ∀ j, c ≤ j → j < e → bf j ≠ 59
  | 0, c, st, dp, hk, hc, h2 => by
    rw [show c = L by omega, hL] at hc
    cases hc
    omega
  | k + 1, c, st, dp, hk, hc, h2 => by
    by_cases y0 : bf c = 59
    · exact ⟨c, by omega, by omega, y0, fun j h1 h2 => by omega⟩
    · obtain ⟨⟨s3, d3⟩, h3⟩ := q_syn_all (bf := bf) (q := (0, z)) k (c + 1) (by rw [show c + 1 + k = L by omega]; exact hL)
      have h4 := h3
      rw [q_syn_step hc] at h4
      have s2 : 2 ≤ s3 := by
        rcases q_fol_in h2 (q_syn_le c hc).1 h4 with ⟨-, -, e⟩ | ⟨-, -, -, e⟩ | ⟨-, -, e⟩ | ⟨-, -, e⟩ | ⟨-, -, e⟩ | ⟨-, -, -, e⟩ | ⟨-, y, -, -⟩
        all_goals first | (cases e; omega) | exact absurd y y0
      obtain ⟨e, e1, e2, e3, e4⟩ := q_syn_semi hL k (c + 1) (by omega) h3 s2
      refine ⟨e, by omega, e2, e3, fun j hj hj2 => ?_⟩
      by_cases y : j = c
      · rw [y]
        exact y0
      · exact e4 j (by omega) hj2
def r_len (bf : Nat → Int32) : Nat → Nat → Nat
  | 0, _ => 0
  | k + 1, c => if bf c = 59 then 0 else r_len bf k (c + 1) + 1
theorem r_len_eq {bf : Nat → Int32} : ∀ (k c e : Nat), c ≤ e → e - c < k → bf e = 59 → (∀ j, c ≤ j → j < e → bf j ≠ 59) → r_len bf k c = e - c
  | 0, c, e, _, h, _, _ => by omega
  | k + 1, c, e, h1, h2, h3, h4 => by
    unfold r_len
    by_cases z : c = e
    · subst z
      rw [if_pos h3]
      omega
    · rw [if_neg (h4 c (Nat.le_refl c) (by omega)), r_len_eq k (c + 1) e (by omega) (by omega) h3 (fun j hj hj2 => h4 j (by omega) hj2)]
      omega
noncomputable def r_fold (R : Nat → Nat → Int64) (bf : Nat → Int32) : Nat → q_T → Nat → Option q_T
  | 0, T, _ => some T
  | k + 1, T, c => match r_reads R T (bf c) with
    | none => none
    | some T2 => r_fold R bf k T2 (c + 1)
theorem r_fold_s {R : Nat → Nat → Int64} {bf : Nat → Int32} {k c : Nat} {T T2 : q_T} (h : r_reads R T (bf c) = some T2) : r_fold R bf (k + 1) T c = r_fold R bf k T2 (c + 1) := by
  rw [r_fold, h]
theorem r_fold_n {R : Nat → Nat → Int64} {bf : Nat → Int32} {k c : Nat} {T : q_T} (h : r_reads R T (bf c) = none) : r_fold R bf (k + 1) T c = none := by
  rw [r_fold, h]
def r_T0 (T : q_T) : Prop := T.2.2.2.2.2.2.1 = 0 ∧ T.2.2.2.2.2.2.2 = 0 ∧ T.2.2.2.1 0 = 0 ∧ T.2.2.2.2.1 0 = 0 ∧ T.2.2.2.2.2.1 0 = 1
def r_upd (s : Nat → Int32) (r : Nat) (T : q_T) : Nat → Int32 := upd (q_pt s T.1 r) 65 (q_pt s T.1 r 65 + T.2.2.2.2.2.2.2)
def r_all (bf : Nat → Int32) (L : Nat) : Nat → (Nat → Int32) → Nat → Nat → (Nat → Int32) × Nat → Prop
  | 0, s, _, dn, q => q = (s, dn)
  | m + 1, s, c, dn, q => (¬ c < L ∧ q = (s, dn)) ∨ (c < L ∧ ∃ T, r_T0 T ∧ ((r_fold (q_reg s) bf (r_len bf 100 (c + 2) + 1) T (c + 2) = none ∧ q = (s, dn)) ∨ (∃ T2, r_fold (q_reg s) bf (r_len bf 100 (c + 2) + 1) T (c + 2) = some T2 ∧ r_all bf L m (r_upd s (v_li (bf c)) T2) (c + 2 + r_len bf 100 (c + 2) + 1) (dn + 1) q)))
theorem r_close2_dp {x : Int32} {o1 : Option q_T} {T1 : q_T} (h : r_close2 x o1 = some T1) : ∃ T, o1 = some T ∧ T1.2.2.2.2.2.2.1 = if x = 41 then T.2.2.2.2.2.2.1 - 1 else T.2.2.2.2.2.2.1 := by
  cases o1 with
  | none => cases h
  | some T => cases h; exact ⟨T, rfl, rfl⟩
theorem r_reads_dp {R : Nat → Nat → Int64} {T T1 : q_T} {x : Int32} (h : r_reads R T x = some T1) : T1.2.2.2.2.2.2.1 = if x = 40 then T.2.2.2.2.2.2.1 + 1 else if x = 41 then T.2.2.2.2.2.2.1 - 1 else T.2.2.2.2.2.2.1 := by
  unfold r_reads at h
  by_cases z1 : q_digit x
  · rw [q_if_pos z1] at h
    cases h
    rw [if_neg (q_dig_40 z1), if_neg (fun e => by rw [e] at z1; exact absurd z1.1 (by decide))]
    rfl
  rw [q_if_neg z1] at h
  by_cases z2 : q_letter x
  · rw [q_if_pos z2] at h
    cases h
    rw [if_neg (fun e => by rw [e] at z2; exact absurd z2.1 (by decide)), if_neg (fun e => by rw [e] at z2; exact absurd z2.1 (by decide))]
    rfl
  rw [q_if_neg z2] at h
  by_cases z3 : x = 40
  · rw [q_if_pos z3] at h
    cases h
    rw [if_pos z3]
    rfl
  rw [q_if_neg z3] at h
  rw [if_neg z3]
  by_cases z4 : x = 39
  · rw [q_if_pos z4] at h
    cases h
    rw [if_neg (fun e => by rw [z4] at e; exact absurd e (by decide))]
    rfl
  rw [q_if_neg z4] at h
  cases he : r_ends T with
  | none => rw [he] at h; cases h
  | some T2 =>
    rw [he] at h
    have h : r_close2 x (q_if (x = 42) (some T2) (r_endsTerm T2 (if x = 45 then -1 else 1))) = some T1 := h
    obtain ⟨T3, h3, h4⟩ := r_close2_dp h
    have hd := r_ends_dp he
    rw [h4]
    by_cases z5 : x = 42
    · rw [q_if_pos z5] at h3
      cases h3
      rw [hd]
    · rw [q_if_neg z5] at h3
      rw [r_endsTerm_dp h3, hd]
theorem m_save_t (M : q_M) : m_t (m_save M) = m_t M := by
  unfold m_save
  by_cases h : m_ps M < 4
  · rw [if_pos h]; rfl
  · rw [if_neg h]; rfl
theorem m_save_ty (M : q_M) : m_ty (m_save M) = m_ty M := by
  unfold m_save
  by_cases h : m_ps M < 4
  · rw [if_pos h]; rfl
  · rw [if_neg h]; rfl
theorem m_save_dp (M : q_M) : m_dp (m_save M) = m_dp M := by
  unfold m_save
  by_cases h : m_ps M < 4
  · rw [if_pos h]; rfl
  · rw [if_neg h]; rfl
theorem r_step {R : Nat → Nat → Int64} {st dp : Nat} {x : Int32} {q : Nat × Nat} {T T2 : q_T} (hs : 2 ≤ st) (hs4 : st ≤ 4) (hf : q_fol st dp x = some q) (hx : x ≠ 59) (hT : T.2.2.2.2.2.2.1 = dp) (hr : r_reads R T x = some T2) : q.2 = T2.2.2.2.2.2.2.1 ∧ 2 ≤ q.1 := by
  have e := r_reads_dp hr
  rw [hT] at e
  have nd : q_digit x ∨ q_letter x → x ≠ 40 ∧ x ≠ 41 := fun z => by
    refine ⟨fun y => ?_, fun y => ?_⟩ <;> rw [y] at z <;> rcases z with z | z <;> exact absurd z.1 (by decide)
  rcases q_fol_in hs hs4 hf with ⟨-, y, rfl⟩ | ⟨-, y, -, rfl⟩ | ⟨-, y, rfl⟩ | ⟨-, y, rfl⟩ | ⟨-, y, rfl⟩ | ⟨-, y, -, rfl⟩ | ⟨-, y, -, -⟩
  · rw [if_neg (nd (Or.inl y)).1, if_neg (nd (Or.inl y)).2] at e
    exact ⟨e.symm, Nat.le_of_ble_eq_true rfl⟩
  · rw [if_pos y] at e
    exact ⟨e.symm, Nat.le_of_ble_eq_true rfl⟩
  · rw [if_neg (nd (Or.inr y)).1, if_neg (nd (Or.inr y)).2] at e
    exact ⟨e.symm, Nat.le_of_ble_eq_true rfl⟩
  · rw [y, if_neg (by decide), if_neg (by decide)] at e
    exact ⟨e.symm, Nat.le_of_ble_eq_true rfl⟩
  · rw [if_neg (by rcases y with y | y | y <;> rw [y] <;> decide), if_neg (by rcases y with y | y | y <;> rw [y] <;> decide)] at e
    exact ⟨e.symm, Nat.le_of_ble_eq_true rfl⟩
  · rw [y, if_neg (by decide), if_pos rfl] at e
    exact ⟨e.symm, Nat.le_of_ble_eq_true rfl⟩
  · exact absurd y hx
theorem m_CK.sS {h0 h : og_H} {M : q_M} {wl : Int32} {nw su pr : Nat → Int64} {sg hp dg : Nat → Int32} {dp : Nat} {ct : Int32} (w : m_CK h0 h M wl nw su pr sg hp dg dp ct) (s : Nat → Int32) : m_CK h0 (og_set h 102 (rowI 67 s)) (m_wS M s) wl nw su pr sg hp dg dp ct :=
  ⟨w.1.sS s, (og_set_ne _ _ (by omega)).trans w.e7, (og_set_ne _ _ (by omega)).trans w.e8, (og_set_ne _ _ (by omega)).trans w.e9, (og_set_ne _ _ (by omega)).trans w.e0, (og_set_ne _ _ (by omega)).trans w.e1, (og_set_ne _ _ (by omega)).trans w.e2, w.d6⟩
set_option maxRecDepth 4000 in
theorem c_X8_carryOut (E : og_E) (d n : Nat) (h : og_H) {h0 : og_H} {M : q_M} (w : og_MK h0 h M) :
    og_M E yX8_carryOut (.code yX8_carryOut cX8_carryOut 5 (some .int)) (d + 4) [.ref 101] n h 0 0 (fun (v : Option Value) (nn : Nat) (h1 : og_H) => nn = n ∧ ((((∃ i, i < m_ty M ∧ (∃ q, q_syn (m_t M) i = some q) ∧ q_syn (m_t M) (i + 1) = none ∧ v = some (.int (-10 - nI i))) ∨ (∃ s dp, s ≠ 0 ∧ q_syn (m_t M) (m_ty M) = some (s, dp) ∧ v = some (.int (-10 - nI (m_ty M))))) ∧ ∃ dp, og_MK h0 h1 (m_wD (m_wRf M 0) dp)) ∨ ((∃ dp, q_syn (m_t M) (m_ty M) = some (0, dp)) ∧ ∃ q d0 dp wl ct, r_all (m_t M) (m_ty M) 100 (m_s M) 0 0 q ∧ v = some (.int (nI q.2)) ∧ og_MK h0 h1 (m_wW (m_wS (m_save (m_wD (m_wRf M 0) d0)) q.1) dp wl ct)))) no_x := by
  refine og_start (lv := [some (.ref 101), none, none, none, none]) (by decide) rfl rfl (Nat.le_of_ble_eq_true rfl) fun X hr hnm htb => ?_
  have wm := w.m
  have hL : m_ty M ≤ 100 := w.ok.2
  refine og_aload_n (pc := 0) dX8_carryOut_0 rfl ?_
  refine og_iconst (pc := 1) (v := 0) dX8_carryOut_1 (by decide) ?_
  refine og_put (pc := 2) P_X8_83 dX8_carryOut_2 (by repeat (first | exact og_set_eq _ _ _ | assumption | refine (og_set_ne _ _ (by first | assumption | omega)).trans ?_)) (by omega) rfl rfl (Nat.le_of_ble_eq_true rfl) ?_
  refine og_abs (P := fun g => og_MK h0 g (m_wRf M 0)) (w.rf_ 0) fun g w => ?_
  have wm := w.m
  refine og_aload_n (pc := 5) dX8_carryOut_5 rfl ?_
  refine og_callV (pc := 6) (As := []) (rest := []) (c_X8_fault E d n g w) Y_X8_fault I_X8_fault V_X8_fault wm (by omega) rfl rfl K_X8_237 dX8_carryOut_6 rfl rfl (Nat.le_of_ble_eq_true rfl) (by omega) (by omega) (by omega) (fun _ _ _ z => z) (fun v n1 h1 z => ?_)
  obtain ⟨hn, ⟨dp0, hdp0, w2⟩, z⟩ := z
  subst hn
  have err : ∀ x : Int32, v = some (.int x) → x ≠ -1 → ((∃ i, i < m_ty M ∧ (∃ q, q_syn (m_t M) i = some q) ∧ q_syn (m_t M) (i + 1) = none ∧ x = nI i) ∨ (∃ s dp, s ≠ 0 ∧ q_syn (m_t M) (m_ty M) = some (s, dp) ∧ x = nI (m_ty M))) → og_G E yX8_carryOut.cls cX8_carryOut (d + 4) 0 0 5 X (og_Q E (fun (v : Option Value) (nn : Nat) (h1 : og_H) => nn = n1 ∧ ((((∃ i, i < m_ty M ∧ (∃ q, q_syn (m_t M) i = some q) ∧ q_syn (m_t M) (i + 1) = none ∧ v = some (.int (-10 - nI i))) ∨ (∃ s dp, s ≠ 0 ∧ q_syn (m_t M) (m_ty M) = some (s, dp) ∧ v = some (.int (-10 - nI (m_ty M))))) ∧ ∃ dp, og_MK h0 h1 (m_wD (m_wRf M 0) dp)) ∨ ((∃ dp, q_syn (m_t M) (m_ty M) = some (0, dp)) ∧ ∃ q d0 dp wl ct, r_all (m_t M) (m_ty M) 100 (m_s M) 0 0 q ∧ v = some (.int (nI q.2)) ∧ og_MK h0 h1 (m_wW (m_wS (m_save (m_wD (m_wRf M 0) d0)) q.1) dp wl ct)))) no_x 0 0 X) 0 0 n1 h1 9 [some (.ref 101), none, none, none, none] [.int x] := by
    intro x hx hx2 he
    refine og_istore_n_1 (pc := 9) dX8_carryOut_9 rfl ?_
    refine og_iload_n (pc := 10) dX8_carryOut_10 rfl ?_
    refine og_iconst (pc := 11) (v := (-1)) dX8_carryOut_11 (by decide) ?_
    refine og_icmp_eq (pc := 12) (tgt := 20) dX8_carryOut_12 (by decide) (fun c => absurd c hx2) (fun _ => ?_)
    refine og_bipush (pc := 15) (v := (-10)) dX8_carryOut_15 (by decide) ?_
    refine og_iload_n (pc := 17) dX8_carryOut_17 rfl ?_
    refine og_isub (pc := 18) dX8_carryOut_18 ?_
    refine og_iret (pc := 19) hr dX8_carryOut_19 (by omega) (by omega) ⟨rfl, Or.inl ⟨?_, dp0, w2⟩⟩
    rcases he with ⟨i, h1, h2, h3, rfl⟩ | ⟨s, dp, h1, h2, rfl⟩
    · exact Or.inl ⟨i, h1, h2, h3, rfl⟩
    · exact Or.inr ⟨s, dp, h1, h2, rfl⟩
  rcases z with ⟨i, z1, z2, z3, rfl⟩ | ⟨dp, z1, rfl⟩ | ⟨s, dp, z1, z2, rfl⟩
  · have z1 : i < m_ty M := z1
    exact err _ rfl (q_on_some (r := i) (by omega)) (Or.inl ⟨i, z1, z2, z3, rfl⟩)
  rotate_left
  · exact err _ rfl (q_on_some (r := m_ty M) (by omega)) (Or.inr ⟨s, dp, z1, z2, rfl⟩)
  clear err
  have hz : dp = 0 := q_syn_00 _ z1 (Or.inl (by omega))
  subst hz
  have z1 : q_syn (m_t M) (m_ty M) = some (0, 0) := z1
  have u0 : ∀ (f : Nat → Int32) (x : Int32), upd f 0 x 0 = x := fun f x => if_pos rfl
  have wm := w2.m
  refine og_istore_n_1 (pc := 9) dX8_carryOut_9 rfl ?_
  refine og_iload_n (pc := 10) dX8_carryOut_10 rfl ?_
  refine og_iconst (pc := 11) (v := (-1)) dX8_carryOut_11 (by decide) ?_
  refine og_icmp_eq (pc := 12) (tgt := 20) dX8_carryOut_12 (by decide) (fun _ => ?_) (fun c => absurd rfl c)
  refine og_aload_n (pc := 20) dX8_carryOut_20 rfl ?_
  refine og_callV (pc := 21) (As := []) (rest := []) (c_X8_saves E d n1 (m_ps M) h1 (m_p M) (m_s M) wm w2.s w2.p w2.ok.1) Y_X8_saves I_X8_saves V_X8_saves wm (by omega) rfl rfl K_X8_128 dX8_carryOut_21 rfl rfl (Nat.le_of_ble_eq_true rfl) (by omega) (by omega) (by omega) (fun _ _ _ z => z) (fun v n2 h2 z => ?_)
  obtain ⟨rfl, hn, z⟩ := z
  subst hn
  obtain ⟨w3, -⟩ := m_saved w2 z
  have fin : ∀ g q dp wl ct v, og_MK h0 g (m_wW (m_wS (m_save (m_wD (m_wRf M 0) dp0)) q.1) dp wl ct) → r_all (m_t M) (m_ty M) 100 (m_s M) 0 0 q → v = some (.int (nI q.2)) → (fun (v : Option Value) (nn : Nat) (h1 : og_H) => nn = n2 ∧ ((((∃ i, i < m_ty M ∧ (∃ q, q_syn (m_t M) i = some q) ∧ q_syn (m_t M) (i + 1) = none ∧ v = some (.int (-10 - nI i))) ∨ (∃ s dp, s ≠ 0 ∧ q_syn (m_t M) (m_ty M) = some (s, dp) ∧ v = some (.int (-10 - nI (m_ty M))))) ∧ ∃ dp, og_MK h0 h1 (m_wD (m_wRf M 0) dp)) ∨ ((∃ dp, q_syn (m_t M) (m_ty M) = some (0, dp)) ∧ ∃ q d0 dp wl ct, r_all (m_t M) (m_ty M) 100 (m_s M) 0 0 q ∧ v = some (.int (nI q.2)) ∧ og_MK h0 h1 (m_wW (m_wS (m_save (m_wD (m_wRf M 0) d0)) q.1) dp wl ct)))) v n2 g := by
    intro g q dp wl ct v w hq hv
    exact ⟨rfl, Or.inr ⟨⟨0, z1⟩, q, dp0, dp, wl, ct, hq, hv, w⟩⟩
  have hs1 : m_s (m_save (m_wD (m_wRf M 0) dp0)) = m_s M := m_save_s _
  have ht1 : m_t (m_save (m_wD (m_wRf M 0) dp0)) = m_t M := m_save_t _
  have hy1 : m_ty (m_save (m_wD (m_wRf M 0) dp0)) = m_ty M := m_save_ty _
  have hd1 : m_dp (m_save (m_wD (m_wRf M 0) dp0)) = nI dp0 := m_save_dp _
  generalize hM1 : m_save (m_wD (m_wRf M 0) dp0) = M1 at w3 fin hs1 ht1 hy1 hd1
  have wm := w3.m
  refine og_iconst (pc := 24) (v := 0) dX8_carryOut_24 (by decide) ?_
  refine og_istore_n_2 (pc := 25) dX8_carryOut_25 rfl ?_
  refine og_iconst (pc := 26) (v := 0) dX8_carryOut_26 (by decide) ?_
  refine og_istore_n_3 (pc := 27) dX8_carryOut_27 rfl ?_
  refine og_aload_n (pc := 28) dX8_carryOut_28 rfl ?_
  refine og_iconst (pc := 29) (v := 1) dX8_carryOut_29 (by decide) ?_
  refine og_put (pc := 30) P_X8_220 dX8_carryOut_30 wm (by omega) rfl rfl (Nat.le_of_ble_eq_true rfl) ?_
  have w4 := w3.sO (m_ps M1) (m_ty M1) (m_rf M1) (m_la M1) (m_un M1) (m_ls M1) (m_dp M1) 1 (m_ct M1) w3.ok.1 w3.ok.2
  refine og_abs (P := fun g => ∃ ct, og_MK h0 g (m_wW (m_wS M1 (m_s M)) dp0 1 ct)) ⟨m_ct M1, by rw [hd1] at w4 ⊢; rw [← hs1]; exact w4⟩ fun g ⟨ct0, w5⟩ => ?_
  have leave : ∀ (g : og_H) (c dn : Nat) (s : Nat → Int32) (dp : Nat) (ct : Int32) (l4 : Option Value), c < 1000 → og_MK h0 g (m_wW (m_wS M1 s) dp 0 ct) → r_all (m_t M) (m_ty M) 100 (m_s M) 0 0 (s, dn) → og_G E yX8_carryOut.cls cX8_carryOut (d + 4) 0 0 5 X (og_Q E (fun (v : Option Value) (nn : Nat) (h1 : og_H) => nn = n2 ∧ ((((∃ i, i < m_ty M ∧ (∃ q, q_syn (m_t M) i = some q) ∧ q_syn (m_t M) (i + 1) = none ∧ v = some (.int (-10 - nI i))) ∨ (∃ s dp, s ≠ 0 ∧ q_syn (m_t M) (m_ty M) = some (s, dp) ∧ v = some (.int (-10 - nI (m_ty M))))) ∧ ∃ dp, og_MK h0 h1 (m_wD (m_wRf M 0) dp)) ∨ ((∃ dp, q_syn (m_t M) (m_ty M) = some (0, dp)) ∧ ∃ q d0 dp wl ct, r_all (m_t M) (m_ty M) 100 (m_s M) 0 0 q ∧ v = some (.int (nI q.2)) ∧ og_MK h0 h1 (m_wW (m_wS (m_save (m_wD (m_wRf M 0) d0)) q.1) dp wl ct)))) no_x 0 0 X) 0 0 n2 g 33 [some (.ref 101), some (.int (-1)), some (.int (nI dn)), some (.int (nI c)), l4] [] := by
    intro g c dn s dp ct l4 hc w hq
    have wm := w.m
    have out : ∀ v, v = some (Value.int (nI dn)) → (fun (v : Option Value) (nn : Nat) (h1 : og_H) => nn = n2 ∧ ((((∃ i, i < m_ty M ∧ (∃ q, q_syn (m_t M) i = some q) ∧ q_syn (m_t M) (i + 1) = none ∧ v = some (.int (-10 - nI i))) ∨ (∃ s dp, s ≠ 0 ∧ q_syn (m_t M) (m_ty M) = some (s, dp) ∧ v = some (.int (-10 - nI (m_ty M))))) ∧ ∃ dp, og_MK h0 h1 (m_wD (m_wRf M 0) dp)) ∨ ((∃ dp, q_syn (m_t M) (m_ty M) = some (0, dp)) ∧ ∃ q d0 dp wl ct, r_all (m_t M) (m_ty M) 100 (m_s M) 0 0 q ∧ v = some (.int (nI q.2)) ∧ og_MK h0 h1 (m_wW (m_wS (m_save (m_wD (m_wRf M 0) d0)) q.1) dp wl ct)))) v n2 g := fun v hv => fin g (s, dn) dp 0 ct v w hq hv
    refine og_iload_n (pc := 33) dX8_carryOut_33 rfl ?_
    refine og_aload_n (pc := 34) dX8_carryOut_34 rfl ?_
    refine og_get (pc := 35) F_X8_211 dX8_carryOut_35 wm (by omega) rfl ?_
    rw [show m_ty (m_wW (m_wS M1 s) dp 0 ct) = m_ty M from hy1]
    refine og_geN (pc := 38) (tgt := 167) (i := c) (N := (m_ty M)) dX8_carryOut_38 (by decide) rfl rfl (by omega) (by omega) (fun c_38 => ?_) (fun c_38 => ?_)
    · refine og_iload_n (pc := 167) dX8_carryOut_167 rfl ?_
      exact og_iret (pc := 168) hr dX8_carryOut_168 (by omega) (by omega) (out _ rfl)
    refine og_aload_n (pc := 41) dX8_carryOut_41 rfl ?_
    refine og_get (pc := 42) F_X8_220 dX8_carryOut_42 wm (by omega) rfl ?_
    refine og_if_eq (pc := 45) (tgt := 167) dX8_carryOut_45 (by decide) (fun _ => ?_) (fun q => absurd rfl q)
    refine og_iload_n (pc := 167) dX8_carryOut_167 rfl ?_
    exact og_iret (pc := 168) hr dX8_carryOut_168 (by omega) (by omega) (out _ rfl)
  have stop : ∀ (g : og_H) (c dn : Nat) (s : Nat → Int32) (dp : Nat) (ct : Int32) (l4 : Option Value), c < 1000 → og_MK h0 g (m_wW (m_wS M1 s) dp 0 ct) → r_all (m_t M) (m_ty M) 100 (m_s M) 0 0 (s, dn) → og_G E yX8_carryOut.cls cX8_carryOut (d + 4) 0 0 5 X (og_Q E (fun (v : Option Value) (nn : Nat) (h1 : og_H) => nn = n2 ∧ ((((∃ i, i < m_ty M ∧ (∃ q, q_syn (m_t M) i = some q) ∧ q_syn (m_t M) (i + 1) = none ∧ v = some (.int (-10 - nI i))) ∨ (∃ s dp, s ≠ 0 ∧ q_syn (m_t M) (m_ty M) = some (s, dp) ∧ v = some (.int (-10 - nI (m_ty M))))) ∧ ∃ dp, og_MK h0 h1 (m_wD (m_wRf M 0) dp)) ∨ ((∃ dp, q_syn (m_t M) (m_ty M) = some (0, dp)) ∧ ∃ q d0 dp wl ct, r_all (m_t M) (m_ty M) 100 (m_s M) 0 0 q ∧ v = some (.int (nI q.2)) ∧ og_MK h0 h1 (m_wW (m_wS (m_save (m_wD (m_wRf M 0) d0)) q.1) dp wl ct)))) no_x 0 0 X) 0 0 n2 g 130 [some (.ref 101), some (.int (-1)), some (.int (nI dn)), some (.int (nI c)), l4] [] := by
    intro g c dn s dp ct l4 hc w hq
    have wm := w.m
    refine og_aload_n (pc := 130) dX8_carryOut_130 rfl ?_
    refine og_get (pc := 131) F_X8_220 dX8_carryOut_131 wm (by omega) rfl ?_
    refine og_if_eq (pc := 134) (tgt := 164) dX8_carryOut_134 (by decide) (fun _ => ?_) (fun q => absurd rfl q)
    refine og_goto (pc := 164) (tgt := 33) dX8_carryOut_164 (by decide) ?_
    exact leave g c dn s dp ct l4 hc w hq
  have txt : ∀ g s dp wl ct, og_MK h0 g (m_wW (m_wS M1 s) dp wl ct) → g 104 = some (rowI 100 (m_t M)) := fun g s dp wl ct w => by
    have := w.t
    rw [show m_t (m_wW (m_wS M1 s) dp wl ct) = m_t M from ht1] at this
    exact this
  have loop : ∀ m c, m_ty M ≤ c + m → c ≤ m_ty M → ∀ dn s dp ct g, q_syn (m_t M) c = some (0, 0) → og_MK h0 g (m_wW (m_wS M1 s) dp 1 ct) → (∀ q, r_all (m_t M) (m_ty M) m s c dn q → r_all (m_t M) (m_ty M) 100 (m_s M) 0 0 q) → dn ≤ c → og_G E yX8_carryOut.cls cX8_carryOut (d + 4) 0 0 5 X (og_Q E (fun (v : Option Value) (nn : Nat) (h1 : og_H) => nn = n2 ∧ ((((∃ i, i < m_ty M ∧ (∃ q, q_syn (m_t M) i = some q) ∧ q_syn (m_t M) (i + 1) = none ∧ v = some (.int (-10 - nI i))) ∨ (∃ s dp, s ≠ 0 ∧ q_syn (m_t M) (m_ty M) = some (s, dp) ∧ v = some (.int (-10 - nI (m_ty M))))) ∧ ∃ dp, og_MK h0 h1 (m_wD (m_wRf M 0) dp)) ∨ ((∃ dp, q_syn (m_t M) (m_ty M) = some (0, dp)) ∧ ∃ q d0 dp wl ct, r_all (m_t M) (m_ty M) 100 (m_s M) 0 0 q ∧ v = some (.int (nI q.2)) ∧ og_MK h0 h1 (m_wW (m_wS (m_save (m_wD (m_wRf M 0) d0)) q.1) dp wl ct)))) no_x 0 0 X) 0 0 n2 g 33 [some (.ref 101), some (.int (-1)), some (.int (nI dn)), some (.int (nI c)), none] [] := by
    intro m
    induction m with
    | zero =>
      intro c hm hcL dn s dp ct g hsy w hq hdn
      have wm := w.m
      have out : ∀ v, v = some (Value.int (nI dn)) → (fun (v : Option Value) (nn : Nat) (h1 : og_H) => nn = n2 ∧ ((((∃ i, i < m_ty M ∧ (∃ q, q_syn (m_t M) i = some q) ∧ q_syn (m_t M) (i + 1) = none ∧ v = some (.int (-10 - nI i))) ∨ (∃ s dp, s ≠ 0 ∧ q_syn (m_t M) (m_ty M) = some (s, dp) ∧ v = some (.int (-10 - nI (m_ty M))))) ∧ ∃ dp, og_MK h0 h1 (m_wD (m_wRf M 0) dp)) ∨ ((∃ dp, q_syn (m_t M) (m_ty M) = some (0, dp)) ∧ ∃ q d0 dp wl ct, r_all (m_t M) (m_ty M) 100 (m_s M) 0 0 q ∧ v = some (.int (nI q.2)) ∧ og_MK h0 h1 (m_wW (m_wS (m_save (m_wD (m_wRf M 0) d0)) q.1) dp wl ct)))) v n2 g := fun v hv => fin g (s, dn) dp 1 ct v w (hq (s, dn) rfl) hv
      refine og_iload_n (pc := 33) dX8_carryOut_33 rfl ?_
      refine og_aload_n (pc := 34) dX8_carryOut_34 rfl ?_
      refine og_get (pc := 35) F_X8_211 dX8_carryOut_35 wm (by omega) rfl ?_
      rw [show m_ty (m_wW (m_wS M1 s) dp 1 ct) = m_ty M from hy1]
      refine og_geN (pc := 38) (tgt := 167) (i := c) (N := (m_ty M)) dX8_carryOut_38 (by decide) rfl rfl (by omega) (by omega) (fun c_38 => ?_) (fun c_38 => ?_)
      rotate_left
      · omega
      refine og_iload_n (pc := 167) dX8_carryOut_167 rfl ?_
      exact og_iret (pc := 168) hr dX8_carryOut_168 (by omega) (by omega) (out _ rfl)
    | succ m ihm =>
      intro c hm hcL dn s dp ct g hsy w hq hdn
      have wm := w.m
      refine og_iload_n (pc := 33) dX8_carryOut_33 rfl ?_
      refine og_aload_n (pc := 34) dX8_carryOut_34 rfl ?_
      refine og_get (pc := 35) F_X8_211 dX8_carryOut_35 wm (by omega) rfl ?_
      rw [show m_ty (m_wW (m_wS M1 s) dp 1 ct) = m_ty M from hy1]
      refine og_geN (pc := 38) (tgt := 167) (i := c) (N := (m_ty M)) dX8_carryOut_38 (by decide) rfl rfl (by omega) (by omega) (fun c_38 => ?_) (fun c_38 => ?_)
      · have out : ∀ v, v = some (Value.int (nI dn)) → (fun (v : Option Value) (nn : Nat) (h1 : og_H) => nn = n2 ∧ ((((∃ i, i < m_ty M ∧ (∃ q, q_syn (m_t M) i = some q) ∧ q_syn (m_t M) (i + 1) = none ∧ v = some (.int (-10 - nI i))) ∨ (∃ s dp, s ≠ 0 ∧ q_syn (m_t M) (m_ty M) = some (s, dp) ∧ v = some (.int (-10 - nI (m_ty M))))) ∧ ∃ dp, og_MK h0 h1 (m_wD (m_wRf M 0) dp)) ∨ ((∃ dp, q_syn (m_t M) (m_ty M) = some (0, dp)) ∧ ∃ q d0 dp wl ct, r_all (m_t M) (m_ty M) 100 (m_s M) 0 0 q ∧ v = some (.int (nI q.2)) ∧ og_MK h0 h1 (m_wW (m_wS (m_save (m_wD (m_wRf M 0) d0)) q.1) dp wl ct)))) v n2 g := fun v hv => fin g (s, dn) dp 1 ct v w (hq (s, dn) (Or.inl ⟨by omega, rfl⟩)) hv
        refine og_iload_n (pc := 167) dX8_carryOut_167 rfl ?_
        exact og_iret (pc := 168) hr dX8_carryOut_168 (by omega) (by omega) (out _ rfl)
      have hlt : c < m_ty M := by omega
      obtain ⟨q1, hq1⟩ := q_syn_all (bf := m_t M) (q := (0, 0)) (m_ty M - (c + 1)) (c + 1) (by rw [show c + 1 + (m_ty M - (c + 1)) = m_ty M by omega]; exact z1)
      have hq1b := hq1
      rw [q_syn_step hsy] at hq1b
      obtain ⟨hlet, e1⟩ := q_fol_0 hq1b
      subst e1
      have hlt1 : c + 1 < m_ty M := by
        rcases Nat.lt_or_ge (c + 1) (m_ty M) with y | y
        · exact y
        · rw [show c + 1 = m_ty M by omega, z1] at hq1
          cases hq1
      obtain ⟨q2, hq2⟩ := q_syn_all (bf := m_t M) (q := (0, 0)) (m_ty M - (c + 2)) (c + 2) (by rw [show c + 2 + (m_ty M - (c + 2)) = m_ty M by omega]; exact z1)
      have hq2b := hq2
      rw [q_syn_step hq1] at hq2b
      obtain ⟨-, e2⟩ := q_fol_1 hq2b
      subst e2
      have hlt2 : c + 2 < m_ty M := by
        rcases Nat.lt_or_ge (c + 2) (m_ty M) with y | y
        · exact y
        · rw [show c + 2 = m_ty M by omega, z1] at hq2
          cases hq2
      obtain ⟨e, he1, he2, he3, he4⟩ := q_syn_semi z1 (m_ty M - (c + 2)) (c + 2) (by omega) hq2 (by omega)
      have hlen : r_len (m_t M) 100 (c + 2) = e - (c + 2) := r_len_eq 100 (c + 2) e he1 (by omega) he3 he4
      obtain ⟨l1, l2⟩ := v_li_lt hlet
      have wt := txt g s dp 1 ct w
      refine og_aload_n (pc := 41) dX8_carryOut_41 rfl ?_
      refine og_get (pc := 42) F_X8_220 dX8_carryOut_42 wm (by omega) rfl ?_
      refine og_if_eq (pc := 45) (tgt := 167) dX8_carryOut_45 (by decide) (fun q => absurd q (show ¬ (1 : Int32) = 0 by decide)) (fun _ => ?_)
      refine og_aload_n (pc := 48) dX8_carryOut_48 rfl ?_
      refine og_get (pc := 49) F_X8_16 dX8_carryOut_49 wm (by omega) rfl ?_
      refine og_iload_n (pc := 52) dX8_carryOut_52 rfl ?_
      refine og_ialdN (pc := 53) rfl dX8_carryOut_53 wt (by omega) (by omega) (by first | decide | assumption | omega) ?_
      refine og_bipush (pc := 54) (v := 97) dX8_carryOut_54 (by decide) ?_
      refine og_isub (pc := 56) dX8_carryOut_56 ?_
      rw [l2]
      refine og_istore_4 (pc := 57) dX8_carryOut_57 rfl ?_
      refine og_aload_n (pc := 59) dX8_carryOut_59 rfl ?_
      refine og_iconst (pc := 60) (v := 0) dX8_carryOut_60 (by decide) ?_
      refine og_put (pc := 61) P_X8_214 dX8_carryOut_61 wm (by omega) rfl rfl (Nat.le_of_ble_eq_true rfl) ?_
      have w6 := w.sO (m_ps M1) (m_ty M1) (m_rf M1) (m_la M1) (m_un M1) (m_ls M1) (nI 0) 1 ct w.ok.1 w.ok.2
      refine og_abs (P := fun g => og_MK h0 g (m_wW (m_wS M1 s) 0 1 ct)) w6 fun g w6 => ?_
      have wm := w6.m
      refine og_aload_n (pc := 64) dX8_carryOut_64 rfl ?_
      refine og_iconst (pc := 65) (v := 0) dX8_carryOut_65 (by decide) ?_
      refine og_put (pc := 66) P_X8_224 dX8_carryOut_66 wm (by omega) rfl rfl (Nat.le_of_ble_eq_true rfl) ?_
      have w7 := w6.sO (m_ps M1) (m_ty M1) (m_rf M1) (m_la M1) (m_un M1) (m_ls M1) (nI 0) 1 0 w6.ok.1 w6.ok.2
      refine og_abs (P := fun g => og_MK h0 g (m_wW (m_wS M1 s) 0 1 0)) w7 fun g w7 => ?_
      have wm := w7.m
      obtain ⟨nw, su, pr, sg, hp, dg, w8⟩ := w7.ck (by omega)
      refine og_aload_n (pc := 69) dX8_carryOut_69 rfl ?_
      refine og_callV (pc := 70) (As := []) (rest := []) (c_X8_opens E d n2 g w8) Y_X8_opens I_X8_opens V_X8_opens wm (by omega) rfl rfl K_X8_227 dX8_carryOut_70 rfl rfl (Nat.le_of_ble_eq_true rfl) (by omega) (by omega) (by omega) (fun _ _ _ z => z) (fun v n3 h3 z => ?_)
      obtain ⟨hn, rfl, w9⟩ := z
      subst hn
      refine og_iinc_3 (pc := 73) dX8_carryOut_73 (nI_add c 2) rfl ?_
      have hT0 : r_T0 (nw, su, pr, upd sg 0 0, upd hp 0 0, upd dg 0 1, 0, 0) := ⟨rfl, rfl, u0 sg 0, u0 hp 0, u0 dg 1⟩
      have w10 : m_CT h0 h3 (m_wS M1 s) 1 (nw, su, pr, upd sg 0 0, upd hp 0 0, upd dg 0 1, 0, 0) := w9
      generalize hT0e : ((nw, su, pr, upd sg 0 0, upd hp 0 0, upd dg 0 1, 0, 0) : q_T) = T0 at w10 hT0
      have hnone : r_fold (q_reg s) (m_t M) (r_len (m_t M) 100 (c + 2) + 1) T0 (c + 2) = none → r_all (m_t M) (m_ty M) 100 (m_s M) 0 0 (s, dn) := fun y => hq (s, dn) (Or.inr ⟨hlt, T0, hT0, Or.inl ⟨y, rfl⟩⟩)
      have inner : ∀ k c2, c2 + k = e → c + 2 ≤ c2 → ∀ T st g, m_CT h0 g (m_wS M1 s) 1 T → q_syn (m_t M) c2 = some (st, T.2.2.2.2.2.2.1) → 2 ≤ st → r_fold (q_reg s) (m_t M) (r_len (m_t M) 100 (c + 2) + 1) T0 (c + 2) = r_fold (q_reg s) (m_t M) (k + 1) T c2 → og_G E yX8_carryOut.cls cX8_carryOut (d + 4) 0 0 5 X (og_Q E (fun (v : Option Value) (nn : Nat) (h1 : og_H) => nn = n3 ∧ ((((∃ i, i < m_ty M ∧ (∃ q, q_syn (m_t M) i = some q) ∧ q_syn (m_t M) (i + 1) = none ∧ v = some (.int (-10 - nI i))) ∨ (∃ s dp, s ≠ 0 ∧ q_syn (m_t M) (m_ty M) = some (s, dp) ∧ v = some (.int (-10 - nI (m_ty M))))) ∧ ∃ dp, og_MK h0 h1 (m_wD (m_wRf M 0) dp)) ∨ ((∃ dp, q_syn (m_t M) (m_ty M) = some (0, dp)) ∧ ∃ q d0 dp wl ct, r_all (m_t M) (m_ty M) 100 (m_s M) 0 0 q ∧ v = some (.int (nI q.2)) ∧ og_MK h0 h1 (m_wW (m_wS (m_save (m_wD (m_wRf M 0) d0)) q.1) dp wl ct)))) no_x 0 0 X) 0 0 n3 g 76 [some (.ref 101), some (.int (-1)), some (.int (nI dn)), some (.int (nI c2)), some (.int (nI (v_li (m_t M c))))] [] := by
        intro k
        induction k with
        | zero =>
          intro c2 hk hc2 T st g wT hst h2st heq
          have hce : c2 = e := by omega
          subst hce
          obtain ⟨nw, su, pr, sg, hp, dg, dp2, ct2⟩ := T
          have w : m_CK h0 g (m_wS M1 s) 1 nw su pr sg hp dg dp2 ct2 := wT
          have wm := w.m
          have wt := txt _ _ _ _ _ w.mk
          refine og_aload_n (pc := 76) dX8_carryOut_76 rfl ?_
          refine og_get (pc := 77) F_X8_16 dX8_carryOut_77 wm (by omega) rfl ?_
          refine og_iload_n (pc := 80) dX8_carryOut_80 rfl ?_
          refine og_ialdN (pc := 81) rfl dX8_carryOut_81 wt (by omega) (by omega) (by first | decide | assumption | omega) ?_
          refine og_bipush (pc := 82) (v := 59) dX8_carryOut_82 (by decide) ?_
          refine og_icmp_eq (pc := 84) (tgt := 110) dX8_carryOut_84 (by decide) (fun _ => ?_) (fun y => absurd he3 y)
          refine og_aload_n (pc := 110) dX8_carryOut_110 rfl ?_
          refine og_get (pc := 111) F_X8_220 dX8_carryOut_111 wm (by omega) rfl ?_
          refine og_if_eq (pc := 114) (tgt := 130) dX8_carryOut_114 (by decide) (fun q => absurd q (show ¬ (1 : Int32) = 0 by decide)) (fun _ => ?_)
          refine og_aload_n (pc := 117) dX8_carryOut_117 rfl ?_
          refine og_aload_n (pc := 118) dX8_carryOut_118 rfl ?_
          refine og_get (pc := 119) F_X8_16 dX8_carryOut_119 wm (by omega) rfl ?_
          refine og_iload_n (pc := 122) dX8_carryOut_122 rfl ?_
          refine og_ialdN (pc := 123) rfl dX8_carryOut_123 wt (by omega) (by omega) (by first | decide | assumption | omega) ?_
          refine og_callV (pc := 124) (As := [.int (m_t M c2)]) (rest := []) (c_X8_reads E d n3 g (m_t M c2) w (fun y => by rw [he3] at y; exact absurd y (by decide)) (fun y => by rw [he3] at y; exact absurd y (by decide))) Y_X8_reads I_X8_reads V_X8_reads wm (by omega) rfl rfl K_X8_241 dX8_carryOut_124 rfl rfl (Nat.le_of_ble_eq_true rfl) (by omega) (by omega) (by omega) (fun _ _ _ z => z) (fun v n4 h4 z => ?_)
          obtain ⟨hn, rfl, y⟩ := z
          subst hn
          refine og_iinc_3 (pc := 127) dX8_carryOut_127 (og_inc c2) rfl ?_
          rcases y with ⟨y, T2, wT2⟩ | ⟨T2, y, wT2⟩
          · exact stop h4 (c2 + 1) dn s _ _ _ (by omega) wT2.1 (hnone (heq.trans (r_fold_n y)))
          have heq2 := heq.trans (r_fold_s y)
          have h2 := r_reads_dp y
          obtain ⟨nw2, su2, pr2, sg2, hp2, dg2, dp3, ct3⟩ := T2
          have w2 : m_CK h0 h4 (m_wS M1 s) 1 nw2 su2 pr2 sg2 hp2 dg2 dp3 ct3 := wT2
          have wm := w2.m
          refine og_aload_n (pc := 130) dX8_carryOut_130 rfl ?_
          refine og_get (pc := 131) F_X8_220 dX8_carryOut_131 wm (by omega) rfl ?_
          refine og_if_eq (pc := 134) (tgt := 164) dX8_carryOut_134 (by decide) (fun q => absurd q (show ¬ (1 : Int32) = 0 by decide)) (fun _ => ?_)
          refine og_aload_n (pc := 137) dX8_carryOut_137 rfl ?_
          refine og_aload_n (pc := 138) dX8_carryOut_138 rfl ?_
          refine og_get (pc := 139) F_X8_76 dX8_carryOut_139 wm (by omega) rfl ?_
          refine og_iload (pc := 142) dX8_carryOut_142 rfl ?_
          refine og_callV (pc := 144) (As := [.ref 122, .int (nI (v_li (m_t M c)))]) (rest := []) (c_X8_puts E d n4 122 (v_li (m_t M c)) h4 s nw2 wm w2.mk.s w2.e2 (by omega) l1) Y_X8_puts I_X8_puts V_X8_puts wm (by omega) rfl rfl K_X8_139 dX8_carryOut_144 rfl rfl (Nat.le_of_ble_eq_true rfl) (by omega) (by omega) (by omega) (fun _ _ _ z => z) (fun v n5 h5 z => ?_)
          obtain ⟨rfl, hn, hh⟩ := z
          subst hn
          refine og_abs (P := fun g => m_CK h0 g (m_wS M1 (q_pt s nw2 (v_li (m_t M c)))) 1 nw2 su2 pr2 sg2 hp2 dg2 dp3 ct3) (by rw [hh]; exact w2.sS _) fun g w3 => ?_
          have wm := w3.m
          have ws : g 102 = some (rowI 67 (q_pt s nw2 (v_li (m_t M c)))) := w3.mk.s
          refine og_aload_n (pc := 147) dX8_carryOut_147 rfl ?_
          refine og_get (pc := 148) F_X8_7 dX8_carryOut_148 wm (by omega) rfl ?_
          refine og_bipush (pc := 151) (v := 65) dX8_carryOut_151 (by decide) ?_
          refine og_dup2 (pc := 153) dX8_carryOut_153 rfl rfl ?_
          refine og_ialdN (pc := 154) (j := 65) rfl dX8_carryOut_154 ws (by omega) (by omega) (by first | decide | assumption | omega) ?_
          refine og_aload_n (pc := 155) dX8_carryOut_155 rfl ?_
          refine og_get (pc := 156) F_X8_224 dX8_carryOut_156 wm (by omega) rfl ?_
          refine og_iadd (pc := 159) dX8_carryOut_159 ?_
          refine og_iastN (pc := 160) (j := 65) rfl dX8_carryOut_160 ws (by omega) (by omega) (by first | decide | assumption | omega) ?_
          refine og_iinc_2 (pc := 161) dX8_carryOut_161 (og_inc dn) rfl ?_
          refine og_abs (P := fun g => m_CK h0 g (m_wS M1 (upd (q_pt s nw2 (v_li (m_t M c))) 65 (q_pt s nw2 (v_li (m_t M c)) 65 + ct3))) 1 nw2 su2 pr2 sg2 hp2 dg2 dp3 ct3) (w3.sS _) fun g w4 => ?_
          refine og_forget_4 ?_
          refine og_goto (pc := 164) (tgt := 33) dX8_carryOut_164 (by decide) ?_
          obtain ⟨⟨s9, d9⟩, hq9⟩ := q_syn_all (bf := m_t M) (q := (0, 0)) (m_ty M - (c2 + 1)) (c2 + 1) (by rw [show c2 + 1 + (m_ty M - (c2 + 1)) = m_ty M by omega]; exact z1)
          have hq9b := hq9
          rw [q_syn_step hst, he3] at hq9b
          have e9 : (s9, d9) = (0, 0) := by
            rcases q_fol_in h2st (q_syn_le _ hst).1 hq9b with ⟨-, u, -⟩ | ⟨-, u, -⟩ | ⟨-, u, -⟩ | ⟨-, u, -⟩ | ⟨-, u, -⟩ | ⟨-, u, -⟩ | ⟨-, -, u1, u2⟩
            · exact absurd u.2 (by decide)
            · exact absurd u (by decide)
            · exact absurd u.1 (by decide)
            · exact absurd u (by decide)
            · exact absurd u (by decide)
            · exact absurd u (by decide)
            · rw [u2]
              exact Prod.ext rfl u1
          rw [e9] at hq9
          refine ihm (c2 + 1) (by omega) (by omega) (dn + 1) _ dp3 ct3 g hq9 w4.mk (fun q hq9 => hq q (Or.inr ⟨hlt, T0, hT0, Or.inr ⟨_, heq2, ?_⟩⟩)) (by omega)
          rw [hlen, show c + 2 + (c2 - (c + 2)) + 1 = c2 + 1 by omega]
          exact hq9
        | succ k ihk =>
          intro c2 hk hc2 T st g wT hst h2st heq
          have hn59 := he4 c2 hc2 (by omega)
          obtain ⟨⟨s9, d9⟩, hq9⟩ := q_syn_all (bf := m_t M) (q := (0, 0)) (m_ty M - (c2 + 1)) (c2 + 1) (by rw [show c2 + 1 + (m_ty M - (c2 + 1)) = m_ty M by omega]; exact z1)
          have hq9b := hq9
          rw [q_syn_step hst] at hq9b
          have hTd := hst
          obtain ⟨nw, su, pr, sg, hp, dg, dp2, ct2⟩ := T
          have w : m_CK h0 g (m_wS M1 s) 1 nw su pr sg hp dg dp2 ct2 := wT
          have wm := w.m
          have wt := txt _ _ _ _ _ w.mk
          have hb : (m_t M c2 = 40 → dp2 < 6) ∧ (m_t M c2 = 41 → 0 < dp2) := by
            rcases q_fol_in h2st (q_syn_le _ hst).1 hq9b with ⟨-, u, -⟩ | ⟨-, u, u2, -⟩ | ⟨-, u, -⟩ | ⟨-, u, -⟩ | ⟨-, u, -⟩ | ⟨-, u, u2, -⟩ | ⟨-, u, -⟩
            · exact ⟨fun y => by rw [y] at u; exact absurd u.1 (by decide), fun y => by rw [y] at u; exact absurd u.1 (by decide)⟩
            · exact ⟨fun _ => u2, fun y => by rw [y] at u; exact absurd u (by decide)⟩
            · exact ⟨fun y => by rw [y] at u; exact absurd u.1 (by decide), fun y => by rw [y] at u; exact absurd u.1 (by decide)⟩
            · exact ⟨fun y => by rw [y] at u; exact absurd u (by decide), fun y => by rw [y] at u; exact absurd u (by decide)⟩
            · exact ⟨fun y => by rw [y] at u; exact absurd u (by decide), fun y => by rw [y] at u; exact absurd u (by decide)⟩
            · exact ⟨fun y => by rw [y] at u; exact absurd u (by decide), fun _ => u2⟩
            · exact ⟨fun y => by rw [y] at u; exact absurd u (by decide), fun y => by rw [y] at u; exact absurd u (by decide)⟩
          refine og_aload_n (pc := 76) dX8_carryOut_76 rfl ?_
          refine og_get (pc := 77) F_X8_16 dX8_carryOut_77 wm (by omega) rfl ?_
          refine og_iload_n (pc := 80) dX8_carryOut_80 rfl ?_
          refine og_ialdN (pc := 81) rfl dX8_carryOut_81 wt (by omega) (by omega) (by first | decide | assumption | omega) ?_
          refine og_bipush (pc := 82) (v := 59) dX8_carryOut_82 (by decide) ?_
          refine og_icmp_eq (pc := 84) (tgt := 110) dX8_carryOut_84 (by decide) (fun y => absurd y hn59) (fun _ => ?_)
          refine og_aload_n (pc := 87) dX8_carryOut_87 rfl ?_
          refine og_get (pc := 88) F_X8_220 dX8_carryOut_88 wm (by omega) rfl ?_
          refine og_if_eq (pc := 91) (tgt := 110) dX8_carryOut_91 (by decide) (fun q => absurd q (show ¬ (1 : Int32) = 0 by decide)) (fun _ => ?_)
          refine og_aload_n (pc := 94) dX8_carryOut_94 rfl ?_
          refine og_aload_n (pc := 95) dX8_carryOut_95 rfl ?_
          refine og_get (pc := 96) F_X8_16 dX8_carryOut_96 wm (by omega) rfl ?_
          refine og_iload_n (pc := 99) dX8_carryOut_99 rfl ?_
          refine og_ialdN (pc := 100) rfl dX8_carryOut_100 wt (by omega) (by omega) (by first | decide | assumption | omega) ?_
          refine og_callV (pc := 101) (As := [.int (m_t M c2)]) (rest := []) (c_X8_reads E d n3 g (m_t M c2) w hb.1 hb.2) Y_X8_reads I_X8_reads V_X8_reads wm (by omega) rfl rfl K_X8_241 dX8_carryOut_101 rfl rfl (Nat.le_of_ble_eq_true rfl) (by omega) (by omega) (by omega) (fun _ _ _ z => z) (fun v n4 h4 z => ?_)
          obtain ⟨hn, rfl, y⟩ := z
          subst hn
          refine og_iinc_3 (pc := 104) dX8_carryOut_104 (og_inc c2) rfl ?_
          refine og_goto (pc := 107) (tgt := 76) dX8_carryOut_107 (by decide) ?_
          rcases y with ⟨y, T2, wT2⟩ | ⟨T2, y, wT2⟩
          · have wt := txt _ _ _ _ _ wT2.1
            have wm := wT2.1.m
            have nn := hnone (heq.trans (r_fold_n y))
            have to130 : og_G E yX8_carryOut.cls cX8_carryOut (d + 4) 0 0 5 X (og_Q E (fun (v : Option Value) (nn : Nat) (h1 : og_H) => nn = n4 ∧ ((((∃ i, i < m_ty M ∧ (∃ q, q_syn (m_t M) i = some q) ∧ q_syn (m_t M) (i + 1) = none ∧ v = some (.int (-10 - nI i))) ∨ (∃ s dp, s ≠ 0 ∧ q_syn (m_t M) (m_ty M) = some (s, dp) ∧ v = some (.int (-10 - nI (m_ty M))))) ∧ ∃ dp, og_MK h0 h1 (m_wD (m_wRf M 0) dp)) ∨ ((∃ dp, q_syn (m_t M) (m_ty M) = some (0, dp)) ∧ ∃ q d0 dp wl ct, r_all (m_t M) (m_ty M) 100 (m_s M) 0 0 q ∧ v = some (.int (nI q.2)) ∧ og_MK h0 h1 (m_wW (m_wS (m_save (m_wD (m_wRf M 0) d0)) q.1) dp wl ct)))) no_x 0 0 X) 0 0 n4 h4 110 [some (.ref 101), some (.int (-1)), some (.int (nI dn)), some (.int (nI (c2 + 1))), some (.int (nI (v_li (m_t M c))))] [] := by
              refine og_aload_n (pc := 110) dX8_carryOut_110 rfl ?_
              refine og_get (pc := 111) F_X8_220 dX8_carryOut_111 wm (by omega) rfl ?_
              exact og_if_eq (pc := 114) (tgt := 130) dX8_carryOut_114 (by decide) (fun _ => stop h4 (c2 + 1) dn s _ _ _ (by omega) wT2.1 nn) (fun q => absurd rfl q)
            refine og_aload_n (pc := 76) dX8_carryOut_76 rfl ?_
            refine og_get (pc := 77) F_X8_16 dX8_carryOut_77 wm (by omega) rfl ?_
            refine og_iload_n (pc := 80) dX8_carryOut_80 rfl ?_
            refine og_ialdN (pc := 81) rfl dX8_carryOut_81 wt (by omega) (by omega) (by first | decide | assumption | omega) ?_
            refine og_bipush (pc := 82) (v := 59) dX8_carryOut_82 (by decide) ?_
            refine og_icmp_eq (pc := 84) (tgt := 110) dX8_carryOut_84 (by decide) (fun _ => to130) (fun _ => ?_)
            refine og_aload_n (pc := 87) dX8_carryOut_87 rfl ?_
            refine og_get (pc := 88) F_X8_220 dX8_carryOut_88 wm (by omega) rfl ?_
            exact og_if_eq (pc := 91) (tgt := 110) dX8_carryOut_91 (by decide) (fun _ => to130) (fun q => absurd rfl q)
          obtain ⟨u1, u2⟩ := r_step h2st (q_syn_le _ hst).1 hq9b hn59 rfl y
          have u1 : d9 = T2.2.2.2.2.2.2.1 := u1
          have u2 : 2 ≤ s9 := u2
          exact ihk (c2 + 1) (by omega) (by omega) T2 s9 h4 wT2 (by rw [hq9, u1]) u2 (heq.trans (r_fold_s y))
      exact inner (e - (c + 2)) (c + 2) (by omega) (by omega) T0 2 h3 w10 (by rw [hq2, hT0.1]) (by omega) (by rw [hlen])
  exact loop 100 0 (by omega) (by omega) 0 (m_s M) dp0 ct0 g rfl w5 (fun q hq => hq) (by omega)
