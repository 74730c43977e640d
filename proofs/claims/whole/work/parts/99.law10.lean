/-! ===== the law: one step, both sides (clearText, carryOut, digest) ===== -/
def zCi (E : og_E) (y : MethodName) (wc : Cond) (K : Nat) (As : List Value) (r : Value) (n : Nat) (h : og_H) : Prop := ∀ d, og_M E y wc (d + K) As n h 0 0 (fun v nn h2 => nn = n ∧ v = some r ∧ ∃ D2 M2, zW n h2 D2 M2 ∧ h2 123 = h 123 ∧ h2 0 = h 0) no_x
def zCo (n : Nat) (h : og_H) (T : Value → Prop) (Q : Value → Nat → og_H → Prop) : Option Value → Nat → og_H → Prop := fun v n1 h1 => ∃ r, v = some r ∧ T r ∧ n ≤ n1 ∧ h1 123 = h 123 ∧ h1 0 = h 0 ∧ (∃ fs, h1 101 = some (.inr (6, fs))) ∧ Q r n1 h1
theorem P_clearText (E : og_E) (d n : Nat) (h : og_H) {D : q_D} {M : q_M} (W : zW n h D M) :
    og_M E yX7_clearText (.code yX7_clearText cX7_clearText 2 (some .int)) d [.ref 3] n h 0 0 (zCo n h (fun r => ∃ x, r = .int x) (zCi E yX8_clearText (.code yX8_clearText cX8_clearText 2 (some .int)) 0 [.ref 101])) no_x := by
  refine og_M.mono (c_X7_clearText E d n h W.1) (fun v n1 h1 z => ?_) (fun _ _ _ z => z)
  obtain ⟨rfl, hn, w⟩ := z
  obtain ⟨w1, w2, w3, w4, w5⟩ := zW_ex W w
  refine ⟨_, rfl, ⟨_, rfl⟩, w5, w4, w3, ⟨_, w2.m⟩, fun d2 => og_M.mono (c_X8_clearText E d2 n1 h1 w2) (fun v nn h3 z => ?_) (fun _ _ _ z => z)⟩
  obtain ⟨rfl, rfl, w9⟩ := z
  refine ⟨rfl, by rw [W.2.2.2.2.2.2.2.1], _, _, zW_fin w1 w9 ?_⟩
  obtain ⟨c1, c2, c3, c4, c5, c6, c7, c8, c9⟩ := W.2.2
  exact ⟨c1, c2, c3, c4, fun i hi => absurd hi (Nat.not_lt_zero i), rfl, Nat.zero_le _, c8, c9⟩
theorem syn_none {bf : Nat → Int32} {i j : Nat} (h : q_syn bf i = none) (hij : i ≤ j) {q : Nat × Nat} : q_syn bf j ≠ some q := fun e => by
  obtain ⟨q2, h2⟩ := q_syn_all (j - i) i (q := q) (by rw [show i + (j - i) = j by omega]; exact e)
  rw [h] at h2
  cases h2
theorem P_carryOut (E : og_E) (d n : Nat) (h : og_H) {D : q_D} {M : q_M} (W : zW n h D M) :
    og_M E yX7_carryOut (.code yX7_carryOut cX7_carryOut 2 (some .int)) (d + 37) [.ref 3] n h 0 0 (zCo n h (fun r => ∃ x, r = .int x) (zCi E yX8_carryOut (.code yX8_carryOut cX8_carryOut 5 (some .int)) 4 [.ref 101])) no_x := by
  refine og_M.mono (c_X7_carryOut E d n h W.1) (fun v n1 h1 z => ?_) (fun _ _ _ z => z)
  obtain ⟨hn, dp, z⟩ := z
  have hL : d_tl D ≤ 100 := W.1.ok.2.2.2.1
  have ht : ∀ i, i < d_tl D → m_t M i = d_tb D i := W.2.2.2.2.2.2.1
  have hty : m_ty M = d_tl D := W.2.2.2.2.2.2.2.1
  have hsy : ∀ i, i ≤ d_tl D → q_syn (m_t M) i = q_syn (d_tb D) i := q_syn_c ht
  rcases z with ⟨i, hi, ⟨q, hq⟩, hq2, rfl, w⟩ | ⟨s, dp2, hs, hq, rfl, w⟩ | ⟨dp2, cu, pr, hq, rfl, w⟩
  · obtain ⟨w1, w2, w3, w4, w5⟩ := zW_ex W w
    refine ⟨_, rfl, ⟨_, rfl⟩, w5, w4, w3, ⟨_, w2.m⟩, fun d2 => og_M.mono (c_X8_carryOut E d2 n1 h1 w2) (fun v nn h3 z => ?_) (fun _ _ _ z => z)⟩
    obtain ⟨hnn, z⟩ := z
    refine ⟨hnn, ?_⟩
    rcases z with ⟨⟨i9, hi9, ⟨q9, hq9⟩, hq29, rfl⟩ | ⟨s9, dp9, hs9, hq9, rfl⟩, dp8, w9⟩ | ⟨⟨dp9, hq9⟩, -⟩
    · rw [hty] at hi9
      rw [hsy _ (by omega)] at hq9 hq29
      have e : i = i9 := by
        rcases Nat.lt_trichotomy i i9 with y | y | y
        · exact absurd hq9 (syn_none hq2 (by omega))
        · exact y
        · exact absurd hq (syn_none hq29 (by omega))
      exact ⟨by rw [e], _, _, zW_fin w1 w9 W.2.2⟩
    · rw [hty, hsy _ (Nat.le_refl _)] at hq9
      exact absurd hq9 (syn_none hq2 (by omega))
    · rw [hty, hsy _ (Nat.le_refl _)] at hq9
      exact absurd hq9 (syn_none hq2 (by omega))
  · obtain ⟨w1, w2, w3, w4, w5⟩ := zW_ex W w
    refine ⟨_, rfl, ⟨_, rfl⟩, w5, w4, w3, ⟨_, w2.m⟩, fun d2 => og_M.mono (c_X8_carryOut E d2 n1 h1 w2) (fun v nn h3 z => ?_) (fun _ _ _ z => z)⟩
    obtain ⟨hnn, z⟩ := z
    refine ⟨hnn, ?_⟩
    rcases z with ⟨⟨i9, hi9, ⟨q9, hq9⟩, hq29, rfl⟩ | ⟨s9, dp9, hs9, hq9, rfl⟩, dp8, w9⟩ | ⟨⟨dp9, hq9⟩, -⟩
    · rw [hty] at hi9
      rw [hsy _ (by omega)] at hq29
      exact absurd hq (syn_none hq29 (by omega))
    · exact ⟨by rw [hty], _, _, zW_fin w1 w9 W.2.2⟩
    · rw [hty, hsy _ (Nat.le_refl _), hq] at hq9
      injection hq9 with e
      injection e with e
      exact absurd e hs
  · obtain ⟨w1, w2, w3, w4, w5⟩ := zW_ex W w
    refine ⟨_, rfl, ⟨_, rfl⟩, w5, w4, w3, ⟨_, w2.m⟩, fun d2 => og_M.mono (c_X8_carryOut E d2 n1 h1 w2) (fun v nn h3 z => ?_) (fun _ _ _ z => z)⟩
    obtain ⟨hnn, z⟩ := z
    refine ⟨hnn, ?_⟩
    rcases z with ⟨⟨i9, hi9, ⟨q9, hq9⟩, hq29, rfl⟩ | ⟨s9, dp9, hs9, hq9, rfl⟩, dp8, w9⟩ | ⟨-, q, d0, dp9, wl, ct, hr, rfl, w9⟩
    · rw [hty] at hi9
      rw [hsy _ (by omega)] at hq29
      exact absurd hq (syn_none hq29 (by omega))
    · rw [hty, hsy _ (Nat.le_refl _), hq] at hq9
      injection hq9 with e
      injection e with e
      exact absurd e.symm hs9
    · have h0 : dp2 = 0 := q_syn_00 (d_tl D) hq (Or.inl (by omega))
      rw [h0] at hq
      rw [hty] at hr
      obtain ⟨e1, e2⟩ := s_both ht hL hq W.2.2.1 hr
      refine ⟨by rw [e2], _, _, zW_fin w1 w9 ?_⟩
      have c2 : cp (q_save (d_wTx D (d_tl D) dp)) (m_save (m_wD (m_wRf M 0) d0)) := cp_save (show cp (d_wTx D (d_tl D) dp) (m_wD (m_wRf M 0) d0) from W.2.2)
      exact cp_wS c2 e1
theorem z_dg1 {D : q_D} {M : q_M} (c : cp D M) : ∀ q, q ≤ 6 → m_dg1 M (d_o D) q = q_dg1 D (116591 + (nI (d_tl D)).toInt64) q
  | 0, _ => by
    show 116591 + (nI (m_ty M)).toInt64 = 116591 + (nI (d_tl D)).toInt64
    rw [c.2.2.2.2.2.1]
  | q + 1, h => by
    rw [m_dg1, q_dg1, z_dg1 c q (by omega), z_val c q (by omega)]
theorem z_dg2 {D : q_D} {M : q_M} (c : cp D M) {r : Nat} (hr : r < 8) (x : Int64) : ∀ k, k ≤ 8 → m_dg2 (m_s M) r x k = q_dg2 D r x k
  | 0, _ => rfl
  | k + 1, h => by
    rw [m_dg2, q_dg2, z_dg2 c hr x k (by omega), c.at hr (by omega)]
theorem z_dg3 {D : q_D} {M : q_M} (c : cp D M) : ∀ r x, r ≤ 8 → m_dg3 M (d_o D) r x → x = q_dg3 D (q_dg1 D (116591 + (nI (d_tl D)).toInt64) 6) r
  | 0, x, _, e => by
    have e : x = m_dg1 M (d_o D) 6 := e
    rw [e, z_dg1 c 6 (Nat.le_refl 6)]
    rfl
  | r + 1, x, h, e => by
    rw [m_dg3] at e
    obtain ⟨y, ua, e1, e2, e3⟩ := e
    have h1 := z_dg3 c r y (by omega) e1
    have h2 : ua = q_uno (d_o D) (d_R D r) := by
      have h2 := z_uat c (by omega) e2
      injection h2 with h2
      injection h2
    have h3 := z_dg2 c (r := r) (by omega) y 8 (Nat.le_refl 8)
    have h4 := zord (c.row (r := r) (by omega)) 8 (Nat.le_refl 8)
    rw [q_dg3, ← h1, ← h2, h4, ← h3]
    exact e3
theorem P_digest (E : og_E) (d n : Nat) (h : og_H) {D : q_D} {M : q_M} (W : zW n h D M) :
    og_M E yX7_digest (.code yX7_digest cX7_digest 5 (some .long)) (d + 6) [.ref 3] n h 174 2900 (zCo n h (fun r => ∃ x, r = .long x) (zCi E yX8_digest (.code yX8_digest cX8_digest 5 (some .long)) 4 [.ref 101])) no_x := by
  refine og_M.mono (c_X7_digest E d n h W.1) (fun v n1 h1 z => ?_) (fun _ _ _ z => z)
  obtain ⟨rfl, f, w⟩ := z
  obtain ⟨w1, w2, w3, w4, w5⟩ := zW_ex W w
  refine ⟨_, rfl, ⟨_, rfl⟩, w5, w4, w3, ⟨_, w2.m⟩, fun d2 => og_M.mono (c_X8_digest E d2 n1 h1 w2 zHL W.2.2.u W.2.2.o.1 W.2.2.o.2) (fun v nn h3 z => ?_) (fun _ _ _ z => z)⟩
  obtain ⟨hnn, un, U, x, w9, l9, hx, rfl⟩ := z
  refine ⟨hnn, ?_, _, _, zW_fin w1 w9 (cp_wUn (cp_lay W.2.2 W.2.2.o.2 l9) f)⟩
  rw [z_dg3 W.2.2 8 x (Nat.le_refl 8) hx, W.2.2.2.1, q_dig]
