/-! ===== pure: carryOut: statement after statement ===== -/
section SIM
variable {bf : Nat → Int32} {L E : Nat}
theorem s_hall_b {f : Nat → Int64} (h : q_hall 1 f) : ∀ j, j < 8 → -2000 ≤ (f j).toInt ∧ (f j).toInt ≤ 2000 := fun j hj => by
  obtain ⟨-, a, b⟩ := h j hj
  rw [zd1] at a b
  have a : ¬ (f j).toInt < -2000 := fun q => a (Int64.lt_iff_toInt_lt.mpr q)
  have b : ¬ 2000 < (f j).toInt := fun q => b (Int64.lt_iff_toInt_lt.mpr q)
  exact ⟨by omega, by omega⟩
theorem cs_upd {st : og_SD} {s : Nat → Int32} (h : cs st s) {r : Nat} (hr : r < 8) {f : Nat → Int64} {T : q_T} (he : zE (t_now T) f) (hb : q_hall 1 f) : cs (q_upR st.1 r f, st.2.1, st.2.2.1 + t_ct T, st.2.2.2) (r_upd s r T) := by
  obtain ⟨h1, h2, h3, h4, h5⟩ := h
  have far : ∀ j, 64 ≤ j → q_pt s T.1 r j = s j := fun j hj => if_neg (by omega)
  refine ⟨fun r2 hr2 k hk => ?_, ?_, h3, ?_, ?_⟩
  · have e : r_upd s r T (8 * r2 + k) = q_pt s T.1 r (8 * r2 + k) := by
      show upd (q_pt s T.1 r) 65 (q_pt s T.1 r 65 + T.2.2.2.2.2.2.2) (8 * r2 + k) = _
      exact if_neg (by omega)
    rw [e]
    by_cases z : r2 = r
    · have e2 : q_pt s T.1 r (8 * r2 + k) = (f k).toInt32 := by
        unfold q_pt
        rw [if_pos (by omega), show 8 * r2 + k - 8 * r = k by omega]
        exact congrArg Int64.toInt32 (he k hk)
      have e3 : q_upR st.1 r f r2 = f := by rw [z]; exact if_pos rfl
      show _ = (q_upR st.1 r f r2 k).toInt32 ∧ _
      rw [e2]
      show _ = (q_upR st.1 r f r2 k).toInt32 ∧ -2000 ≤ (q_upR st.1 r f r2 k).toInt ∧ (q_upR st.1 r f r2 k).toInt ≤ 2000
      rw [e3]
      exact ⟨rfl, s_hall_b hb k hk⟩
    · have e2 : q_pt s T.1 r (8 * r2 + k) = s (8 * r2 + k) := if_neg (by omega)
      have e3 : q_upR st.1 r f r2 = st.1 r2 := if_neg z
      show _ = (q_upR st.1 r f r2 k).toInt32 ∧ -2000 ≤ (q_upR st.1 r f r2 k).toInt ∧ (q_upR st.1 r f r2 k).toInt ≤ 2000
      rw [e2, e3]
      exact h1 r2 hr2 k hk
  · have e : r_upd s r T 64 = q_pt s T.1 r 64 := by
      show upd (q_pt s T.1 r) 65 (q_pt s T.1 r 65 + T.2.2.2.2.2.2.2) 64 = _
      exact if_neg (by decide)
    rw [e, far 64 (by omega)]
    exact h2
  · have e : r_upd s r T 65 = q_pt s T.1 r 65 + t_ct T := by
      show upd (q_pt s T.1 r) 65 (q_pt s T.1 r 65 + T.2.2.2.2.2.2.2) 65 = _
      exact if_pos rfl
    rw [e, far 65 (by omega), h4]
  · have e : r_upd s r T 66 = q_pt s T.1 r 66 := by
      show upd (q_pt s T.1 r) 65 (q_pt s T.1 r 65 + T.2.2.2.2.2.2.2) 66 = _
      exact if_neg (by decide)
    rw [e, far 66 (by omega)]
    exact h5
theorem s_next (hs : q_syn bf L = some (0, 0)) (hL : L ≤ 100) {st : og_SD} {s : Nat → Int32} (hc : cs st s) {c : Nat} (hcL : c < L) (h0 : q_syn bf c = some (0, 0)) {T : q_T} (hT : r_T0 T) :
    (v_next st bf L c = none → r_fold (q_reg s) bf (r_len bf 100 (c + 2) + 1) T (c + 2) = none) ∧ (∀ s2 c2, v_next st bf L c = some (s2, c2) → ∃ T2, r_fold (q_reg s) bf (r_len bf 100 (c + 2) + 1) T (c + 2) = some T2 ∧ cs s2 (r_upd s (v_li (bf c)) T2) ∧ c2 = c + 2 + r_len bf 100 (c + 2) + 1 ∧ q_syn bf c2 = some (0, 0)) := by
  obtain ⟨q, hq1, hq2⟩ := s_syn hs hcL h0
  have hq1 : q_if (q_letter (bf c)) (some (1, 0)) none = some q := hq1
  have hlet : q_letter (bf c) := by
    by_cases z : q_letter (bf c)
    · exact z
    · rw [q_if_neg z] at hq1; cases hq1
  rw [q_if_pos hlet] at hq1
  cases hq1
  have hc1 : c + 1 < L := by
    rcases Nat.lt_or_ge (c + 1) L with y | y
    · exact y
    · rw [show L = c + 1 by omega, hq2] at hs
      cases hs
  obtain ⟨q, hq1, hq3⟩ := s_syn hs hc1 hq2
  have hq1 : q_if (bf (c + 1) = 61) (some (2, 0)) none = some q := hq1
  have h61 : bf (c + 1) = 61 := by
    by_cases z : bf (c + 1) = 61
    · exact z
    · rw [q_if_neg z] at hq1; cases hq1
  rw [q_if_pos h61] at hq1
  cases hq1
  have hq3 : q_syn bf (c + 2) = some (2, 0) := hq3
  have hc2 : c + 2 ≤ L := by omega
  obtain ⟨e, e1, e2, e3, e4⟩ := q_syn_semi hs (L - (c + 2)) (c + 2) (by omega) hq3 (Nat.le_refl 2)
  have hlen : r_len bf 100 (c + 2) = e - (c + 2) := r_len_eq 100 (c + 2) e e1 (by omega) e3 e4
  rw [hlen]
  obtain ⟨t1, t2, t3, t4, t5⟩ := hT
  have hR : ∀ r, r < 8 → zE (q_reg s r) (st.1 r) := fun r hr k hk => (hc.row hr k hk).symm
  have hE : bf (e + 1 - 1) = 59 := e3
  have hsum := s_sum (R2 := q_reg s) hs (by omega : e + 1 ≤ L) hL hE (s_op (R := st.1) hs (by omega) hL hE hR 6 (Nat.le_refl 6)) (c + 2) 0 T hq3 (by omega) t1 t2 t5 t4 t3
  have hv : v_next st bf L c = v_nx st (v_li (bf c)) (v_sum bf L (v_op st.1 bf L 6) (c + 2) 0) := by
    unfold v_next
    rw [show q_at bf L c = bf c from if_pos hcL]
    exact q_if_t _ _ hlet
  rw [hv]
  cases ho : v_sum bf L (v_op st.1 bf L 6) (c + 2) 0 with
  | none =>
    refine ⟨fun _ => ?_, fun s2 c2 h => by cases h⟩
    obtain ⟨n, n1, n2⟩ := hsum.1 ho
    rw [show e - (c + 2) + 1 = n + (e - (c + 2) + 1 - n) by omega]
    exact r_fold_non n _ T (c + 2) n2
  | some q1 =>
    refine ⟨fun h => (by cases h), fun s2 c2 h => ?_⟩
    cases h
    obtain ⟨T5, b1, b2, b3, ⟨T6, d1, d2, d3, d4, d5, d6, d7⟩, b9, b10, b11, b12, b13⟩ := hsum.2 q1 ho
    obtain ⟨q2, hx1, hx2⟩ := s_syn hs (by omega) b9
    obtain ⟨hcl, hby⟩ := s_close (R2 := q_reg s) (T := T5) hx1 b10
    have h59 : bf q1.2.1 = 59 := by
      rcases hby with y | y | y | ⟨-, y⟩ | ⟨y, -⟩
      · exact absurd y b11
      · exact absurd y b12
      · exact absurd y b13
      · omega
      · exact y
    have hqe : q1.2.1 = e := by
      rcases Nat.lt_or_ge q1.2.1 e with y | y
      · exact absurd h59 (e4 _ (by omega) y)
      · omega
    rw [hqe] at b3 hcl hx1 hx2 h59 b11
    have hr2 : r_reads (q_reg s) T5 (bf e) = some (r_tm T6 1) := by
      rw [hcl, r_close_ne d1 b11, r_endsTerm_t _ d2, h59]
      rfl
    have hq4 : q2 = (0, 0) := by
      rw [h59] at hx1
      rcases q_fol_in (by omega) (by omega) hx1 with ⟨a, -⟩ | ⟨a, -⟩ | ⟨a, -⟩ | ⟨-, a, -⟩ | ⟨-, a, -⟩ | ⟨-, a, -⟩ | ⟨-, -, -, a⟩
      · omega
      · omega
      · omega
      · exact absurd a (by decide)
      · exact absurd a (by decide)
      · exact absurd a (by decide)
      · exact a
    rw [hq4] at hx2
    refine ⟨r_tm T6 1, ?_, ?_, ?_, ?_⟩
    · rw [r_fold_add _ 1 T T5 _ b3, show c + 2 + (e - (c + 2)) = e by omega]
      exact r_fold_1 hr2
    · have := cs_upd hc (v_li_lt hlet).1 (f := q1.1) (T := r_tm T6 1) d3 (zhE d3 (zh1d d2))
      have hct : t_ct (r_tm T6 1) = q1.2.2 := d6
      rw [hct] at this
      exact this
    · show q1.2.1 + 1 = c + 2 + (e - (c + 2)) + 1
      omega
    · show q_syn bf (q1.2.1 + 1) = _
      rw [hqe]
      exact hx2
theorem s_all (hs : q_syn bf L = some (0, 0)) (hL : L ≤ 100) : ∀ (m : Nat) (st : og_SD) (s : Nat → Int32) (c dn : Nat) (q : (Nat → Int32) × Nat), cs st s → q_syn bf c = some (0, 0) → r_all bf L m s c dn q → cs (v_all bf L m st c dn).1 q.1 ∧ (v_all bf L m st c dn).2 = q.2
  | 0, st, s, c, dn, q, hc, h0, h => by
    have h : q = (s, dn) := h
    rw [h]
    exact ⟨hc, rfl⟩
  | m + 1, st, s, c, dn, q, hc, h0, h => by
    rw [v_all]
    rcases h with ⟨h1, h2⟩ | ⟨h1, T, hT, h2⟩
    · rw [q_if_f _ _ h1, h2]
      exact ⟨hc, rfl⟩
    · rw [q_if_t _ _ h1]
      obtain ⟨n1, n2⟩ := s_next hs hL hc h1 h0 hT
      cases hv : v_next st bf L c with
      | none =>
        rcases h2 with ⟨-, h2⟩ | ⟨T2, h2, -⟩
        · rw [h2]
          exact ⟨hc, rfl⟩
        · rw [n1 hv] at h2
          cases h2
      | some x =>
        obtain ⟨s2, c2⟩ := x
        obtain ⟨T3, a1, a2, a3, a4⟩ := n2 s2 c2 hv
        rcases h2 with ⟨h2, -⟩ | ⟨T2, h2, h3⟩
        · rw [h2] at a1
          cases a1
        · rw [a1] at h2
          cases h2
          rw [← a3] at h3
          exact s_all hs hL m s2 _ c2 (dn + 1) q a2 a4 h3
end SIM
section CONG
variable {bf b2 : Nat → Int32} {L : Nat}
theorem v_quo_c (h : ∀ c, q_at bf L c = q_at b2 L c) : ∀ m f c, v_quo bf L m f c = v_quo b2 L m f c
  | 0, f, c => rfl
  | m + 1, f, c => by rw [v_quo, v_quo, h c, v_quo_c h m]
theorem v_fac_c (h : ∀ c, q_at bf L c = q_at b2 L c) (op : Nat → Int32 → Option v_T) (c : Nat) (p : Int32) : v_fac bf L op c p = v_fac b2 L op c p := by
  have e1 : v_dc bf L c = v_dc b2 L c := by unfold v_dc; rw [h c]
  have e2 : v_dt bf L c = v_dt b2 L c := by unfold v_dt; rw [h c]
  unfold v_fac
  rw [e1, e2]
  cases op (v_dc b2 L c) p with
  | none => rfl
  | some q =>
    show v_fin bf L _ q = v_fin b2 L _ q
    unfold v_fin
    rw [v_quo_c h]
theorem v_tl_c (h : ∀ c, q_at bf L c = q_at b2 L c) (op : Nat → Int32 → Option v_T) : ∀ m f c p, v_tl bf L op m f c p = v_tl b2 L op m f c p
  | 0, f, c, p => rfl
  | m + 1, f, c, p => by
    rw [v_tl, v_tl, h c, v_fac_c h op]
    cases v_fac b2 L op (c + 1) p with
    | none => rfl
    | some q =>
      show q_if _ (q_if _ (v_tl bf L op m _ _ _) none) _ = q_if _ (q_if _ (v_tl b2 L op m _ _ _) none) _
      rw [v_tl_c h op m]
theorem v_term_c (h : ∀ c, q_at bf L c = q_at b2 L c) (op : Nat → Int32 → Option v_T) (c : Nat) (p : Int32) : v_term bf L op c p = v_term b2 L op c p := by
  unfold v_term
  rw [v_fac_c h op]
  cases v_fac b2 L op c p with
  | none => rfl
  | some q => exact v_tl_c h op 100 _ _ _
theorem v_sl_c (h : ∀ c, q_at bf L c = q_at b2 L c) (op : Nat → Int32 → Option v_T) : ∀ m f c p, v_sl bf L op m f c p = v_sl b2 L op m f c p
  | 0, f, c, p => rfl
  | m + 1, f, c, p => by
    have e : v_sg bf L c = v_sg b2 L c := by unfold v_sg; rw [h c]
    rw [v_sl, v_sl, h c, v_term_c h op, e]
    cases v_term b2 L op (c + 1) p with
    | none => rfl
    | some q =>
      show q_if _ (q_if _ (v_sl bf L op m _ _ _) none) _ = q_if _ (q_if _ (v_sl b2 L op m _ _ _) none) _
      rw [v_sl_c h op m]
theorem v_sum_c (h : ∀ c, q_at bf L c = q_at b2 L c) (op : Nat → Int32 → Option v_T) (c : Nat) (p : Int32) : v_sum bf L op c p = v_sum b2 L op c p := by
  unfold v_sum
  rw [v_term_c h op]
  cases v_term b2 L op c p with
  | none => rfl
  | some q => exact v_sl_c h op 100 _ _ _
theorem v_op_c (h : ∀ c, q_at bf L c = q_at b2 L c) (R : Nat → Nat → Int64) : ∀ k, v_op R bf L k = v_op R b2 L k
  | 0 => by
    funext c p
    rw [v_op, v_op, h c]
  | k + 1 => by
    funext c p
    rw [v_op, v_op, h c, v_op_c h R k, v_sum_c h]
theorem v_next_c (h : ∀ c, q_at bf L c = q_at b2 L c) (s : og_SD) (c : Nat) : v_next s bf L c = v_next s b2 L c := by
  unfold v_next
  rw [h c, v_op_c h, v_sum_c h]
theorem v_all_c (h : ∀ c, q_at bf L c = q_at b2 L c) : ∀ m s c dn, v_all bf L m s c dn = v_all b2 L m s c dn
  | 0, s, c, dn => rfl
  | m + 1, s, c, dn => by
    rw [v_all, v_all, v_next_c h]
    cases v_next s b2 L c with
    | none => rfl
    | some q =>
      show q_if _ (v_all bf L m _ _ _) _ = q_if _ (v_all b2 L m _ _ _) _
      rw [v_all_c h m]
end CONG
theorem q_syn_c {bf b2 : Nat → Int32} {L : Nat} (h : ∀ i, i < L → bf i = b2 i) : ∀ i, i ≤ L → q_syn bf i = q_syn b2 i
  | 0, _ => rfl
  | i + 1, hi => by
    show (match q_syn bf i with | none => none | some q => q_fol q.1 q.2 (bf i)) = (match q_syn b2 i with | none => none | some q => q_fol q.1 q.2 (b2 i))
    rw [q_syn_c h i (by omega), h i (by omega)]
/-- both carry out alike -/
theorem s_both {bf b2 : Nat → Int32} {L : Nat} (h : ∀ i, i < L → b2 i = bf i) (hL : L ≤ 100) (hs : q_syn bf L = some (0, 0)) {st : og_SD} {s : Nat → Int32} (hc : cs st s) {q : (Nat → Int32) × Nat} (hq : r_all b2 L 100 s 0 0 q) : cs (v_all bf L 100 st 0 0).1 q.1 ∧ (v_all bf L 100 st 0 0).2 = q.2 := by
  have ha : ∀ c, q_at bf L c = q_at b2 L c := fun c => by
    unfold q_at
    by_cases z : c < L
    · rw [if_pos z, if_pos z, h c z]
    · rw [if_neg z, if_neg z]
  rw [v_all_c ha]
  exact s_all (by rw [q_syn_c h L (Nat.le_refl L)]; exact hs) hL 100 st s 0 0 q hc rfl hq
