/-! ===== pure: carryOut: sums and operands ===== -/
/-- a sum is pending -/
def sPsum (D : Nat) (T0 : q_T) (f : Nat → Int64) (p : Int32) (T T3 : q_T) : Prop := r_ends T = some T3 ∧ q_hall 1 (r_sum T3) ∧ zE (q_dv 1 (r_sum T3)) f ∧ t_dg T3 D = 1 ∧ t_dp T3 = D ∧ t_ct T3 = p ∧ frS D T0 T3
def sPs (bf : Nat → Int32) (D : Nat) (T0 : q_T) (q : v_T) (T : q_T) : Prop := (∃ T3, sPsum D T0 q.1 q.2.2 T T3) ∧ q_syn bf q.2.1 = some (4, D) ∧ bf q.2.1 ≠ 39 ∧ bf q.2.1 ≠ 42 ∧ bf q.2.1 ≠ 43 ∧ bf q.2.1 ≠ 45
def r_tm (T : q_T) (nx : Int32) : q_T := (q_dv 1 (r_sum T), q_blk T.2.1 T.2.2.2.2.2.2.1 (q_dv 1 (r_sum T)), T.2.2.1, upd T.2.2.2.1 T.2.2.2.2.2.2.1 nx, upd T.2.2.2.2.1 T.2.2.2.2.2.2.1 0, T.2.2.2.2.2.1, T.2.2.2.2.2.2.1, T.2.2.2.2.2.2.2)
theorem r_endsTerm_t {T : q_T} (nx : Int32) (h : q_hall 1 (r_sum T)) : r_endsTerm T nx = some (r_tm T nx) := by
  unfold r_endsTerm
  exact q_if_t _ _ h
theorem r_endsTerm_f {T : q_T} (nx : Int32) (h : ¬ q_hall 1 (r_sum T)) : r_endsTerm T nx = none := by
  unfold r_endsTerm
  exact q_if_f _ _ h
theorem r_close_ne {T T3 : q_T} {x : Int32} (h : r_ends T = some T3) (x42 : x ≠ 42) : r_close x (r_ends T) = r_close2 x (r_endsTerm T3 (if x = 45 then -1 else 1)) := by
  rw [h]
  show r_close2 x (q_if (x = 42) (some T3) (r_endsTerm T3 (if x = 45 then -1 else 1))) = _
  rw [q_if_f _ _ x42]
theorem r_sum0 {T : q_T} {D : Nat} (hD : t_dp T = D) (h : t_sg T D = 0) : r_sum T = q_row8 (t_pr T) D := by
  have h2 : T.2.2.2.1 T.2.2.2.2.2.2.1 = 0 := by
    show t_sg T (t_dp T) = 0
    rw [hD]
    exact h
  unfold r_sum
  rw [if_pos h2]
  show q_row8 (t_pr T) (t_dp T) = _
  rw [hD]
theorem r_sum1 {T : q_T} {D : Nat} {sg : Int32} {f g : Nat → Int64} (hD : t_dp T = D) (h : t_sg T D = if sg = 1 then -1 else 1) (hs : sg = 1 ∨ sg = 0) (h1 : zE (q_row8 (t_su T) D) f) (h2 : zE (q_row8 (t_pr T) D) g) : zE (q_total f g sg) (r_sum T) := fun j hj => by
  have e1 : t_su T (8 * D + j) = f j := h1 j hj
  have e2 : t_pr T (8 * D + j) = g j := h2 j hj
  have h2 : T.2.2.2.1 T.2.2.2.2.2.2.1 = if sg = 1 then -1 else 1 := by
    show t_sg T (t_dp T) = _
    rw [hD]
    exact h
  unfold r_sum
  rw [if_neg (by rw [h2]; rcases hs with e | e <;> rw [e] <;> decide)]
  show q_total f g sg j = t_su T (8 * t_dp T + j) + (T.2.2.2.1 T.2.2.2.2.2.2.1).toInt64 * t_pr T (8 * t_dp T + j)
  rw [h2, hD, e1, e2]
  unfold q_total
  rcases hs with e | e
  · rw [e, if_neg (by decide), if_pos rfl]
    have : (-1 : Int32).toInt64 = -1 := rfl
    rw [this]
    grind
  · rw [e, if_pos rfl, if_neg (by decide)]
    have : (1 : Int32).toInt64 = 1 := rfl
    rw [this]
    grind
theorem frS_tm {T : q_T} {D : Nat} (hD : t_dp T = D) (nx : Int32) : frS D T (r_tm T nx) := by
  refine ⟨fun e he => ⟨?_, ?_, rfl⟩, fun j hj => ⟨?_, rfl⟩⟩
  · show upd (t_sg T) (t_dp T) nx e = t_sg T e
    exact if_neg (by omega)
  · show upd (t_hp T) (t_dp T) 0 e = t_hp T e
    exact if_neg (by omega)
  · show q_blk (t_su T) (t_dp T) _ j = t_su T j
    exact if_neg (by omega)
theorem tm_at {T : q_T} {D : Nat} (hD : t_dp T = D) (nx : Int32) : t_sg (r_tm T nx) D = nx ∧ t_hp (r_tm T nx) D = 0 ∧ zE (q_row8 (t_su (r_tm T nx)) D) (q_dv 1 (r_sum T)) := by
  refine ⟨?_, ?_, ?_⟩
  · show upd (t_sg T) (t_dp T) nx D = nx
    exact if_pos hD.symm
  · show upd (t_hp T) (t_dp T) 0 D = 0
    exact if_pos hD.symm
  · show zE (q_row8 (q_blk (t_su T) (t_dp T) (q_dv 1 (r_sum T))) D) _
    rw [hD]
    exact blk_row _ _ _
section SIM
variable {bf : Nat → Int32} {L E : Nat} {R R2 : Nat → Nat → Int64}
theorem s_sl (hs : q_syn bf L = some (0, 0)) (hEL : E ≤ L) (hL : L ≤ 100) (he : bf (E - 1) = 59) {k : Nat} (hop : sOP R R2 bf L E k) (T0 : q_T) : ∀ (m : Nat) (f : Nat → Int64) (c : Nat) (p : Int32) (T T3 : q_T), L ≤ c + m → c < E → q_syn bf c = some (4, 6 - k) → bf c ≠ 39 → bf c ≠ 42 → sPsum (6 - k) T0 f p T T3 → sRes0 R2 bf E c T (v_sl bf L (v_op R bf L k) m f c p) (sPs bf (6 - k) T0)
  | 0, f, c, p, T, T3, h1, h2, h3, h4, h42, h5 => by omega
  | m + 1, f, c, p, T, T3, h1, h2, h3, h4, h42, h5 => by
    rw [v_sl, s_at hEL h2]
    by_cases z : bf c = 43 ∨ bf c = 45
    · rw [q_if_t _ _ z]
      obtain ⟨q, hq1, hq2⟩ := s_syn hs (by omega) h3
      have hcl := (s_close (R2 := R2) (T := T) hq1 h4).1
      obtain ⟨a1, a2, a3, a4, a5, a6, a7⟩ := h5
      have hr : r_reads R2 T (bf c) = some (r_tm T3 (if bf c = 45 then -1 else 1)) := by
        rw [hcl, r_close_ne a1 h42, r_endsTerm_t _ a2]
        show some (r_wD (r_tm T3 (if bf c = 45 then -1 else 1)) (if bf c = 41 then t_dp (r_tm T3 (if bf c = 45 then -1 else 1)) - 1 else t_dp (r_tm T3 (if bf c = 45 then -1 else 1)))) = _
        have n41 : ¬ bf c = 41 := by rcases z with e | e <;> rw [e] <;> decide
        rw [if_neg n41]
        rfl
      have hq3 : q = (2, 6 - k) := by
        rcases q_fol_in (by omega) (by omega) hq1 with ⟨a, -⟩ | ⟨a, -⟩ | ⟨a, -⟩ | ⟨-, a, -⟩ | ⟨-, -, a⟩ | ⟨-, a, -⟩ | ⟨-, a, -⟩
        · omega
        · omega
        · omega
        · exact absurd a h4
        · exact a
        · rcases z with e | e <;> rw [e] at a <;> exact absurd a (by decide)
        · rcases z with e | e <;> rw [e] at a <;> exact absurd a (by decide)
      rw [hq3] at hq2
      have hc1 := s_nx he h2 (by rcases z with e | e <;> rw [e] <;> decide)
      obtain ⟨m1, m2, m3⟩ := tm_at a5 (if bf c = 45 then -1 else 1)
      have hf := s_term hs hEL hL he hop (c + 1) p (r_tm T3 (if bf c = 45 then -1 else 1)) hq2 hc1 a5 a6 a4 m2
      have h1f : r_fold R2 bf (c + 1 - c) T c = some (r_tm T3 (if bf c = 45 then -1 else 1)) := by
        rw [show c + 1 - c = 1 by omega]
        exact r_fold_1 hr
      cases hv : v_term bf L (v_op R bf L k) (c + 1) p with
      | none =>
        refine sRes0.pre (by omega) h1f ⟨fun _ => hf.1 hv, fun q hq => by cases hq⟩
      | some q1 =>
        obtain ⟨T5, b1, b2, b3, ⟨T6, c1, c2, c3, c4, c5, c6, c7, c8⟩, b9, b10, b11⟩ := hf.2 q1 hv
        show sRes0 R2 bf E c T (q_if (q_fitx 0 (q_total f q1.1 (v_sg bf L c))) (v_sl bf L (v_op R bf L k) m (q_fv 0 (q_total f q1.1 (v_sg bf L c))) q1.2.1 q1.2.2) none) (sPs bf (6 - k) T0)
        have hsg : v_sg bf L c = if bf c = 45 then 1 else 0 := by
          unfold v_sg
          rw [s_at hEL h2]
          by_cases y : bf c = 45
          · rw [q_if_t _ _ y, if_pos y]
          · rw [q_if_f _ _ y, if_neg y]
        have hsg2 : v_sg bf L c = 1 ∨ v_sg bf L c = 0 := by
          rw [hsg]
          by_cases y : bf c = 45
          · rw [if_pos y]; exact Or.inl rfl
          · rw [if_neg y]; exact Or.inr rfl
        have hsm : zE (q_total f q1.1 (v_sg bf L c)) (r_sum T6) := by
          refine r_sum1 c5 ?_ hsg2 ?_ c2
          · rw [c8.2.1, m1, hsg]
            by_cases y : bf c = 45
            · rw [if_pos y, if_pos y]; rfl
            · rw [if_neg y, if_neg y]; rfl
          · exact zE.trans (fun j hj => c8.2.2 (8 * (6 - k) + j) (by omega)) (m3.trans a3)
        obtain ⟨z1, z2⟩ := zfit 0 (by omega) 1 rfl hsm
        refine sRes0.pre (by omega) h1f (sRes0.pre (c2 := q1.2.1) (by omega) b3 ?_)
        by_cases y : q_fitx 0 (q_total f q1.1 (v_sg bf L c))
        · rw [q_if_t _ _ y]
          exact s_sl hs hEL hL he hop T0 m _ q1.2.1 _ T5 T6 (by omega) b2 b9 b10 b11 ⟨c1, z1.mp y, (z2 y).symm, c4, c5, c6, a7.trans ((frS_tm a5 _).trans c8.1)⟩
        · rw [q_if_f _ _ y]
          refine ⟨fun _ => ⟨1, by omega, ?_⟩, fun q hq => by cases hq⟩
          obtain ⟨q, hq1, -⟩ := s_syn hs (by omega) b9
          have hcl := (s_close (R2 := R2) (T := T5) hq1 b10).1
          refine s_none (n := 0) rfl ?_
          show r_reads R2 T5 (bf q1.2.1) = none
          rw [hcl, r_close_ne c1 b11, r_endsTerm_f _ (fun x => y (z1.mpr x))]
          rfl
    · rw [q_if_f _ _ z]
      refine ⟨fun h => (by cases h), fun q hq => ?_⟩
      cases hq
      refine ⟨T, Nat.le_refl _, h2, ?_, ⟨T3, h5⟩, h3, h4, h42, fun e => z (Or.inl e), fun e => z (Or.inr e)⟩
      show r_fold R2 bf (c - c) T c = some T
      rw [Nat.sub_self]
      rfl
theorem s_sum (hs : q_syn bf L = some (0, 0)) (hEL : E ≤ L) (hL : L ≤ 100) (he : bf (E - 1) = 59) {k : Nat} (hop : sOP R R2 bf L E k) (c : Nat) (p : Int32) (T : q_T) (h1 : q_syn bf c = some (2, 6 - k)) (h2 : c < E) (h3 : t_dp T = 6 - k) (h4 : t_ct T = p) (h5 : t_dg T (6 - k) = 1) (h6 : t_hp T (6 - k) = 0) (h7 : t_sg T (6 - k) = 0) : sRes R2 bf E c T (v_sum bf L (v_op R bf L k) c p) (sPs bf (6 - k) T) := by
  have hf := s_term hs hEL hL he hop c p T h1 h2 h3 h4 h5 h6
  unfold v_sum
  cases hv : v_term bf L (v_op R bf L k) c p with
  | none => exact ⟨fun _ => hf.1 hv, fun q hq => by cases hq⟩
  | some q1 =>
    obtain ⟨T5, b1, b2, b3, ⟨T6, c1, c2, c3, c4, c5, c6, c7, c8⟩, b9, b10, b11⟩ := hf.2 q1 hv
    have e := r_sum0 c5 (c8.2.1.trans h7)
    refine sRes0.lt b1 b3 (s_sl hs hEL hL he hop T 100 _ q1.2.1 _ T5 T6 (by omega) b2 b9 b10 b11 ⟨c1, ?_, ?_, c4, c5, c6, c8.1⟩)
    · rw [e]
      exact zhE c2.symm c7
    · rw [e]
      exact (zdE c2).trans (zdv1 c7)
theorem s_let (hs : q_syn bf L = some (0, 0)) (hEL : E ≤ L) (he : bf (E - 1) = 59) (hR : ∀ r, r < 8 → zE (R2 r) (R r)) {c D st : Nat} {p : Int32} {T : q_T} (hst : (st = 2 ∧ ¬ q_digit (bf c)) ∨ st = 3) (h1 : q_syn bf c = some (st, D)) (h2 : c < E) (h3 : t_dp T = D) (h4 : t_ct T = p) (z : q_letter (bf c)) : sRes R2 bf E c T (some (R (v_li (bf c)), c + 1, p)) (sPop bf D T) := by
  refine ⟨fun h => (by cases h), fun q hq => ?_⟩
  cases hq
  obtain ⟨q, hq1, hq2⟩ := s_syn hs (by omega) h1
  have hop : q_fop D (bf c) = some q := by
    rcases hst with ⟨e, y⟩ | e
    · rw [e] at hq1
      have hq1 : q_if (q_digit (bf c)) (some (3, D)) (q_fop D (bf c)) = some q := hq1
      rw [q_if_neg y] at hq1
      exact hq1
    · rw [e] at hq1
      exact hq1
  have hq3 : q = (4, D) := by
    rcases q_fop_is hop with ⟨a, -⟩ | ⟨-, a⟩
    · rw [a] at z; exact absurd z.1 (by decide)
    · exact a
  rw [hq3] at hq2
  have hr : r_reads R2 T (bf c) = some (r_wN T (R2 (v_li (bf c)))) := by
    unfold r_reads
    rw [q_if_neg (fun y => q_dig_let y z), q_if_pos z]
  have hc1 := s_nx he h2 (fun e => by rw [e] at z; exact absurd z.1 (by decide))
  refine ⟨r_wN T (R2 (v_li (bf c))), Nat.lt_succ_self c, hc1, ?_, hR _ (v_li_lt z).1, h3, h4, frF.rfl, rfl, hq2⟩
  show r_fold R2 bf (c + 1 - c) T c = _
  rw [show c + 1 - c = 1 by omega]
  exact r_fold_1 hr
theorem s_op (hs : q_syn bf L = some (0, 0)) (hEL : E ≤ L) (hL : L ≤ 100) (he : bf (E - 1) = 59) (hR : ∀ r, r < 8 → zE (R2 r) (R r)) : ∀ k, k ≤ 6 → sOP R R2 bf L E k
  | 0, _ => fun c p T st hst h1 h2 h3 h4 => by
    rw [v_op, s_at hEL h2]
    by_cases z : q_letter (bf c)
    · rw [q_if_t _ _ z]
      exact s_let hs hEL he hR hst h1 h2 h3 h4 z
    · exfalso
      obtain ⟨q, hq1, hq2⟩ := s_syn hs (by omega) h1
      have hop : q_fop (6 - 0) (bf c) = some q := by
        rcases hst with ⟨e, y⟩ | e
        · rw [e] at hq1
          have hq1 : q_if (q_digit (bf c)) (some (3, 6 - 0)) (q_fop (6 - 0) (bf c)) = some q := hq1
          rw [q_if_neg y] at hq1
          exact hq1
        · rw [e] at hq1
          exact hq1
      rcases q_fop_is hop with ⟨-, a, -⟩ | ⟨a, -⟩
      · omega
      · exact z a
  | k + 1, hk => fun c p T st hst h1 h2 h3 h4 => by
    have hopk := s_op hs hEL hL he hR k (by omega)
    rw [v_op, s_at hEL h2]
    by_cases z : q_letter (bf c)
    · rw [q_if_t _ _ z]
      exact s_let hs hEL he hR hst h1 h2 h3 h4 z
    · rw [q_if_f _ _ z]
      obtain ⟨q, hq1, hq2⟩ := s_syn hs (by omega) h1
      have hop : q_fop (6 - (k + 1)) (bf c) = some q := by
        rcases hst with ⟨e, y⟩ | e
        · rw [e] at hq1
          have hq1 : q_if (q_digit (bf c)) (some (3, 6 - (k + 1))) (q_fop (6 - (k + 1)) (bf c)) = some q := hq1
          rw [q_if_neg y] at hq1
          exact hq1
        · rw [e] at hq1
          exact hq1
      rcases q_fop_is hop with ⟨a, a2, a3⟩ | ⟨a, -⟩
      · have hD1 : 6 - (k + 1) + 1 = 6 - k := by omega
        rw [a3, hD1] at hq2
        rw [q_if_t _ _ a]
        have hr : r_reads R2 T (bf c) = some (r_opens T (6 - k)) := by
          unfold r_reads
          rw [a, q_if_neg (fun q => absurd q (by unfold q_digit; decide)), q_if_neg (fun q => absurd q (by unfold q_letter; decide)), q_if_pos rfl]
          show some (r_opens T (t_dp T + 1)) = _
          rw [h3, hD1]
        have hc1 := s_nx he h2 (by rw [a]; decide)
        have hself : ∀ (f : Nat → Int32) (x : Int32), upd f (6 - k) x (6 - k) = x := fun f x => if_pos rfl
        have hf := s_sum hs hEL hL he hopk (c + 1) p (r_opens T (6 - k)) hq2 hc1 rfl h4 (hself _ _) (hself _ _) (hself _ _)
        have h1f : r_fold R2 bf (c + 1 - c) T c = some (r_opens T (6 - k)) := by
          rw [show c + 1 - c = 1 by omega]
          exact r_fold_1 hr
        have hfo : frS (6 - k) T (r_opens T (6 - k)) := ⟨fun e he => ⟨if_neg (by omega), if_neg (by omega), if_neg (by omega)⟩, fun j hj => ⟨rfl, rfl⟩⟩
        cases hv : v_sum bf L (v_op R bf L k) (c + 1) p with
        | none =>
          obtain ⟨n, e1, e2⟩ := hf.1 hv
          refine ⟨fun _ => ⟨1 + n, by omega, ?_⟩, fun q hq => by cases hq⟩
          rw [r_fold_add 1 n T _ c (r_fold_1 hr)]
          exact e2
        | some q1 =>
          obtain ⟨T5, b1, b2, b3, ⟨T6, c1, c2, c3, c4, c5, c6, c7⟩, b9, b10, b11, b12, b13⟩ := hf.2 q1 hv
          refine ⟨fun h => (by cases h), fun q hq => ?_⟩
          cases hq
          obtain ⟨q2, hx1, hx2⟩ := s_syn hs (by omega) b9
          obtain ⟨hcl, hby⟩ := s_close (R2 := R2) (T := T5) hx1 b10
          have h41 : bf q1.2.1 = 41 := by
            rcases hby with e | e | e | ⟨e, -⟩ | ⟨-, e⟩
            · exact absurd e b11
            · exact absurd e b12
            · exact absurd e b13
            · exact e
            · omega
          have hq4 : q2 = (4, 6 - (k + 1)) := by
            rw [h41] at hx1
            rcases q_fol_in (by omega) (by omega) hx1 with ⟨a, -⟩ | ⟨a, -⟩ | ⟨a, -⟩ | ⟨-, a, -⟩ | ⟨-, a, -⟩ | ⟨-, -, -, a⟩ | ⟨-, a, -⟩
            · omega
            · omega
            · omega
            · exact absurd a (by decide)
            · exact absurd a (by decide)
            · rw [a]; exact congrArg (Prod.mk 4) (by omega)
            · exact absurd a (by decide)
          rw [hq4] at hx2
          have hr2 : r_reads R2 T5 (bf q1.2.1) = some (r_wD (r_tm T6 1) (6 - (k + 1))) := by
            rw [hcl, r_close_ne c1 b11, r_endsTerm_t _ c2, h41]
            show some (r_wD (r_tm T6 1) (t_dp T6 - 1)) = _
            rw [c5, show 6 - k - 1 = 6 - (k + 1) by omega]
          have hc2 := s_nx he b2 (by rw [h41]; decide)
          have hfr : frS (6 - (k + 1) + 1) T (r_wD (r_tm T6 1) (6 - (k + 1))) := by
            rw [hD1]
            exact hfo.trans (c7.trans (frS_tm c5 1))
          refine ⟨r_wD (r_tm T6 1) (6 - (k + 1)), by show c < q1.2.1 + 1; omega, hc2, ?_, c3, rfl, c6, frF.up hfr, (hfr.1 _ (by omega)).2.2, hx2⟩
          show r_fold R2 bf (q1.2.1 + 1 - c) T c = _
          rw [show q1.2.1 + 1 - c = (c + 1 - c) + ((q1.2.1 - (c + 1)) + 1) by omega, r_fold_add _ _ T _ c h1f, show c + (c + 1 - c) = c + 1 by omega, r_fold_add _ 1 _ T5 _ b3, show c + 1 + (q1.2.1 - (c + 1)) = q1.2.1 by omega]
          exact r_fold_1 hr2
      · exact absurd a z
end SIM
