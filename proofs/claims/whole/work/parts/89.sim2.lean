/-! ===== pure: carryOut: terms, sums, operands ===== -/
theorem zd1 (y : Int64) : y / 1 = y := by
  have h2 := (zrem (x := y) (p := 1) (by decide) (by decide)).2
  rw [zeq, h2]
  exact Int.tdiv_one _
theorem zh1 {y : Int64} (a : ¬ y < -2000) (b : ¬ 2000 < y) : q_hok 1 y := by
  refine ⟨?_, ?_, ?_⟩
  · rw [zd1, Int64.mul_one, Int64.sub_self]
  · rw [zd1]; exact a
  · rw [zd1]; exact b
theorem zh1d {p : Int64} {f : Nat → Int64} (h : q_hall p f) : q_hall 1 (q_dv p f) := fun j hj => zh1 (h j hj).2.1 (h j hj).2.2
theorem zhE {p : Int64} {f g : Nat → Int64} (e : zE f g) (h : q_hall p f) : q_hall p g := fun j hj => by
  rw [← e j hj]
  exact h j hj
theorem zdE {p : Int64} {f g : Nat → Int64} (e : zE f g) : zE (q_dv p f) (q_dv p g) := fun j hj => by
  show f j / p = g j / p
  rw [e j hj]
theorem zprodE {f f2 g g2 : Nat → Int64} (h : zE f f2) (k : zE g g2) : zE (q_prod f g) (q_prod f2 g2) := fun j hj => by
  have a0 := h 0 (by omega)
  have a1 := h 1 (by omega)
  have a2 := h 2 (by omega)
  have a3 := h 3 (by omega)
  have a4 := h 4 (by omega)
  have a5 := h 5 (by omega)
  have a6 := h 6 (by omega)
  have a7 := h 7 (by omega)
  have b0 := k 0 (by omega)
  have b1 := k 1 (by omega)
  have b2 := k 2 (by omega)
  have b3 := k 3 (by omega)
  have b4 := k 4 (by omega)
  have b5 := k 5 (by omega)
  have b6 := k 6 (by omega)
  have b7 := k 7 (by omega)
  match j, hj with
  | 0, _ => simp only [q_prod, a0, a1, a2, a3, a4, a5, a6, a7, b0, b1, b2, b3, b4, b5, b6, b7]
  | 1, _ => simp only [q_prod, a0, a1, a2, a3, a4, a5, a6, a7, b0, b1, b2, b3, b4, b5, b6, b7]
  | 2, _ => simp only [q_prod, a0, a1, a2, a3, a4, a5, a6, a7, b0, b1, b2, b3, b4, b5, b6, b7]
  | 3, _ => simp only [q_prod, a0, a1, a2, a3, a4, a5, a6, a7, b0, b1, b2, b3, b4, b5, b6, b7]
  | 4, _ => simp only [q_prod, a0, a1, a2, a3, a4, a5, a6, a7, b0, b1, b2, b3, b4, b5, b6, b7]
  | 5, _ => simp only [q_prod, a0, a1, a2, a3, a4, a5, a6, a7, b0, b1, b2, b3, b4, b5, b6, b7]
  | 6, _ => simp only [q_prod, a0, a1, a2, a3, a4, a5, a6, a7, b0, b1, b2, b3, b4, b5, b6, b7]
  | 7, _ => simp only [q_prod, a0, a1, a2, a3, a4, a5, a6, a7, b0, b1, b2, b3, b4, b5, b6, b7]
  | j + 8, h => omega
/-- within a term: signs and sums at D stand too -/
def frT (D : Nat) (T T2 : q_T) : Prop := frS D T T2 ∧ t_sg T2 D = t_sg T D ∧ ∀ j, j < 8 * D + 8 → t_su T2 j = t_su T j
theorem frT.trans {D : Nat} {T T2 T3 : q_T} (a : frT D T T2) (b : frT D T2 T3) : frT D T T3 := ⟨a.1.trans b.1, b.2.1.trans a.2.1, fun j hj => (b.2.2 j hj).trans (a.2.2 j hj)⟩
theorem frF.t {D : Nat} {T T2 : q_T} (h : frF D T T2) : frT D T T2 := ⟨h.1, h.2.1, fun j hj => (h.2.2.2 j hj).1⟩
theorem frT.rfl {D : Nat} {T : q_T} : frT D T T := frF.rfl.t
theorem frT_put {T : q_T} {D : Nat} (hD : t_dp T = D) (g : Nat → Int64) (ct : Int32) : frT D T (r_put T g ct) := by
  refine ⟨⟨fun e he => ⟨rfl, ?_, ?_⟩, fun j hj => ⟨rfl, ?_⟩⟩, rfl, fun j hj => rfl⟩
  · show upd (t_hp T) (t_dp T) 1 e = t_hp T e
    exact if_neg (by omega)
  · show upd (t_dg T) (t_dp T) 1 e = t_dg T e
    exact if_neg (by omega)
  · show q_blk (t_pr T) (t_dp T) g j = t_pr T j
    exact if_neg (by omega)
theorem put_hp {T : q_T} {D : Nat} (hD : t_dp T = D) (g : Nat → Int64) (ct : Int32) : t_hp (r_put T g ct) D = 1 ∧ t_dg (r_put T g ct) D = 1 ∧ q_row8 (t_pr (r_put T g ct)) D = q_row8 (q_blk (t_pr T) D g) D := by
  refine ⟨?_, ?_, ?_⟩
  · show upd (t_hp T) (t_dp T) 1 D = 1
    exact if_pos hD.symm
  · show upd (t_dg T) (t_dp T) 1 D = 1
    exact if_pos hD.symm
  · show q_row8 (q_blk (t_pr T) (t_dp T) g) D = _
    rw [hD]
theorem blk_row (f : Nat → Int64) (D : Nat) (g : Nat → Int64) : zE (q_row8 (q_blk f D g) D) g := fun j hj => by
  show (if 8 * D ≤ 8 * D + j ∧ 8 * D + j < 8 * D + 8 then g (8 * D + j - 8 * D) else f (8 * D + j)) = g j
  rw [if_pos (by omega), show 8 * D + j - 8 * D = j by omega]
/-- a term is pending: what it is once its last factor is closed -/
def sPend (D : Nat) (T0 : q_T) (f : Nat → Int64) (p : Int32) (T T3 : q_T) : Prop := r_ends T = some T3 ∧ zE (q_row8 (t_pr T3) D) f ∧ t_hp T3 D = 1 ∧ t_dg T3 D = 1 ∧ t_dp T3 = D ∧ t_ct T3 = p ∧ q_hall 1 f ∧ frT D T0 T3
theorem s_pend1 {D : Nat} {T0 T : q_T} {f : Nat → Int64} {p : Int32} (h1 : q_hall 1 (s_sc D T)) (h2 : zE (q_dv 1 (s_sc D T)) f) (h3 : t_dp T = D) (h4 : t_ct T = p) (h5 : frT D T0 T) (h6 : t_hp T D = 0) : ∃ T3, sPend D T0 f p T T3 := by
  have e : q_scale T.1 (T.2.2.2.2.2.1 T.2.2.2.2.2.2.1).toInt64 = s_sc D T := by
    show q_scale (t_now T) (t_dg T (t_dp T)).toInt64 = s_sc D T
    rw [h3]
    rfl
  have e2 : r_ends T = some (r_put T (q_dv 1 (s_sc D T)) p) := by
    unfold r_ends
    rw [e, q_if_t _ _ h1]
    have : T.2.2.2.2.1 T.2.2.2.2.2.2.1 = 0 := by
      show t_hp T (t_dp T) = 0
      rw [h3]
      exact h6
    rw [q_if_t _ _ this]
    show some (r_put T _ (t_ct T)) = _
    rw [h4]
  obtain ⟨a, b, c⟩ := put_hp h3 (q_dv 1 (s_sc D T)) p
  exact ⟨_, e2, by rw [c]; exact (blk_row _ _ _).trans h2, a, b, h3, rfl, zhE h2 (zh1d h1), h5.trans (frT_put h3 _ _)⟩
theorem s_pend2 {D : Nat} {T0 T : q_T} {f g : Nat → Int64} {p : Int32} (h1 : q_hall 1 (s_sc D T)) (h2 : zE (q_dv 1 (s_sc D T)) f) (h3 : t_dp T = D) (h4 : t_ct T = p) (h5 : frT D T0 T) (h6 : t_hp T D = 1) (h7 : zE (q_row8 (t_pr T) D) g) : (q_fitx 1 (q_prod g f) → ∃ T3, sPend D T0 (q_fv 1 (q_prod g f)) (p + 1) T T3) ∧ (¬ q_fitx 1 (q_prod g f) → r_ends T = none) := by
  have e : q_scale T.1 (T.2.2.2.2.2.1 T.2.2.2.2.2.2.1).toInt64 = s_sc D T := by
    show q_scale (t_now T) (t_dg T (t_dp T)).toInt64 = s_sc D T
    rw [h3]
    rfl
  have e1 : q_row8 T.2.2.1 T.2.2.2.2.2.2.1 = q_row8 (t_pr T) D := by
    show q_row8 (t_pr T) (t_dp T) = _
    rw [h3]
  have hz : ¬ T.2.2.2.2.1 T.2.2.2.2.2.2.1 = 0 := by
    show ¬ t_hp T (t_dp T) = 0
    rw [h3, h6]
    decide
  obtain ⟨z1, z2⟩ := zfit 1 (by omega) 2 rfl (zprodE h7 h2).symm
  have e2 : r_ends T = q_if (q_hall 2 (q_prod (q_row8 (t_pr T) D) (q_dv 1 (s_sc D T)))) (some (r_put T (q_dv 2 (q_prod (q_row8 (t_pr T) D) (q_dv 1 (s_sc D T)))) (p + 1))) none := by
    unfold r_ends
    rw [e, e1, q_if_t _ _ h1, q_if_f _ _ hz]
    show q_if _ (some (r_put T _ (t_ct T + 1))) none = _
    rw [h4]
  refine ⟨fun z => ?_, fun z => ?_⟩
  · rw [q_if_t _ _ (z1.mp z)] at e2
    obtain ⟨a, b, c⟩ := put_hp h3 (q_dv 2 (q_prod (q_row8 (t_pr T) D) (q_dv 1 (s_sc D T)))) (p + 1)
    exact ⟨_, e2, by rw [c]; exact (blk_row _ _ _).trans (z2 z).symm, a, b, h3, rfl, zhE (z2 z).symm (zh1d (z1.mp z)), h5.trans (frT_put h3 _ _)⟩
  · rw [q_if_f _ _ (fun y => z (z1.mpr y))] at e2
    exact e2
def sPterm (bf : Nat → Int32) (D : Nat) (T0 : q_T) (q : v_T) (T : q_T) : Prop := (∃ T3, sPend D T0 q.1 q.2.2 T T3) ∧ q_syn bf q.2.1 = some (4, D) ∧ bf q.2.1 ≠ 39 ∧ bf q.2.1 ≠ 42
/-- as sRes, but nothing need be read -/
def sRes0 (R : Nat → Nat → Int64) (bf : Nat → Int32) (E c : Nat) (T : q_T) (o : Option v_T) (P : v_T → q_T → Prop) : Prop :=
  (o = none → ∃ n, c + n ≤ E ∧ r_fold R bf n T c = none) ∧ ∀ q, o = some q → ∃ T2, c ≤ q.2.1 ∧ q.2.1 < E ∧ r_fold R bf (q.2.1 - c) T c = some T2 ∧ P q T2
theorem sRes0.pre {R : Nat → Nat → Int64} {bf : Nat → Int32} {E c c2 : Nat} {T T2 : q_T} {o : Option v_T} {P : v_T → q_T → Prop} (hc : c ≤ c2) (h : r_fold R bf (c2 - c) T c = some T2) (k : sRes0 R bf E c2 T2 o P) : sRes0 R bf E c T o P := by
  refine ⟨fun ho => ?_, fun q ho => ?_⟩
  · obtain ⟨n, e1, e2⟩ := k.1 ho
    refine ⟨(c2 - c) + n, by omega, ?_⟩
    rw [r_fold_add _ n T T2 c h, show c + (c2 - c) = c2 by omega]
    exact e2
  · obtain ⟨T3, e1, e2, e3, e4⟩ := k.2 q ho
    refine ⟨T3, by omega, e2, ?_, e4⟩
    rw [show q.2.1 - c = (c2 - c) + (q.2.1 - c2) by omega, r_fold_add _ _ T T2 c h, show c + (c2 - c) = c2 by omega]
    exact e3
theorem sRes0.lt {R : Nat → Nat → Int64} {bf : Nat → Int32} {E c c2 : Nat} {T T2 : q_T} {o : Option v_T} {P : v_T → q_T → Prop} (hc : c < c2) (h : r_fold R bf (c2 - c) T c = some T2) (k : sRes0 R bf E c2 T2 o P) : sRes R bf E c T o P := by
  have k2 := k.pre (by omega) h
  refine ⟨k2.1, fun q ho => ?_⟩
  obtain ⟨T3, e1, e2, e3, e4⟩ := k2.2 q ho
  obtain ⟨T4, e5, -⟩ := k.2 q ho
  exact ⟨T3, by omega, e2, e3, e4⟩
section SIM
variable {bf : Nat → Int32} {L E : Nat} {R R2 : Nat → Nat → Int64}
theorem s_none {c n : Nat} {T T2 : q_T} (h : r_fold R2 bf n T c = some T2) (h2 : r_reads R2 T2 (bf (c + n)) = none) : r_fold R2 bf (n + 1) T c = none := by
  rw [r_fold_add n 1 T T2 c h]
  exact r_fold_n (k := 0) h2
theorem s_tl (hs : q_syn bf L = some (0, 0)) (hEL : E ≤ L) (hL : L ≤ 100) (he : bf (E - 1) = 59) {k : Nat} (hop : sOP R R2 bf L E k) (T0 : q_T) : ∀ (m : Nat) (f : Nat → Int64) (c : Nat) (p : Int32) (T T3 : q_T), L ≤ c + m → c < E → q_syn bf c = some (4, 6 - k) → bf c ≠ 39 → sPend (6 - k) T0 f p T T3 → sRes0 R2 bf E c T (v_tl bf L (v_op R bf L k) m f c p) (sPterm bf (6 - k) T0)
  | 0, f, c, p, T, T3, h1, h2, h3, h4, h5 => by omega
  | m + 1, f, c, p, T, T3, h1, h2, h3, h4, h5 => by
    rw [v_tl, s_at hEL h2]
    by_cases z : bf c = 42
    · rw [q_if_t _ _ z]
      obtain ⟨q, hq1, hq2⟩ := s_syn hs (by omega) h3
      have hcl := (s_close (R2 := R2) (T := T) hq1 h4).1
      obtain ⟨a1, a2, a3, a4, a5, a6, a7, a8⟩ := h5
      have hr : r_reads R2 T (bf c) = some T3 := by
        rw [hcl, a1]
        show r_close2 (bf c) (q_if (bf c = 42) (some T3) (r_endsTerm T3 (if bf c = 45 then -1 else 1))) = some T3
        rw [q_if_t _ _ z]
        show some (r_wD T3 (if bf c = 41 then t_dp T3 - 1 else t_dp T3)) = some T3
        rw [if_neg (by rw [z]; decide)]
        rfl
      have hq3 : q = (2, 6 - k) := by
        rcases q_fol_in (by omega) (by omega) hq1 with ⟨a, -⟩ | ⟨a, -⟩ | ⟨a, -⟩ | ⟨-, a, -⟩ | ⟨-, -, a⟩ | ⟨-, a, -⟩ | ⟨-, a, -⟩
        · omega
        · omega
        · omega
        · exact absurd a h4
        · exact a
        · rw [z] at a; exact absurd a (by decide)
        · rw [z] at a; exact absurd a (by decide)
      rw [hq3] at hq2
      have hc1 := s_nx he h2 (by rw [z]; decide)
      have hf := s_fac hs hEL hL he hop (c + 1) p T3 hq2 hc1 a5 a6 a4
      have h1f : r_fold R2 bf (c + 1 - c) T c = some T3 := by
        rw [show c + 1 - c = 1 by omega]
        exact r_fold_1 hr
      cases hv : v_fac bf L (v_op R bf L k) (c + 1) p with
      | none =>
        refine sRes0.pre (by omega) h1f ⟨fun _ => hf.1 hv, fun q hq => by cases hq⟩
      | some q1 =>
        obtain ⟨T5, b1, b2, b3, b4, b5, b6, b7, b8, b9, b10⟩ := hf.2 q1 hv
        show sRes0 R2 bf E c T (q_if (q_fitx 1 (q_prod f q1.1)) (v_tl bf L (v_op R bf L k) m (q_fv 1 (q_prod f q1.1)) q1.2.1 (q1.2.2 + 1)) none) (sPterm bf (6 - k) T0)
        obtain ⟨p1, p2⟩ := s_pend2 (T0 := T0) b4 b5 b6 b7 (a8.trans b8.t) (b8.2.2.1.trans a3) (f := q1.1) (g := f) (zE.trans (fun j hj => (b8.2.2.2 (8 * (6 - k) + j) (by omega)).2) a2)
        refine sRes0.pre (by omega) h1f (sRes0.pre (c2 := q1.2.1) (by omega) b3 ?_)
        by_cases y : q_fitx 1 (q_prod f q1.1)
        · rw [q_if_t _ _ y]
          obtain ⟨T6, h6⟩ := p1 y
          exact s_tl hs hEL hL he hop T0 m _ q1.2.1 _ T5 T6 (by omega) b2 b9 b10 h6
        · rw [q_if_f _ _ y]
          refine ⟨fun _ => ⟨1, by omega, ?_⟩, fun q hq => by cases hq⟩
          obtain ⟨q, hq1, -⟩ := s_syn hs (by omega) b9
          have hcl := (s_close (R2 := R2) (T := T5) hq1 b10).1
          refine s_none (n := 0) rfl ?_
          show r_reads R2 T5 (bf q1.2.1) = none
          rw [hcl, p2 y]
          rfl
    · rw [q_if_f _ _ z]
      refine ⟨fun h => (by cases h), fun q hq => ?_⟩
      cases hq
      refine ⟨T, Nat.le_refl _, h2, ?_, ⟨T3, h5⟩, h3, h4, z⟩
      show r_fold R2 bf (c - c) T c = some T
      rw [Nat.sub_self]
      rfl
theorem s_term (hs : q_syn bf L = some (0, 0)) (hEL : E ≤ L) (hL : L ≤ 100) (he : bf (E - 1) = 59) {k : Nat} (hop : sOP R R2 bf L E k) (c : Nat) (p : Int32) (T : q_T) (h1 : q_syn bf c = some (2, 6 - k)) (h2 : c < E) (h3 : t_dp T = 6 - k) (h4 : t_ct T = p) (h5 : t_dg T (6 - k) = 1) (h6 : t_hp T (6 - k) = 0) : sRes R2 bf E c T (v_term bf L (v_op R bf L k) c p) (sPterm bf (6 - k) T) := by
  have hf := s_fac hs hEL hL he hop c p T h1 h2 h3 h4 h5
  unfold v_term
  cases hv : v_fac bf L (v_op R bf L k) c p with
  | none => exact ⟨fun _ => hf.1 hv, fun q hq => by cases hq⟩
  | some q1 =>
    obtain ⟨T5, b1, b2, b3, b4, b5, b6, b7, b8, b9, b10⟩ := hf.2 q1 hv
    obtain ⟨T6, h6⟩ := s_pend1 (T0 := T) b4 b5 b6 b7 b8.t (b8.2.2.1.trans h6)
    exact sRes0.lt b1 b3 (s_tl hs hEL hL he hop T 100 _ q1.2.1 _ T5 T6 (by omega) b2 b9 b10 h6)
end SIM
