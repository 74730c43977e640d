/-! ===== pure: carryOut: the descent of the class and the reader of the model ===== -/
abbrev t_now (T : q_T) : Nat → Int64 := T.1
abbrev t_su (T : q_T) : Nat → Int64 := T.2.1
abbrev t_pr (T : q_T) : Nat → Int64 := T.2.2.1
abbrev t_sg (T : q_T) : Nat → Int32 := T.2.2.2.1
abbrev t_hp (T : q_T) : Nat → Int32 := T.2.2.2.2.1
abbrev t_dg (T : q_T) : Nat → Int32 := T.2.2.2.2.2.1
abbrev t_dp (T : q_T) : Nat := T.2.2.2.2.2.2.1
abbrev t_ct (T : q_T) : Int32 := T.2.2.2.2.2.2.2
theorem r_fold_add {R : Nat → Nat → Int64} {bf : Nat → Int32} : ∀ (n m : Nat) (T T2 : q_T) (c : Nat), r_fold R bf n T c = some T2 → r_fold R bf (n + m) T c = r_fold R bf m T2 (c + n)
  | 0, m, T, T2, c, h => by
    cases h
    rw [Nat.zero_add, Nat.add_zero]
  | n + 1, m, T, T2, c, h => by
    cases hr : r_reads R T (bf c) with
    | none => rw [r_fold_n hr] at h; cases h
    | some T3 =>
      rw [r_fold_s hr] at h
      rw [show n + 1 + m = (n + m) + 1 by omega, r_fold_s hr, r_fold_add n m T3 T2 (c + 1) h, show c + 1 + n = c + (n + 1) by omega]
theorem r_fold_non {R : Nat → Nat → Int64} {bf : Nat → Int32} : ∀ (n m : Nat) (T : q_T) (c : Nat), r_fold R bf n T c = none → r_fold R bf (n + m) T c = none
  | 0, m, T, c, h => by cases h
  | n + 1, m, T, c, h => by
    cases hr : r_reads R T (bf c) with
    | none => rw [show n + 1 + m = (n + m) + 1 by omega, r_fold_n hr]
    | some T3 =>
      rw [r_fold_s hr] at h
      rw [show n + 1 + m = (n + m) + 1 by omega, r_fold_s hr, r_fold_non n m T3 (c + 1) h]
theorem r_fold_1 {R : Nat → Nat → Int64} {bf : Nat → Int32} {T T2 : q_T} {c : Nat} (h : r_reads R T (bf c) = some T2) : r_fold R bf 1 T c = some T2 := by
  rw [r_fold_s h]
  rfl
/-- rows that agree on their eight places -/
def zE (f g : Nat → Int64) : Prop := ∀ j, j < 8 → f j = g j
theorem zE.rfl {f : Nat → Int64} : zE f f := fun _ _ => Eq.refl _
theorem zE.symm {f g : Nat → Int64} (h : zE f g) : zE g f := fun j hj => (h j hj).symm
theorem zE.trans {f g k : Nat → Int64} (h : zE f g) (h2 : zE g k) : zE f k := fun j hj => (h j hj).trans (h2 j hj)
theorem zfit {f g : Nat → Int64} (t : Nat) (ht : t < 3) (p : Int64) (hp : p.toInt = 2 ^ t) (h : zE f g) : (q_fitx (nI t) f ↔ q_hall p g) ∧ (q_fitx (nI t) f → zE (q_fv (nI t) f) (q_dv p g)) := by
  refine ⟨⟨fun q j hj => ?_, fun q j hj => ?_⟩, fun q j hj => ?_⟩
  · rw [← h j hj]
    exact (zokc t ht p hp (f j)).1.mp (q j hj)
  · have := q j hj
    rw [← h j hj] at this
    exact (zokc t ht p hp (f j)).1.mpr this
  · show q_sh (nI t) (f j) = g j / p
    rw [← h j hj]
    exact (zokc t ht p hp (f j)).2 (q j hj)
theorem zdv1 {f : Nat → Int64} (h : q_hall 1 f) : zE (q_dv 1 f) f := fun j hj => by
  have h := (h j hj).1
  show f j / 1 = f j
  have e : f j / 1 * 1 = f j / 1 := Int64.mul_one _
  rw [e] at h
  have := congrArg Int64.toInt h
  have h2 := (zrem (x := f j) (p := 1) (by decide) (by decide)).2
  rw [zeq, h2]
  exact Int.tdiv_one _
/-- all below the depth D stands as it stood -/
def frS (D : Nat) (T T2 : q_T) : Prop := (∀ e, e < D → t_sg T2 e = t_sg T e ∧ t_hp T2 e = t_hp T e ∧ t_dg T2 e = t_dg T e) ∧ ∀ j, j < 8 * D → t_su T2 j = t_su T j ∧ t_pr T2 j = t_pr T j
/-- and at D too, but the digit -/
def frF (D : Nat) (T T2 : q_T) : Prop := frS D T T2 ∧ t_sg T2 D = t_sg T D ∧ t_hp T2 D = t_hp T D ∧ ∀ j, j < 8 * D + 8 → t_su T2 j = t_su T j ∧ t_pr T2 j = t_pr T j
theorem frS.trans {D : Nat} {T T2 T3 : q_T} (a : frS D T T2) (b : frS D T2 T3) : frS D T T3 := ⟨fun e he => ⟨(b.1 e he).1.trans (a.1 e he).1, (b.1 e he).2.1.trans (a.1 e he).2.1, (b.1 e he).2.2.trans (a.1 e he).2.2⟩, fun j hj => ⟨(b.2 j hj).1.trans (a.2 j hj).1, (b.2 j hj).2.trans (a.2 j hj).2⟩⟩
theorem frF.trans {D : Nat} {T T2 T3 : q_T} (a : frF D T T2) (b : frF D T2 T3) : frF D T T3 := ⟨a.1.trans b.1, b.2.1.trans a.2.1, b.2.2.1.trans a.2.2.1, fun j hj => ⟨(b.2.2.2 j hj).1.trans (a.2.2.2 j hj).1, (b.2.2.2 j hj).2.trans (a.2.2.2 j hj).2⟩⟩
theorem frS.rfl {D : Nat} {T : q_T} : frS D T T := ⟨fun _ _ => ⟨Eq.refl _, Eq.refl _, Eq.refl _⟩, fun _ _ => ⟨Eq.refl _, Eq.refl _⟩⟩
theorem frF.rfl {D : Nat} {T : q_T} : frF D T T := ⟨frS.rfl, Eq.refl _, Eq.refl _, fun _ _ => ⟨Eq.refl _, Eq.refl _⟩⟩
theorem frF.up {D : Nat} {T T2 : q_T} (h : frS (D + 1) T T2) : frF D T T2 := ⟨⟨fun e he => h.1 e (by omega), fun j hj => h.2 j (by omega)⟩, (h.1 D (by omega)).1, (h.1 D (by omega)).2.1, fun j hj => h.2 j (by omega)⟩
/-- what the descent answers against what the reader does: at c, up to E -/
def sRes (R : Nat → Nat → Int64) (bf : Nat → Int32) (E c : Nat) (T : q_T) (o : Option v_T) (P : v_T → q_T → Prop) : Prop :=
  (o = none → ∃ n, c + n ≤ E ∧ r_fold R bf n T c = none) ∧ ∀ q, o = some q → ∃ T2, c < q.2.1 ∧ q.2.1 < E ∧ r_fold R bf (q.2.1 - c) T c = some T2 ∧ P q T2
section SIM
variable {bf : Nat → Int32} {L E : Nat} {R R2 : Nat → Nat → Int64}
theorem s_nx (he : bf (E - 1) = 59) {c : Nat} (hc : c < E) (h : bf c ≠ 59) : c + 1 < E := by
  rcases Nat.lt_or_ge (c + 1) E with q | q
  · exact q
  · rw [show E - 1 = c by omega] at he
    exact absurd he h
theorem s_at (hEL : E ≤ L) {c : Nat} (hc : c < E) : q_at bf L c = bf c := if_pos (by omega)
theorem s_syn (hs : q_syn bf L = some (0, 0)) {c st D : Nat} (hc : c < L) (h : q_syn bf c = some (st, D)) : ∃ q, q_fol st D (bf c) = some q ∧ q_syn bf (c + 1) = some q := by
  obtain ⟨q, hq⟩ := q_syn_all (bf := bf) (q := (0, 0)) (L - (c + 1)) (c + 1) (by rw [show c + 1 + (L - (c + 1)) = L by omega]; exact hs)
  exact ⟨q, by rw [← q_syn_step h]; exact hq, hq⟩
theorem s_mir {f g : Nat → Int64} (h : zE f g) : zE (q_mirror f) (q_mirror g) := fun j hj => by
  have e : f j = g j := h j hj
  unfold q_mirror
  rw [e]
/-- apostrophes -/
theorem s_quo (hs : q_syn bf L = some (0, 0)) (hEL : E ≤ L) (he : bf (E - 1) = 59) {D : Nat} : ∀ (m : Nat) (f : Nat → Int64) (c : Nat) (T : q_T), q_syn bf c = some (4, D) → c < E → L ≤ c + m → zE (t_now T) f → ∃ g, zE g (v_quo bf L m f c).1 ∧ c ≤ (v_quo bf L m f c).2 ∧ (v_quo bf L m f c).2 < E ∧ r_fold R2 bf ((v_quo bf L m f c).2 - c) T c = some (g, T.2) ∧ q_syn bf (v_quo bf L m f c).2 = some (4, D) ∧ bf (v_quo bf L m f c).2 ≠ 39
  | 0, f, c, T, h1, h2, h3, h4 => by omega
  | m + 1, f, c, T, h1, h2, h3, h4 => by
    rw [v_quo, s_at hEL h2]
    by_cases z : bf c = 39
    · rw [q_if_t _ _ z]
      have hr : r_reads R2 T (bf c) = some (q_mirror T.1, T.2) := by
        rw [z]
        unfold r_reads
        rw [q_if_neg (fun q => absurd q.1 (by decide)), q_if_neg (fun q => absurd q.1 (by decide)), q_if_neg (by decide), q_if_pos rfl]
        rfl
      obtain ⟨q, hq1, hq2⟩ := s_syn hs (by omega) h1
      have hq3 : q = (4, D) := by
        rcases q_fol_in (by omega) (by omega) hq1 with ⟨a, -⟩ | ⟨a, -⟩ | ⟨a, -⟩ | ⟨-, -, a⟩ | ⟨-, a, -⟩ | ⟨-, a, -⟩ | ⟨-, a, -⟩
        · omega
        · omega
        · omega
        · exact a
        · rw [z] at a; exact absurd a (by decide)
        · rw [z] at a; exact absurd a (by decide)
        · rw [z] at a; exact absurd a (by decide)
      rw [hq3] at hq2
      have hc1 := s_nx he h2 (by rw [z]; decide)
      obtain ⟨g, g1, g2, g3, g4, g5, g6⟩ := s_quo hs hEL he m (q_mirror f) (c + 1) (q_mirror T.1, T.2) hq2 hc1 (by omega) (s_mir h4)
      refine ⟨g, g1, by omega, g3, ?_, g5, g6⟩
      rw [show (v_quo bf L m (q_mirror f) (c + 1)).2 - c = 1 + ((v_quo bf L m (q_mirror f) (c + 1)).2 - (c + 1)) by omega, r_fold_add 1 _ T _ c (r_fold_1 hr)]
      exact g4
    · rw [q_if_f _ _ z]
      refine ⟨T.1, h4, Nat.le_refl _, h2, ?_, h1, z⟩
      rw [Nat.sub_self]
      rfl
def s_sc (D : Nat) (T : q_T) : Nat → Int64 := q_scale (t_now T) (t_dg T D).toInt64
def sPop (bf : Nat → Int32) (D : Nat) (T : q_T) (q : v_T) (T2 : q_T) : Prop := zE (t_now T2) q.1 ∧ t_dp T2 = D ∧ t_ct T2 = q.2.2 ∧ frF D T T2 ∧ t_dg T2 D = t_dg T D ∧ q_syn bf q.2.1 = some (4, D)
def sPfac (bf : Nat → Int32) (D : Nat) (T : q_T) (q : v_T) (T2 : q_T) : Prop := q_hall 1 (s_sc D T2) ∧ zE (q_dv 1 (s_sc D T2)) q.1 ∧ t_dp T2 = D ∧ t_ct T2 = q.2.2 ∧ frF D T T2 ∧ q_syn bf q.2.1 = some (4, D) ∧ bf q.2.1 ≠ 39
def sOP (R R2 : Nat → Nat → Int64) (bf : Nat → Int32) (L E k : Nat) : Prop := ∀ (c : Nat) (p : Int32) (T : q_T) (st : Nat), (st = 2 ∧ ¬ q_digit (bf c)) ∨ st = 3 → q_syn bf c = some (st, 6 - k) → c < E → t_dp T = 6 - k → t_ct T = p → sRes R2 bf E c T (v_op R bf L k c p) (sPop bf (6 - k) T)
/-- a byte that closes a factor -/
theorem s_close {T : q_T} {x : Int32} {D : Nat} {q : Nat × Nat} (h : q_fol 4 D x = some q) (h39 : x ≠ 39) : r_reads R2 T x = r_close x (r_ends T) ∧ (x = 42 ∨ x = 43 ∨ x = 45 ∨ (x = 41 ∧ 0 < D) ∨ (x = 59 ∧ D = 0)) := by
  have hx : x = 42 ∨ x = 43 ∨ x = 45 ∨ (x = 41 ∧ 0 < D) ∨ (x = 59 ∧ D = 0) := by
    rcases q_fol_in (by omega) (by omega) h with ⟨a, -⟩ | ⟨a, -⟩ | ⟨a, -⟩ | ⟨-, a, -⟩ | ⟨-, a, -⟩ | ⟨-, a, a2, -⟩ | ⟨-, a, a2, -⟩
    · omega
    · omega
    · omega
    · exact absurd a h39
    · rcases a with a | a | a
      · exact Or.inl a
      · exact Or.inr (Or.inl a)
      · exact Or.inr (Or.inr (Or.inl a))
    · exact Or.inr (Or.inr (Or.inr (Or.inl ⟨a, a2⟩)))
    · exact Or.inr (Or.inr (Or.inr (Or.inr ⟨a, a2⟩)))
  refine ⟨?_, hx⟩
  unfold r_reads
  rcases hx with e | e | e | ⟨e, -⟩ | ⟨e, -⟩ <;> rw [e, q_if_neg (fun q => absurd q (by unfold q_digit; decide)), q_if_neg (fun q => absurd q (by unfold q_letter; decide)), q_if_neg (by decide), q_if_neg (by decide)]
theorem s_fac (hs : q_syn bf L = some (0, 0)) (hEL : E ≤ L) (hL : L ≤ 100) (he : bf (E - 1) = 59) {k : Nat} (hop : sOP R R2 bf L E k) (c : Nat) (p : Int32) (T : q_T) (h1 : q_syn bf c = some (2, 6 - k)) (h2 : c < E) (h3 : t_dp T = 6 - k) (h4 : t_ct T = p) (h5 : t_dg T (6 - k) = 1) : sRes R2 bf E c T (v_fac bf L (v_op R bf L k) c p) (sPfac bf (6 - k) T) := by
  have hat := s_at (bf := bf) hEL h2
  -- the digit
  have hd : ∃ T1 n1 st, (n1 = 0 ∨ n1 = 1) ∧ r_fold R2 bf n1 T c = some T1 ∧ v_dc bf L c = c + n1 ∧ c + n1 < E ∧ ((st = 2 ∧ ¬ q_digit (bf (c + n1))) ∨ st = 3) ∧ q_syn bf (c + n1) = some (st, 6 - k) ∧ t_dg T1 (6 - k) = v_dt bf L c ∧ t_dp T1 = 6 - k ∧ t_ct T1 = p ∧ frF (6 - k) T T1 := by
    by_cases z : q_digit (bf c)
    · have hr : r_reads R2 T (bf c) = some (r_wG T (bf c - 48)) := q_if_pos z
      obtain ⟨q, hq1, hq2⟩ := s_syn hs (by omega) h1
      have hq3 : q = (3, 6 - k) := by
        have : q_if (q_digit (bf c)) (some (3, 6 - k)) (q_fop (6 - k) (bf c)) = some q := hq1
        rw [q_if_pos z] at this
        exact (Option.some.inj this).symm
      rw [hq3] at hq2
      have hc1 := s_nx he h2 (fun e => by rw [e] at z; exact absurd z.2 (by decide))
      refine ⟨r_wG T (bf c - 48), 1, 3, Or.inr rfl, r_fold_1 hr, ?_, hc1, Or.inr rfl, hq2, ?_, h3, h4, ⟨⟨fun e he => ⟨rfl, rfl, ?_⟩, fun j hj => ⟨rfl, rfl⟩⟩, rfl, rfl, fun j hj => ⟨rfl, rfl⟩⟩⟩
      · unfold v_dc
        rw [hat, q_if_t _ _ z]
      · show upd (t_dg T) (t_dp T) (bf c - 48) (6 - k) = v_dt bf L c
        unfold v_dt
        rw [hat, q_if_t _ _ z, h3]
        exact if_pos rfl
      · show upd (t_dg T) (t_dp T) (bf c - 48) e = t_dg T e
        rw [h3]
        exact if_neg (by omega)
    · refine ⟨T, 0, 2, Or.inl rfl, rfl, ?_, h2, Or.inl ⟨rfl, z⟩, h1, ?_, h3, h4, frF.rfl⟩
      · unfold v_dc
        rw [hat, q_if_f _ _ z]
        rfl
      · unfold v_dt
        rw [hat, q_if_f _ _ z]
        exact h5
  obtain ⟨T1, n1, st, d1, d2, d3, d4, d5, d6, d7, d8, d9, d10⟩ := hd
  obtain ⟨o1, o2⟩ := hop (c + n1) p T1 st d5 d6 d4 d8 d9
  unfold v_fac
  rw [d3]
  cases ho : v_op R bf L k (c + n1) p with
  | none =>
    obtain ⟨n, e1, e2⟩ := o1 ho
    refine ⟨fun _ => ⟨n1 + n, by omega, ?_⟩, fun q hq => by cases hq⟩
    rw [r_fold_add n1 n T T1 c d2]
    exact e2
  | some q1 =>
    obtain ⟨T2, a1, a2, a3, a4, a5, a6, a7, a8, a9⟩ := o2 q1 ho
    show sRes R2 bf E c T (v_fin bf L (v_dt bf L c) q1) (sPfac bf (6 - k) T)
    obtain ⟨g, g1, g2, g3, g4, g5, g6⟩ := s_quo (R2 := R2) hs hEL he 100 q1.1 q1.2.1 T2 a9 a2 (by omega) a4
    generalize hv : v_quo bf L 100 q1.1 q1.2.1 = v at g1 g2 g3 g4 g5 g6
    have hto : r_fold R2 bf (v.2 - c) T c = some (g, T2.2) := by
      rw [show v.2 - c = n1 + ((q1.2.1 - (c + n1)) + (v.2 - q1.2.1)) by omega, r_fold_add n1 _ T T1 c d2, r_fold_add _ _ T1 T2 _ a3, show c + n1 + (q1.2.1 - (c + n1)) = q1.2.1 by omega]
      exact g4
    have hdg : t_dg T2 (6 - k) = v_dt bf L c := a8.trans d7
    have hsc : zE (q_scale v.1 (v_dt bf L c).toInt64) (s_sc (6 - k) (g, T2.2)) := fun j hj => by
      show v.1 j * (v_dt bf L c).toInt64 = g j * (t_dg T2 (6 - k)).toInt64
      rw [hdg, g1 j hj]
    obtain ⟨z1, z2⟩ := zfit 0 (by omega) 1 rfl hsc
    have hfin : v_fin bf L (v_dt bf L c) q1 = q_if (q_fitx 0 (q_scale v.1 (v_dt bf L c).toInt64)) (some (q_fv 0 (q_scale v.1 (v_dt bf L c).toInt64), v.2, q1.2.2)) none := by
      rw [← hv]
      rfl
    rw [hfin]
    by_cases z : q_fitx 0 (q_scale v.1 (v_dt bf L c).toInt64)
    · rw [q_if_t _ _ z]
      refine ⟨fun h => (by cases h), fun q hq => ?_⟩
      cases hq
      exact ⟨(g, T2.2), by show c < v.2; omega, g3, hto, z1.mp z, (z2 z).symm, a5, a6, d10.trans a7, g5, g6⟩
    · rw [q_if_f _ _ z]
      refine ⟨fun _ => ⟨(v.2 - c) + 1, by omega, ?_⟩, fun q hq => by cases hq⟩
      obtain ⟨q, hq1, hq2⟩ := s_syn hs (by omega) g5
      have hcl := (s_close (R2 := R2) (T := (g, T2.2)) hq1 g6).1
      have hne : r_ends (g, T2.2) = none := by
        unfold r_ends
        have e : q_scale g ((t_dg T2) (t_dp T2)).toInt64 = s_sc (6 - k) (g, T2.2) := by rw [a5]; rfl
        refine q_if_neg (fun y => z (z1.mpr ?_))
        rw [← e]
        exact y
      rw [r_fold_add _ 1 T _ c hto, show c + (v.2 - c) = v.2 by omega]
      refine r_fold_n (k := 0) ?_
      rw [hcl, hne]
      rfl
end SIM
