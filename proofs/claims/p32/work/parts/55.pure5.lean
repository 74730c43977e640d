/-! ===== pure 5 ===== -/
theorem zf_congr {f f2 g g2 : Nat → Int64} (h : ∀ j, j < 8 → f j = f2 j) (h2 : ∀ j, j < 8 → g j = g2 j) (q : q_first f g) : q_first f2 g2 := by
  obtain ⟨i, hi, a, b⟩ := q
  exact ⟨i, hi, fun j hj => by rw [← h j (by omega), ← h2 j (by omega)]; exact a j hj, by rw [← h i hi, ← h2 i hi]; exact b⟩
theorem zf_trans {f g k : Nat → Int64} (a : q_first f g) (b : q_first g k) : q_first f k := by
  obtain ⟨i, hi, a1, a2⟩ := a
  obtain ⟨j, hj, b1, b2⟩ := b
  rcases Nat.lt_trichotomy i j with h | h | h
  · exact ⟨i, hi, fun t ht => (a1 t ht).trans (b1 t (by omega)), by rw [← b1 i h]; exact a2⟩
  · subst h
    exact ⟨i, hi, fun t ht => (a1 t ht).trans (b1 t ht), zlt.mpr (Int.lt_trans (zlt.mp a2) (zlt.mp b2))⟩
  · exact ⟨j, hj, fun t ht => (a1 t (by omega)).trans (b1 t ht), by rw [a1 j h]; exact b2⟩
theorem zf_irr {f : Nat → Int64} (a : q_first f f) : False := by
  obtain ⟨i, -, -, a2⟩ := a
  have := zlt.mp a2
  omega
theorem zf_tri {f g : Nat → Int64} (a : ¬ q_first f g) (b : ¬ q_first g f) : ∀ n, n ≤ 8 → ∀ j, j < n → f j = g j
  | 0, _, j, hj => by omega
  | n + 1, hn, j, hj => by
    have ih := zf_tri a b n (by omega)
    by_cases e : j = n
    · subst e
      rcases Int.lt_trichotomy (f j).toInt (g j).toInt with q | q | q
      · exact absurd ⟨j, by omega, ih, zlt.mpr q⟩ a
      · exact zeq.mpr q
      · exact absurd ⟨j, by omega, fun t ht => (ih t ht).symm, zlt.mpr q⟩ b
    · exact ih j (by omega)
def zbt (F : Int64) (R : Nat → Int64) (G : Int64) (Q : Nat → Int64) : Prop := F < G ∨ (F = G ∧ q_first R Q)
theorem zbt_trans {F G H : Int64} {R Q T : Nat → Int64} (a : zbt F R G Q) (b : zbt G Q H T) : zbt F R H T := by
  rcases a with a | ⟨a, a2⟩
  · rcases b with b | ⟨b, b2⟩
    · exact Or.inl (zlt.mpr (Int.lt_trans (zlt.mp a) (zlt.mp b)))
    · exact Or.inl (b ▸ a)
  · rcases b with b | ⟨b, b2⟩
    · exact Or.inl (a ▸ b)
    · exact Or.inr ⟨a.trans b, zf_trans a2 b2⟩
theorem zbt_irr {F : Int64} {R : Nat → Int64} (a : zbt F R F R) : False := by
  rcases a with a | ⟨-, a⟩
  · have := zlt.mp a
    omega
  · exact zf_irr a
theorem zbt_congr {F G : Int64} {R Q R2 Q2 : Nat → Int64} (h : ∀ j, j < 8 → R j = R2 j) (h2 : ∀ j, j < 8 → Q j = Q2 j) (a : zbt F R G Q) : zbt F R2 G Q2 :=
  a.imp id (fun a => ⟨a.1, zf_congr h h2 a.2⟩)
/-- the least of the candidates of a set -/
def zmin (S : Nat → Prop) (F : Nat → Int64) (R : Nat → Nat → Int64) (st : Int64 × (Nat → Int64)) : Prop := ∃ w, S w ∧ st.1 = F w ∧ (∀ j, j < 8 → st.2 j = R w j) ∧ ∀ v, S v → ¬ zbt (F v) (R v) st.1 st.2
theorem zmin_put {S S2 : Nat → Prop} {F : Nat → Int64} {R : Nat → Nat → Int64} {st : Int64 × (Nat → Int64)} {w : Nat} {row : Nat → Int64} (h : zmin S F R st) (hS : ∀ v, S2 v ↔ S v ∨ v = w) (hr : ∀ j, j < 8 → row j = R w j) (hb : zbt (F w) row st.1 st.2) : zmin S2 F R (F w, row) := by
  obtain ⟨u, h1, h2, h3, h4⟩ := h
  refine ⟨w, (hS w).mpr (Or.inr rfl), rfl, hr, fun v hv q => ?_⟩
  rcases (hS v).mp hv with z | z
  · exact h4 v z (zbt_trans q hb)
  · subst z
    exact zbt_irr (zbt_congr (fun _ _ => rfl) hr q)
theorem zmin_keep {S S2 : Nat → Prop} {F : Nat → Int64} {R : Nat → Nat → Int64} {st : Int64 × (Nat → Int64)} {w : Nat} {row : Nat → Int64} (h : zmin S F R st) (hS : ∀ v, S2 v ↔ S v ∨ v = w) (hr : ∀ j, j < 8 → row j = R w j) (hb : ¬ zbt (F w) row st.1 st.2) : zmin S2 F R st := by
  obtain ⟨u, h1, h2, h3, h4⟩ := h
  refine ⟨u, (hS u).mpr (Or.inl h1), h2, h3, fun v hv q => ?_⟩
  rcases (hS v).mp hv with z | z
  · exact h4 v z q
  · subst z
    exact hb (zbt_congr (fun j hj => (hr j hj).symm) (fun _ _ => rfl) q)
theorem zmin_first {S : Nat → Prop} {F : Nat → Int64} {R : Nat → Nat → Int64} {w : Nat} {row : Nat → Int64} (hS : ∀ v, S v ↔ v = w) (hr : ∀ j, j < 8 → row j = R w j) : zmin S F R (F w, row) := by
  refine ⟨w, (hS w).mpr rfl, rfl, hr, fun v hv q => ?_⟩
  have z := (hS v).mp hv
  subst z
  exact zbt_irr (zbt_congr (fun _ _ => rfl) hr q)
theorem zmin_uniq {S S2 : Nat → Prop} {F : Nat → Int64} {R : Nat → Nat → Int64} {st su : Int64 × (Nat → Int64)} (h : zmin S F R st) (h2 : zmin S2 F R su) (hS : ∀ v, S v ↔ S2 v) : ∀ j, j < 8 → st.2 j = su.2 j := by
  obtain ⟨u, a1, a2, a3, a4⟩ := h
  obtain ⟨v, b1, b2, b3, b4⟩ := h2
  have c1 := a4 v ((hS v).mpr b1)
  have c2 := b4 u ((hS u).mp a1)
  rw [← b2] at c1
  rw [← a2] at c2
  have c1 : ¬ zbt su.1 su.2 st.1 st.2 := fun q => c1 (zbt_congr b3 (fun _ _ => rfl) q)
  have c2 : ¬ zbt st.1 st.2 su.1 su.2 := fun q => c2 (zbt_congr a3 (fun _ _ => rfl) q)
  have e : st.1 = su.1 := by
    rcases Int.lt_trichotomy st.1.toInt su.1.toInt with q | q | q
    · exact absurd (Or.inl (zlt.mpr q)) c2
    · exact zeq.mpr q
    · exact absurd (Or.inl (zlt.mpr q)) c1
  exact zf_tri (fun q => c2 (Or.inr ⟨e, q⟩)) (fun q => c1 (Or.inr ⟨e.symm, q⟩)) 8 (by omega)
theorem q_cq_new {nv ds : Nat → Nat → Int64} {o m : Nat} {q0 : Nat → Int64} (h : zbt (q_far ds (q_os o m) 8) (q_tv nv (q_os o m)) (q_cq nv ds o q0 m).1 (q_cq nv ds o q0 m).2) : q_cq nv ds o q0 (m + 1) = (q_far ds (q_os o m) 8, q_tv nv (q_os o m)) := by
  rw [q_cq]
  exact q_if_pos (Or.inr h)
theorem q_cq_keep {nv ds : Nat → Nat → Int64} {o m : Nat} {q0 : Nat → Int64} (hm : m ≠ 0) (h : ¬ zbt (q_far ds (q_os o m) 8) (q_tv nv (q_os o m)) (q_cq nv ds o q0 m).1 (q_cq nv ds o q0 m).2) : q_cq nv ds o q0 (m + 1) = q_cq nv ds o q0 m := by
  rw [q_cq]
  exact q_if_neg (fun y => y.elim hm h)
section NQ
variable {N : Int64} {p : Nat → Int64} (hN : 0 < N.toInt) (hN2 : zsm N) (hp : ∀ k, k < 8 → zsm (p k))
theorem zfar (w : Nat) (hN : 0 < N.toInt) (hN2 : zsm N) (hp : ∀ k, k < 8 → zsm (p k)) : ∀ n, n ≤ 8 → q_far (q_ds N p) (nI w) n = q_frr N p (q_ner N p w) n
  | 0, _ => rfl
  | n + 1, hn => by
    have e : q_hv N p (q_w (nI w) n) n = q_ner N p w n := zcand hN hN2 (hp n (by omega))
    rw [q_far, q_frr, zfar w hN hN2 hp n (by omega), q_ds, q_of, e, Int64.mul_comm N]
def zoff (N : Int64) (p h : Nat → Int64) (k : Nat) : Int := N.toInt * (h k).toInt - 2 * (p k).toInt
def zos (N : Int64) (p h : Nat → Int64) : Nat → Int
  | 0 => 0
  | k + 1 => zos N p h k + zoff N p h k * zoff N p h k
theorem zsq {x b : Int} (h1 : -b ≤ x) (h2 : x ≤ b) : 0 ≤ x * x ∧ x * x ≤ b * b := by
  constructor
  · rcases Int.le_total 0 x with h | h
    · exact Int.mul_nonneg h h
    · have := Int.mul_nonneg (show 0 ≤ -x by omega) (show 0 ≤ -x by omega)
      rw [Int.neg_mul_neg] at this
      exact this
  · rcases Int.le_total 0 x with h | h
    · exact Int.mul_le_mul h2 h2 h (by omega)
    · have := Int.mul_le_mul (show -x ≤ b by omega) (show -x ≤ b by omega) (by omega) (by omega)
      rw [Int.neg_mul_neg] at this
      exact this
theorem zner_b (w k : Nat) (hN : 0 < N.toInt) (hN2 : zsm N) (hp : zsm (p k)) : znear N.toInt (p k).toInt (q_w (nI w) k) (q_ner N p w k).toInt ∧ -400000001 ≤ (q_ner N p w k).toInt ∧ (q_ner N p w k).toInt ≤ 400000001 := by
  rw [← zcand hN hN2 hp]
  exact zhv hN hN2 hp (zw_lt (nI w) k)
theorem zfrr (w : Nat) (hN : 0 < N.toInt) (hN2 : zsm N) (hp : ∀ k, k < 8 → zsm (p k)) : ∀ n, n ≤ 8 → (q_frr N p (q_ner N p w) n).toInt = zos N p (q_ner N p w) n ∧ 0 ≤ zos N p (q_ner N p w) n ∧ zos N p (q_ner N p w) n ≤ n * 1600000000000000
  | 0, _ => ⟨rfl, Int.le_refl _, by simp [zos]⟩
  | n + 1, hn => by
    obtain ⟨a1, a2, a3⟩ := zfrr w hN hN2 hp n (by omega)
    obtain ⟨⟨b0, b1, b2⟩, b3, b4⟩ := zner_b w n hN hN2 (hp n (by omega))
    obtain ⟨n1, n2⟩ := hN2
    obtain ⟨p1, p2⟩ := hp n (by omega)
    have e1 : (q_ner N p w n).toInt * N.toInt = N.toInt * (q_ner N p w n).toInt := Int.mul_comm _ _
    have m1 : (q_ner N p w n * N).toInt = N.toInt * (q_ner N p w n).toInt := by
      rw [zmul] <;> rw [e1] <;> omega
    have m2 : (2 * p n).toInt = 2 * (p n).toInt := by
      rw [zmul] <;> rw [show (2 : Int64).toInt = 2 from rfl] <;> omega
    have m3 : (q_ner N p w n * N - 2 * p n).toInt = zoff N p (q_ner N p w) n := by
      unfold zoff
      rw [zsub] <;> rw [m1, m2] <;> omega
    have c1 : -40000000 ≤ zoff N p (q_ner N p w) n := by unfold zoff; omega
    have c2 : zoff N p (q_ner N p w) n ≤ 40000000 := by unfold zoff; omega
    obtain ⟨c3, c4⟩ := zsq c1 c2
    have m4 : ((q_ner N p w n * N - 2 * p n) * (q_ner N p w n * N - 2 * p n)).toInt = zoff N p (q_ner N p w) n * zoff N p (q_ner N p w) n := by
      rw [zmul] <;> rw [m3] <;> omega
    rw [q_frr, zos]
    refine ⟨?_, by omega, by omega⟩
    rw [zadd] <;> rw [a1, m4] <;> omega
theorem zq_class (o : Nat) (ho : o < 8) (q0 : Nat → Int64) (hN : 0 < N.toInt) (hN2 : zsm N) (hp : ∀ k, k < 8 → zsm (p k)) : ∀ m, m < 16 → zmin (fun w => ∃ t, t < m + 1 ∧ osN o t = w) (fun w => q_frr N p (q_ner N p w) 8) (fun w => q_ner N p w) (q_cq (q_hv N p) (q_ds N p) o q0 (m + 1))
  | 0, _ => by
    rw [q_cq, q_if_pos (Or.inl rfl), (os_ok o ho 0 (by omega)).1, zfar (osN o 0) hN hN2 hp 8 (by omega)]
    exact zmin_first (fun v => ⟨fun ⟨t, h1, h2⟩ => by rw [← h2, show t = 0 by omega], fun h => ⟨0, by omega, h.symm⟩⟩) (fun j hj => zcand hN hN2 (hp j hj))
  | m + 1, hm => by
    have ih := zq_class o ho q0 hN hN2 hp m (by omega)
    have hS : ∀ v, (∃ t, t < m + 1 + 1 ∧ osN o t = v) ↔ (∃ t, t < m + 1 ∧ osN o t = v) ∨ v = osN o (m + 1) := fun v => by
      constructor
      · rintro ⟨t, h1, h2⟩
        by_cases e : t = m + 1
        · exact Or.inr (by rw [← h2, e])
        · exact Or.inl ⟨t, by omega, h2⟩
      · rintro (⟨t, h1, h2⟩ | h)
        · exact ⟨t, by omega, h2⟩
        · exact ⟨m + 1, by omega, h.symm⟩
    have hr : ∀ j, j < 8 → q_tv (q_hv N p) (nI (osN o (m + 1))) j = q_ner N p (osN o (m + 1)) j := fun j hj => zcand hN hN2 (hp j hj)
    have eo := (os_ok o ho (m + 1) hm).1
    have ef := zfar (osN o (m + 1)) hN hN2 hp 8 (by omega)
    by_cases z : zbt (q_far (q_ds N p) (q_os o (m + 1)) 8) (q_tv (q_hv N p) (q_os o (m + 1))) (q_cq (q_hv N p) (q_ds N p) o q0 (m + 1)).1 (q_cq (q_hv N p) (q_ds N p) o q0 (m + 1)).2
    · rw [q_cq_new z]
      rw [eo, ef] at z ⊢
      exact zmin_put ih hS hr z
    · rw [q_cq_keep (by omega) z]
      rw [eo, ef] at z
      exact zmin_keep ih hS hr z
theorem zq_model (o : Nat) (q0 : Nat → Int64) (hN : 0 < N.toInt) (hN2 : zsm N) (hp : ∀ k, k < 8 → zsm (p k)) : ∀ w, ((q_dvS N p o q0 w).1 = -1 ∧ ∀ v, v < w → ¬ q_okS o v) ∨ zmin (fun v => v < w ∧ q_okS o v) (fun w => q_frr N p (q_ner N p w) 8) (fun w => q_ner N p w) (q_dvS N p o q0 w)
  | 0 => Or.inl ⟨rfl, fun v hv => by omega⟩
  | w + 1 => by
    have ih := zq_model o q0 hN hN2 hp w
    by_cases hs : q_okS o w
    rotate_left
    · rw [q_dvS_no hs]
      rcases ih with ⟨a, b⟩ | ih
      · refine Or.inl ⟨a, fun v hv => ?_⟩
        by_cases e : v = w
        · rw [e]; exact hs
        · exact b v (by omega)
      · refine Or.inr ?_
        obtain ⟨u, a1, a2, a3, a4⟩ := ih
        refine ⟨u, ⟨by have := a1.1; omega, a1.2⟩, a2, a3, fun v hv => a4 v ⟨?_, hv.2⟩⟩
        rcases Nat.lt_or_ge v w with q | q
        · exact q
        · have : v = w := by have := hv.1; omega
          exact absurd (this ▸ hv.2) hs
    have hS : ∀ v, (v < w + 1 ∧ q_okS o v) ↔ (v < w ∧ q_okS o v) ∨ v = w := fun v => by
      constructor
      · rintro ⟨h1, h2⟩
        by_cases e : v = w
        · exact Or.inr e
        · exact Or.inl ⟨by omega, h2⟩
      · rintro (⟨h1, h2⟩ | h)
        · exact ⟨by omega, h2⟩
        · exact ⟨by omega, h ▸ hs⟩
    rcases ih with ⟨a, b⟩ | ih
    · have hb : q_btr N p w (q_dvS N p o q0 w) := Or.inl (by rw [a]; decide)
      rw [q_dvS_new hs hb]
      refine Or.inr (zmin_first (fun v => ?_) (fun _ _ => rfl))
      rw [hS v]
      constructor
      · rintro (⟨h1, h2⟩ | h)
        · exact absurd h2 (b v h1)
        · exact h
      · exact Or.inr
    · have hnn : ¬ (q_dvS N p o q0 w).1 < 0 := by
        obtain ⟨u, a1, a2, a3, a4⟩ := ih
        obtain ⟨b1, b2, b3⟩ := zfrr u hN hN2 hp 8 (by omega)
        intro q
        rw [a2] at q
        have q := zlt.mp q
        rw [show (0 : Int64).toInt = 0 from rfl, b1] at q
        omega
      by_cases z : zbt (q_frr N p (q_ner N p w) 8) (q_ner N p w) (q_dvS N p o q0 w).1 (q_dvS N p o q0 w).2
      · rw [q_dvS_new hs (Or.inr z)]
        exact Or.inr (zmin_put ih hS (fun _ _ => rfl) z)
      · rw [q_dvS_keep hs (fun y => y.elim hnn z)]
        exact Or.inr (zmin_keep ih hS (fun _ _ => rfl) z)
theorem okP_0 : ∀ o, o < 8 → okP o 0 := by
  unfold okP
  decide +kernel
theorem zq_same (o : Nat) (ho : o < 8) (q0 q1 : Nat → Int64) (hN : 0 < N.toInt) (hN2 : zsm N) (hp : ∀ k, k < 8 → zsm (p k)) : (∀ j, j < 8 → (q_cq (q_hv N p) (q_ds N p) o q0 (q_sets o)).2 j = (q_dvS N p o q1 256).2 j) ∧ zmin (fun v => v < 256 ∧ okP o v) (fun w => q_frr N p (q_ner N p w) 8) (fun w => q_ner N p w) (q_dvS N p o q1 256) := by
  have hs := sets_le o
  obtain ⟨m, hm⟩ : ∃ m, q_sets o = m + 1 := ⟨q_sets o - 1, by
    have : 0 < q_sets o := by
      unfold q_sets
      by_cases h : o = 0
      · rw [if_pos h]; omega
      · rw [if_neg h]; omega
    omega⟩
  have h1 := zq_class o ho q0 hN hN2 hp m (by omega)
  rw [← hm] at h1
  have h2 : zmin (fun v => v < 256 ∧ okP o v) (fun w => q_frr N p (q_ner N p w) 8) (fun w => q_ner N p w) (q_dvS N p o q1 256) := by
    rcases zq_model o q1 hN hN2 hp 256 with ⟨-, b⟩ | ⟨u, a1, a2, a3, a4⟩
    · exact absurd ((okS_ok ho (by omega)).mpr (okP_0 o ho)) (b 0 (by omega))
    · exact ⟨u, ⟨a1.1, (okS_ok ho a1.1).mp a1.2⟩, a2, a3, fun v hv => a4 v ⟨hv.1, (okS_ok ho hv.1).mpr hv.2⟩⟩
  refine ⟨zmin_uniq h1 h2 (fun v => ?_), h2⟩
  constructor
  · rintro ⟨t, ht, e⟩
    have hv : v < 256 := by rw [← e]; exact (os_ok o ho t (by omega)).2
    exact ⟨hv, (okP_os o ho v hv).mp ⟨t, by omega, e⟩⟩
  · rintro ⟨hv, hk⟩
    obtain ⟨t, ht, e⟩ := (okP_os o ho v hv).mpr hk
    exact ⟨t, by omega, e⟩
end NQ

