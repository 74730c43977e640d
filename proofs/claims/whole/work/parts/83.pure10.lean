/-! ===== pure: Euclid's steps; the coupling of a state ===== -/
theorem zpos {f : Nat → Int64} (h : zok f) (h0 : q_inner f f 8 ≠ 0) : 0 < q_inner f f 8 := by
  rw [zlt, show (0 : Int64).toInt = 0 from rfl, zok_N h]
  have := zn_nn (zi f)
  rcases Int.lt_or_le 0 (zn (zi f)) with q | q
  · exact q
  · exact absurd (zeq.mpr (by rw [zok_N h, show (0 : Int64).toInt = 0 from rfl]; omega)) h0
theorem zeu {f g f2 g2 : Nat → Int64} {o : Nat} (ho : o < 8) (e1 : ∀ j, j < 8 → f j = f2 j) (e2 : ∀ j, j < 8 → g j = g2 j) (hf : zok f2) (hg : zok g2) (hof : zlat o (zi f2)) (hog : zlat o (zi g2)) : ∀ k, (∀ j, 1 ≤ j → j < k + 1 → q_nrm (m_eu f2 g2 o j) ≠ 0) → (∀ j, j < 8 → (q_eu f g o k).1 j = m_eu f2 g2 o k j) ∧ (∀ j, j < 8 → (q_eu f g o k).2 j = m_eu f2 g2 o (k + 1) j) ∧ zok (m_eu f2 g2 o k) ∧ zok (m_eu f2 g2 o (k + 1)) ∧ zlat o (zi (m_eu f2 g2 o k)) ∧ zlat o (zi (m_eu f2 g2 o (k + 1)))
  | 0, _ => ⟨e1, e2, hf, hg, hof, hog⟩
  | k + 1, h => by
    obtain ⟨a1, a2, a3, a4, a5, a6⟩ := zeu ho e1 e2 hf hg hof hog k (fun j h1 h2 => h j h1 (by omega))
    obtain ⟨-, b2, b3, b4⟩ := zdv ho a1 a2 a3 a4 (h (k + 1) (by omega) (by omega)) a5 a6
    exact ⟨a2, b2, a4, b3, a6, b4⟩
/-- a row that is small enough is 0 where its norm is -/
theorem zzr {f : Nat → Int64} (h : zok f) : q_zr f ↔ q_inner f f 8 = 0 := by
  constructor
  · intro z
    have e : ∀ k, k ≤ 8 → q_inner f f k = 0 := fun k => by
      induction k with
      | zero => exact fun _ => rfl
      | succ k ih =>
        intro hk
        show q_inner f f k + f k * f k = 0
        rw [ih (by omega), z k (by omega)]
        rfl
    exact e 8 (Nat.le_refl 8)
  · intro z j hj
    have h1 := zn_ge (zi f) j hj
    have h2 : zn (zi f) = 0 := by rw [← zok_N h, z]; rfl
    rw [h2] at h1
    have h3 : zi f j * zi f j = 0 := Int.le_antisymm h1 (by rcases Int.le_total 0 (zi f j) with q | q; exact Int.mul_nonneg q q; exact Int.mul_nonneg_of_nonpos_of_nonpos q q)
    rw [zeq]
    show zi f j = 0
    rcases Int.mul_eq_zero.mp h3 with q | q <;> exact q
theorem zzrE {f g : Nat → Int64} (e : ∀ j, j < 8 → f j = g j) : q_zr f ↔ q_zr g := ⟨fun h j hj => (e j hj).symm.trans (h j hj), fun h j hj => (e j hj).trans (h j hj)⟩
theorem zer {f g f2 g2 : Nat → Int64} {o : Nat} (ho : o < 8) (e1 : ∀ j, j < 8 → f j = f2 j) (e2 : ∀ j, j < 8 → g j = g2 j) (hf : zok f2) (hg : zok g2) (hof : zlat o (zi f2)) (hog : zlat o (zi g2)) (hN : q_inner g2 g2 8 ≠ 0) : ∀ k, (∀ j, j < k → ¬ q_zr (q_er f g o j)) → (∀ j, j < k + 1 → q_nrm (m_eu f2 g2 o (j + 1)) ≠ 0) ∧ (q_zr (q_er f g o k) ↔ q_nrm (m_eu f2 g2 o (k + 2)) = 0)
  | 0, _ => by
    have h0 : ∀ j, j < 0 + 1 → q_nrm (m_eu f2 g2 o (j + 1)) ≠ 0 := fun j hj => by
      rw [show j = 0 by omega]
      exact hN
    refine ⟨h0, ?_⟩
    obtain ⟨-, b2, -, b4, -⟩ := zeu ho e1 e2 hf hg hof hog 1 (fun j h1 h2 => by rw [show j = 0 + 1 by omega]; exact h0 0 (by omega))
    exact (zzrE b2).trans (zzr b4)
  | k + 1, h => by
    obtain ⟨a1, a2⟩ := zer ho e1 e2 hf hg hof hog hN k (fun j hj => h j (by omega))
    have h0 : ∀ j, j < k + 1 + 1 → q_nrm (m_eu f2 g2 o (j + 1)) ≠ 0 := fun j hj => by
      by_cases e : j = k + 1
      · rw [e, show k + 1 + 1 = k + 2 from rfl]
        exact fun q => h k (by omega) (a2.mpr q)
      · exact a1 j (by omega)
    refine ⟨h0, ?_⟩
    obtain ⟨-, b2, -, b4, -⟩ := zeu ho e1 e2 hf hg hof hog (k + 2) (fun j h1 h2 => by
      obtain ⟨i, rfl⟩ : ∃ i, j = i + 1 := ⟨j - 1, by omega⟩
      exact h0 i (by omega))
    exact (zzrE b2).trans (zzr b4)
/-- registers, order, counters of a state, as the model has them in one row -/
def cs (st : og_SD) (s : Nat → Int32) : Prop := (∀ r, r < 8 → ∀ k, k < 8 → s (8 * r + k) = (st.1 r k).toInt32 ∧ -2000 ≤ (st.1 r k).toInt ∧ (st.1 r k).toInt ≤ 2000) ∧ s 64 = nI st.2.1 ∧ st.2.1 < 8 ∧ s 65 = st.2.2.1 ∧ s 66 = st.2.2.2
theorem zt32 {x : Int64} (h1 : -2147483648 ≤ x.toInt) (h2 : x.toInt < 2147483648) : x.toInt32.toInt = x.toInt := by
  rw [Int64.toInt_toInt32]
  exact Int.bmod_eq_of_le (by omega) (by omega)
theorem zt3264 {x : Int64} (h1 : -2147483648 ≤ x.toInt) (h2 : x.toInt < 2147483648) : x.toInt32.toInt64 = x := by
  rw [zeq, Int32.toInt_toInt64, zt32 h1 h2]
theorem cs.row {st : og_SD} {s : Nat → Int32} (h : cs st s) {r : Nat} (hr : r < 8) : ∀ k, k < 8 → st.1 r k = q_reg s r k := fun k hk => by
  obtain ⟨a, b, c⟩ := h.1 r hr k hk
  unfold q_reg
  rw [a, zt3264 (by omega) (by omega)]
theorem cs.b {st : og_SD} {s : Nat → Int32} (h : cs st s) {r : Nat} (hr : r < 8) : ∀ k, k < 8 → -2000 ≤ zi (q_reg s r) k ∧ zi (q_reg s r) k ≤ 2000 := fun k hk => by
  have := h.1 r hr k hk
  unfold zi
  rw [← h.row hr k hk]
  exact this.2
theorem cs.ok {st : og_SD} {s : Nat → Int32} (h : cs st s) {r : Nat} (hr : r < 8) : zok (q_reg s r) := by
  have b := fun k hk => (zsq (h.b hr k hk).1 (h.b hr k hk).2).2
  unfold zok zn
  have := b 0 (by omega); have := b 1 (by omega); have := b 2 (by omega); have := b 3 (by omega); have := b 4 (by omega); have := b 5 (by omega); have := b 6 (by omega); have := b 7 (by omega)
  omega
theorem cs.okd {st : og_SD} {s : Nat → Int32} (h : cs st s) {r : Nat} (hr : r < 8) : zok (st.1 r) := by
  have := h.ok hr
  unfold zok at this ⊢
  rw [zn_congr (fun j hj => show zi (st.1 r) j = zi (q_reg s r) j by unfold zi; rw [h.row hr j hj])]
  exact this
/-- the whole: the desk and the model -/
def cp (D : q_D) (M : q_M) : Prop := cs (d_st D) (m_s M) ∧ m_ps M = d_sc D ∧ d_sc D ≤ 4 ∧ (∀ j, j < d_sc D → cs (d_S D ((j + d_rot D) % 4)) (fun i => m_p M (67 * j + i))) ∧ (∀ i, i < d_tl D → m_t M i = d_tb D i) ∧ m_ty M = d_tl D ∧ d_tl D ≤ 100 ∧ m_uok M ∧ (∀ j, (d_S D j).2.1 < 8)
