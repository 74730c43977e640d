/-! ===== pure: rows that agree ===== -/
/-- rows that agree on their eight places -/
def zE (f g : Nat → Int64) : Prop := ∀ j, j < 8 → f j = g j
theorem zE.rfl {f : Nat → Int64} : zE f f := fun _ _ => Eq.refl _
theorem zE.symm {f g : Nat → Int64} (h : zE f g) : zE g f := fun j hj => (h j hj).symm
theorem zE.trans {f g k : Nat → Int64} (h : zE f g) (h2 : zE g k) : zE f k := fun j hj => (h j hj).trans (h2 j hj)
theorem zfit {f g : Nat → Int64} (t : Nat) (ht : t < 3) (p : Int64) (hp : p.toInt = 2 ^ t) (h : zE f g) : (q_fitx (nI t) f ↔ q_hall p g) ∧ (q_fitx (nI t) f → zE (q_fv (nI t) f) (q_dv p g)) := by
  refine ⟨⟨fun q j hj => ?_, fun q j hj => ?_⟩, fun q j hj => ?_⟩
  · rw [← h j hj]
    exact (zokc t ht p hp (f j)).1.mp (q j hj)
  · have := q j hj
    rw [← h j hj] at this
    exact (zokc t ht p hp (f j)).1.mpr this
  · show q_sh (nI t) (f j) = g j / p
    rw [← h j hj]
    exact (zokc t ht p hp (f j)).2 (q j hj)
theorem zprodE {f f2 g g2 : Nat → Int64} (h : zE f f2) (k : zE g g2) : zE (q_prod f g) (q_prod f2 g2) := fun j hj => by
  have a0 := h 0 (by omega)
  have a1 := h 1 (by omega)
  have a2 := h 2 (by omega)
  have a3 := h 3 (by omega)
  have a4 := h 4 (by omega)
  have a5 := h 5 (by omega)
  have a6 := h 6 (by omega)
  have a7 := h 7 (by omega)
  have b0 := k 0 (by omega)
  have b1 := k 1 (by omega)
  have b2 := k 2 (by omega)
  have b3 := k 3 (by omega)
  have b4 := k 4 (by omega)
  have b5 := k 5 (by omega)
  have b6 := k 6 (by omega)
  have b7 := k 7 (by omega)
  match j, hj with
  | 0, _ => simp only [q_prod, a0, a1, a2, a3, a4, a5, a6, a7, b0, b1, b2, b3, b4, b5, b6, b7]
  | 1, _ => simp only [q_prod, a0, a1, a2, a3, a4, a5, a6, a7, b0, b1, b2, b3, b4, b5, b6, b7]
  | 2, _ => simp only [q_prod, a0, a1, a2, a3, a4, a5, a6, a7, b0, b1, b2, b3, b4, b5, b6, b7]
  | 3, _ => simp only [q_prod, a0, a1, a2, a3, a4, a5, a6, a7, b0, b1, b2, b3, b4, b5, b6, b7]
  | 4, _ => simp only [q_prod, a0, a1, a2, a3, a4, a5, a6, a7, b0, b1, b2, b3, b4, b5, b6, b7]
  | 5, _ => simp only [q_prod, a0, a1, a2, a3, a4, a5, a6, a7, b0, b1, b2, b3, b4, b5, b6, b7]
  | 6, _ => simp only [q_prod, a0, a1, a2, a3, a4, a5, a6, a7, b0, b1, b2, b3, b4, b5, b6, b7]
  | 7, _ => simp only [q_prod, a0, a1, a2, a3, a4, a5, a6, a7, b0, b1, b2, b3, b4, b5, b6, b7]
  | j + 8, h => omega
