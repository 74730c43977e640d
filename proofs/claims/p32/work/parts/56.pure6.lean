/-! ===== pure 6 ===== -/
def zlat : Nat → (Nat → Int) → Prop
  | 0, x => x 0 % 2 = 0 ∧ x 1 % 2 = 0 ∧ x 2 % 2 = 0 ∧ x 3 % 2 = 0 ∧ x 4 % 2 = 0 ∧ x 5 % 2 = 0 ∧ x 6 % 2 = 0 ∧ x 7 % 2 = 0
  | 1, x => (x 0 + x 1 + x 3 + x 7) % 2 = 0 ∧ (x 0 + x 2 + x 3 + x 6) % 2 = 0 ∧ (x 1 + x 2 + x 3 + x 5) % 2 = 0 ∧ (x 0 + x 1 + x 2 + x 4) % 2 = 0
  | 2, x => (x 1 + x 2 + x 3 + x 7) % 2 = 0 ∧ (x 0 + x 1 + x 3 + x 6) % 2 = 0 ∧ (x 0 + x 2 + x 3 + x 5) % 2 = 0 ∧ (x 0 + x 1 + x 2 + x 4) % 2 = 0
  | 3, x => (x 0 + x 1 + x 3 + x 7) % 2 = 0 ∧ (x 0 + x 1 + x 2 + x 6) % 2 = 0 ∧ (x 0 + x 2 + x 3 + x 5) % 2 = 0 ∧ (x 1 + x 2 + x 3 + x 4) % 2 = 0
  | 4, x => (x 0 + x 2 + x 3 + x 7) % 2 = 0 ∧ (x 1 + x 2 + x 3 + x 6) % 2 = 0 ∧ (x 0 + x 1 + x 3 + x 5) % 2 = 0 ∧ (x 0 + x 1 + x 2 + x 4) % 2 = 0
  | 5, x => (x 0 + x 1 + x 2 + x 7) % 2 = 0 ∧ (x 1 + x 2 + x 3 + x 6) % 2 = 0 ∧ (x 0 + x 2 + x 3 + x 5) % 2 = 0 ∧ (x 0 + x 1 + x 3 + x 4) % 2 = 0
  | 6, x => (x 0 + x 1 + x 4 + x 7) % 2 = 0 ∧ (x 1 + x 2 + x 4 + x 6) % 2 = 0 ∧ (x 0 + x 2 + x 4 + x 5) % 2 = 0 ∧ (x 0 + x 1 + x 2 + x 3) % 2 = 0
  | 7, x => (x 0 + x 1 + x 3 + x 7) % 2 = 0 ∧ (x 1 + x 2 + x 3 + x 6) % 2 = 0 ∧ (x 0 + x 1 + x 2 + x 5) % 2 = 0 ∧ (x 0 + x 2 + x 3 + x 4) % 2 = 0
  | _, _ => False
theorem zcl1 (x b : Nat → Int) (hx : zlat 1 x) (hb : zlat 1 b) : (∀ k, k < 8 → zp x b k % 2 = 0) ∧ (zp x b 0 + zp x b 1 + zp x b 3 + zp x b 7) % 4 = 0 ∧ (zp x b 0 + zp x b 2 + zp x b 3 + zp x b 6) % 4 = 0 ∧ (zp x b 1 + zp x b 2 + zp x b 3 + zp x b 5) % 4 = 0 ∧ (zp x b 0 + zp x b 1 + zp x b 2 + zp x b 4) % 4 = 0 := by
  obtain ⟨a7, a6, a5, a4⟩ := hx
  obtain ⟨c7, c6, c5, c4⟩ := hb
  obtain ⟨s7, hs7⟩ : ∃ s : Int, x 7 = 2 * s - x 0 - x 1 - x 3 := ⟨(x 0 + x 1 + x 3 + x 7) / 2, by omega⟩
  obtain ⟨t7, ht7⟩ : ∃ s : Int, b 7 = 2 * s - b 0 - b 1 - b 3 := ⟨(b 0 + b 1 + b 3 + b 7) / 2, by omega⟩
  obtain ⟨s6, hs6⟩ : ∃ s : Int, x 6 = 2 * s - x 0 - x 2 - x 3 := ⟨(x 0 + x 2 + x 3 + x 6) / 2, by omega⟩
  obtain ⟨t6, ht6⟩ : ∃ s : Int, b 6 = 2 * s - b 0 - b 2 - b 3 := ⟨(b 0 + b 2 + b 3 + b 6) / 2, by omega⟩
  obtain ⟨s5, hs5⟩ : ∃ s : Int, x 5 = 2 * s - x 1 - x 2 - x 3 := ⟨(x 1 + x 2 + x 3 + x 5) / 2, by omega⟩
  obtain ⟨t5, ht5⟩ : ∃ s : Int, b 5 = 2 * s - b 1 - b 2 - b 3 := ⟨(b 1 + b 2 + b 3 + b 5) / 2, by omega⟩
  obtain ⟨s4, hs4⟩ : ∃ s : Int, x 4 = 2 * s - x 0 - x 1 - x 2 := ⟨(x 0 + x 1 + x 2 + x 4) / 2, by omega⟩
  obtain ⟨t4, ht4⟩ : ∃ s : Int, b 4 = 2 * s - b 0 - b 1 - b 2 := ⟨(b 0 + b 1 + b 2 + b 4) / 2, by omega⟩
  generalize hx0 : x 0 = x0 at *
  generalize hy0 : b 0 = y0 at *
  generalize hx1 : x 1 = x1 at *
  generalize hy1 : b 1 = y1 at *
  generalize hx2 : x 2 = x2 at *
  generalize hy2 : b 2 = y2 at *
  generalize hx3 : x 3 = x3 at *
  generalize hy3 : b 3 = y3 at *
  generalize hx7 : x 7 = x7 at *
  generalize hy7 : b 7 = y7 at *
  generalize hx6 : x 6 = x6 at *
  generalize hy6 : b 6 = y6 at *
  generalize hx5 : x 5 = x5 at *
  generalize hy5 : b 5 = y5 at *
  generalize hx4 : x 4 = x4 at *
  generalize hy4 : b 4 = y4 at *
  clear a7 c7 a6 c6 a5 c5 a4 c4
  have e0 : zp x b 0 = 2 * (0 - 2 * s4 * t4 + 1 * s4 * y0 + 1 * s4 * y1 + 1 * s4 * y2 - 2 * s5 * t5 + 1 * s5 * y1 + 1 * s5 * y2 + 1 * s5 * y3 - 2 * s6 * t6 + 1 * s6 * y0 + 1 * s6 * y2 + 1 * s6 * y3 - 2 * s7 * t7 + 1 * s7 * y0 + 1 * s7 * y1 + 1 * s7 * y3 + 1 * x0 * t4 + 1 * x0 * t6 + 1 * x0 * t7 - 1 * x0 * y0 - 1 * x0 * y1 - 1 * x0 * y2 - 1 * x0 * y3 + 1 * x1 * t4 + 1 * x1 * t5 + 1 * x1 * t7 - 1 * x1 * y0 - 2 * x1 * y1 - 1 * x1 * y2 - 1 * x1 * y3 + 1 * x2 * t4 + 1 * x2 * t5 + 1 * x2 * t6 - 1 * x2 * y0 - 1 * x2 * y1 - 2 * x2 * y2 - 1 * x2 * y3 + 1 * x3 * t5 + 1 * x3 * t6 + 1 * x3 * t7 - 1 * x3 * y0 - 1 * x3 * y1 - 1 * x3 * y2 - 2 * x3 * y3) := by
    simp only [zp, hx0, hy0, hx1, hy1, hx2, hy2, hx3, hy3, hx4, hy4, hx5, hy5, hx6, hy6, hx7, hy7, hs7, ht7, hs6, ht6, hs5, ht5, hs4, ht4]
    grind
  have e1 : zp x b 1 = 2 * (0 - 1 * s4 * y2 + 2 * s5 * t6 - 1 * s5 * y0 - 1 * s5 * y2 - 1 * s5 * y3 - 2 * s6 * t5 + 1 * s6 * y1 + 1 * s6 * y2 + 1 * s6 * y3 - 1 * s7 * y3 + 1 * x0 * t5 - 1 * x1 * t6 + 1 * x1 * y0 + 1 * x1 * y2 + 1 * x1 * y3 + 1 * x2 * t4 + 1 * x2 * t5 - 1 * x2 * t6 - 1 * x2 * y1 + 1 * x3 * t5 - 1 * x3 * t6 + 1 * x3 * t7 - 1 * x3 * y1) := by
    simp only [zp, hx0, hy0, hx1, hy1, hx2, hy2, hx3, hy3, hx4, hy4, hx5, hy5, hx6, hy6, hx7, hy7, hs7, ht7, hs6, ht6, hs5, ht5, hs4, ht4]
    grind
  have e2 : zp x b 2 = 2 * (0 + 1 * s4 * y1 - 1 * s5 * y3 + 2 * s6 * t7 - 1 * s6 * y0 - 1 * s6 * y1 - 1 * s6 * y3 - 2 * s7 * t6 + 1 * s7 * y0 + 1 * s7 * y2 + 1 * s7 * y3 + 1 * x0 * t6 - 1 * x0 * t7 - 1 * x1 * t4 + 1 * x1 * t6 - 1 * x2 * t7 + 1 * x2 * y0 + 1 * x2 * y3 + 1 * x3 * t5 + 1 * x3 * t6 - 1 * x3 * t7 - 1 * x3 * y2) := by
    simp only [zp, hx0, hy0, hx1, hy1, hx2, hy2, hx3, hy3, hx4, hy4, hx5, hy5, hx6, hy6, hx7, hy7, hs7, ht7, hs6, ht6, hs5, ht5, hs4, ht4]
    grind
  have e3 : zp x b 3 = 2 * (0 + 2 * s4 * t6 - 1 * s4 * y0 - 1 * s4 * y2 - 1 * s4 * y3 + 1 * s5 * y2 - 2 * s6 * t4 + 1 * s6 * y0 + 1 * s6 * y1 + 1 * s6 * y2 + 1 * s7 * y1 + 1 * x0 * t4 - 1 * x0 * t6 - 1 * x0 * y1 + 1 * x0 * y3 - 1 * x1 * t6 - 1 * x1 * t7 + 1 * x1 * y0 + 1 * x1 * y3 + 1 * x2 * t4 - 1 * x2 * t5 - 1 * x2 * t6 + 1 * x2 * y3 + 1 * x3 * t4 - 1 * x3 * y1 - 1 * x3 * y2) := by
    simp only [zp, hx0, hy0, hx1, hy1, hx2, hy2, hx3, hy3, hx4, hy4, hx5, hy5, hx6, hy6, hx7, hy7, hs7, ht7, hs6, ht6, hs5, ht5, hs4, ht4]
    grind
  have e4 : zp x b 4 = 2 * (0 + 1 * s4 * y0 + 2 * s5 * t7 - 1 * s5 * y0 - 1 * s5 * y1 - 1 * s5 * y3 + 1 * s6 * y3 - 2 * s7 * t5 + 1 * s7 * y1 + 1 * s7 * y2 + 1 * s7 * y3 + 1 * x0 * t4 + 1 * x0 * t5 - 1 * x0 * y0 - 1 * x0 * y1 - 1 * x0 * y2 - 1 * x0 * y3 + 1 * x1 * t5 - 1 * x1 * t7 - 1 * x2 * t7 + 1 * x3 * t5 - 1 * x3 * t6 - 1 * x3 * t7 + 1 * x3 * y0) := by
    simp only [zp, hx0, hy0, hx1, hy1, hx2, hy2, hx3, hy3, hx4, hy4, hx5, hy5, hx6, hy6, hx7, hy7, hs7, ht7, hs6, ht6, hs5, ht5, hs4, ht4]
    grind
  have e5 : zp x b 5 = 2 * (0 - 2 * s4 * t7 + 1 * s4 * y0 + 1 * s4 * y1 + 1 * s4 * y3 + 1 * s5 * y0 + 1 * s6 * y1 + 2 * s7 * t4 - 1 * s7 * y0 - 1 * s7 * y1 - 1 * s7 * y2 - 1 * x0 * t4 + 1 * x0 * t5 + 1 * x0 * t7 - 1 * x0 * y1 - 1 * x0 * y3 - 1 * x1 * t4 - 1 * x1 * t6 + 1 * x1 * t7 + 1 * x1 * y2 + 1 * x2 * t7 - 1 * x2 * y0 - 1 * x2 * y1 - 1 * x3 * t4) := by
    simp only [zp, hx0, hy0, hx1, hy1, hx2, hy2, hx3, hy3, hx4, hy4, hx5, hy5, hx6, hy6, hx7, hy7, hs7, ht7, hs6, ht6, hs5, ht5, hs4, ht4]
    grind
  have e6 : zp x b 6 = 2 * (0 - 1 * s4 * y3 - 1 * s5 * y1 + 1 * s6 * y0 + 1 * s7 * y2 + 1 * x0 * t6 - 1 * x0 * y0 - 1 * x0 * y2 + 1 * x1 * t5 - 1 * x1 * y2 - 1 * x2 * t7 + 1 * x2 * y1 + 1 * x2 * y3 + 1 * x3 * t4 - 1 * x3 * y0 - 1 * x3 * y2) := by
    simp only [zp, hx0, hy0, hx1, hy1, hx2, hy2, hx3, hy3, hx4, hy4, hx5, hy5, hx6, hy6, hx7, hy7, hs7, ht7, hs6, ht6, hs5, ht5, hs4, ht4]
    grind
  have e7 : zp x b 7 = 2 * (0 + 2 * s4 * t5 - 1 * s4 * y1 - 1 * s4 * y2 - 1 * s4 * y3 - 2 * s5 * t4 + 1 * s5 * y0 + 1 * s5 * y1 + 1 * s5 * y2 - 1 * s6 * y2 + 1 * s7 * y0 - 1 * x0 * t5 + 1 * x0 * t7 - 1 * x0 * y0 + 1 * x0 * y2 + 1 * x1 * t4 - 1 * x1 * t5 - 1 * x1 * y0 + 1 * x1 * y3 + 1 * x2 * t4 - 1 * x2 * t5 + 1 * x2 * t6 - 1 * x2 * y0 + 1 * x3 * t4 - 1 * x3 * y0 - 1 * x3 * y1) := by
    simp only [zp, hx0, hy0, hx1, hy1, hx2, hy2, hx3, hy3, hx4, hy4, hx5, hy5, hx6, hy6, hx7, hy7, hs7, ht7, hs6, ht6, hs5, ht5, hs4, ht4]
    grind
  have f7 : zp x b 0 + zp x b 1 + zp x b 3 + zp x b 7 = 4 * (0 - 1 * s4 * t4 + 1 * s4 * t5 + 1 * s4 * t6 - 1 * s4 * y2 - 1 * s4 * y3 - 1 * s5 * t4 - 1 * s5 * t5 + 1 * s5 * t6 + 1 * s5 * y1 + 1 * s5 * y2 - 1 * s6 * t4 - 1 * s6 * t5 - 1 * s6 * t6 + 1 * s6 * y0 + 1 * s6 * y1 + 1 * s6 * y2 + 1 * s6 * y3 - 1 * s7 * t7 + 1 * s7 * y0 + 1 * s7 * y1 + 1 * x0 * t4 + 1 * x0 * t7 - 1 * x0 * y0 - 1 * x0 * y1 + 1 * x1 * t4 - 1 * x1 * t6 - 1 * x1 * y1 + 1 * x1 * y3 + 2 * x2 * t4 - 1 * x2 * y0 - 1 * x2 * y1 - 1 * x2 * y2 + 1 * x3 * t4 + 1 * x3 * t5 + 1 * x3 * t7 - 1 * x3 * y0 - 2 * x3 * y1 - 1 * x3 * y2 - 1 * x3 * y3) := by
    simp only [e0, e1, e3, e7]
    grind
  have f6 : zp x b 0 + zp x b 2 + zp x b 3 + zp x b 6 = 4 * (0 - 1 * s4 * t4 + 1 * s4 * t6 + 1 * s4 * y1 - 1 * s4 * y3 - 1 * s5 * t5 + 1 * s5 * y2 - 1 * s6 * t4 - 1 * s6 * t6 + 1 * s6 * t7 + 1 * s6 * y0 + 1 * s6 * y2 - 1 * s7 * t6 - 1 * s7 * t7 + 1 * s7 * y0 + 1 * s7 * y1 + 1 * s7 * y2 + 1 * s7 * y3 + 1 * x0 * t4 + 1 * x0 * t6 - 1 * x0 * y0 - 1 * x0 * y1 - 1 * x0 * y2 + 1 * x1 * t5 - 1 * x1 * y1 - 1 * x1 * y2 + 1 * x2 * t4 - 1 * x2 * t7 - 1 * x2 * y2 + 1 * x2 * y3 + 1 * x3 * t4 + 1 * x3 * t5 + 1 * x3 * t6 - 1 * x3 * y0 - 1 * x3 * y1 - 2 * x3 * y2 - 1 * x3 * y3) := by
    simp only [e0, e2, e3, e6]
    grind
  have f5 : zp x b 1 + zp x b 2 + zp x b 3 + zp x b 5 = 4 * (0 + 1 * s4 * t6 - 1 * s4 * t7 + 1 * s4 * y1 - 1 * s4 * y2 + 1 * s5 * t6 - 1 * s5 * y3 - 1 * s6 * t4 - 1 * s6 * t5 + 1 * s6 * t7 + 1 * s6 * y1 + 1 * s6 * y2 + 1 * s7 * t4 - 1 * s7 * t6 + 1 * x0 * t5 - 1 * x0 * y1 - 1 * x1 * t4 - 1 * x1 * t6 + 1 * x1 * y0 + 1 * x1 * y2 + 1 * x1 * y3 + 1 * x2 * t4 - 1 * x2 * t6 - 1 * x2 * y1 + 1 * x2 * y3 + 1 * x3 * t5 - 1 * x3 * y1 - 1 * x3 * y2) := by
    simp only [e1, e2, e3, e5]
    grind
  have f4 : zp x b 0 + zp x b 1 + zp x b 2 + zp x b 4 = 4 * (0 - 1 * s4 * t4 + 1 * s4 * y0 + 1 * s4 * y1 - 1 * s5 * t5 + 1 * s5 * t6 + 1 * s5 * t7 - 1 * s5 * y0 - 1 * s5 * y3 - 1 * s6 * t5 - 1 * s6 * t6 + 1 * s6 * t7 + 1 * s6 * y2 + 1 * s6 * y3 - 1 * s7 * t5 - 1 * s7 * t6 - 1 * s7 * t7 + 1 * s7 * y0 + 1 * s7 * y1 + 1 * s7 * y2 + 1 * s7 * y3 + 1 * x0 * t4 + 1 * x0 * t5 + 1 * x0 * t6 - 1 * x0 * y0 - 1 * x0 * y1 - 1 * x0 * y2 - 1 * x0 * y3 + 1 * x1 * t5 - 1 * x1 * y1 + 1 * x2 * t4 + 1 * x2 * t5 - 1 * x2 * t7 - 1 * x2 * y1 - 1 * x2 * y2 + 2 * x3 * t5 - 1 * x3 * y1 - 1 * x3 * y2 - 1 * x3 * y3) := by
    simp only [e0, e1, e2, e4]
    grind
  refine ⟨fun k hk => ?_, by rw [f7]; exact Int.mul_emod_right 4 _, by rw [f6]; exact Int.mul_emod_right 4 _, by rw [f5]; exact Int.mul_emod_right 4 _, by rw [f4]; exact Int.mul_emod_right 4 _⟩
  rcases (show k = 0 ∨ k = 1 ∨ k = 2 ∨ k = 3 ∨ k = 4 ∨ k = 5 ∨ k = 6 ∨ k = 7 by omega) with rfl | rfl | rfl | rfl | rfl | rfl | rfl | rfl
  · rw [e0]; exact Int.mul_emod_right 2 _
  · rw [e1]; exact Int.mul_emod_right 2 _
  · rw [e2]; exact Int.mul_emod_right 2 _
  · rw [e3]; exact Int.mul_emod_right 2 _
  · rw [e4]; exact Int.mul_emod_right 2 _
  · rw [e5]; exact Int.mul_emod_right 2 _
  · rw [e6]; exact Int.mul_emod_right 2 _
  · rw [e7]; exact Int.mul_emod_right 2 _
theorem zcl2 (x b : Nat → Int) (hx : zlat 2 x) (hb : zlat 2 b) : (∀ k, k < 8 → zp x b k % 2 = 0) ∧ (zp x b 1 + zp x b 2 + zp x b 3 + zp x b 7) % 4 = 0 ∧ (zp x b 0 + zp x b 1 + zp x b 3 + zp x b 6) % 4 = 0 ∧ (zp x b 0 + zp x b 2 + zp x b 3 + zp x b 5) % 4 = 0 ∧ (zp x b 0 + zp x b 1 + zp x b 2 + zp x b 4) % 4 = 0 := by
  obtain ⟨a7, a6, a5, a4⟩ := hx
  obtain ⟨c7, c6, c5, c4⟩ := hb
  obtain ⟨s7, hs7⟩ : ∃ s : Int, x 7 = 2 * s - x 1 - x 2 - x 3 := ⟨(x 1 + x 2 + x 3 + x 7) / 2, by omega⟩
  obtain ⟨t7, ht7⟩ : ∃ s : Int, b 7 = 2 * s - b 1 - b 2 - b 3 := ⟨(b 1 + b 2 + b 3 + b 7) / 2, by omega⟩
  obtain ⟨s6, hs6⟩ : ∃ s : Int, x 6 = 2 * s - x 0 - x 1 - x 3 := ⟨(x 0 + x 1 + x 3 + x 6) / 2, by omega⟩
  obtain ⟨t6, ht6⟩ : ∃ s : Int, b 6 = 2 * s - b 0 - b 1 - b 3 := ⟨(b 0 + b 1 + b 3 + b 6) / 2, by omega⟩
  obtain ⟨s5, hs5⟩ : ∃ s : Int, x 5 = 2 * s - x 0 - x 2 - x 3 := ⟨(x 0 + x 2 + x 3 + x 5) / 2, by omega⟩
  obtain ⟨t5, ht5⟩ : ∃ s : Int, b 5 = 2 * s - b 0 - b 2 - b 3 := ⟨(b 0 + b 2 + b 3 + b 5) / 2, by omega⟩
  obtain ⟨s4, hs4⟩ : ∃ s : Int, x 4 = 2 * s - x 0 - x 1 - x 2 := ⟨(x 0 + x 1 + x 2 + x 4) / 2, by omega⟩
  obtain ⟨t4, ht4⟩ : ∃ s : Int, b 4 = 2 * s - b 0 - b 1 - b 2 := ⟨(b 0 + b 1 + b 2 + b 4) / 2, by omega⟩
  generalize hx0 : x 0 = x0 at *
  generalize hy0 : b 0 = y0 at *
  generalize hx1 : x 1 = x1 at *
  generalize hy1 : b 1 = y1 at *
  generalize hx2 : x 2 = x2 at *
  generalize hy2 : b 2 = y2 at *
  generalize hx3 : x 3 = x3 at *
  generalize hy3 : b 3 = y3 at *
  generalize hx7 : x 7 = x7 at *
  generalize hy7 : b 7 = y7 at *
  generalize hx6 : x 6 = x6 at *
  generalize hy6 : b 6 = y6 at *
  generalize hx5 : x 5 = x5 at *
  generalize hy5 : b 5 = y5 at *
  generalize hx4 : x 4 = x4 at *
  generalize hy4 : b 4 = y4 at *
  clear a7 c7 a6 c6 a5 c5 a4 c4
  have e0 : zp x b 0 = 2 * (0 - 2 * s4 * t4 + 1 * s4 * y0 + 1 * s4 * y1 + 1 * s4 * y2 - 2 * s5 * t5 + 1 * s5 * y0 + 1 * s5 * y2 + 1 * s5 * y3 - 2 * s6 * t6 + 1 * s6 * y0 + 1 * s6 * y1 + 1 * s6 * y3 - 2 * s7 * t7 + 1 * s7 * y1 + 1 * s7 * y2 + 1 * s7 * y3 + 1 * x0 * t4 + 1 * x0 * t5 + 1 * x0 * t6 - 1 * x0 * y0 - 1 * x0 * y1 - 1 * x0 * y2 - 1 * x0 * y3 + 1 * x1 * t4 + 1 * x1 * t6 + 1 * x1 * t7 - 1 * x1 * y0 - 2 * x1 * y1 - 1 * x1 * y2 - 1 * x1 * y3 + 1 * x2 * t4 + 1 * x2 * t5 + 1 * x2 * t7 - 1 * x2 * y0 - 1 * x2 * y1 - 2 * x2 * y2 - 1 * x2 * y3 + 1 * x3 * t5 + 1 * x3 * t6 + 1 * x3 * t7 - 1 * x3 * y0 - 1 * x3 * y1 - 1 * x3 * y2 - 2 * x3 * y3) := by
    simp only [zp, hx0, hy0, hx1, hy1, hx2, hy2, hx3, hy3, hx4, hy4, hx5, hy5, hx6, hy6, hx7, hy7, hs7, ht7, hs6, ht6, hs5, ht5, hs4, ht4]
    grind
  have e1 : zp x b 1 = 2 * (0 - 1 * s4 * y2 + 2 * s5 * t6 - 1 * s5 * y0 - 1 * s5 * y1 - 1 * s5 * y3 - 2 * s6 * t5 + 1 * s6 * y0 + 1 * s6 * y2 + 1 * s6 * y3 - 1 * s7 * y3 + 1 * x0 * t5 - 1 * x0 * t6 + 1 * x0 * y1 + 1 * x1 * t5 + 1 * x2 * t4 - 1 * x2 * t6 + 1 * x2 * y3 + 1 * x3 * t5 - 1 * x3 * t6 + 1 * x3 * t7 - 1 * x3 * y2) := by
    simp only [zp, hx0, hy0, hx1, hy1, hx2, hy2, hx3, hy3, hx4, hy4, hx5, hy5, hx6, hy6, hx7, hy7, hs7, ht7, hs6, ht6, hs5, ht5, hs4, ht4]
    grind
  have e2 : zp x b 2 = 2 * (0 + 1 * s4 * y1 - 1 * s5 * y3 + 2 * s6 * t7 - 1 * s6 * y1 - 1 * s6 * y2 - 1 * s6 * y3 - 2 * s7 * t6 + 1 * s7 * y0 + 1 * s7 * y1 + 1 * s7 * y3 - 1 * x0 * t7 + 1 * x0 * y2 + 1 * x0 * y3 - 1 * x1 * t4 + 1 * x1 * t6 - 1 * x1 * t7 + 1 * x1 * y2 + 1 * x2 * t6 - 1 * x2 * y1 + 1 * x3 * t5 + 1 * x3 * t6 - 1 * x3 * t7 - 1 * x3 * y0) := by
    simp only [zp, hx0, hy0, hx1, hy1, hx2, hy2, hx3, hy3, hx4, hy4, hx5, hy5, hx6, hy6, hx7, hy7, hs7, ht7, hs6, ht6, hs5, ht5, hs4, ht4]
    grind
  have e3 : zp x b 3 = 2 * (0 + 2 * s4 * t6 - 1 * s4 * y0 - 1 * s4 * y1 - 1 * s4 * y3 + 1 * s5 * y2 - 2 * s6 * t4 + 1 * s6 * y0 + 1 * s6 * y1 + 1 * s6 * y2 + 1 * s7 * y1 + 1 * x0 * t4 - 1 * x0 * t6 - 1 * x0 * y2 + 1 * x0 * y3 + 1 * x1 * t4 - 1 * x1 * t6 - 1 * x1 * t7 + 1 * x1 * y3 - 1 * x2 * t5 - 1 * x2 * t6 + 1 * x2 * y0 + 1 * x2 * y3 + 1 * x3 * t4 - 1 * x3 * y1 - 1 * x3 * y2) := by
    simp only [zp, hx0, hy0, hx1, hy1, hx2, hy2, hx3, hy3, hx4, hy4, hx5, hy5, hx6, hy6, hx7, hy7, hs7, ht7, hs6, ht6, hs5, ht5, hs4, ht4]
    grind
  have e4 : zp x b 4 = 2 * (0 + 1 * s4 * y0 + 2 * s5 * t7 - 1 * s5 * y1 - 1 * s5 * y2 - 1 * s5 * y3 + 1 * s6 * y3 - 2 * s7 * t5 + 1 * s7 * y0 + 1 * s7 * y2 + 1 * s7 * y3 + 1 * x0 * t4 - 1 * x0 * t7 - 1 * x0 * y0 + 1 * x1 * t5 - 1 * x1 * y0 - 1 * x1 * y3 + 1 * x2 * t5 - 1 * x2 * t7 - 1 * x2 * y0 + 1 * x3 * t5 - 1 * x3 * t6 - 1 * x3 * t7 + 1 * x3 * y1) := by
    simp only [zp, hx0, hy0, hx1, hy1, hx2, hy2, hx3, hy3, hx4, hy4, hx5, hy5, hx6, hy6, hx7, hy7, hs7, ht7, hs6, ht6, hs5, ht5, hs4, ht4]
    grind
  have e5 : zp x b 5 = 2 * (0 - 2 * s4 * t7 + 1 * s4 * y1 + 1 * s4 * y2 + 1 * s4 * y3 + 1 * s5 * y0 + 1 * s6 * y1 + 2 * s7 * t4 - 1 * s7 * y0 - 1 * s7 * y1 - 1 * s7 * y2 + 1 * x0 * t5 + 1 * x0 * t7 - 1 * x0 * y0 - 1 * x0 * y1 - 1 * x0 * y2 - 1 * x0 * y3 - 1 * x1 * t4 - 1 * x1 * t6 + 1 * x1 * t7 + 1 * x1 * y0 - 1 * x2 * t4 + 1 * x2 * t7 - 1 * x3 * t4) := by
    simp only [zp, hx0, hy0, hx1, hy1, hx2, hy2, hx3, hy3, hx4, hy4, hx5, hy5, hx6, hy6, hx7, hy7, hs7, ht7, hs6, ht6, hs5, ht5, hs4, ht4]
    grind
  have e6 : zp x b 6 = 2 * (0 - 1 * s4 * y3 - 1 * s5 * y1 + 1 * s6 * y0 + 1 * s7 * y2 + 1 * x0 * t6 - 1 * x0 * y0 + 1 * x1 * t5 - 1 * x1 * y0 - 1 * x1 * y2 - 1 * x2 * t7 + 1 * x2 * y1 + 1 * x2 * y3 + 1 * x3 * t4 - 1 * x3 * y0 - 1 * x3 * y2) := by
    simp only [zp, hx0, hy0, hx1, hy1, hx2, hy2, hx3, hy3, hx4, hy4, hx5, hy5, hx6, hy6, hx7, hy7, hs7, ht7, hs6, ht6, hs5, ht5, hs4, ht4]
    grind
  have e7 : zp x b 7 = 2 * (0 + 2 * s4 * t5 - 1 * s4 * y0 - 1 * s4 * y2 - 1 * s4 * y3 - 2 * s5 * t4 + 1 * s5 * y0 + 1 * s5 * y1 + 1 * s5 * y2 - 1 * s6 * y2 + 1 * s7 * y0 + 1 * x0 * t4 - 1 * x0 * t5 + 1 * x0 * t7 - 1 * x0 * y1 - 1 * x1 * t5 + 1 * x1 * y2 + 1 * x1 * y3 + 1 * x2 * t4 - 1 * x2 * t5 + 1 * x2 * t6 - 1 * x2 * y0 - 1 * x2 * y1 + 1 * x3 * t4 - 1 * x3 * y0 - 1 * x3 * y1) := by
    simp only [zp, hx0, hy0, hx1, hy1, hx2, hy2, hx3, hy3, hx4, hy4, hx5, hy5, hx6, hy6, hx7, hy7, hs7, ht7, hs6, ht6, hs5, ht5, hs4, ht4]
    grind
  have f7 : zp x b 1 + zp x b 2 + zp x b 3 + zp x b 7 = 4 * (0 + 1 * s4 * t5 + 1 * s4 * t6 - 1 * s4 * y0 - 1 * s4 * y2 - 1 * s4 * y3 - 1 * s5 * t4 + 1 * s5 * t6 + 1 * s5 * y2 - 1 * s5 * y3 - 1 * s6 * t4 - 1 * s6 * t5 + 1 * s6 * t7 + 1 * s6 * y0 - 1 * s7 * t6 + 1 * s7 * y0 + 1 * s7 * y1 + 1 * x0 * t4 - 1 * x0 * t6 + 1 * x0 * y3 - 1 * x1 * t7 + 1 * x1 * y2 + 1 * x1 * y3 + 1 * x2 * t4 - 1 * x2 * t5 - 1 * x2 * y1 + 1 * x2 * y3 + 1 * x3 * t4 + 1 * x3 * t5 - 1 * x3 * y0 - 1 * x3 * y1 - 1 * x3 * y2) := by
    simp only [e1, e2, e3, e7]
    grind
  have f6 : zp x b 0 + zp x b 1 + zp x b 3 + zp x b 6 = 4 * (0 - 1 * s4 * t4 + 1 * s4 * t6 - 1 * s4 * y3 - 1 * s5 * t5 + 1 * s5 * t6 - 1 * s5 * y1 + 1 * s5 * y2 - 1 * s6 * t4 - 1 * s6 * t5 - 1 * s6 * t6 + 2 * s6 * y0 + 1 * s6 * y1 + 1 * s6 * y2 + 1 * s6 * y3 - 1 * s7 * t7 + 1 * s7 * y1 + 1 * s7 * y2 + 1 * x0 * t4 + 1 * x0 * t5 - 1 * x0 * y0 - 1 * x0 * y2 + 1 * x1 * t4 + 1 * x1 * t5 - 1 * x1 * y0 - 1 * x1 * y1 - 1 * x1 * y2 + 1 * x2 * t4 - 1 * x2 * t6 - 1 * x2 * y2 + 1 * x2 * y3 + 1 * x3 * t4 + 1 * x3 * t5 + 1 * x3 * t7 - 1 * x3 * y0 - 1 * x3 * y1 - 2 * x3 * y2 - 1 * x3 * y3) := by
    simp only [e0, e1, e3, e6]
    grind
  have f5 : zp x b 0 + zp x b 2 + zp x b 3 + zp x b 5 = 4 * (0 - 1 * s4 * t4 + 1 * s4 * t6 - 1 * s4 * t7 + 1 * s4 * y1 + 1 * s4 * y2 - 1 * s5 * t5 + 1 * s5 * y0 + 1 * s5 * y2 - 1 * s6 * t4 - 1 * s6 * t6 + 1 * s6 * t7 + 1 * s6 * y0 + 1 * s6 * y1 + 1 * s7 * t4 - 1 * s7 * t6 - 1 * s7 * t7 + 1 * s7 * y1 + 1 * s7 * y3 + 1 * x0 * t4 + 1 * x0 * t5 - 1 * x0 * y0 - 1 * x0 * y1 - 1 * x0 * y2 - 1 * x1 * y1 + 1 * x2 * t7 - 1 * x2 * y1 - 1 * x2 * y2 + 1 * x3 * t5 + 1 * x3 * t6 - 1 * x3 * y0 - 1 * x3 * y1 - 1 * x3 * y2 - 1 * x3 * y3) := by
    simp only [e0, e2, e3, e5]
    grind
  have f4 : zp x b 0 + zp x b 1 + zp x b 2 + zp x b 4 = 4 * (0 - 1 * s4 * t4 + 1 * s4 * y0 + 1 * s4 * y1 - 1 * s5 * t5 + 1 * s5 * t6 + 1 * s5 * t7 - 1 * s5 * y1 - 1 * s5 * y3 - 1 * s6 * t5 - 1 * s6 * t6 + 1 * s6 * t7 + 1 * s6 * y0 + 1 * s6 * y3 - 1 * s7 * t5 - 1 * s7 * t6 - 1 * s7 * t7 + 1 * s7 * y0 + 1 * s7 * y1 + 1 * s7 * y2 + 1 * s7 * y3 + 1 * x0 * t4 + 1 * x0 * t5 - 1 * x0 * t7 - 1 * x0 * y0 + 1 * x1 * t5 + 1 * x1 * t6 - 1 * x1 * y0 - 1 * x1 * y1 - 1 * x1 * y3 + 1 * x2 * t4 + 1 * x2 * t5 - 1 * x2 * y0 - 1 * x2 * y1 - 1 * x2 * y2 + 2 * x3 * t5 - 1 * x3 * y0 - 1 * x3 * y2 - 1 * x3 * y3) := by
    simp only [e0, e1, e2, e4]
    grind
  refine ⟨fun k hk => ?_, by rw [f7]; exact Int.mul_emod_right 4 _, by rw [f6]; exact Int.mul_emod_right 4 _, by rw [f5]; exact Int.mul_emod_right 4 _, by rw [f4]; exact Int.mul_emod_right 4 _⟩
  rcases (show k = 0 ∨ k = 1 ∨ k = 2 ∨ k = 3 ∨ k = 4 ∨ k = 5 ∨ k = 6 ∨ k = 7 by omega) with rfl | rfl | rfl | rfl | rfl | rfl | rfl | rfl
  · rw [e0]; exact Int.mul_emod_right 2 _
  · rw [e1]; exact Int.mul_emod_right 2 _
  · rw [e2]; exact Int.mul_emod_right 2 _
  · rw [e3]; exact Int.mul_emod_right 2 _
  · rw [e4]; exact Int.mul_emod_right 2 _
  · rw [e5]; exact Int.mul_emod_right 2 _
  · rw [e6]; exact Int.mul_emod_right 2 _
  · rw [e7]; exact Int.mul_emod_right 2 _
theorem zcl3 (x b : Nat → Int) (hx : zlat 3 x) (hb : zlat 3 b) : (∀ k, k < 8 → zp x b k % 2 = 0) ∧ (zp x b 0 + zp x b 1 + zp x b 3 + zp x b 7) % 4 = 0 ∧ (zp x b 0 + zp x b 1 + zp x b 2 + zp x b 6) % 4 = 0 ∧ (zp x b 0 + zp x b 2 + zp x b 3 + zp x b 5) % 4 = 0 ∧ (zp x b 1 + zp x b 2 + zp x b 3 + zp x b 4) % 4 = 0 := by
  obtain ⟨a7, a6, a5, a4⟩ := hx
  obtain ⟨c7, c6, c5, c4⟩ := hb
  obtain ⟨s7, hs7⟩ : ∃ s : Int, x 7 = 2 * s - x 0 - x 1 - x 3 := ⟨(x 0 + x 1 + x 3 + x 7) / 2, by omega⟩
  obtain ⟨t7, ht7⟩ : ∃ s : Int, b 7 = 2 * s - b 0 - b 1 - b 3 := ⟨(b 0 + b 1 + b 3 + b 7) / 2, by omega⟩
  obtain ⟨s6, hs6⟩ : ∃ s : Int, x 6 = 2 * s - x 0 - x 1 - x 2 := ⟨(x 0 + x 1 + x 2 + x 6) / 2, by omega⟩
  obtain ⟨t6, ht6⟩ : ∃ s : Int, b 6 = 2 * s - b 0 - b 1 - b 2 := ⟨(b 0 + b 1 + b 2 + b 6) / 2, by omega⟩
  obtain ⟨s5, hs5⟩ : ∃ s : Int, x 5 = 2 * s - x 0 - x 2 - x 3 := ⟨(x 0 + x 2 + x 3 + x 5) / 2, by omega⟩
  obtain ⟨t5, ht5⟩ : ∃ s : Int, b 5 = 2 * s - b 0 - b 2 - b 3 := ⟨(b 0 + b 2 + b 3 + b 5) / 2, by omega⟩
  obtain ⟨s4, hs4⟩ : ∃ s : Int, x 4 = 2 * s - x 1 - x 2 - x 3 := ⟨(x 1 + x 2 + x 3 + x 4) / 2, by omega⟩
  obtain ⟨t4, ht4⟩ : ∃ s : Int, b 4 = 2 * s - b 1 - b 2 - b 3 := ⟨(b 1 + b 2 + b 3 + b 4) / 2, by omega⟩
  generalize hx0 : x 0 = x0 at *
  generalize hy0 : b 0 = y0 at *
  generalize hx1 : x 1 = x1 at *
  generalize hy1 : b 1 = y1 at *
  generalize hx2 : x 2 = x2 at *
  generalize hy2 : b 2 = y2 at *
  generalize hx3 : x 3 = x3 at *
  generalize hy3 : b 3 = y3 at *
  generalize hx7 : x 7 = x7 at *
  generalize hy7 : b 7 = y7 at *
  generalize hx6 : x 6 = x6 at *
  generalize hy6 : b 6 = y6 at *
  generalize hx5 : x 5 = x5 at *
  generalize hy5 : b 5 = y5 at *
  generalize hx4 : x 4 = x4 at *
  generalize hy4 : b 4 = y4 at *
  clear a7 c7 a6 c6 a5 c5 a4 c4
  have e0 : zp x b 0 = 2 * (0 - 2 * s4 * t4 + 1 * s4 * y1 + 1 * s4 * y2 + 1 * s4 * y3 - 2 * s5 * t5 + 1 * s5 * y0 + 1 * s5 * y2 + 1 * s5 * y3 - 2 * s6 * t6 + 1 * s6 * y0 + 1 * s6 * y1 + 1 * s6 * y2 - 2 * s7 * t7 + 1 * s7 * y0 + 1 * s7 * y1 + 1 * s7 * y3 + 1 * x0 * t5 + 1 * x0 * t6 + 1 * x0 * t7 - 1 * x0 * y0 - 1 * x0 * y1 - 1 * x0 * y2 - 1 * x0 * y3 + 1 * x1 * t4 + 1 * x1 * t6 + 1 * x1 * t7 - 1 * x1 * y0 - 2 * x1 * y1 - 1 * x1 * y2 - 1 * x1 * y3 + 1 * x2 * t4 + 1 * x2 * t5 + 1 * x2 * t6 - 1 * x2 * y0 - 1 * x2 * y1 - 2 * x2 * y2 - 1 * x2 * y3 + 1 * x3 * t4 + 1 * x3 * t5 + 1 * x3 * t7 - 1 * x3 * y0 - 1 * x3 * y1 - 1 * x3 * y2 - 2 * x3 * y3) := by
    simp only [zp, hx0, hy0, hx1, hy1, hx2, hy2, hx3, hy3, hx4, hy4, hx5, hy5, hx6, hy6, hx7, hy7, hs7, ht7, hs6, ht6, hs5, ht5, hs4, ht4]
    grind
  have e1 : zp x b 1 = 2 * (0 - 1 * s4 * y2 + 2 * s5 * t6 - 1 * s5 * y0 - 1 * s5 * y1 - 1 * s5 * y2 - 2 * s6 * t5 + 1 * s6 * y0 + 1 * s6 * y2 + 1 * s6 * y3 - 1 * s7 * y3 + 1 * x0 * t5 - 1 * x0 * t6 + 1 * x0 * y1 + 1 * x1 * t5 + 1 * x2 * t4 + 1 * x2 * t5 - 1 * x2 * t6 - 1 * x2 * y3 - 1 * x3 * t6 + 1 * x3 * t7 + 1 * x3 * y2) := by
    simp only [zp, hx0, hy0, hx1, hy1, hx2, hy2, hx3, hy3, hx4, hy4, hx5, hy5, hx6, hy6, hx7, hy7, hs7, ht7, hs6, ht6, hs5, ht5, hs4, ht4]
    grind
  have e2 : zp x b 2 = 2 * (0 + 1 * s4 * y1 - 1 * s5 * y3 + 2 * s6 * t7 - 1 * s6 * y0 - 1 * s6 * y1 - 1 * s6 * y3 - 2 * s7 * t6 + 1 * s7 * y0 + 1 * s7 * y1 + 1 * s7 * y2 + 1 * x0 * t6 - 1 * x0 * t7 + 1 * x0 * y3 - 1 * x1 * t4 + 1 * x1 * t6 - 1 * x1 * t7 + 1 * x1 * y3 - 1 * x2 * t7 + 1 * x2 * y0 + 1 * x2 * y3 + 1 * x3 * t5 + 1 * x3 * t6 - 1 * x3 * y0 - 1 * x3 * y1 - 1 * x3 * y2) := by
    simp only [zp, hx0, hy0, hx1, hy1, hx2, hy2, hx3, hy3, hx4, hy4, hx5, hy5, hx6, hy6, hx7, hy7, hs7, ht7, hs6, ht6, hs5, ht5, hs4, ht4]
    grind
  have e3 : zp x b 3 = 2 * (0 + 2 * s4 * t6 - 1 * s4 * y0 - 1 * s4 * y1 - 1 * s4 * y2 + 1 * s5 * y2 - 2 * s6 * t4 + 1 * s6 * y1 + 1 * s6 * y2 + 1 * s6 * y3 + 1 * s7 * y1 + 1 * x0 * t4 - 1 * x0 * y1 - 1 * x0 * y2 + 1 * x1 * t4 - 1 * x1 * t6 - 1 * x1 * t7 + 1 * x1 * y0 + 1 * x2 * t4 - 1 * x2 * t5 - 1 * x2 * t6 + 1 * x2 * y0 - 1 * x3 * t6 + 1 * x3 * y0) := by
    simp only [zp, hx0, hy0, hx1, hy1, hx2, hy2, hx3, hy3, hx4, hy4, hx5, hy5, hx6, hy6, hx7, hy7, hs7, ht7, hs6, ht6, hs5, ht5, hs4, ht4]
    grind
  have e4 : zp x b 4 = 2 * (0 + 1 * s4 * y0 + 2 * s5 * t7 - 1 * s5 * y0 - 1 * s5 * y1 - 1 * s5 * y3 + 1 * s6 * y3 - 2 * s7 * t5 + 1 * s7 * y0 + 1 * s7 * y2 + 1 * s7 * y3 + 1 * x0 * t4 + 1 * x0 * t5 - 1 * x0 * t7 - 1 * x0 * y2 - 1 * x0 * y3 + 1 * x1 * t5 - 1 * x1 * y0 - 1 * x1 * y3 - 1 * x2 * t7 + 1 * x3 * t5 - 1 * x3 * t6 - 1 * x3 * t7 + 1 * x3 * y1) := by
    simp only [zp, hx0, hy0, hx1, hy1, hx2, hy2, hx3, hy3, hx4, hy4, hx5, hy5, hx6, hy6, hx7, hy7, hs7, ht7, hs6, ht6, hs5, ht5, hs4, ht4]
    grind
  have e5 : zp x b 5 = 2 * (0 - 2 * s4 * t7 + 1 * s4 * y0 + 1 * s4 * y1 + 1 * s4 * y3 + 1 * s5 * y0 + 1 * s6 * y1 + 2 * s7 * t4 - 1 * s7 * y1 - 1 * s7 * y2 - 1 * s7 * y3 - 1 * x0 * t4 + 1 * x0 * t5 - 1 * x0 * y0 - 1 * x1 * t4 - 1 * x1 * t6 + 1 * x1 * t7 + 1 * x1 * y2 + 1 * x2 * t7 - 1 * x2 * y0 - 1 * x2 * y1 - 1 * x3 * t4 + 1 * x3 * t7 - 1 * x3 * y0) := by
    simp only [zp, hx0, hy0, hx1, hy1, hx2, hy2, hx3, hy3, hx4, hy4, hx5, hy5, hx6, hy6, hx7, hy7, hs7, ht7, hs6, ht6, hs5, ht5, hs4, ht4]
    grind
  have e6 : zp x b 6 = 2 * (0 - 1 * s4 * y3 - 1 * s5 * y1 + 1 * s6 * y0 + 1 * s7 * y2 + 1 * x0 * t6 - 1 * x0 * y0 - 1 * x0 * y2 + 1 * x1 * t5 - 1 * x1 * y0 - 1 * x1 * y2 - 1 * x2 * t7 + 1 * x2 * y1 + 1 * x2 * y3 + 1 * x3 * t4 - 1 * x3 * y2) := by
    simp only [zp, hx0, hy0, hx1, hy1, hx2, hy2, hx3, hy3, hx4, hy4, hx5, hy5, hx6, hy6, hx7, hy7, hs7, ht7, hs6, ht6, hs5, ht5, hs4, ht4]
    grind
  have e7 : zp x b 7 = 2 * (0 + 2 * s4 * t5 - 1 * s4 * y0 - 1 * s4 * y2 - 1 * s4 * y3 - 2 * s5 * t4 + 1 * s5 * y1 + 1 * s5 * y2 + 1 * s5 * y3 - 1 * s6 * y2 + 1 * s7 * y0 + 1 * x0 * t4 + 1 * x0 * t7 - 1 * x0 * y0 - 1 * x0 * y1 - 1 * x0 * y3 - 1 * x1 * t5 + 1 * x1 * y2 + 1 * x1 * y3 + 1 * x2 * t4 - 1 * x2 * t5 + 1 * x2 * t6 - 1 * x2 * y1 + 1 * x3 * t4 - 1 * x3 * t5 - 1 * x3 * y1) := by
    simp only [zp, hx0, hy0, hx1, hy1, hx2, hy2, hx3, hy3, hx4, hy4, hx5, hy5, hx6, hy6, hx7, hy7, hs7, ht7, hs6, ht6, hs5, ht5, hs4, ht4]
    grind
  have f7 : zp x b 0 + zp x b 1 + zp x b 3 + zp x b 7 = 4 * (0 - 1 * s4 * t4 + 1 * s4 * t5 + 1 * s4 * t6 - 1 * s4 * y0 - 1 * s4 * y2 - 1 * s5 * t4 - 1 * s5 * t5 + 1 * s5 * t6 + 1 * s5 * y2 + 1 * s5 * y3 - 1 * s6 * t4 - 1 * s6 * t5 - 1 * s6 * t6 + 1 * s6 * y0 + 1 * s6 * y1 + 1 * s6 * y2 + 1 * s6 * y3 - 1 * s7 * t7 + 1 * s7 * y0 + 1 * s7 * y1 + 1 * x0 * t4 + 1 * x0 * t5 + 1 * x0 * t7 - 1 * x0 * y0 - 1 * x0 * y1 - 1 * x0 * y2 - 1 * x0 * y3 + 1 * x1 * t4 - 1 * x1 * y1 + 2 * x2 * t4 - 1 * x2 * y1 - 1 * x2 * y2 - 1 * x2 * y3 + 1 * x3 * t4 - 1 * x3 * t6 + 1 * x3 * t7 - 1 * x3 * y1 - 1 * x3 * y3) := by
    simp only [e0, e1, e3, e7]
    grind
  have f6 : zp x b 0 + zp x b 1 + zp x b 2 + zp x b 6 = 4 * (0 - 1 * s4 * t4 + 1 * s4 * y1 - 1 * s5 * t5 + 1 * s5 * t6 - 1 * s5 * y1 - 1 * s6 * t5 - 1 * s6 * t6 + 1 * s6 * t7 + 1 * s6 * y0 + 1 * s6 * y2 - 1 * s7 * t6 - 1 * s7 * t7 + 1 * s7 * y0 + 1 * s7 * y1 + 1 * s7 * y2 + 1 * x0 * t5 + 1 * x0 * t6 - 1 * x0 * y0 - 1 * x0 * y2 + 1 * x1 * t5 + 1 * x1 * t6 - 1 * x1 * y0 - 1 * x1 * y1 - 1 * x1 * y2 + 1 * x2 * t4 + 1 * x2 * t5 - 1 * x2 * t7 - 1 * x2 * y2 + 1 * x3 * t4 + 1 * x3 * t5 + 1 * x3 * t7 - 1 * x3 * y0 - 1 * x3 * y1 - 1 * x3 * y2 - 1 * x3 * y3) := by
    simp only [e0, e1, e2, e6]
    grind
  have f5 : zp x b 0 + zp x b 2 + zp x b 3 + zp x b 5 = 4 * (0 - 1 * s4 * t4 + 1 * s4 * t6 - 1 * s4 * t7 + 1 * s4 * y1 + 1 * s4 * y3 - 1 * s5 * t5 + 1 * s5 * y0 + 1 * s5 * y2 - 1 * s6 * t4 - 1 * s6 * t6 + 1 * s6 * t7 + 1 * s6 * y1 + 1 * s6 * y2 + 1 * s7 * t4 - 1 * s7 * t6 - 1 * s7 * t7 + 1 * s7 * y0 + 1 * s7 * y1 + 1 * x0 * t5 + 1 * x0 * t6 - 1 * x0 * y0 - 1 * x0 * y1 - 1 * x0 * y2 - 1 * x1 * y1 + 1 * x2 * t4 - 1 * x2 * y1 - 1 * x2 * y2 + 1 * x3 * t5 + 1 * x3 * t7 - 1 * x3 * y0 - 1 * x3 * y1 - 1 * x3 * y2 - 1 * x3 * y3) := by
    simp only [e0, e2, e3, e5]
    grind
  have f4 : zp x b 1 + zp x b 2 + zp x b 3 + zp x b 4 = 4 * (0 + 1 * s4 * t6 - 1 * s4 * y2 + 1 * s5 * t6 + 1 * s5 * t7 - 1 * s5 * y0 - 1 * s5 * y1 - 1 * s5 * y3 - 1 * s6 * t4 - 1 * s6 * t5 + 1 * s6 * t7 + 1 * s6 * y2 + 1 * s6 * y3 - 1 * s7 * t5 - 1 * s7 * t6 + 1 * s7 * y0 + 1 * s7 * y1 + 1 * s7 * y2 + 1 * x0 * t4 + 1 * x0 * t5 - 1 * x0 * t7 - 1 * x0 * y2 + 1 * x1 * t5 - 1 * x1 * t7 + 1 * x2 * t4 - 1 * x2 * t6 - 1 * x2 * t7 + 1 * x2 * y0 + 1 * x3 * t5 - 1 * x3 * t6) := by
    simp only [e1, e2, e3, e4]
    grind
  refine ⟨fun k hk => ?_, by rw [f7]; exact Int.mul_emod_right 4 _, by rw [f6]; exact Int.mul_emod_right 4 _, by rw [f5]; exact Int.mul_emod_right 4 _, by rw [f4]; exact Int.mul_emod_right 4 _⟩
  rcases (show k = 0 ∨ k = 1 ∨ k = 2 ∨ k = 3 ∨ k = 4 ∨ k = 5 ∨ k = 6 ∨ k = 7 by omega) with rfl | rfl | rfl | rfl | rfl | rfl | rfl | rfl
  · rw [e0]; exact Int.mul_emod_right 2 _
  · rw [e1]; exact Int.mul_emod_right 2 _
  · rw [e2]; exact Int.mul_emod_right 2 _
  · rw [e3]; exact Int.mul_emod_right 2 _
  · rw [e4]; exact Int.mul_emod_right 2 _
  · rw [e5]; exact Int.mul_emod_right 2 _
  · rw [e6]; exact Int.mul_emod_right 2 _
  · rw [e7]; exact Int.mul_emod_right 2 _
theorem zcl4 (x b : Nat → Int) (hx : zlat 4 x) (hb : zlat 4 b) : (∀ k, k < 8 → zp x b k % 2 = 0) ∧ (zp x b 0 + zp x b 2 + zp x b 3 + zp x b 7) % 4 = 0 ∧ (zp x b 1 + zp x b 2 + zp x b 3 + zp x b 6) % 4 = 0 ∧ (zp x b 0 + zp x b 1 + zp x b 3 + zp x b 5) % 4 = 0 ∧ (zp x b 0 + zp x b 1 + zp x b 2 + zp x b 4) % 4 = 0 := by
  obtain ⟨a7, a6, a5, a4⟩ := hx
  obtain ⟨c7, c6, c5, c4⟩ := hb
  obtain ⟨s7, hs7⟩ : ∃ s : Int, x 7 = 2 * s - x 0 - x 2 - x 3 := ⟨(x 0 + x 2 + x 3 + x 7) / 2, by omega⟩
  obtain ⟨t7, ht7⟩ : ∃ s : Int, b 7 = 2 * s - b 0 - b 2 - b 3 := ⟨(b 0 + b 2 + b 3 + b 7) / 2, by omega⟩
  obtain ⟨s6, hs6⟩ : ∃ s : Int, x 6 = 2 * s - x 1 - x 2 - x 3 := ⟨(x 1 + x 2 + x 3 + x 6) / 2, by omega⟩
  obtain ⟨t6, ht6⟩ : ∃ s : Int, b 6 = 2 * s - b 1 - b 2 - b 3 := ⟨(b 1 + b 2 + b 3 + b 6) / 2, by omega⟩
  obtain ⟨s5, hs5⟩ : ∃ s : Int, x 5 = 2 * s - x 0 - x 1 - x 3 := ⟨(x 0 + x 1 + x 3 + x 5) / 2, by omega⟩
  obtain ⟨t5, ht5⟩ : ∃ s : Int, b 5 = 2 * s - b 0 - b 1 - b 3 := ⟨(b 0 + b 1 + b 3 + b 5) / 2, by omega⟩
  obtain ⟨s4, hs4⟩ : ∃ s : Int, x 4 = 2 * s - x 0 - x 1 - x 2 := ⟨(x 0 + x 1 + x 2 + x 4) / 2, by omega⟩
  obtain ⟨t4, ht4⟩ : ∃ s : Int, b 4 = 2 * s - b 0 - b 1 - b 2 := ⟨(b 0 + b 1 + b 2 + b 4) / 2, by omega⟩
  generalize hx0 : x 0 = x0 at *
  generalize hy0 : b 0 = y0 at *
  generalize hx1 : x 1 = x1 at *
  generalize hy1 : b 1 = y1 at *
  generalize hx2 : x 2 = x2 at *
  generalize hy2 : b 2 = y2 at *
  generalize hx3 : x 3 = x3 at *
  generalize hy3 : b 3 = y3 at *
  generalize hx7 : x 7 = x7 at *
  generalize hy7 : b 7 = y7 at *
  generalize hx6 : x 6 = x6 at *
  generalize hy6 : b 6 = y6 at *
  generalize hx5 : x 5 = x5 at *
  generalize hy5 : b 5 = y5 at *
  generalize hx4 : x 4 = x4 at *
  generalize hy4 : b 4 = y4 at *
  clear a7 c7 a6 c6 a5 c5 a4 c4
  have e0 : zp x b 0 = 2 * (0 - 2 * s4 * t4 + 1 * s4 * y0 + 1 * s4 * y1 + 1 * s4 * y2 - 2 * s5 * t5 + 1 * s5 * y0 + 1 * s5 * y1 + 1 * s5 * y3 - 2 * s6 * t6 + 1 * s6 * y1 + 1 * s6 * y2 + 1 * s6 * y3 - 2 * s7 * t7 + 1 * s7 * y0 + 1 * s7 * y2 + 1 * s7 * y3 + 1 * x0 * t4 + 1 * x0 * t5 + 1 * x0 * t7 - 1 * x0 * y0 - 1 * x0 * y1 - 1 * x0 * y2 - 1 * x0 * y3 + 1 * x1 * t4 + 1 * x1 * t5 + 1 * x1 * t6 - 1 * x1 * y0 - 2 * x1 * y1 - 1 * x1 * y2 - 1 * x1 * y3 + 1 * x2 * t4 + 1 * x2 * t6 + 1 * x2 * t7 - 1 * x2 * y0 - 1 * x2 * y1 - 2 * x2 * y2 - 1 * x2 * y3 + 1 * x3 * t5 + 1 * x3 * t6 + 1 * x3 * t7 - 1 * x3 * y0 - 1 * x3 * y1 - 1 * x3 * y2 - 2 * x3 * y3) := by
    simp only [zp, hx0, hy0, hx1, hy1, hx2, hy2, hx3, hy3, hx4, hy4, hx5, hy5, hx6, hy6, hx7, hy7, hs7, ht7, hs6, ht6, hs5, ht5, hs4, ht4]
    grind
  have e1 : zp x b 1 = 2 * (0 - 1 * s4 * y2 + 2 * s5 * t6 - 1 * s5 * y1 - 1 * s5 * y2 - 1 * s5 * y3 - 2 * s6 * t5 + 1 * s6 * y0 + 1 * s6 * y1 + 1 * s6 * y3 - 1 * s7 * y3 - 1 * x0 * t6 + 1 * x0 * y1 + 1 * x0 * y2 + 1 * x0 * y3 + 1 * x1 * t5 - 1 * x1 * t6 + 1 * x1 * y2 + 1 * x2 * t4 + 1 * x2 * t5 - 1 * x2 * y0 - 1 * x2 * y1 + 1 * x3 * t5 - 1 * x3 * t6 + 1 * x3 * t7 - 1 * x3 * y0) := by
    simp only [zp, hx0, hy0, hx1, hy1, hx2, hy2, hx3, hy3, hx4, hy4, hx5, hy5, hx6, hy6, hx7, hy7, hs7, ht7, hs6, ht6, hs5, ht5, hs4, ht4]
    grind
  have e2 : zp x b 2 = 2 * (0 + 1 * s4 * y1 - 1 * s5 * y3 + 2 * s6 * t7 - 1 * s6 * y0 - 1 * s6 * y2 - 1 * s6 * y3 - 2 * s7 * t6 + 1 * s7 * y1 + 1 * s7 * y2 + 1 * s7 * y3 + 1 * x0 * t6 - 1 * x0 * y1 - 1 * x1 * t4 - 1 * x1 * t7 + 1 * x1 * y0 + 1 * x1 * y2 + 1 * x1 * y3 + 1 * x2 * t6 - 1 * x2 * t7 + 1 * x2 * y0 - 1 * x2 * y1 + 1 * x3 * t5 + 1 * x3 * t6 - 1 * x3 * t7 - 1 * x3 * y1) := by
    simp only [zp, hx0, hy0, hx1, hy1, hx2, hy2, hx3, hy3, hx4, hy4, hx5, hy5, hx6, hy6, hx7, hy7, hs7, ht7, hs6, ht6, hs5, ht5, hs4, ht4]
    grind
  have e3 : zp x b 3 = 2 * (0 + 2 * s4 * t6 - 1 * s4 * y1 - 1 * s4 * y2 - 1 * s4 * y3 + 1 * s5 * y2 - 2 * s6 * t4 + 1 * s6 * y0 + 1 * s6 * y1 + 1 * s6 * y2 + 1 * s7 * y1 - 1 * x0 * t6 + 1 * x0 * y3 + 1 * x1 * t4 - 1 * x1 * t6 - 1 * x1 * t7 + 1 * x1 * y3 + 1 * x2 * t4 - 1 * x2 * t5 - 1 * x2 * t6 + 1 * x2 * y3 + 1 * x3 * t4 - 1 * x3 * y1 - 1 * x3 * y2) := by
    simp only [zp, hx0, hy0, hx1, hy1, hx2, hy2, hx3, hy3, hx4, hy4, hx5, hy5, hx6, hy6, hx7, hy7, hs7, ht7, hs6, ht6, hs5, ht5, hs4, ht4]
    grind
  have e4 : zp x b 4 = 2 * (0 + 1 * s4 * y0 + 2 * s5 * t7 - 1 * s5 * y0 - 1 * s5 * y2 - 1 * s5 * y3 + 1 * s6 * y3 - 2 * s7 * t5 + 1 * s7 * y0 + 1 * s7 * y1 + 1 * s7 * y3 + 1 * x0 * t4 + 1 * x0 * t5 - 1 * x0 * t7 - 1 * x0 * y0 - 1 * x0 * y1 - 1 * x1 * t7 + 1 * x1 * y2 + 1 * x2 * t5 - 1 * x2 * y0 - 1 * x2 * y1 - 1 * x2 * y3 + 1 * x3 * t5 - 1 * x3 * t6 - 1 * x3 * t7 + 1 * x3 * y2) := by
    simp only [zp, hx0, hy0, hx1, hy1, hx2, hy2, hx3, hy3, hx4, hy4, hx5, hy5, hx6, hy6, hx7, hy7, hs7, ht7, hs6, ht6, hs5, ht5, hs4, ht4]
    grind
  have e5 : zp x b 5 = 2 * (0 - 2 * s4 * t7 + 1 * s4 * y0 + 1 * s4 * y2 + 1 * s4 * y3 + 1 * s5 * y0 + 1 * s6 * y1 + 2 * s7 * t4 - 1 * s7 * y0 - 1 * s7 * y1 - 1 * s7 * y2 - 1 * x0 * t4 + 1 * x0 * t5 + 1 * x0 * t7 - 1 * x0 * y0 - 1 * x0 * y3 - 1 * x1 * t6 + 1 * x1 * t7 - 1 * x1 * y0 - 1 * x2 * t4 + 1 * x2 * t7 - 1 * x3 * t4) := by
    simp only [zp, hx0, hy0, hx1, hy1, hx2, hy2, hx3, hy3, hx4, hy4, hx5, hy5, hx6, hy6, hx7, hy7, hs7, ht7, hs6, ht6, hs5, ht5, hs4, ht4]
    grind
  have e6 : zp x b 6 = 2 * (0 - 1 * s4 * y3 - 1 * s5 * y1 + 1 * s6 * y0 + 1 * s7 * y2 + 1 * x0 * t6 - 1 * x0 * y2 + 1 * x1 * t5 - 1 * x1 * y0 - 1 * x2 * t7 + 1 * x2 * y3 + 1 * x3 * t4 - 1 * x3 * y0 - 1 * x3 * y2) := by
    simp only [zp, hx0, hy0, hx1, hy1, hx2, hy2, hx3, hy3, hx4, hy4, hx5, hy5, hx6, hy6, hx7, hy7, hs7, ht7, hs6, ht6, hs5, ht5, hs4, ht4]
    grind
  have e7 : zp x b 7 = 2 * (0 + 2 * s4 * t5 - 1 * s4 * y0 - 1 * s4 * y1 - 1 * s4 * y3 - 2 * s5 * t4 + 1 * s5 * y0 + 1 * s5 * y1 + 1 * s5 * y2 - 1 * s6 * y2 + 1 * s7 * y0 + 1 * x0 * t4 - 1 * x0 * t5 + 1 * x0 * t7 - 1 * x0 * y0 - 1 * x0 * y2 + 1 * x1 * t4 - 1 * x1 * t5 + 1 * x1 * y3 - 1 * x2 * t5 + 1 * x2 * t6 + 1 * x3 * t4 - 1 * x3 * y0 - 1 * x3 * y1) := by
    simp only [zp, hx0, hy0, hx1, hy1, hx2, hy2, hx3, hy3, hx4, hy4, hx5, hy5, hx6, hy6, hx7, hy7, hs7, ht7, hs6, ht6, hs5, ht5, hs4, ht4]
    grind
  have f7 : zp x b 0 + zp x b 2 + zp x b 3 + zp x b 7 = 4 * (0 - 1 * s4 * t4 + 1 * s4 * t5 + 1 * s4 * t6 - 1 * s4 * y3 - 1 * s5 * t4 - 1 * s5 * t5 + 1 * s5 * y0 + 1 * s5 * y1 + 1 * s5 * y2 - 1 * s6 * t4 - 1 * s6 * t6 + 1 * s6 * t7 + 1 * s6 * y1 - 1 * s7 * t6 - 1 * s7 * t7 + 1 * s7 * y0 + 1 * s7 * y1 + 1 * s7 * y2 + 1 * s7 * y3 + 1 * x0 * t4 + 1 * x0 * t7 - 1 * x0 * y0 - 1 * x0 * y1 - 1 * x0 * y2 + 1 * x1 * t4 - 1 * x1 * t7 - 1 * x1 * y1 + 1 * x1 * y3 + 1 * x2 * t4 - 1 * x2 * t5 + 1 * x2 * t6 - 1 * x2 * y1 - 1 * x2 * y2 + 1 * x3 * t4 + 1 * x3 * t5 + 1 * x3 * t6 - 1 * x3 * y0 - 2 * x3 * y1 - 1 * x3 * y2 - 1 * x3 * y3) := by
    simp only [e0, e2, e3, e7]
    grind
  have f6 : zp x b 1 + zp x b 2 + zp x b 3 + zp x b 6 = 4 * (0 + 1 * s4 * t6 - 1 * s4 * y2 - 1 * s4 * y3 + 1 * s5 * t6 - 1 * s5 * y1 - 1 * s5 * y3 - 1 * s6 * t4 - 1 * s6 * t5 + 1 * s6 * t7 + 1 * s6 * y0 + 1 * s6 * y1 - 1 * s7 * t6 + 1 * s7 * y1 + 1 * s7 * y2 + 1 * x0 * y3 + 1 * x1 * t5 - 1 * x1 * t6 - 1 * x1 * t7 + 1 * x1 * y2 + 1 * x1 * y3 + 1 * x2 * t4 - 1 * x2 * t7 - 1 * x2 * y1 + 1 * x2 * y3 + 1 * x3 * t4 + 1 * x3 * t5 - 1 * x3 * y0 - 1 * x3 * y1 - 1 * x3 * y2) := by
    simp only [e1, e2, e3, e6]
    grind
  have f5 : zp x b 0 + zp x b 1 + zp x b 3 + zp x b 5 = 4 * (0 - 1 * s4 * t4 + 1 * s4 * t6 - 1 * s4 * t7 + 1 * s4 * y0 - 1 * s5 * t5 + 1 * s5 * t6 + 1 * s5 * y0 - 1 * s6 * t4 - 1 * s6 * t5 - 1 * s6 * t6 + 1 * s6 * y0 + 2 * s6 * y1 + 1 * s6 * y2 + 1 * s6 * y3 + 1 * s7 * t4 - 1 * s7 * t7 + 1 * x0 * t5 - 1 * x0 * t6 + 1 * x0 * t7 - 1 * x0 * y0 + 1 * x1 * t4 + 1 * x1 * t5 - 1 * x1 * t6 - 1 * x1 * y0 - 1 * x1 * y1 + 1 * x2 * t4 + 1 * x2 * t7 - 1 * x2 * y0 - 1 * x2 * y1 - 1 * x2 * y2 + 1 * x3 * t5 + 1 * x3 * t7 - 1 * x3 * y0 - 1 * x3 * y1 - 1 * x3 * y2 - 1 * x3 * y3) := by
    simp only [e0, e1, e3, e5]
    grind
  have f4 : zp x b 0 + zp x b 1 + zp x b 2 + zp x b 4 = 4 * (0 - 1 * s4 * t4 + 1 * s4 * y0 + 1 * s4 * y1 - 1 * s5 * t5 + 1 * s5 * t6 + 1 * s5 * t7 - 1 * s5 * y2 - 1 * s5 * y3 - 1 * s6 * t5 - 1 * s6 * t6 + 1 * s6 * t7 + 1 * s6 * y1 + 1 * s6 * y3 - 1 * s7 * t5 - 1 * s7 * t6 - 1 * s7 * t7 + 1 * s7 * y0 + 1 * s7 * y1 + 1 * s7 * y2 + 1 * s7 * y3 + 1 * x0 * t4 + 1 * x0 * t5 - 1 * x0 * y0 - 1 * x0 * y1 + 1 * x1 * t5 - 1 * x1 * t7 - 1 * x1 * y1 + 1 * x1 * y2 + 1 * x2 * t4 + 1 * x2 * t5 + 1 * x2 * t6 - 1 * x2 * y0 - 2 * x2 * y1 - 1 * x2 * y2 - 1 * x2 * y3 + 2 * x3 * t5 - 1 * x3 * y0 - 1 * x3 * y1 - 1 * x3 * y3) := by
    simp only [e0, e1, e2, e4]
    grind
  refine ⟨fun k hk => ?_, by rw [f7]; exact Int.mul_emod_right 4 _, by rw [f6]; exact Int.mul_emod_right 4 _, by rw [f5]; exact Int.mul_emod_right 4 _, by rw [f4]; exact Int.mul_emod_right 4 _⟩
  rcases (show k = 0 ∨ k = 1 ∨ k = 2 ∨ k = 3 ∨ k = 4 ∨ k = 5 ∨ k = 6 ∨ k = 7 by omega) with rfl | rfl | rfl | rfl | rfl | rfl | rfl | rfl
  · rw [e0]; exact Int.mul_emod_right 2 _
  · rw [e1]; exact Int.mul_emod_right 2 _
  · rw [e2]; exact Int.mul_emod_right 2 _
  · rw [e3]; exact Int.mul_emod_right 2 _
  · rw [e4]; exact Int.mul_emod_right 2 _
  · rw [e5]; exact Int.mul_emod_right 2 _
  · rw [e6]; exact Int.mul_emod_right 2 _
  · rw [e7]; exact Int.mul_emod_right 2 _
theorem zcl5 (x b : Nat → Int) (hx : zlat 5 x) (hb : zlat 5 b) : (∀ k, k < 8 → zp x b k % 2 = 0) ∧ (zp x b 0 + zp x b 1 + zp x b 2 + zp x b 7) % 4 = 0 ∧ (zp x b 1 + zp x b 2 + zp x b 3 + zp x b 6) % 4 = 0 ∧ (zp x b 0 + zp x b 2 + zp x b 3 + zp x b 5) % 4 = 0 ∧ (zp x b 0 + zp x b 1 + zp x b 3 + zp x b 4) % 4 = 0 := by
  obtain ⟨a7, a6, a5, a4⟩ := hx
  obtain ⟨c7, c6, c5, c4⟩ := hb
  obtain ⟨s7, hs7⟩ : ∃ s : Int, x 7 = 2 * s - x 0 - x 1 - x 2 := ⟨(x 0 + x 1 + x 2 + x 7) / 2, by omega⟩
  obtain ⟨t7, ht7⟩ : ∃ s : Int, b 7 = 2 * s - b 0 - b 1 - b 2 := ⟨(b 0 + b 1 + b 2 + b 7) / 2, by omega⟩
  obtain ⟨s6, hs6⟩ : ∃ s : Int, x 6 = 2 * s - x 1 - x 2 - x 3 := ⟨(x 1 + x 2 + x 3 + x 6) / 2, by omega⟩
  obtain ⟨t6, ht6⟩ : ∃ s : Int, b 6 = 2 * s - b 1 - b 2 - b 3 := ⟨(b 1 + b 2 + b 3 + b 6) / 2, by omega⟩
  obtain ⟨s5, hs5⟩ : ∃ s : Int, x 5 = 2 * s - x 0 - x 2 - x 3 := ⟨(x 0 + x 2 + x 3 + x 5) / 2, by omega⟩
  obtain ⟨t5, ht5⟩ : ∃ s : Int, b 5 = 2 * s - b 0 - b 2 - b 3 := ⟨(b 0 + b 2 + b 3 + b 5) / 2, by omega⟩
  obtain ⟨s4, hs4⟩ : ∃ s : Int, x 4 = 2 * s - x 0 - x 1 - x 3 := ⟨(x 0 + x 1 + x 3 + x 4) / 2, by omega⟩
  obtain ⟨t4, ht4⟩ : ∃ s : Int, b 4 = 2 * s - b 0 - b 1 - b 3 := ⟨(b 0 + b 1 + b 3 + b 4) / 2, by omega⟩
  generalize hx0 : x 0 = x0 at *
  generalize hy0 : b 0 = y0 at *
  generalize hx1 : x 1 = x1 at *
  generalize hy1 : b 1 = y1 at *
  generalize hx2 : x 2 = x2 at *
  generalize hy2 : b 2 = y2 at *
  generalize hx3 : x 3 = x3 at *
  generalize hy3 : b 3 = y3 at *
  generalize hx7 : x 7 = x7 at *
  generalize hy7 : b 7 = y7 at *
  generalize hx6 : x 6 = x6 at *
  generalize hy6 : b 6 = y6 at *
  generalize hx5 : x 5 = x5 at *
  generalize hy5 : b 5 = y5 at *
  generalize hx4 : x 4 = x4 at *
  generalize hy4 : b 4 = y4 at *
  clear a7 c7 a6 c6 a5 c5 a4 c4
  have e0 : zp x b 0 = 2 * (0 - 2 * s4 * t4 + 1 * s4 * y0 + 1 * s4 * y1 + 1 * s4 * y3 - 2 * s5 * t5 + 1 * s5 * y0 + 1 * s5 * y2 + 1 * s5 * y3 - 2 * s6 * t6 + 1 * s6 * y1 + 1 * s6 * y2 + 1 * s6 * y3 - 2 * s7 * t7 + 1 * s7 * y0 + 1 * s7 * y1 + 1 * s7 * y2 + 1 * x0 * t4 + 1 * x0 * t5 + 1 * x0 * t7 - 1 * x0 * y0 - 1 * x0 * y1 - 1 * x0 * y2 - 1 * x0 * y3 + 1 * x1 * t4 + 1 * x1 * t6 + 1 * x1 * t7 - 1 * x1 * y0 - 2 * x1 * y1 - 1 * x1 * y2 - 1 * x1 * y3 + 1 * x2 * t5 + 1 * x2 * t6 + 1 * x2 * t7 - 1 * x2 * y0 - 1 * x2 * y1 - 2 * x2 * y2 - 1 * x2 * y3 + 1 * x3 * t4 + 1 * x3 * t5 + 1 * x3 * t6 - 1 * x3 * y0 - 1 * x3 * y1 - 1 * x3 * y2 - 2 * x3 * y3) := by
    simp only [zp, hx0, hy0, hx1, hy1, hx2, hy2, hx3, hy3, hx4, hy4, hx5, hy5, hx6, hy6, hx7, hy7, hs7, ht7, hs6, ht6, hs5, ht5, hs4, ht4]
    grind
  have e1 : zp x b 1 = 2 * (0 - 1 * s4 * y2 + 2 * s5 * t6 - 1 * s5 * y1 - 1 * s5 * y2 - 1 * s5 * y3 - 2 * s6 * t5 + 1 * s6 * y0 + 1 * s6 * y2 + 1 * s6 * y3 - 1 * s7 * y3 - 1 * x0 * t6 + 1 * x0 * y1 + 1 * x0 * y2 + 1 * x0 * y3 + 1 * x1 * t5 + 1 * x2 * t4 + 1 * x2 * t5 - 1 * x2 * t6 - 1 * x2 * y0 + 1 * x3 * t5 - 1 * x3 * t6 + 1 * x3 * t7 - 1 * x3 * y0) := by
    simp only [zp, hx0, hy0, hx1, hy1, hx2, hy2, hx3, hy3, hx4, hy4, hx5, hy5, hx6, hy6, hx7, hy7, hs7, ht7, hs6, ht6, hs5, ht5, hs4, ht4]
    grind
  have e2 : zp x b 2 = 2 * (0 + 1 * s4 * y1 - 1 * s5 * y3 + 2 * s6 * t7 - 1 * s6 * y0 - 1 * s6 * y1 - 1 * s6 * y2 - 2 * s7 * t6 + 1 * s7 * y1 + 1 * s7 * y2 + 1 * s7 * y3 + 1 * x0 * t6 - 1 * x0 * y1 - 1 * x1 * t4 + 1 * x1 * t6 - 1 * x1 * t7 + 1 * x1 * y0 + 1 * x2 * t6 - 1 * x2 * t7 + 1 * x2 * y0 + 1 * x3 * t5 - 1 * x3 * t7) := by
    simp only [zp, hx0, hy0, hx1, hy1, hx2, hy2, hx3, hy3, hx4, hy4, hx5, hy5, hx6, hy6, hx7, hy7, hs7, ht7, hs6, ht6, hs5, ht5, hs4, ht4]
    grind
  have e3 : zp x b 3 = 2 * (0 + 2 * s4 * t6 - 1 * s4 * y1 - 1 * s4 * y2 - 1 * s4 * y3 + 1 * s5 * y2 - 2 * s6 * t4 + 1 * s6 * y0 + 1 * s6 * y1 + 1 * s6 * y3 + 1 * s7 * y1 - 1 * x0 * t6 + 1 * x0 * y3 + 1 * x1 * t4 - 1 * x1 * t6 - 1 * x1 * t7 + 1 * x1 * y2 + 1 * x2 * t4 - 1 * x2 * t5 - 1 * x2 * y1 + 1 * x3 * t4 - 1 * x3 * t6) := by
    simp only [zp, hx0, hy0, hx1, hy1, hx2, hy2, hx3, hy3, hx4, hy4, hx5, hy5, hx6, hy6, hx7, hy7, hs7, ht7, hs6, ht6, hs5, ht5, hs4, ht4]
    grind
  have e4 : zp x b 4 = 2 * (0 + 1 * s4 * y0 + 2 * s5 * t7 - 1 * s5 * y0 - 1 * s5 * y1 - 1 * s5 * y2 + 1 * s6 * y3 - 2 * s7 * t5 + 1 * s7 * y0 + 1 * s7 * y2 + 1 * s7 * y3 + 1 * x0 * t4 + 1 * x0 * t5 - 1 * x0 * t7 - 1 * x0 * y0 - 1 * x0 * y3 + 1 * x1 * t5 - 1 * x1 * y0 - 1 * x1 * y3 + 1 * x2 * t5 - 1 * x2 * t7 - 1 * x2 * y3 - 1 * x3 * t6 - 1 * x3 * t7 + 1 * x3 * y1 + 1 * x3 * y2) := by
    simp only [zp, hx0, hy0, hx1, hy1, hx2, hy2, hx3, hy3, hx4, hy4, hx5, hy5, hx6, hy6, hx7, hy7, hs7, ht7, hs6, ht6, hs5, ht5, hs4, ht4]
    grind
  have e5 : zp x b 5 = 2 * (0 - 2 * s4 * t7 + 1 * s4 * y0 + 1 * s4 * y1 + 1 * s4 * y2 + 1 * s5 * y0 + 1 * s6 * y1 + 2 * s7 * t4 - 1 * s7 * y0 - 1 * s7 * y1 - 1 * s7 * y3 - 1 * x0 * t4 + 1 * x0 * t5 + 1 * x0 * t7 - 1 * x0 * y0 - 1 * x0 * y2 - 1 * x1 * t4 - 1 * x1 * t6 + 1 * x1 * t7 + 1 * x1 * y3 - 1 * x2 * t4 + 1 * x2 * y3 + 1 * x3 * t7 - 1 * x3 * y0 - 1 * x3 * y1 - 1 * x3 * y2) := by
    simp only [zp, hx0, hy0, hx1, hy1, hx2, hy2, hx3, hy3, hx4, hy4, hx5, hy5, hx6, hy6, hx7, hy7, hs7, ht7, hs6, ht6, hs5, ht5, hs4, ht4]
    grind
  have e6 : zp x b 6 = 2 * (0 - 1 * s4 * y3 - 1 * s5 * y1 + 1 * s6 * y0 + 1 * s7 * y2 + 1 * x0 * t6 - 1 * x0 * y2 + 1 * x1 * t5 - 1 * x1 * y0 - 1 * x1 * y2 - 1 * x2 * t7 + 1 * x2 * y1 + 1 * x3 * t4 - 1 * x3 * y0) := by
    simp only [zp, hx0, hy0, hx1, hy1, hx2, hy2, hx3, hy3, hx4, hy4, hx5, hy5, hx6, hy6, hx7, hy7, hs7, ht7, hs6, ht6, hs5, ht5, hs4, ht4]
    grind
  have e7 : zp x b 7 = 2 * (0 + 2 * s4 * t5 - 1 * s4 * y0 - 1 * s4 * y2 - 1 * s4 * y3 - 2 * s5 * t4 + 1 * s5 * y0 + 1 * s5 * y1 + 1 * s5 * y3 - 1 * s6 * y2 + 1 * s7 * y0 + 1 * x0 * t4 - 1 * x0 * t5 + 1 * x0 * t7 - 1 * x0 * y0 - 1 * x0 * y1 - 1 * x1 * t5 + 1 * x1 * y2 + 1 * x1 * y3 + 1 * x2 * t4 + 1 * x2 * t6 - 1 * x2 * y0 - 1 * x2 * y1 - 1 * x2 * y3 + 1 * x3 * t4 - 1 * x3 * t5 - 1 * x3 * y1 + 1 * x3 * y2) := by
    simp only [zp, hx0, hy0, hx1, hy1, hx2, hy2, hx3, hy3, hx4, hy4, hx5, hy5, hx6, hy6, hx7, hy7, hs7, ht7, hs6, ht6, hs5, ht5, hs4, ht4]
    grind
  have f7 : zp x b 0 + zp x b 1 + zp x b 2 + zp x b 7 = 4 * (0 - 1 * s4 * t4 + 1 * s4 * t5 + 1 * s4 * y1 - 1 * s4 * y2 - 1 * s5 * t4 - 1 * s5 * t5 + 1 * s5 * t6 + 1 * s5 * y0 - 1 * s6 * t5 - 1 * s6 * t6 + 1 * s6 * t7 + 1 * s6 * y3 - 1 * s7 * t6 - 1 * s7 * t7 + 1 * s7 * y0 + 1 * s7 * y1 + 1 * s7 * y2 + 1 * x0 * t4 + 1 * x0 * t7 - 1 * x0 * y0 - 1 * x0 * y1 + 1 * x1 * t6 - 1 * x1 * y1 + 1 * x2 * t4 + 1 * x2 * t5 + 1 * x2 * t6 - 1 * x2 * y0 - 1 * x2 * y1 - 1 * x2 * y2 - 1 * x2 * y3 + 1 * x3 * t4 + 1 * x3 * t5 - 1 * x3 * y0 - 1 * x3 * y1 - 1 * x3 * y3) := by
    simp only [e0, e1, e2, e7]
    grind
  have f6 : zp x b 1 + zp x b 2 + zp x b 3 + zp x b 6 = 4 * (0 + 1 * s4 * t6 - 1 * s4 * y2 - 1 * s4 * y3 + 1 * s5 * t6 - 1 * s5 * y1 - 1 * s5 * y3 - 1 * s6 * t4 - 1 * s6 * t5 + 1 * s6 * t7 + 1 * s6 * y0 + 1 * s6 * y3 - 1 * s7 * t6 + 1 * s7 * y1 + 1 * s7 * y2 + 1 * x0 * y3 + 1 * x1 * t5 - 1 * x1 * t7 + 1 * x2 * t4 - 1 * x2 * t7 + 1 * x3 * t4 + 1 * x3 * t5 - 1 * x3 * t6 - 1 * x3 * y0) := by
    simp only [e1, e2, e3, e6]
    grind
  have f5 : zp x b 0 + zp x b 2 + zp x b 3 + zp x b 5 = 4 * (0 - 1 * s4 * t4 + 1 * s4 * t6 - 1 * s4 * t7 + 1 * s4 * y0 + 1 * s4 * y1 - 1 * s5 * t5 + 1 * s5 * y0 + 1 * s5 * y2 - 1 * s6 * t4 - 1 * s6 * t6 + 1 * s6 * t7 + 1 * s6 * y1 + 1 * s6 * y3 + 1 * s7 * t4 - 1 * s7 * t6 - 1 * s7 * t7 + 1 * s7 * y1 + 1 * s7 * y2 + 1 * x0 * t5 + 1 * x0 * t7 - 1 * x0 * y0 - 1 * x0 * y1 - 1 * x0 * y2 - 1 * x1 * y1 + 1 * x2 * t6 - 1 * x2 * y1 - 1 * x2 * y2 + 1 * x3 * t4 + 1 * x3 * t5 - 1 * x3 * y0 - 1 * x3 * y1 - 1 * x3 * y2 - 1 * x3 * y3) := by
    simp only [e0, e2, e3, e5]
    grind
  have f4 : zp x b 0 + zp x b 1 + zp x b 3 + zp x b 4 = 4 * (0 - 1 * s4 * t4 + 1 * s4 * t6 + 1 * s4 * y0 - 1 * s4 * y2 - 1 * s5 * t5 + 1 * s5 * t6 + 1 * s5 * t7 - 1 * s5 * y1 - 1 * s6 * t4 - 1 * s6 * t5 - 1 * s6 * t6 + 1 * s6 * y0 + 1 * s6 * y1 + 1 * s6 * y2 + 2 * s6 * y3 - 1 * s7 * t5 - 1 * s7 * t7 + 1 * s7 * y0 + 1 * s7 * y1 + 1 * s7 * y2 + 1 * x0 * t4 + 1 * x0 * t5 - 1 * x0 * t6 - 1 * x0 * y0 + 1 * x1 * t4 + 1 * x1 * t5 - 1 * x1 * y0 - 1 * x1 * y1 - 1 * x1 * y3 + 1 * x2 * t4 + 1 * x2 * t5 - 1 * x2 * y0 - 1 * x2 * y1 - 1 * x2 * y2 - 1 * x2 * y3 + 1 * x3 * t4 + 1 * x3 * t5 - 1 * x3 * t6 - 1 * x3 * y0 - 1 * x3 * y3) := by
    simp only [e0, e1, e3, e4]
    grind
  refine ⟨fun k hk => ?_, by rw [f7]; exact Int.mul_emod_right 4 _, by rw [f6]; exact Int.mul_emod_right 4 _, by rw [f5]; exact Int.mul_emod_right 4 _, by rw [f4]; exact Int.mul_emod_right 4 _⟩
  rcases (show k = 0 ∨ k = 1 ∨ k = 2 ∨ k = 3 ∨ k = 4 ∨ k = 5 ∨ k = 6 ∨ k = 7 by omega) with rfl | rfl | rfl | rfl | rfl | rfl | rfl | rfl
  · rw [e0]; exact Int.mul_emod_right 2 _
  · rw [e1]; exact Int.mul_emod_right 2 _
  · rw [e2]; exact Int.mul_emod_right 2 _
  · rw [e3]; exact Int.mul_emod_right 2 _
  · rw [e4]; exact Int.mul_emod_right 2 _
  · rw [e5]; exact Int.mul_emod_right 2 _
  · rw [e6]; exact Int.mul_emod_right 2 _
  · rw [e7]; exact Int.mul_emod_right 2 _
theorem zcl6 (x b : Nat → Int) (hx : zlat 6 x) (hb : zlat 6 b) : (∀ k, k < 8 → zp x b k % 2 = 0) ∧ (zp x b 0 + zp x b 1 + zp x b 4 + zp x b 7) % 4 = 0 ∧ (zp x b 1 + zp x b 2 + zp x b 4 + zp x b 6) % 4 = 0 ∧ (zp x b 0 + zp x b 2 + zp x b 4 + zp x b 5) % 4 = 0 ∧ (zp x b 0 + zp x b 1 + zp x b 2 + zp x b 3) % 4 = 0 := by
  obtain ⟨a7, a6, a5, a3⟩ := hx
  obtain ⟨c7, c6, c5, c3⟩ := hb
  obtain ⟨s7, hs7⟩ : ∃ s : Int, x 7 = 2 * s - x 0 - x 1 - x 4 := ⟨(x 0 + x 1 + x 4 + x 7) / 2, by omega⟩
  obtain ⟨t7, ht7⟩ : ∃ s : Int, b 7 = 2 * s - b 0 - b 1 - b 4 := ⟨(b 0 + b 1 + b 4 + b 7) / 2, by omega⟩
  obtain ⟨s6, hs6⟩ : ∃ s : Int, x 6 = 2 * s - x 1 - x 2 - x 4 := ⟨(x 1 + x 2 + x 4 + x 6) / 2, by omega⟩
  obtain ⟨t6, ht6⟩ : ∃ s : Int, b 6 = 2 * s - b 1 - b 2 - b 4 := ⟨(b 1 + b 2 + b 4 + b 6) / 2, by omega⟩
  obtain ⟨s5, hs5⟩ : ∃ s : Int, x 5 = 2 * s - x 0 - x 2 - x 4 := ⟨(x 0 + x 2 + x 4 + x 5) / 2, by omega⟩
  obtain ⟨t5, ht5⟩ : ∃ s : Int, b 5 = 2 * s - b 0 - b 2 - b 4 := ⟨(b 0 + b 2 + b 4 + b 5) / 2, by omega⟩
  obtain ⟨s3, hs3⟩ : ∃ s : Int, x 3 = 2 * s - x 0 - x 1 - x 2 := ⟨(x 0 + x 1 + x 2 + x 3) / 2, by omega⟩
  obtain ⟨t3, ht3⟩ : ∃ s : Int, b 3 = 2 * s - b 0 - b 1 - b 2 := ⟨(b 0 + b 1 + b 2 + b 3) / 2, by omega⟩
  generalize hx0 : x 0 = x0 at *
  generalize hy0 : b 0 = y0 at *
  generalize hx1 : x 1 = x1 at *
  generalize hy1 : b 1 = y1 at *
  generalize hx2 : x 2 = x2 at *
  generalize hy2 : b 2 = y2 at *
  generalize hx4 : x 4 = x4 at *
  generalize hy4 : b 4 = y4 at *
  generalize hx7 : x 7 = x7 at *
  generalize hy7 : b 7 = y7 at *
  generalize hx6 : x 6 = x6 at *
  generalize hy6 : b 6 = y6 at *
  generalize hx5 : x 5 = x5 at *
  generalize hy5 : b 5 = y5 at *
  generalize hx3 : x 3 = x3 at *
  generalize hy3 : b 3 = y3 at *
  clear a7 c7 a6 c6 a5 c5 a3 c3
  have e0 : zp x b 0 = 2 * (0 - 2 * s3 * t3 + 1 * s3 * y0 + 1 * s3 * y1 + 1 * s3 * y2 - 2 * s5 * t5 + 1 * s5 * y0 + 1 * s5 * y2 + 1 * s5 * y4 - 2 * s6 * t6 + 1 * s6 * y1 + 1 * s6 * y2 + 1 * s6 * y4 - 2 * s7 * t7 + 1 * s7 * y0 + 1 * s7 * y1 + 1 * s7 * y4 + 1 * x0 * t3 + 1 * x0 * t5 + 1 * x0 * t7 - 1 * x0 * y0 - 1 * x0 * y1 - 1 * x0 * y2 - 1 * x0 * y4 + 1 * x1 * t3 + 1 * x1 * t6 + 1 * x1 * t7 - 1 * x1 * y0 - 2 * x1 * y1 - 1 * x1 * y2 - 1 * x1 * y4 + 1 * x2 * t3 + 1 * x2 * t5 + 1 * x2 * t6 - 1 * x2 * y0 - 1 * x2 * y1 - 2 * x2 * y2 - 1 * x2 * y4 + 1 * x4 * t5 + 1 * x4 * t6 + 1 * x4 * t7 - 1 * x4 * y0 - 1 * x4 * y1 - 1 * x4 * y2 - 2 * x4 * y4) := by
    simp only [zp, hx0, hy0, hx1, hy1, hx2, hy2, hx3, hy3, hx4, hy4, hx5, hy5, hx6, hy6, hx7, hy7, hs7, ht7, hs6, ht6, hs5, ht5, hs3, ht3]
    grind
  have e1 : zp x b 1 = 2 * (0 + 2 * s3 * t7 - 1 * s3 * y0 - 1 * s3 * y1 - 1 * s3 * y4 + 2 * s5 * t6 - 1 * s5 * y1 - 1 * s5 * y2 - 1 * s5 * y4 - 2 * s6 * t5 + 1 * s6 * y0 + 1 * s6 * y2 + 1 * s6 * y4 - 2 * s7 * t3 + 1 * s7 * y0 + 1 * s7 * y1 + 1 * s7 * y2 + 1 * x0 * t3 - 1 * x0 * t6 - 1 * x0 * t7 + 1 * x0 * y1 + 1 * x0 * y4 + 1 * x1 * t3 + 1 * x1 * t5 - 1 * x1 * t7 - 1 * x1 * y2 + 1 * x2 * t5 - 1 * x2 * t6 - 1 * x2 * t7 + 1 * x2 * y1 + 1 * x2 * y4 + 1 * x4 * t3 + 1 * x4 * t5 - 1 * x4 * t6 - 1 * x4 * y0 - 1 * x4 * y2) := by
    simp only [zp, hx0, hy0, hx1, hy1, hx2, hy2, hx3, hy3, hx4, hy4, hx5, hy5, hx6, hy6, hx7, hy7, hs7, ht7, hs6, ht6, hs5, ht5, hs3, ht3]
    grind
  have e2 : zp x b 2 = 2 * (0 + 2 * s3 * t5 - 1 * s3 * y0 - 1 * s3 * y2 - 1 * s3 * y4 - 2 * s5 * t3 + 1 * s5 * y0 + 1 * s5 * y1 + 1 * s5 * y2 + 2 * s6 * t7 - 1 * s6 * y0 - 1 * s6 * y1 - 1 * s6 * y4 - 2 * s7 * t6 + 1 * s7 * y1 + 1 * s7 * y2 + 1 * s7 * y4 + 1 * x0 * t3 - 1 * x0 * t5 + 1 * x0 * t6 - 1 * x0 * y1 - 1 * x1 * t5 + 1 * x1 * t6 - 1 * x1 * t7 + 1 * x1 * y0 + 1 * x2 * t3 - 1 * x2 * t5 - 1 * x2 * t7 + 1 * x2 * y0 + 1 * x2 * y4 + 1 * x4 * t3 + 1 * x4 * t6 - 1 * x4 * t7 - 1 * x4 * y2) := by
    simp only [zp, hx0, hy0, hx1, hy1, hx2, hy2, hx3, hy3, hx4, hy4, hx5, hy5, hx6, hy6, hx7, hy7, hs7, ht7, hs6, ht6, hs5, ht5, hs3, ht3]
    grind
  have e3 : zp x b 3 = 2 * (0 + 1 * s3 * y0 + 1 * s5 * y2 - 1 * s6 * y4 + 1 * s7 * y1 + 1 * x0 * t3 - 1 * x0 * y0 - 1 * x0 * y1 - 1 * x0 * y2 - 1 * x1 * t7 + 1 * x1 * y4 - 1 * x2 * t5 + 1 * x2 * y4 + 1 * x4 * t6 - 1 * x4 * y1 - 1 * x4 * y2) := by
    simp only [zp, hx0, hy0, hx1, hy1, hx2, hy2, hx3, hy3, hx4, hy4, hx5, hy5, hx6, hy6, hx7, hy7, hs7, ht7, hs6, ht6, hs5, ht5, hs3, ht3]
    grind
  have e4 : zp x b 4 = 2 * (0 - 2 * s3 * t6 + 1 * s3 * y1 + 1 * s3 * y2 + 1 * s3 * y4 + 2 * s5 * t7 - 1 * s5 * y0 - 1 * s5 * y1 - 1 * s5 * y4 + 2 * s6 * t3 - 1 * s6 * y0 - 1 * s6 * y1 - 1 * s6 * y2 - 2 * s7 * t5 + 1 * s7 * y0 + 1 * s7 * y2 + 1 * s7 * y4 + 1 * x0 * t5 + 1 * x0 * t6 - 1 * x0 * t7 - 1 * x0 * y2 - 1 * x1 * t3 + 1 * x1 * t5 + 1 * x1 * t6 - 1 * x1 * y4 - 1 * x2 * t3 + 1 * x2 * t6 - 1 * x2 * t7 + 1 * x2 * y0 - 1 * x4 * t3 + 1 * x4 * t5 - 1 * x4 * t7 + 1 * x4 * y0 + 1 * x4 * y1) := by
    simp only [zp, hx0, hy0, hx1, hy1, hx2, hy2, hx3, hy3, hx4, hy4, hx5, hy5, hx6, hy6, hx7, hy7, hs7, ht7, hs6, ht6, hs5, ht5, hs3, ht3]
    grind
  have e5 : zp x b 5 = 2 * (0 - 1 * s3 * y2 + 1 * s5 * y0 + 1 * s6 * y1 + 1 * s7 * y4 + 1 * x0 * t5 - 1 * x0 * y0 - 1 * x0 * y4 - 1 * x1 * t6 + 1 * x1 * y2 + 1 * x2 * t3 - 1 * x2 * y0 - 1 * x2 * y1 - 1 * x4 * t7) := by
    simp only [zp, hx0, hy0, hx1, hy1, hx2, hy2, hx3, hy3, hx4, hy4, hx5, hy5, hx6, hy6, hx7, hy7, hs7, ht7, hs6, ht6, hs5, ht5, hs3, ht3]
    grind
  have e6 : zp x b 6 = 2 * (0 + 1 * s3 * y4 - 1 * s5 * y1 + 1 * s6 * y0 + 1 * s7 * y2 + 1 * x0 * t6 - 1 * x0 * y2 - 1 * x0 * y4 + 1 * x1 * t5 - 1 * x1 * y0 - 1 * x1 * y2 - 1 * x1 * y4 - 1 * x2 * t7 + 1 * x2 * y1 - 1 * x4 * t3 + 1 * x4 * y1) := by
    simp only [zp, hx0, hy0, hx1, hy1, hx2, hy2, hx3, hy3, hx4, hy4, hx5, hy5, hx6, hy6, hx7, hy7, hs7, ht7, hs6, ht6, hs5, ht5, hs3, ht3]
    grind
  have e7 : zp x b 7 = 2 * (0 - 1 * s3 * y1 - 1 * s5 * y4 - 1 * s6 * y2 + 1 * s7 * y0 + 1 * x0 * t7 - 1 * x0 * y0 + 1 * x1 * t3 - 1 * x1 * y0 + 1 * x2 * t6 + 1 * x4 * t5 - 1 * x4 * y0) := by
    simp only [zp, hx0, hy0, hx1, hy1, hx2, hy2, hx3, hy3, hx4, hy4, hx5, hy5, hx6, hy6, hx7, hy7, hs7, ht7, hs6, ht6, hs5, ht5, hs3, ht3]
    grind
  have f7 : zp x b 0 + zp x b 1 + zp x b 4 + zp x b 7 = 4 * (0 - 1 * s3 * t3 - 1 * s3 * t6 + 1 * s3 * t7 + 1 * s3 * y2 - 1 * s5 * t5 + 1 * s5 * t6 + 1 * s5 * t7 - 1 * s5 * y1 - 1 * s5 * y4 + 1 * s6 * t3 - 1 * s6 * t5 - 1 * s6 * t6 + 1 * s6 * y4 - 1 * s7 * t3 - 1 * s7 * t5 - 1 * s7 * t7 + 2 * s7 * y0 + 1 * s7 * y1 + 1 * s7 * y2 + 1 * s7 * y4 + 1 * x0 * t3 + 1 * x0 * t5 - 1 * x0 * y0 - 1 * x0 * y2 + 1 * x1 * t3 + 1 * x1 * t5 + 1 * x1 * t6 - 1 * x1 * y0 - 1 * x1 * y1 - 1 * x1 * y2 - 1 * x1 * y4 + 1 * x2 * t5 + 1 * x2 * t6 - 1 * x2 * t7 - 1 * x2 * y2 + 2 * x4 * t5 - 1 * x4 * y0 - 1 * x4 * y2 - 1 * x4 * y4) := by
    simp only [e0, e1, e4, e7]
    grind
  have f6 : zp x b 1 + zp x b 2 + zp x b 4 + zp x b 6 = 4 * (0 + 1 * s3 * t5 - 1 * s3 * t6 + 1 * s3 * t7 - 1 * s3 * y0 - 1 * s5 * t3 + 1 * s5 * t6 + 1 * s5 * t7 - 1 * s5 * y1 - 1 * s5 * y4 + 1 * s6 * t3 - 1 * s6 * t5 + 1 * s6 * t7 - 1 * s6 * y1 - 1 * s7 * t3 - 1 * s7 * t5 - 1 * s7 * t6 + 1 * s7 * y0 + 1 * s7 * y1 + 2 * s7 * y2 + 1 * s7 * y4 + 1 * x0 * t3 + 1 * x0 * t6 - 1 * x0 * t7 - 1 * x0 * y2 + 1 * x1 * t5 + 1 * x1 * t6 - 1 * x1 * t7 - 1 * x1 * y2 - 1 * x1 * y4 - 2 * x2 * t7 + 1 * x2 * y0 + 1 * x2 * y1 + 1 * x2 * y4 + 1 * x4 * t5 - 1 * x4 * t7 + 1 * x4 * y1 - 1 * x4 * y2) := by
    simp only [e1, e2, e4, e6]
    grind
  have f5 : zp x b 0 + zp x b 2 + zp x b 4 + zp x b 5 = 4 * (0 - 1 * s3 * t3 + 1 * s3 * t5 - 1 * s3 * t6 + 1 * s3 * y1 - 1 * s5 * t3 - 1 * s5 * t5 + 1 * s5 * t7 + 1 * s5 * y0 + 1 * s5 * y2 + 1 * s6 * t3 - 1 * s6 * t6 + 1 * s6 * t7 - 1 * s6 * y0 - 1 * s7 * t5 - 1 * s7 * t6 - 1 * s7 * t7 + 1 * s7 * y0 + 1 * s7 * y1 + 1 * s7 * y2 + 2 * s7 * y4 + 1 * x0 * t3 + 1 * x0 * t5 + 1 * x0 * t6 - 1 * x0 * y0 - 1 * x0 * y1 - 1 * x0 * y2 - 1 * x0 * y4 + 1 * x1 * t6 - 1 * x1 * y1 - 1 * x1 * y4 + 1 * x2 * t3 + 1 * x2 * t6 - 1 * x2 * t7 - 1 * x2 * y1 - 1 * x2 * y2 + 1 * x4 * t5 + 1 * x4 * t6 - 1 * x4 * t7 - 1 * x4 * y2 - 1 * x4 * y4) := by
    simp only [e0, e2, e4, e5]
    grind
  have f3 : zp x b 0 + zp x b 1 + zp x b 2 + zp x b 3 = 4 * (0 - 1 * s3 * t3 + 1 * s3 * t5 + 1 * s3 * t7 - 1 * s3 * y4 - 1 * s5 * t3 - 1 * s5 * t5 + 1 * s5 * t6 + 1 * s5 * y0 + 1 * s5 * y2 - 1 * s6 * t5 - 1 * s6 * t6 + 1 * s6 * t7 + 1 * s6 * y2 - 1 * s7 * t3 - 1 * s7 * t6 - 1 * s7 * t7 + 1 * s7 * y0 + 2 * s7 * y1 + 1 * s7 * y2 + 1 * s7 * y4 + 2 * x0 * t3 - 1 * x0 * y0 - 1 * x0 * y1 - 1 * x0 * y2 + 1 * x1 * t3 + 1 * x1 * t6 - 1 * x1 * t7 - 1 * x1 * y1 - 1 * x1 * y2 + 1 * x2 * t3 - 1 * x2 * t7 - 1 * x2 * y2 + 1 * x2 * y4 + 1 * x4 * t3 + 1 * x4 * t5 + 1 * x4 * t6 - 1 * x4 * y0 - 1 * x4 * y1 - 2 * x4 * y2 - 1 * x4 * y4) := by
    simp only [e0, e1, e2, e3]
    grind
  refine ⟨fun k hk => ?_, by rw [f7]; exact Int.mul_emod_right 4 _, by rw [f6]; exact Int.mul_emod_right 4 _, by rw [f5]; exact Int.mul_emod_right 4 _, by rw [f3]; exact Int.mul_emod_right 4 _⟩
  rcases (show k = 0 ∨ k = 1 ∨ k = 2 ∨ k = 3 ∨ k = 4 ∨ k = 5 ∨ k = 6 ∨ k = 7 by omega) with rfl | rfl | rfl | rfl | rfl | rfl | rfl | rfl
  · rw [e0]; exact Int.mul_emod_right 2 _
  · rw [e1]; exact Int.mul_emod_right 2 _
  · rw [e2]; exact Int.mul_emod_right 2 _
  · rw [e3]; exact Int.mul_emod_right 2 _
  · rw [e4]; exact Int.mul_emod_right 2 _
  · rw [e5]; exact Int.mul_emod_right 2 _
  · rw [e6]; exact Int.mul_emod_right 2 _
  · rw [e7]; exact Int.mul_emod_right 2 _
theorem zcl7 (x b : Nat → Int) (hx : zlat 7 x) (hb : zlat 7 b) : (∀ k, k < 8 → zp x b k % 2 = 0) ∧ (zp x b 0 + zp x b 1 + zp x b 3 + zp x b 7) % 4 = 0 ∧ (zp x b 1 + zp x b 2 + zp x b 3 + zp x b 6) % 4 = 0 ∧ (zp x b 0 + zp x b 1 + zp x b 2 + zp x b 5) % 4 = 0 ∧ (zp x b 0 + zp x b 2 + zp x b 3 + zp x b 4) % 4 = 0 := by
  obtain ⟨a7, a6, a5, a4⟩ := hx
  obtain ⟨c7, c6, c5, c4⟩ := hb
  obtain ⟨s7, hs7⟩ : ∃ s : Int, x 7 = 2 * s - x 0 - x 1 - x 3 := ⟨(x 0 + x 1 + x 3 + x 7) / 2, by omega⟩
  obtain ⟨t7, ht7⟩ : ∃ s : Int, b 7 = 2 * s - b 0 - b 1 - b 3 := ⟨(b 0 + b 1 + b 3 + b 7) / 2, by omega⟩
  obtain ⟨s6, hs6⟩ : ∃ s : Int, x 6 = 2 * s - x 1 - x 2 - x 3 := ⟨(x 1 + x 2 + x 3 + x 6) / 2, by omega⟩
  obtain ⟨t6, ht6⟩ : ∃ s : Int, b 6 = 2 * s - b 1 - b 2 - b 3 := ⟨(b 1 + b 2 + b 3 + b 6) / 2, by omega⟩
  obtain ⟨s5, hs5⟩ : ∃ s : Int, x 5 = 2 * s - x 0 - x 1 - x 2 := ⟨(x 0 + x 1 + x 2 + x 5) / 2, by omega⟩
  obtain ⟨t5, ht5⟩ : ∃ s : Int, b 5 = 2 * s - b 0 - b 1 - b 2 := ⟨(b 0 + b 1 + b 2 + b 5) / 2, by omega⟩
  obtain ⟨s4, hs4⟩ : ∃ s : Int, x 4 = 2 * s - x 0 - x 2 - x 3 := ⟨(x 0 + x 2 + x 3 + x 4) / 2, by omega⟩
  obtain ⟨t4, ht4⟩ : ∃ s : Int, b 4 = 2 * s - b 0 - b 2 - b 3 := ⟨(b 0 + b 2 + b 3 + b 4) / 2, by omega⟩
  generalize hx0 : x 0 = x0 at *
  generalize hy0 : b 0 = y0 at *
  generalize hx1 : x 1 = x1 at *
  generalize hy1 : b 1 = y1 at *
  generalize hx2 : x 2 = x2 at *
  generalize hy2 : b 2 = y2 at *
  generalize hx3 : x 3 = x3 at *
  generalize hy3 : b 3 = y3 at *
  generalize hx7 : x 7 = x7 at *
  generalize hy7 : b 7 = y7 at *
  generalize hx6 : x 6 = x6 at *
  generalize hy6 : b 6 = y6 at *
  generalize hx5 : x 5 = x5 at *
  generalize hy5 : b 5 = y5 at *
  generalize hx4 : x 4 = x4 at *
  generalize hy4 : b 4 = y4 at *
  clear a7 c7 a6 c6 a5 c5 a4 c4
  have e0 : zp x b 0 = 2 * (0 - 2 * s4 * t4 + 1 * s4 * y0 + 1 * s4 * y2 + 1 * s4 * y3 - 2 * s5 * t5 + 1 * s5 * y0 + 1 * s5 * y1 + 1 * s5 * y2 - 2 * s6 * t6 + 1 * s6 * y1 + 1 * s6 * y2 + 1 * s6 * y3 - 2 * s7 * t7 + 1 * s7 * y0 + 1 * s7 * y1 + 1 * s7 * y3 + 1 * x0 * t4 + 1 * x0 * t5 + 1 * x0 * t7 - 1 * x0 * y0 - 1 * x0 * y1 - 1 * x0 * y2 - 1 * x0 * y3 + 1 * x1 * t5 + 1 * x1 * t6 + 1 * x1 * t7 - 1 * x1 * y0 - 2 * x1 * y1 - 1 * x1 * y2 - 1 * x1 * y3 + 1 * x2 * t4 + 1 * x2 * t5 + 1 * x2 * t6 - 1 * x2 * y0 - 1 * x2 * y1 - 2 * x2 * y2 - 1 * x2 * y3 + 1 * x3 * t4 + 1 * x3 * t6 + 1 * x3 * t7 - 1 * x3 * y0 - 1 * x3 * y1 - 1 * x3 * y2 - 2 * x3 * y3) := by
    simp only [zp, hx0, hy0, hx1, hy1, hx2, hy2, hx3, hy3, hx4, hy4, hx5, hy5, hx6, hy6, hx7, hy7, hs7, ht7, hs6, ht6, hs5, ht5, hs4, ht4]
    grind
  have e1 : zp x b 1 = 2 * (0 - 1 * s4 * y2 + 2 * s5 * t6 - 1 * s5 * y1 - 1 * s5 * y2 - 1 * s5 * y3 - 2 * s6 * t5 + 1 * s6 * y0 + 1 * s6 * y1 + 1 * s6 * y2 - 1 * s7 * y3 - 1 * x0 * t6 + 1 * x0 * y1 + 1 * x0 * y2 + 1 * x0 * y3 + 1 * x1 * t5 - 1 * x1 * t6 + 1 * x1 * y3 + 1 * x2 * t4 + 1 * x2 * t5 - 1 * x2 * t6 - 1 * x2 * y0 + 1 * x3 * t5 + 1 * x3 * t7 - 1 * x3 * y0 - 1 * x3 * y1) := by
    simp only [zp, hx0, hy0, hx1, hy1, hx2, hy2, hx3, hy3, hx4, hy4, hx5, hy5, hx6, hy6, hx7, hy7, hs7, ht7, hs6, ht6, hs5, ht5, hs4, ht4]
    grind
  have e2 : zp x b 2 = 2 * (0 + 1 * s4 * y1 - 1 * s5 * y3 + 2 * s6 * t7 - 1 * s6 * y0 - 1 * s6 * y1 - 1 * s6 * y3 - 2 * s7 * t6 + 1 * s7 * y1 + 1 * s7 * y2 + 1 * s7 * y3 + 1 * x0 * t6 - 1 * x0 * y1 - 1 * x1 * t4 + 1 * x1 * t6 - 1 * x1 * t7 + 1 * x1 * y0 + 1 * x1 * y3 - 1 * x2 * t7 + 1 * x2 * y0 + 1 * x2 * y3 + 1 * x3 * t5 + 1 * x3 * t6 - 1 * x3 * t7 - 1 * x3 * y1 - 1 * x3 * y2) := by
    simp only [zp, hx0, hy0, hx1, hy1, hx2, hy2, hx3, hy3, hx4, hy4, hx5, hy5, hx6, hy6, hx7, hy7, hs7, ht7, hs6, ht6, hs5, ht5, hs4, ht4]
    grind
  have e3 : zp x b 3 = 2 * (0 + 2 * s4 * t6 - 1 * s4 * y1 - 1 * s4 * y2 - 1 * s4 * y3 + 1 * s5 * y2 - 2 * s6 * t4 + 1 * s6 * y0 + 1 * s6 * y2 + 1 * s6 * y3 + 1 * s7 * y1 - 1 * x0 * t6 + 1 * x0 * y3 + 1 * x1 * t4 - 1 * x1 * t7 - 1 * x1 * y2 + 1 * x2 * t4 - 1 * x2 * t5 - 1 * x2 * t6 + 1 * x2 * y1 + 1 * x3 * t4 - 1 * x3 * t6) := by
    simp only [zp, hx0, hy0, hx1, hy1, hx2, hy2, hx3, hy3, hx4, hy4, hx5, hy5, hx6, hy6, hx7, hy7, hs7, ht7, hs6, ht6, hs5, ht5, hs4, ht4]
    grind
  have e4 : zp x b 4 = 2 * (0 + 1 * s4 * y0 + 2 * s5 * t7 - 1 * s5 * y0 - 1 * s5 * y1 - 1 * s5 * y3 + 1 * s6 * y3 - 2 * s7 * t5 + 1 * s7 * y0 + 1 * s7 * y1 + 1 * s7 * y2 + 1 * x0 * t4 + 1 * x0 * t5 - 1 * x0 * t7 - 1 * x0 * y0 - 1 * x0 * y2 + 1 * x1 * t5 - 1 * x1 * t7 - 1 * x2 * t7 + 1 * x3 * t5 - 1 * x3 * t6 - 1 * x3 * y0) := by
    simp only [zp, hx0, hy0, hx1, hy1, hx2, hy2, hx3, hy3, hx4, hy4, hx5, hy5, hx6, hy6, hx7, hy7, hs7, ht7, hs6, ht6, hs5, ht5, hs4, ht4]
    grind
  have e5 : zp x b 5 = 2 * (0 - 2 * s4 * t7 + 1 * s4 * y0 + 1 * s4 * y1 + 1 * s4 * y3 + 1 * s5 * y0 + 1 * s6 * y1 + 2 * s7 * t4 - 1 * s7 * y0 - 1 * s7 * y2 - 1 * s7 * y3 - 1 * x0 * t4 + 1 * x0 * t5 + 1 * x0 * t7 - 1 * x0 * y0 - 1 * x0 * y1 - 1 * x1 * t4 - 1 * x1 * t6 + 1 * x1 * y2 + 1 * x1 * y3 + 1 * x2 * t7 - 1 * x2 * y0 - 1 * x2 * y1 - 1 * x3 * t4 + 1 * x3 * t7 - 1 * x3 * y1) := by
    simp only [zp, hx0, hy0, hx1, hy1, hx2, hy2, hx3, hy3, hx4, hy4, hx5, hy5, hx6, hy6, hx7, hy7, hs7, ht7, hs6, ht6, hs5, ht5, hs4, ht4]
    grind
  have e6 : zp x b 6 = 2 * (0 - 1 * s4 * y3 - 1 * s5 * y1 + 1 * s6 * y0 + 1 * s7 * y2 + 1 * x0 * t6 - 1 * x0 * y2 + 1 * x1 * t5 - 1 * x1 * y0 - 1 * x1 * y2 - 1 * x2 * t7 + 1 * x2 * y1 + 1 * x2 * y3 + 1 * x3 * t4 - 1 * x3 * y0 - 1 * x3 * y2) := by
    simp only [zp, hx0, hy0, hx1, hy1, hx2, hy2, hx3, hy3, hx4, hy4, hx5, hy5, hx6, hy6, hx7, hy7, hs7, ht7, hs6, ht6, hs5, ht5, hs4, ht4]
    grind
  have e7 : zp x b 7 = 2 * (0 + 2 * s4 * t5 - 1 * s4 * y0 - 1 * s4 * y1 - 1 * s4 * y2 - 2 * s5 * t4 + 1 * s5 * y0 + 1 * s5 * y2 + 1 * s5 * y3 - 1 * s6 * y2 + 1 * s7 * y0 + 1 * x0 * t4 - 1 * x0 * t5 + 1 * x0 * t7 - 1 * x0 * y0 - 1 * x0 * y3 + 1 * x1 * t4 - 1 * x1 * y0 + 1 * x2 * t4 - 1 * x2 * t5 + 1 * x2 * t6 - 1 * x2 * y3 - 1 * x3 * t5 + 1 * x3 * y2) := by
    simp only [zp, hx0, hy0, hx1, hy1, hx2, hy2, hx3, hy3, hx4, hy4, hx5, hy5, hx6, hy6, hx7, hy7, hs7, ht7, hs6, ht6, hs5, ht5, hs4, ht4]
    grind
  have f7 : zp x b 0 + zp x b 1 + zp x b 3 + zp x b 7 = 4 * (0 - 1 * s4 * t4 + 1 * s4 * t5 + 1 * s4 * t6 - 1 * s4 * y1 - 1 * s4 * y2 - 1 * s5 * t4 - 1 * s5 * t5 + 1 * s5 * t6 + 1 * s5 * y0 + 1 * s5 * y2 - 1 * s6 * t4 - 1 * s6 * t5 - 1 * s6 * t6 + 1 * s6 * y0 + 1 * s6 * y1 + 1 * s6 * y2 + 1 * s6 * y3 - 1 * s7 * t7 + 1 * s7 * y0 + 1 * s7 * y1 + 1 * x0 * t4 - 1 * x0 * t6 + 1 * x0 * t7 - 1 * x0 * y0 + 1 * x1 * t4 + 1 * x1 * t5 - 1 * x1 * y0 - 1 * x1 * y1 - 1 * x1 * y2 + 2 * x2 * t4 - 1 * x2 * y0 - 1 * x2 * y2 - 1 * x2 * y3 + 1 * x3 * t4 + 1 * x3 * t7 - 1 * x3 * y0 - 1 * x3 * y1 - 1 * x3 * y3) := by
    simp only [e0, e1, e3, e7]
    grind
  have f6 : zp x b 1 + zp x b 2 + zp x b 3 + zp x b 6 = 4 * (0 + 1 * s4 * t6 - 1 * s4 * y2 - 1 * s4 * y3 + 1 * s5 * t6 - 1 * s5 * y1 - 1 * s5 * y3 - 1 * s6 * t4 - 1 * s6 * t5 + 1 * s6 * t7 + 1 * s6 * y0 + 1 * s6 * y2 - 1 * s7 * t6 + 1 * s7 * y1 + 1 * s7 * y2 + 1 * x0 * y3 + 1 * x1 * t5 - 1 * x1 * t7 - 1 * x1 * y2 + 1 * x1 * y3 + 1 * x2 * t4 - 1 * x2 * t6 - 1 * x2 * t7 + 1 * x2 * y1 + 1 * x2 * y3 + 1 * x3 * t4 + 1 * x3 * t5 - 1 * x3 * y0 - 1 * x3 * y1 - 1 * x3 * y2) := by
    simp only [e1, e2, e3, e6]
    grind
  have f5 : zp x b 0 + zp x b 1 + zp x b 2 + zp x b 5 = 4 * (0 - 1 * s4 * t4 - 1 * s4 * t7 + 1 * s4 * y0 + 1 * s4 * y1 + 1 * s4 * y3 - 1 * s5 * t5 + 1 * s5 * t6 + 1 * s5 * y0 - 1 * s5 * y3 - 1 * s6 * t5 - 1 * s6 * t6 + 1 * s6 * t7 + 1 * s6 * y1 + 1 * s6 * y2 + 1 * s7 * t4 - 1 * s7 * t6 - 1 * s7 * t7 + 1 * s7 * y1 + 1 * x0 * t5 + 1 * x0 * t7 - 1 * x0 * y0 - 1 * x0 * y1 - 1 * x1 * t4 + 1 * x1 * t5 - 1 * x1 * y1 + 1 * x1 * y3 + 1 * x2 * t4 + 1 * x2 * t5 - 1 * x2 * y0 - 1 * x2 * y1 - 1 * x2 * y2 + 1 * x3 * t5 + 1 * x3 * t6 + 1 * x3 * t7 - 1 * x3 * y0 - 2 * x3 * y1 - 1 * x3 * y2 - 1 * x3 * y3) := by
    simp only [e0, e1, e2, e5]
    grind
  have f4 : zp x b 0 + zp x b 2 + zp x b 3 + zp x b 4 = 4 * (0 - 1 * s4 * t4 + 1 * s4 * t6 + 1 * s4 * y0 - 1 * s5 * t5 + 1 * s5 * t7 + 1 * s5 * y2 - 1 * s5 * y3 - 1 * s6 * t4 - 1 * s6 * t6 + 1 * s6 * t7 + 1 * s6 * y2 + 1 * s6 * y3 - 1 * s7 * t5 - 1 * s7 * t6 - 1 * s7 * t7 + 1 * s7 * y0 + 2 * s7 * y1 + 1 * s7 * y2 + 1 * s7 * y3 + 1 * x0 * t4 + 1 * x0 * t5 - 1 * x0 * y0 - 1 * x0 * y1 - 1 * x0 * y2 + 1 * x1 * t5 + 1 * x1 * t6 - 1 * x1 * t7 - 1 * x1 * y1 - 1 * x1 * y2 + 1 * x2 * t4 - 1 * x2 * t7 - 1 * x2 * y2 + 1 * x3 * t4 + 1 * x3 * t5 - 1 * x3 * y0 - 1 * x3 * y1 - 1 * x3 * y2 - 1 * x3 * y3) := by
    simp only [e0, e2, e3, e4]
    grind
  refine ⟨fun k hk => ?_, by rw [f7]; exact Int.mul_emod_right 4 _, by rw [f6]; exact Int.mul_emod_right 4 _, by rw [f5]; exact Int.mul_emod_right 4 _, by rw [f4]; exact Int.mul_emod_right 4 _⟩
  rcases (show k = 0 ∨ k = 1 ∨ k = 2 ∨ k = 3 ∨ k = 4 ∨ k = 5 ∨ k = 6 ∨ k = 7 by omega) with rfl | rfl | rfl | rfl | rfl | rfl | rfl | rfl
  · rw [e0]; exact Int.mul_emod_right 2 _
  · rw [e1]; exact Int.mul_emod_right 2 _
  · rw [e2]; exact Int.mul_emod_right 2 _
  · rw [e3]; exact Int.mul_emod_right 2 _
  · rw [e4]; exact Int.mul_emod_right 2 _
  · rw [e5]; exact Int.mul_emod_right 2 _
  · rw [e6]; exact Int.mul_emod_right 2 _
  · rw [e7]; exact Int.mul_emod_right 2 _

