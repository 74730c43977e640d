/-! ===== pure: associators that vanish ===== -/
def zasc (a b c : Nat → Int) (k : Nat) : Int := zp (zp a b) c k - zp a (zp b c) k
theorem zasc_flex {a b s : Nat → Int} {x y : Int} (h0 : s 0 = x * a 0 + y) (h : ∀ j, 1 ≤ j → j < 8 → s j = x * a j) : ∀ k, k < 8 → zasc a b s k = 0 := by
  have h1 := h 1 (by omega) (by omega); have h2 := h 2 (by omega) (by omega); have h3 := h 3 (by omega) (by omega); have h4 := h 4 (by omega) (by omega); have h5 := h 5 (by omega) (by omega); have h6 := h 6 (by omega) (by omega); have h7 := h 7 (by omega) (by omega)
  intro k hk
  rcases (show k = 0 ∨ k = 1 ∨ k = 2 ∨ k = 3 ∨ k = 4 ∨ k = 5 ∨ k = 6 ∨ k = 7 by omega) with rfl | rfl | rfl | rfl | rfl | rfl | rfl | rfl <;> (simp only [zasc, zp, h0, h1, h2, h3, h4, h5, h6, h7]; clear h h0 h1 h2 h3 h4 h5 h6 h7; grind)
theorem zasc_alt (a b : Nat → Int) : ∀ k, k < 8 → zasc a b b k = 0 := by
  intro k hk
  rcases (show k = 0 ∨ k = 1 ∨ k = 2 ∨ k = 3 ∨ k = 4 ∨ k = 5 ∨ k = 6 ∨ k = 7 by omega) with rfl | rfl | rfl | rfl | rfl | rfl | rfl | rfl <;> (simp only [zasc, zp]; grind)
theorem zasc_lin (a b s : Nat → Int) (t : Int) : ∀ k, k < 8 → zasc a b (fun j => t * s j) k = t * zasc a b s k := by
  intro k hk
  rcases (show k = 0 ∨ k = 1 ∨ k = 2 ∨ k = 3 ∨ k = 4 ∨ k = 5 ∨ k = 6 ∨ k = 7 by omega) with rfl | rfl | rfl | rfl | rfl | rfl | rfl | rfl <;> (simp only [zasc, zp]; grind)
theorem zasc_real {a b s : Nat → Int} (h : ∀ j, 1 ≤ j → j < 8 → s j = 0) : ∀ k, k < 8 → zasc a b s k = 0 := zasc_flex (x := 0) (y := s 0) (by omega) (fun j h1 h2 => by rw [h j h1 h2]; omega)
/-- a third row that is parallel to the first, which is not real -/
theorem zasc_par {a b s : Nat → Int} (hp : zpar a s) {i : Nat} (h1 : 1 ≤ i) (h8 : i < 8) (hi : a i ≠ 0) : ∀ k, k < 8 → zasc a b s k = 0 := fun k hk => by
  have e := zasc_lin a b s (a i) k hk
  have z := zasc_flex (a := a) (b := b) (s := fun j => a i * s j) (x := s i) (y := a i * s 0 - s i * a 0) (by omega) (fun j j1 j8 => by
    show a i * s j = s i * a j
    rcases Nat.lt_trichotomy i j with q | q | q
    · rw [hp i j h1 q j8, Int.mul_comm]
    · rw [q, Int.mul_comm]
    · rw [Int.mul_comm, Int.mul_comm (s i), hp j i j1 q h8, Int.mul_comm]) k hk
  rw [z] at e
  rcases Int.mul_eq_zero.mp e.symm with q | q
  · exact absurd q hi
  · exact q
