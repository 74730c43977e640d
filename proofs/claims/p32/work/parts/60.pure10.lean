/-! ===== pure 10 ===== -/
theorem zpos {f : Nat → Int64} (h : zok f) (h0 : q_inner f f 8 ≠ 0) : 0 < q_inner f f 8 := by
  rw [zlt, show (0 : Int64).toInt = 0 from rfl, zok_N h]
  have := zn_nn (zi f)
  rcases Int.lt_or_le 0 (zn (zi f)) with q | q
  · exact q
  · exact absurd (zeq.mpr (by rw [zok_N h, show (0 : Int64).toInt = 0 from rfl]; omega)) h0
/-- a row that is small enough is 0 where its norm is -/
theorem zzr {f : Nat → Int64} (h : zok f) : q_zr f ↔ q_inner f f 8 = 0 := by
  constructor
  · intro z
    have e : ∀ k, k ≤ 8 → q_inner f f k = 0 := fun k => by
      induction k with
      | zero => exact fun _ => rfl
      | succ k ih =>
        intro hk
        show q_inner f f k + f k * f k = 0
        rw [ih (by omega), z k (by omega)]
        rfl
    exact e 8 (Nat.le_refl 8)
  · intro z j hj
    have h1 := zn_ge (zi f) j hj
    have h2 : zn (zi f) = 0 := by rw [← zok_N h, z]; rfl
    rw [h2] at h1
    have h3 : zi f j * zi f j = 0 := Int.le_antisymm h1 (by rcases Int.le_total 0 (zi f j) with q | q; exact Int.mul_nonneg q q; exact Int.mul_nonneg_of_nonpos_of_nonpos q q)
    rw [zeq]
    show zi f j = 0
    rcases Int.mul_eq_zero.mp h3 with q | q <;> exact q
theorem zt32 {x : Int64} (h1 : -2147483648 ≤ x.toInt) (h2 : x.toInt < 2147483648) : x.toInt32.toInt = x.toInt := by
  rw [Int64.toInt_toInt32]
  exact Int.bmod_eq_of_le (by omega) (by omega)
theorem zt3264 {x : Int64} (h1 : -2147483648 ≤ x.toInt) (h2 : x.toInt < 2147483648) : x.toInt32.toInt64 = x := by
  rw [zeq, Int32.toInt_toInt64, zt32 h1 h2]
