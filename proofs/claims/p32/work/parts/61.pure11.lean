/-! ===== pure 11 ===== -/
theorem zmulb {a b A B : Int} (h1 : -A ≤ a) (h2 : a ≤ A) (h3 : -B ≤ b) (h4 : b ≤ B) : -(A * B) ≤ a * b ∧ a * b ≤ A * B := by
  have hA : 0 ≤ A := by omega
  have hB : 0 ≤ B := by omega
  rcases Int.le_total 0 a with p | p <;> rcases Int.le_total 0 b with q | q
  · have := Int.mul_le_mul h2 h4 q hA; have := Int.mul_nonneg p q; have := Int.mul_nonneg hA hB; omega
  · have := Int.mul_le_mul h2 (show -b ≤ B by omega) (by omega) hA; have := Int.mul_nonneg p (show 0 ≤ -b by omega); rw [Int.mul_neg] at *; have := Int.mul_nonneg hA hB; omega
  · have := Int.mul_le_mul (show -a ≤ A by omega) h4 q hA; have := Int.mul_nonneg (show 0 ≤ -a by omega) q; rw [Int.neg_mul] at *; have := Int.mul_nonneg hA hB; omega
  · have := Int.mul_le_mul (show -a ≤ A by omega) (show -b ≤ B by omega) (by omega) hA; have := Int.mul_nonneg (show 0 ≤ -a by omega) (show 0 ≤ -b by omega); rw [Int.neg_mul_neg] at *; have := Int.mul_nonneg hA hB; omega
theorem zmul2 {f g : Nat → Int64} (hf : zok f) (hg : zok g) {i j : Nat} (hi : i < 8) (hj : j < 8) : (f i * g j).toInt = zi f i * zi g j := by
  have h1 := zok_b hf i hi
  have h2 := zok_b hg j hj
  have := zmulb h1.1 h1.2 h2.1 h2.2
  exact zmul (by unfold zi at *; omega) (by unfold zi at *; omega)
theorem zprod_i {f g : Nat → Int64} (hf : zok f) (hg : zok g) : ∀ k, k < 8 → (q_prod f g k).toInt = zp (zi f) (zi g) k ∧ -32000000 ≤ zp (zi f) (zi g) k ∧ zp (zi f) (zi g) k ≤ 32000000 := fun k hk => by
  have hf2 : zn (zi f) ≤ 32000000 := hf
  have hg2 : zn (zi g) ≤ 32000000 := hg
  have h1 := zp_sm hf2 hg2 (by omega) k hk
  have h2 := zsq_le (b := 32000000) (by omega) h1
  refine ⟨?_, h2⟩
  rw [zhom f g k hk]
  exact zofI (by omega) (by omega)
