/-! ===== pure: the associator of registers is nought where its integers are ===== -/
theorem zhom2 {F G : Nat → Int64} {a b : Nat → Int} (hF : ∀ j, j < 8 → F j = Int64.ofInt (a j)) (hG : ∀ j, j < 8 → G j = Int64.ofInt (b j)) : ∀ k, k < 8 → q_prod F G k = Int64.ofInt (zp a b k) := by
  have f0 := hF 0 (by omega); have f1 := hF 1 (by omega); have f2 := hF 2 (by omega); have f3 := hF 3 (by omega); have f4 := hF 4 (by omega); have f5 := hF 5 (by omega); have f6 := hF 6 (by omega); have f7 := hF 7 (by omega)
  have g0 := hG 0 (by omega); have g1 := hG 1 (by omega); have g2 := hG 2 (by omega); have g3 := hG 3 (by omega); have g4 := hG 4 (by omega); have g5 := hG 5 (by omega); have g6 := hG 6 (by omega); have g7 := hG 7 (by omega)
  intro k hk
  rcases (show k = 0 ∨ k = 1 ∨ k = 2 ∨ k = 3 ∨ k = 4 ∨ k = 5 ∨ k = 6 ∨ k = 7 by omega) with rfl | rfl | rfl | rfl | rfl | rfl | rfl | rfl <;> simp only [q_prod, zp, f0, f1, f2, f3, f4, f5, f6, f7, g0, g1, g2, g3, g4, g5, g6, g7, Int64.ofInt_add, Int64.ofInt_sub, Int64.ofInt_mul]
theorem zasc_hom (F G K : Nat → Int64) : ∀ k, k < 8 → q_asc F G K k = Int64.ofInt (zasc (zi F) (zi G) (zi K) k) := fun k hk => by
  have hi : ∀ (X : Nat → Int64) j, j < 8 → X j = Int64.ofInt (zi X j) := fun X j _ => (Int64.ofInt_toInt (X j)).symm
  have e1 := zhom2 (zhom2 (hi F) (hi G)) (hi K) k hk
  have e2 := zhom2 (hi F) (zhom2 (hi G) (hi K)) k hk
  have e : q_asc F G K k = q_prod (q_prod F G) K k - q_prod F (q_prod G K) k := by
    show (if (1 : Int32) = 0 then q_prod (q_prod F G) K k + q_prod F (q_prod G K) k else q_prod (q_prod F G) K k - q_prod F (q_prod G K) k) = _
    exact if_neg (by decide)
  rw [e, e1, e2, ← Int64.ofInt_sub]
  rfl
theorem zbig {x N : Int} (h : x * x ≤ N) (hN : N ≤ 32768000000000000000000) : -200000000000 ≤ x ∧ x ≤ 200000000000 := by
  constructor
  · rcases Int.lt_or_le x (-200000000000) with q | q
    · have := Int.mul_le_mul (show 200000000001 ≤ -x by omega) (show 200000000001 ≤ -x by omega) (by omega) (by omega)
      rw [Int.neg_mul_neg] at this
      omega
    · exact q
  · rcases Int.lt_or_le 200000000000 x with q | q
    · have := Int.mul_le_mul (show 200000000001 ≤ x by omega) (show 200000000001 ≤ x by omega) (by omega) (by omega)
      omega
    · exact q
theorem zn3 {a b c : Nat → Int} (ha : zn a ≤ 32000000) (hb : zn b ≤ 32000000) (hc : zn c ≤ 32000000) : zn a * zn b * zn c ≤ 32768000000000000000000 := by
  have h1 := Int.mul_le_mul ha hb (zn_nn b) (by omega)
  have h2 := Int.mul_le_mul h1 hc (zn_nn c) (by omega)
  omega
theorem zasc_0 {F G K : Nat → Int64} (hF : zok F) (hG : zok G) (hK : zok K) {k : Nat} (hk : k < 8) : q_asc F G K k = 0 ↔ zasc (zi F) (zi G) (zi K) k = 0 := by
  have h1 := zbig (x := zp (zp (zi F) (zi G)) (zi K) k) (zn_ge (zp (zp (zi F) (zi G)) (zi K)) k hk) (by rw [zn_mul, zn_mul]; exact zn3 hF hG hK)
  have h2 := zbig (x := zp (zi F) (zp (zi G) (zi K)) k) (zn_ge (zp (zi F) (zp (zi G) (zi K))) k hk) (by rw [zn_mul, zn_mul, ← Int.mul_assoc]; exact zn3 hF hG hK)
  have e : zasc (zi F) (zi G) (zi K) k = zp (zp (zi F) (zi G)) (zi K) k - zp (zi F) (zp (zi G) (zi K)) k := rfl
  have hz : (Int64.size : Int) = 18446744073709551616 := rfl
  rw [zasc_hom F G K k hk, zeq, show (0 : Int64).toInt = 0 from rfl, Int64.toInt_ofInt, Int.bmod_eq_of_le (by omega) (by omega)]
