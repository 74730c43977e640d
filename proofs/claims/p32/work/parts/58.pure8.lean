/-! ===== pure 8 ===== -/
theorem zprod_congr {f f2 g g2 : Nat → Int64} (h : ∀ j, j < 8 → f j = f2 j) (h2 : ∀ j, j < 8 → g j = g2 j) : ∀ k, k < 8 → q_prod f g k = q_prod f2 g2 k := by
  have a0 := h 0 (by omega); have a1 := h 1 (by omega); have a2 := h 2 (by omega); have a3 := h 3 (by omega); have a4 := h 4 (by omega); have a5 := h 5 (by omega); have a6 := h 6 (by omega); have a7 := h 7 (by omega)
  have b0 := h2 0 (by omega); have b1 := h2 1 (by omega); have b2 := h2 2 (by omega); have b3 := h2 3 (by omega); have b4 := h2 4 (by omega); have b5 := h2 5 (by omega); have b6 := h2 6 (by omega); have b7 := h2 7 (by omega)
  intro k hk
  rcases (show k = 0 ∨ k = 1 ∨ k = 2 ∨ k = 3 ∨ k = 4 ∨ k = 5 ∨ k = 6 ∨ k = 7 by omega) with rfl | rfl | rfl | rfl | rfl | rfl | rfl | rfl <;> simp only [q_prod, a0, a1, a2, a3, a4, a5, a6, a7, b0, b1, b2, b3, b4, b5, b6, b7]
theorem zp_congr {f f2 g g2 : Nat → Int} (h : ∀ j, j < 8 → f j = f2 j) (h2 : ∀ j, j < 8 → g j = g2 j) : ∀ k, k < 8 → zp f g k = zp f2 g2 k := by
  have a0 := h 0 (by omega); have a1 := h 1 (by omega); have a2 := h 2 (by omega); have a3 := h 3 (by omega); have a4 := h 4 (by omega); have a5 := h 5 (by omega); have a6 := h 6 (by omega); have a7 := h 7 (by omega)
  have b0 := h2 0 (by omega); have b1 := h2 1 (by omega); have b2 := h2 2 (by omega); have b3 := h2 3 (by omega); have b4 := h2 4 (by omega); have b5 := h2 5 (by omega); have b6 := h2 6 (by omega); have b7 := h2 7 (by omega)
  intro k hk
  rcases (show k = 0 ∨ k = 1 ∨ k = 2 ∨ k = 3 ∨ k = 4 ∨ k = 5 ∨ k = 6 ∨ k = 7 by omega) with rfl | rfl | rfl | rfl | rfl | rfl | rfl | rfl <;> simp only [zp, a0, a1, a2, a3, a4, a5, a6, a7, b0, b1, b2, b3, b4, b5, b6, b7]
theorem zn_congr {f f2 : Nat → Int} (h : ∀ j, j < 8 → f j = f2 j) : zn f = zn f2 := by
  unfold zn
  rw [h 0 (by omega), h 1 (by omega), h 2 (by omega), h 3 (by omega), h 4 (by omega), h 5 (by omega), h 6 (by omega), h 7 (by omega)]
theorem zinn {f g : Nat → Int64} (h : ∀ j, j < 8 → f j = g j) : q_inner f f 8 = q_inner g g 8 := q_inn 8 h
theorem zhom (f g : Nat → Int64) : ∀ k, k < 8 → q_prod f g k = Int64.ofInt (zp (zi f) (zi g) k) := by
  intro k hk
  rcases (show k = 0 ∨ k = 1 ∨ k = 2 ∨ k = 3 ∨ k = 4 ∨ k = 5 ∨ k = 6 ∨ k = 7 by omega) with rfl | rfl | rfl | rfl | rfl | rfl | rfl | rfl <;> simp only [q_prod, zp, zi, Int64.ofInt_add, Int64.ofInt_sub, Int64.ofInt_mul, Int64.ofInt_toInt]
theorem znhom (f : Nat → Int64) : q_inner f f 8 = Int64.ofInt (zn (zi f)) := by
  simp only [q_inner, zn, zi, Int64.ofInt_add, Int64.ofInt_mul, Int64.ofInt_toInt, Int64.zero_add]
theorem zofI {x : Int} (h1 : -9223372036854775808 ≤ x) (h2 : x < 9223372036854775808) : (Int64.ofInt x).toInt = x := Int64.toInt_ofInt_of_le (by omega) (by omega)
theorem zsqn (x : Int) : 0 ≤ x * x := by
  rcases Int.le_total 0 x with h | h
  · exact Int.mul_nonneg h h
  · have := Int.mul_nonneg (show 0 ≤ -x by omega) (show 0 ≤ -x by omega)
    rw [Int.neg_mul_neg] at this
    exact this
theorem zn_nn (a : Nat → Int) : 0 ≤ zn a := by
  unfold zn
  have := zsqn (a 0); have := zsqn (a 1); have := zsqn (a 2); have := zsqn (a 3); have := zsqn (a 4); have := zsqn (a 5); have := zsqn (a 6); have := zsqn (a 7)
  omega
theorem zn_ge (a : Nat → Int) : ∀ k, k < 8 → a k * a k ≤ zn a := by
  intro k hk
  unfold zn
  have := zsqn (a 0); have := zsqn (a 1); have := zsqn (a 2); have := zsqn (a 3); have := zsqn (a 4); have := zsqn (a 5); have := zsqn (a 6); have := zsqn (a 7)
  rcases (show k = 0 ∨ k = 1 ∨ k = 2 ∨ k = 3 ∨ k = 4 ∨ k = 5 ∨ k = 6 ∨ k = 7 by omega) with rfl | rfl | rfl | rfl | rfl | rfl | rfl | rfl <;> omega
theorem zsq_le {x b : Int} (hb : 0 ≤ b) (h : x * x ≤ b * b) : -b ≤ x ∧ x ≤ b := by
  constructor
  · rcases Int.lt_or_le x (-b) with q | q
    · have := Int.mul_le_mul (show b + 1 ≤ -x by omega) (show b + 1 ≤ -x by omega) (by omega) (by omega)
      rw [Int.neg_mul_neg] at this
      have e : (b + 1) * (b + 1) = b * b + 2 * b + 1 := by grind
      omega
    · exact q
  · rcases Int.lt_or_le b x with q | q
    · have := Int.mul_le_mul (show b + 1 ≤ x by omega) (show b + 1 ≤ x by omega) (by omega) (by omega)
      have e : (b + 1) * (b + 1) = b * b + 2 * b + 1 := by grind
      omega
    · exact q
/-- a row whose norm is at most that of a register -/
def zok (f : Nat → Int64) : Prop := zn (zi f) ≤ 32000000
theorem zok_b {f : Nat → Int64} (h : zok f) : ∀ k, k < 8 → -5657 ≤ zi f k ∧ zi f k ≤ 5657 := fun k hk => by
  have := zn_ge (zi f) k hk
  have h : zn (zi f) ≤ 32000000 := h
  exact zsq_le (by omega) (by omega)
theorem zok_N {f : Nat → Int64} (h : zok f) : (q_inner f f 8).toInt = zn (zi f) := by
  have h : zn (zi f) ≤ 32000000 := h
  have := zn_nn (zi f)
  rw [znhom]
  exact zofI (by omega) (by omega)
theorem zn_zc (a : Nat → Int) : zn (zc a) = zn a := by
  unfold zn zc
  simp only [if_pos, show (1 : Nat) ≠ 0 by omega, show (2 : Nat) ≠ 0 by omega, show (3 : Nat) ≠ 0 by omega, show (4 : Nat) ≠ 0 by omega, show (5 : Nat) ≠ 0 by omega, show (6 : Nat) ≠ 0 by omega, show (7 : Nat) ≠ 0 by omega, if_false, Int.neg_mul_neg]
theorem zi_mir {g : Nat → Int64} (h : zok g) : ∀ k, k < 8 → zi (q_mirror g) k = zc (zi g) k := fun k hk => by
  have hb := zok_b h k hk
  unfold zi at hb
  unfold zi q_mirror zc
  by_cases e : k = 0
  · rw [if_pos e, if_pos e]
  · rw [if_neg e, if_neg e]
    exact zneg (by omega)
theorem zp_sm {a b : Nat → Int} {A B : Int} (ha : zn a ≤ A) (hb : zn b ≤ B) (hA : 0 ≤ A) : ∀ k, k < 8 → zp a b k * zp a b k ≤ A * B := fun k hk => by
  have h1 := zn_ge (zp a b) k hk
  rw [zn_mul] at h1
  have h2 := Int.mul_le_mul ha hb (zn_nn b) hA
  omega
theorem zP {f g : Nat → Int64} (hf : zok f) (hg : zok g) : ∀ k, k < 8 → (q_prod f (q_mirror g) k).toInt = zp (zi f) (zc (zi g)) k ∧ -32000000 ≤ zp (zi f) (zc (zi g)) k ∧ zp (zi f) (zc (zi g)) k ≤ 32000000 := fun k hk => by
  have hf2 : zn (zi f) ≤ 32000000 := hf
  have hg2 : zn (zc (zi g)) ≤ 32000000 := by rw [zn_zc]; exact hg
  have h1 := zp_sm hf2 hg2 (by omega) k hk
  have h2 := zsq_le (b := 32000000) (by omega) h1
  refine ⟨?_, h2⟩
  rw [zhom f (q_mirror g) k hk, zp_congr (fun _ _ => rfl) (zi_mir hg) k hk]
  exact zofI (by omega) (by omega)
theorem zoddW : ∀ w, w < 256 → (∀ k, k < 8 → q_w (nI w) k = w / 2 ^ k % 2) := by decide +kernel
theorem zeqbits {a b : Nat} (ha : a < 256) (hb : b < 256) (h : ∀ k, k < 8 → a / 2 ^ k % 2 = b / 2 ^ k % 2) : a = b := by
  have := h 0 (by omega); have := h 1 (by omega); have := h 2 (by omega); have := h 3 (by omega); have := h 4 (by omega); have := h 5 (by omega); have := h 6 (by omega); have := h 7 (by omega)
  omega
theorem zcsum {N : Int64} {p h : Nat → Int64} (q P : Nat → Int) (hq : ∀ k, k < 8 → (h k).toInt = q k) (hP : ∀ k, k < 8 → (p k).toInt = P k) : zos N p h 8 = zn (fun k => 2 * P k - q k * N.toInt) := by
  have e : ∀ k, k < 8 → zoff N p h k = -(2 * P k - q k * N.toInt) := fun k hk => by
    unfold zoff
    rw [hq k hk, hP k hk, Int.mul_comm N.toInt]
    omega
  simp only [zos, e 0 (by omega), e 1 (by omega), e 2 (by omega), e 3 (by omega), e 4 (by omega), e 5 (by omega), e 6 (by omega), e 7 (by omega), zn, Int.neg_mul_neg, Int.zero_add]
theorem zp_lin (a c b : Nat → Int) : ∀ k, k < 8 → zp (fun j => 2 * a j - c j) b k = 2 * zp a b k - zp c b k := by
  intro k hk
  rcases (show k = 0 ∨ k = 1 ∨ k = 2 ∨ k = 3 ∨ k = 4 ∨ k = 5 ∨ k = 6 ∨ k = 7 by omega) with rfl | rfl | rfl | rfl | rfl | rfl | rfl | rfl <;> simp only [zp] <;> grind
theorem zn_2 (a : Nat → Int) : zn (fun k => 2 * a k) = 4 * zn a := by
  unfold zn
  grind
theorem zlat_congr {o : Nat} (ho : o < 8) {x y : Nat → Int} (h : ∀ k, k < 8 → x k = y k) : zlat o x ↔ zlat o y := by
  have h0 := h 0 (by omega); have h1 := h 1 (by omega); have h2 := h 2 (by omega); have h3 := h 3 (by omega); have h4 := h 4 (by omega); have h5 := h 5 (by omega); have h6 := h 6 (by omega); have h7 := h 7 (by omega)
  match o, ho with
  | 0, _ => simp only [zlat, h0, h1, h2, h3, h4, h5, h6, h7]
  | 1, _ => simp only [zlat, h0, h1, h2, h3, h4, h5, h6, h7]
  | 2, _ => simp only [zlat, h0, h1, h2, h3, h4, h5, h6, h7]
  | 3, _ => simp only [zlat, h0, h1, h2, h3, h4, h5, h6, h7]
  | 4, _ => simp only [zlat, h0, h1, h2, h3, h4, h5, h6, h7]
  | 5, _ => simp only [zlat, h0, h1, h2, h3, h4, h5, h6, h7]
  | 6, _ => simp only [zlat, h0, h1, h2, h3, h4, h5, h6, h7]
  | 7, _ => simp only [zlat, h0, h1, h2, h3, h4, h5, h6, h7]
  | o + 8, h => exact absurd h (by omega)

