/-! ===== pure: commuting ===== -/
theorem zcomm_id (a b : Nat → Int) : zn (fun k => zp a b k - zp b a k) = 4 * ((a 1 * b 2 - a 2 * b 1) * (a 1 * b 2 - a 2 * b 1) + (a 1 * b 3 - a 3 * b 1) * (a 1 * b 3 - a 3 * b 1) + (a 1 * b 4 - a 4 * b 1) * (a 1 * b 4 - a 4 * b 1) + (a 1 * b 5 - a 5 * b 1) * (a 1 * b 5 - a 5 * b 1) + (a 1 * b 6 - a 6 * b 1) * (a 1 * b 6 - a 6 * b 1) + (a 1 * b 7 - a 7 * b 1) * (a 1 * b 7 - a 7 * b 1) + (a 2 * b 3 - a 3 * b 2) * (a 2 * b 3 - a 3 * b 2) + (a 2 * b 4 - a 4 * b 2) * (a 2 * b 4 - a 4 * b 2) + (a 2 * b 5 - a 5 * b 2) * (a 2 * b 5 - a 5 * b 2) + (a 2 * b 6 - a 6 * b 2) * (a 2 * b 6 - a 6 * b 2) + (a 2 * b 7 - a 7 * b 2) * (a 2 * b 7 - a 7 * b 2) + (a 3 * b 4 - a 4 * b 3) * (a 3 * b 4 - a 4 * b 3) + (a 3 * b 5 - a 5 * b 3) * (a 3 * b 5 - a 5 * b 3) + (a 3 * b 6 - a 6 * b 3) * (a 3 * b 6 - a 6 * b 3) + (a 3 * b 7 - a 7 * b 3) * (a 3 * b 7 - a 7 * b 3) + (a 4 * b 5 - a 5 * b 4) * (a 4 * b 5 - a 5 * b 4) + (a 4 * b 6 - a 6 * b 4) * (a 4 * b 6 - a 6 * b 4) + (a 4 * b 7 - a 7 * b 4) * (a 4 * b 7 - a 7 * b 4) + (a 5 * b 6 - a 6 * b 5) * (a 5 * b 6 - a 6 * b 5) + (a 5 * b 7 - a 7 * b 5) * (a 5 * b 7 - a 7 * b 5) + (a 6 * b 7 - a 7 * b 6) * (a 6 * b 7 - a 7 * b 6)) := by
  unfold zn zp
  grind
def zpar (a b : Nat → Int) : Prop := ∀ i j, 1 ≤ i → i < j → j < 8 → a i * b j = a j * b i
theorem zpar_iff (a b : Nat → Int) : zpar a b ↔ ∀ k, k < 8 → zp a b k = zp b a k := by
  constructor
  · intro h
    have e12 := h 1 2 (by omega) (by omega) (by omega); have e13 := h 1 3 (by omega) (by omega) (by omega); have e14 := h 1 4 (by omega) (by omega) (by omega); have e15 := h 1 5 (by omega) (by omega) (by omega); have e16 := h 1 6 (by omega) (by omega) (by omega); have e17 := h 1 7 (by omega) (by omega) (by omega)
    have e23 := h 2 3 (by omega) (by omega) (by omega); have e24 := h 2 4 (by omega) (by omega) (by omega); have e25 := h 2 5 (by omega) (by omega) (by omega); have e26 := h 2 6 (by omega) (by omega) (by omega); have e27 := h 2 7 (by omega) (by omega) (by omega)
    have e34 := h 3 4 (by omega) (by omega) (by omega); have e35 := h 3 5 (by omega) (by omega) (by omega); have e36 := h 3 6 (by omega) (by omega) (by omega); have e37 := h 3 7 (by omega) (by omega) (by omega)
    have e45 := h 4 5 (by omega) (by omega) (by omega); have e46 := h 4 6 (by omega) (by omega) (by omega); have e47 := h 4 7 (by omega) (by omega) (by omega)
    have e56 := h 5 6 (by omega) (by omega) (by omega); have e57 := h 5 7 (by omega) (by omega) (by omega); have e67 := h 6 7 (by omega) (by omega) (by omega)
    have c : ∀ i j : Nat, b i * a j = a j * b i := fun i j => Int.mul_comm _ _
    intro k hk
    rcases (show k = 0 ∨ k = 1 ∨ k = 2 ∨ k = 3 ∨ k = 4 ∨ k = 5 ∨ k = 6 ∨ k = 7 by omega) with rfl | rfl | rfl | rfl | rfl | rfl | rfl | rfl <;> simp only [zp, c] <;> omega
  · intro h
    have h1 : zn (fun k => zp a b k - zp b a k) = 0 := by
      rw [zn_congr (f2 := fun _ => 0) (fun j hj => by show zp a b j - zp b a j = 0; rw [h j hj]; omega)]
      rfl
    rw [zcomm_id] at h1
    have s := fun i j : Nat => zsqn (a i * b j - a j * b i)
    have := s 1 2; have := s 1 3; have := s 1 4; have := s 1 5; have := s 1 6; have := s 1 7
    have := s 2 3; have := s 2 4; have := s 2 5; have := s 2 6; have := s 2 7
    have := s 3 4; have := s 3 5; have := s 3 6; have := s 3 7
    have := s 4 5; have := s 4 6; have := s 4 7; have := s 5 6; have := s 5 7; have := s 6 7
    intro i j hi hij hj
    have key : (a i * b j - a j * b i) * (a i * b j - a j * b i) = 0 := by
      rcases (show i = 1 ∨ i = 2 ∨ i = 3 ∨ i = 4 ∨ i = 5 ∨ i = 6 by omega) with rfl | rfl | rfl | rfl | rfl | rfl <;> rcases (show j = 2 ∨ j = 3 ∨ j = 4 ∨ j = 5 ∨ j = 6 ∨ j = 7 by omega) with rfl | rfl | rfl | rfl | rfl | rfl <;> omega
    have := (Int.mul_eq_zero.mp key).elim id id
    omega
theorem zmulb {a b A B : Int} (h1 : -A ≤ a) (h2 : a ≤ A) (h3 : -B ≤ b) (h4 : b ≤ B) : -(A * B) ≤ a * b ∧ a * b ≤ A * B := by
  have hA : 0 ≤ A := by omega
  have hB : 0 ≤ B := by omega
  rcases Int.le_total 0 a with p | p <;> rcases Int.le_total 0 b with q | q
  · have := Int.mul_le_mul h2 h4 q hA; have := Int.mul_nonneg p q; have := Int.mul_nonneg hA hB; omega
  · have := Int.mul_le_mul h2 (show -b ≤ B by omega) (by omega) hA; have := Int.mul_nonneg p (show 0 ≤ -b by omega); rw [Int.mul_neg] at *; have := Int.mul_nonneg hA hB; omega
  · have := Int.mul_le_mul (show -a ≤ A by omega) h4 q hA; have := Int.mul_nonneg (show 0 ≤ -a by omega) q; rw [Int.neg_mul] at *; have := Int.mul_nonneg hA hB; omega
  · have := Int.mul_le_mul (show -a ≤ A by omega) (show -b ≤ B by omega) (by omega) hA; have := Int.mul_nonneg (show 0 ≤ -a by omega) (show 0 ≤ -b by omega); rw [Int.neg_mul_neg] at *; have := Int.mul_nonneg hA hB; omega
theorem zmul2 {f g : Nat → Int64} (hf : zok f) (hg : zok g) {i j : Nat} (hi : i < 8) (hj : j < 8) : (f i * g j).toInt = zi f i * zi g j := by
  have h1 := zok_b hf i hi
  have h2 := zok_b hg j hj
  have := zmulb h1.1 h1.2 h2.1 h2.2
  exact zmul (by unfold zi at *; omega) (by unfold zi at *; omega)
theorem zpar_q {f g : Nat → Int64} (hf : zok f) (hg : zok g) : q_par f g ↔ zpar (zi f) (zi g) := by
  unfold q_par zpar
  constructor
  · intro h i j h1 h2 h3
    have := congrArg Int64.toInt (h i j h1 h2 h3)
    rw [zmul2 hf hg (by omega) h3, zmul2 hf hg h3 (by omega)] at this
    exact this
  · intro h i j h1 h2 h3
    rw [zeq, zmul2 hf hg (by omega) h3, zmul2 hf hg h3 (by omega)]
    exact h i j h1 h2 h3
theorem zprod_i {f g : Nat → Int64} (hf : zok f) (hg : zok g) : ∀ k, k < 8 → (q_prod f g k).toInt = zp (zi f) (zi g) k ∧ -32000000 ≤ zp (zi f) (zi g) k ∧ zp (zi f) (zi g) k ≤ 32000000 := fun k hk => by
  have hf2 : zn (zi f) ≤ 32000000 := hf
  have hg2 : zn (zi g) ≤ 32000000 := hg
  have h1 := zp_sm hf2 hg2 (by omega) k hk
  have h2 := zsq_le (b := 32000000) (by omega) h1
  refine ⟨?_, h2⟩
  rw [zhom f g k hk]
  exact zofI (by omega) (by omega)
/-- what the model compares: both products -/
theorem zpar_m {f g : Nat → Int64} (hf : zok f) (hg : zok g) : q_par f g ↔ ∀ k, k < 8 → q_prod f g k = q_prod g f k := by
  rw [zpar_q hf hg, zpar_iff]
  constructor
  · intro h k hk
    rw [zeq, (zprod_i hf hg k hk).1, (zprod_i hg hf k hk).1]
    exact h k hk
  · intro h k hk
    have := congrArg Int64.toInt (h k hk)
    rw [(zprod_i hf hg k hk).1, (zprod_i hg hf k hk).1] at this
    exact this
/-- what the model squares: the commutator -/
theorem zpar_c {f g : Nat → Int64} (hf : zok f) (hg : zok g) : q_par f g ↔ q_inner (q_total (q_prod f g) (q_prod g f) 1) (q_total (q_prod f g) (q_prod g f) 1) 8 = 0 := by
  have ht : ∀ k, k < 8 → zi (q_total (q_prod f g) (q_prod g f) 1) k = zp (zi f) (zi g) k - zp (zi g) (zi f) k := fun k hk => by
    obtain ⟨a1, a2, a3⟩ := zprod_i hf hg k hk
    obtain ⟨b1, b2, b3⟩ := zprod_i hg hf k hk
    show (q_prod f g k - q_prod g f k).toInt = _
    rw [zsub] <;> rw [a1, b1] <;> omega
  have hz : zn (zi (q_total (q_prod f g) (q_prod g f) 1)) = zn (fun k => zp (zi f) (zi g) k - zp (zi g) (zi f) k) := zn_congr ht
  have hb : zn (zi (q_total (q_prod f g) (q_prod g f) 1)) < 9223372036854775808 := by
    have s : ∀ k, k < 8 → zi (q_total (q_prod f g) (q_prod g f) 1) k * zi (q_total (q_prod f g) (q_prod g f) 1) k ≤ 64000000 * 64000000 := fun k hk => by
      obtain ⟨a1, a2, a3⟩ := zprod_i hf hg k hk
      obtain ⟨b1, b2, b3⟩ := zprod_i hg hf k hk
      rw [ht k hk]
      exact (zsq (by omega) (by omega)).2
    unfold zn
    have := s 0 (by omega); have := s 1 (by omega); have := s 2 (by omega); have := s 3 (by omega); have := s 4 (by omega); have := s 5 (by omega); have := s 6 (by omega); have := s 7 (by omega)
    omega
  have hn := zn_nn (zi (q_total (q_prod f g) (q_prod g f) 1))
  have e : q_inner (q_total (q_prod f g) (q_prod g f) 1) (q_total (q_prod f g) (q_prod g f) 1) 8 = 0 ↔ zn (zi (q_total (q_prod f g) (q_prod g f) 1)) = 0 := by
    rw [zeq, znhom, zofI (by omega) hb]
    exact Iff.rfl
  rw [e, zpar_q hf hg, zpar_iff]
  constructor
  · intro h
    rw [hz, zn_congr (f2 := fun _ => 0) (fun j hj => by show zp (zi f) (zi g) j - zp (zi g) (zi f) j = 0; rw [h j hj]; omega)]
    rfl
  · intro h k hk
    have := zn_zero h k hk
    rw [ht k hk] at this
    omega
theorem zpar_congr {f f2 g g2 : Nat → Int64} (h : ∀ j, j < 8 → f j = f2 j) (h2 : ∀ j, j < 8 → g j = g2 j) : q_par f g ↔ q_par f2 g2 := by
  unfold q_par
  constructor
  · intro q i j h1 h3 h4
    rw [← h i (by omega), ← h2 j h4, ← h j h4, ← h2 i (by omega)]
    exact q i j h1 h3 h4
  · intro q i j h1 h3 h4
    rw [h i (by omega), h2 j h4, h j h4, h2 i (by omega)]
    exact q i j h1 h3 h4
theorem zpar_sym {f g : Nat → Int64} (h : q_par f g) : q_par g f := fun i j h1 h2 h3 => by
  rw [Int64.mul_comm (g i), Int64.mul_comm (g j)]
  exact (h i j h1 h2 h3).symm
