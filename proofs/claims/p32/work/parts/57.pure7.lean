/-! ===== pure 7 ===== -/
theorem zlat_w0 : ∀ w, w < 256 → (okP 0 w ↔ (((w / 2 ^ 0 % 2 : Nat) : Int) % 2 = 0 ∧ ((w / 2 ^ 1 % 2 : Nat) : Int) % 2 = 0 ∧ ((w / 2 ^ 2 % 2 : Nat) : Int) % 2 = 0 ∧ ((w / 2 ^ 3 % 2 : Nat) : Int) % 2 = 0 ∧ ((w / 2 ^ 4 % 2 : Nat) : Int) % 2 = 0 ∧ ((w / 2 ^ 5 % 2 : Nat) : Int) % 2 = 0 ∧ ((w / 2 ^ 6 % 2 : Nat) : Int) % 2 = 0 ∧ ((w / 2 ^ 7 % 2 : Nat) : Int) % 2 = 0)) := by
  unfold okP
  decide +kernel
theorem zlat_w1 : ∀ w, w < 256 → (okP 1 w ↔ ((((w / 2 ^ 0 % 2 : Nat) : Int) + ((w / 2 ^ 1 % 2 : Nat) : Int) + ((w / 2 ^ 3 % 2 : Nat) : Int) + ((w / 2 ^ 7 % 2 : Nat) : Int)) % 2 = 0 ∧ (((w / 2 ^ 0 % 2 : Nat) : Int) + ((w / 2 ^ 2 % 2 : Nat) : Int) + ((w / 2 ^ 3 % 2 : Nat) : Int) + ((w / 2 ^ 6 % 2 : Nat) : Int)) % 2 = 0 ∧ (((w / 2 ^ 1 % 2 : Nat) : Int) + ((w / 2 ^ 2 % 2 : Nat) : Int) + ((w / 2 ^ 3 % 2 : Nat) : Int) + ((w / 2 ^ 5 % 2 : Nat) : Int)) % 2 = 0 ∧ (((w / 2 ^ 0 % 2 : Nat) : Int) + ((w / 2 ^ 1 % 2 : Nat) : Int) + ((w / 2 ^ 2 % 2 : Nat) : Int) + ((w / 2 ^ 4 % 2 : Nat) : Int)) % 2 = 0)) := by
  unfold okP
  decide +kernel
theorem zlat_w2 : ∀ w, w < 256 → (okP 2 w ↔ ((((w / 2 ^ 1 % 2 : Nat) : Int) + ((w / 2 ^ 2 % 2 : Nat) : Int) + ((w / 2 ^ 3 % 2 : Nat) : Int) + ((w / 2 ^ 7 % 2 : Nat) : Int)) % 2 = 0 ∧ (((w / 2 ^ 0 % 2 : Nat) : Int) + ((w / 2 ^ 1 % 2 : Nat) : Int) + ((w / 2 ^ 3 % 2 : Nat) : Int) + ((w / 2 ^ 6 % 2 : Nat) : Int)) % 2 = 0 ∧ (((w / 2 ^ 0 % 2 : Nat) : Int) + ((w / 2 ^ 2 % 2 : Nat) : Int) + ((w / 2 ^ 3 % 2 : Nat) : Int) + ((w / 2 ^ 5 % 2 : Nat) : Int)) % 2 = 0 ∧ (((w / 2 ^ 0 % 2 : Nat) : Int) + ((w / 2 ^ 1 % 2 : Nat) : Int) + ((w / 2 ^ 2 % 2 : Nat) : Int) + ((w / 2 ^ 4 % 2 : Nat) : Int)) % 2 = 0)) := by
  unfold okP
  decide +kernel
theorem zlat_w3 : ∀ w, w < 256 → (okP 3 w ↔ ((((w / 2 ^ 0 % 2 : Nat) : Int) + ((w / 2 ^ 1 % 2 : Nat) : Int) + ((w / 2 ^ 3 % 2 : Nat) : Int) + ((w / 2 ^ 7 % 2 : Nat) : Int)) % 2 = 0 ∧ (((w / 2 ^ 0 % 2 : Nat) : Int) + ((w / 2 ^ 1 % 2 : Nat) : Int) + ((w / 2 ^ 2 % 2 : Nat) : Int) + ((w / 2 ^ 6 % 2 : Nat) : Int)) % 2 = 0 ∧ (((w / 2 ^ 0 % 2 : Nat) : Int) + ((w / 2 ^ 2 % 2 : Nat) : Int) + ((w / 2 ^ 3 % 2 : Nat) : Int) + ((w / 2 ^ 5 % 2 : Nat) : Int)) % 2 = 0 ∧ (((w / 2 ^ 1 % 2 : Nat) : Int) + ((w / 2 ^ 2 % 2 : Nat) : Int) + ((w / 2 ^ 3 % 2 : Nat) : Int) + ((w / 2 ^ 4 % 2 : Nat) : Int)) % 2 = 0)) := by
  unfold okP
  decide +kernel
theorem zlat_w4 : ∀ w, w < 256 → (okP 4 w ↔ ((((w / 2 ^ 0 % 2 : Nat) : Int) + ((w / 2 ^ 2 % 2 : Nat) : Int) + ((w / 2 ^ 3 % 2 : Nat) : Int) + ((w / 2 ^ 7 % 2 : Nat) : Int)) % 2 = 0 ∧ (((w / 2 ^ 1 % 2 : Nat) : Int) + ((w / 2 ^ 2 % 2 : Nat) : Int) + ((w / 2 ^ 3 % 2 : Nat) : Int) + ((w / 2 ^ 6 % 2 : Nat) : Int)) % 2 = 0 ∧ (((w / 2 ^ 0 % 2 : Nat) : Int) + ((w / 2 ^ 1 % 2 : Nat) : Int) + ((w / 2 ^ 3 % 2 : Nat) : Int) + ((w / 2 ^ 5 % 2 : Nat) : Int)) % 2 = 0 ∧ (((w / 2 ^ 0 % 2 : Nat) : Int) + ((w / 2 ^ 1 % 2 : Nat) : Int) + ((w / 2 ^ 2 % 2 : Nat) : Int) + ((w / 2 ^ 4 % 2 : Nat) : Int)) % 2 = 0)) := by
  unfold okP
  decide +kernel
theorem zlat_w5 : ∀ w, w < 256 → (okP 5 w ↔ ((((w / 2 ^ 0 % 2 : Nat) : Int) + ((w / 2 ^ 1 % 2 : Nat) : Int) + ((w / 2 ^ 2 % 2 : Nat) : Int) + ((w / 2 ^ 7 % 2 : Nat) : Int)) % 2 = 0 ∧ (((w / 2 ^ 1 % 2 : Nat) : Int) + ((w / 2 ^ 2 % 2 : Nat) : Int) + ((w / 2 ^ 3 % 2 : Nat) : Int) + ((w / 2 ^ 6 % 2 : Nat) : Int)) % 2 = 0 ∧ (((w / 2 ^ 0 % 2 : Nat) : Int) + ((w / 2 ^ 2 % 2 : Nat) : Int) + ((w / 2 ^ 3 % 2 : Nat) : Int) + ((w / 2 ^ 5 % 2 : Nat) : Int)) % 2 = 0 ∧ (((w / 2 ^ 0 % 2 : Nat) : Int) + ((w / 2 ^ 1 % 2 : Nat) : Int) + ((w / 2 ^ 3 % 2 : Nat) : Int) + ((w / 2 ^ 4 % 2 : Nat) : Int)) % 2 = 0)) := by
  unfold okP
  decide +kernel
theorem zlat_w6 : ∀ w, w < 256 → (okP 6 w ↔ ((((w / 2 ^ 0 % 2 : Nat) : Int) + ((w / 2 ^ 1 % 2 : Nat) : Int) + ((w / 2 ^ 4 % 2 : Nat) : Int) + ((w / 2 ^ 7 % 2 : Nat) : Int)) % 2 = 0 ∧ (((w / 2 ^ 1 % 2 : Nat) : Int) + ((w / 2 ^ 2 % 2 : Nat) : Int) + ((w / 2 ^ 4 % 2 : Nat) : Int) + ((w / 2 ^ 6 % 2 : Nat) : Int)) % 2 = 0 ∧ (((w / 2 ^ 0 % 2 : Nat) : Int) + ((w / 2 ^ 2 % 2 : Nat) : Int) + ((w / 2 ^ 4 % 2 : Nat) : Int) + ((w / 2 ^ 5 % 2 : Nat) : Int)) % 2 = 0 ∧ (((w / 2 ^ 0 % 2 : Nat) : Int) + ((w / 2 ^ 1 % 2 : Nat) : Int) + ((w / 2 ^ 2 % 2 : Nat) : Int) + ((w / 2 ^ 3 % 2 : Nat) : Int)) % 2 = 0)) := by
  unfold okP
  decide +kernel
theorem zlat_w7 : ∀ w, w < 256 → (okP 7 w ↔ ((((w / 2 ^ 0 % 2 : Nat) : Int) + ((w / 2 ^ 1 % 2 : Nat) : Int) + ((w / 2 ^ 3 % 2 : Nat) : Int) + ((w / 2 ^ 7 % 2 : Nat) : Int)) % 2 = 0 ∧ (((w / 2 ^ 1 % 2 : Nat) : Int) + ((w / 2 ^ 2 % 2 : Nat) : Int) + ((w / 2 ^ 3 % 2 : Nat) : Int) + ((w / 2 ^ 6 % 2 : Nat) : Int)) % 2 = 0 ∧ (((w / 2 ^ 0 % 2 : Nat) : Int) + ((w / 2 ^ 1 % 2 : Nat) : Int) + ((w / 2 ^ 2 % 2 : Nat) : Int) + ((w / 2 ^ 5 % 2 : Nat) : Int)) % 2 = 0 ∧ (((w / 2 ^ 0 % 2 : Nat) : Int) + ((w / 2 ^ 2 % 2 : Nat) : Int) + ((w / 2 ^ 3 % 2 : Nat) : Int) + ((w / 2 ^ 4 % 2 : Nat) : Int)) % 2 = 0)) := by
  unfold okP
  decide +kernel
def zi (f : Nat → Int64) : Nat → Int := fun k => (f k).toInt
theorem oddN_bit (f : Nat → Int64) : ∀ n k, k < n → (oddN f n).testBit k = decide ((f k).toInt % 2 ≠ 0)
  | 0, k, h => by omega
  | n + 1, k, h => by
    have hn : (oddN f n).testBit n = false := Nat.testBit_lt_two_pow (oddN_lt f n)
    unfold oddN
    by_cases z : (f n).toInt % 2 = 0
    · rw [if_pos z]
      by_cases e : k = n
      · subst e
        rw [hn]
        simp [z]
      · exact oddN_bit f n k (by omega)
    · rw [if_neg z, Nat.testBit_or, Nat.testBit_two_pow]
      by_cases e : k = n
      · subst e
        rw [hn]
        simp [z]
      · rw [oddN_bit f n k (by omega)]
        simp [Ne.symm e]
theorem oddN_par (f : Nat → Int64) {k : Nat} (h : k < 8) : ((oddN f 8 / 2 ^ k % 2 : Nat) : Int) = zi f k % 2 := by
  have e := oddN_bit f 8 k h
  rw [Nat.testBit_eq_decide_div_mod_eq] at e
  unfold zi
  by_cases z : (f k).toInt % 2 = 0
  · have : ¬ oddN f 8 / 2 ^ k % 2 = 1 := fun y => by simp [y, z] at e
    omega
  · have : oddN f 8 / 2 ^ k % 2 = 1 := by simpa [z] using e
    omega
theorem zlat_ok {f : Nat → Int64} {o : Nat} (ho : o < 8) : okP o (oddN f 8) ↔ zlat o (zi f) := by
  have hw : oddN f 8 < 256 := oddN_lt f 8
  have h0 := oddN_par f (show 0 < 8 by omega)
  have h1 := oddN_par f (show 1 < 8 by omega)
  have h2 := oddN_par f (show 2 < 8 by omega)
  have h3 := oddN_par f (show 3 < 8 by omega)
  have h4 := oddN_par f (show 4 < 8 by omega)
  have h5 := oddN_par f (show 5 < 8 by omega)
  have h6 := oddN_par f (show 6 < 8 by omega)
  have h7 := oddN_par f (show 7 < 8 by omega)
  match o, ho with
  | 0, _ =>
    refine (zlat_w0 _ hw).trans ?_
    show (((oddN f 8 / 2 ^ 0 % 2 : Nat) : Int) % 2 = 0 ∧ ((oddN f 8 / 2 ^ 1 % 2 : Nat) : Int) % 2 = 0 ∧ ((oddN f 8 / 2 ^ 2 % 2 : Nat) : Int) % 2 = 0 ∧ ((oddN f 8 / 2 ^ 3 % 2 : Nat) : Int) % 2 = 0 ∧ ((oddN f 8 / 2 ^ 4 % 2 : Nat) : Int) % 2 = 0 ∧ ((oddN f 8 / 2 ^ 5 % 2 : Nat) : Int) % 2 = 0 ∧ ((oddN f 8 / 2 ^ 6 % 2 : Nat) : Int) % 2 = 0 ∧ ((oddN f 8 / 2 ^ 7 % 2 : Nat) : Int) % 2 = 0) ↔ (zi f 0 % 2 = 0 ∧ zi f 1 % 2 = 0 ∧ zi f 2 % 2 = 0 ∧ zi f 3 % 2 = 0 ∧ zi f 4 % 2 = 0 ∧ zi f 5 % 2 = 0 ∧ zi f 6 % 2 = 0 ∧ zi f 7 % 2 = 0)
    rw [h0, h1, h2, h3, h4, h5, h6, h7]
    omega
  | 1, _ =>
    refine (zlat_w1 _ hw).trans ?_
    show ((((oddN f 8 / 2 ^ 0 % 2 : Nat) : Int) + ((oddN f 8 / 2 ^ 1 % 2 : Nat) : Int) + ((oddN f 8 / 2 ^ 3 % 2 : Nat) : Int) + ((oddN f 8 / 2 ^ 7 % 2 : Nat) : Int)) % 2 = 0 ∧ (((oddN f 8 / 2 ^ 0 % 2 : Nat) : Int) + ((oddN f 8 / 2 ^ 2 % 2 : Nat) : Int) + ((oddN f 8 / 2 ^ 3 % 2 : Nat) : Int) + ((oddN f 8 / 2 ^ 6 % 2 : Nat) : Int)) % 2 = 0 ∧ (((oddN f 8 / 2 ^ 1 % 2 : Nat) : Int) + ((oddN f 8 / 2 ^ 2 % 2 : Nat) : Int) + ((oddN f 8 / 2 ^ 3 % 2 : Nat) : Int) + ((oddN f 8 / 2 ^ 5 % 2 : Nat) : Int)) % 2 = 0 ∧ (((oddN f 8 / 2 ^ 0 % 2 : Nat) : Int) + ((oddN f 8 / 2 ^ 1 % 2 : Nat) : Int) + ((oddN f 8 / 2 ^ 2 % 2 : Nat) : Int) + ((oddN f 8 / 2 ^ 4 % 2 : Nat) : Int)) % 2 = 0) ↔ ((zi f 0 + zi f 1 + zi f 3 + zi f 7) % 2 = 0 ∧ (zi f 0 + zi f 2 + zi f 3 + zi f 6) % 2 = 0 ∧ (zi f 1 + zi f 2 + zi f 3 + zi f 5) % 2 = 0 ∧ (zi f 0 + zi f 1 + zi f 2 + zi f 4) % 2 = 0)
    rw [h0, h1, h2, h3, h4, h5, h6, h7]
    omega
  | 2, _ =>
    refine (zlat_w2 _ hw).trans ?_
    show ((((oddN f 8 / 2 ^ 1 % 2 : Nat) : Int) + ((oddN f 8 / 2 ^ 2 % 2 : Nat) : Int) + ((oddN f 8 / 2 ^ 3 % 2 : Nat) : Int) + ((oddN f 8 / 2 ^ 7 % 2 : Nat) : Int)) % 2 = 0 ∧ (((oddN f 8 / 2 ^ 0 % 2 : Nat) : Int) + ((oddN f 8 / 2 ^ 1 % 2 : Nat) : Int) + ((oddN f 8 / 2 ^ 3 % 2 : Nat) : Int) + ((oddN f 8 / 2 ^ 6 % 2 : Nat) : Int)) % 2 = 0 ∧ (((oddN f 8 / 2 ^ 0 % 2 : Nat) : Int) + ((oddN f 8 / 2 ^ 2 % 2 : Nat) : Int) + ((oddN f 8 / 2 ^ 3 % 2 : Nat) : Int) + ((oddN f 8 / 2 ^ 5 % 2 : Nat) : Int)) % 2 = 0 ∧ (((oddN f 8 / 2 ^ 0 % 2 : Nat) : Int) + ((oddN f 8 / 2 ^ 1 % 2 : Nat) : Int) + ((oddN f 8 / 2 ^ 2 % 2 : Nat) : Int) + ((oddN f 8 / 2 ^ 4 % 2 : Nat) : Int)) % 2 = 0) ↔ ((zi f 1 + zi f 2 + zi f 3 + zi f 7) % 2 = 0 ∧ (zi f 0 + zi f 1 + zi f 3 + zi f 6) % 2 = 0 ∧ (zi f 0 + zi f 2 + zi f 3 + zi f 5) % 2 = 0 ∧ (zi f 0 + zi f 1 + zi f 2 + zi f 4) % 2 = 0)
    rw [h0, h1, h2, h3, h4, h5, h6, h7]
    omega
  | 3, _ =>
    refine (zlat_w3 _ hw).trans ?_
    show ((((oddN f 8 / 2 ^ 0 % 2 : Nat) : Int) + ((oddN f 8 / 2 ^ 1 % 2 : Nat) : Int) + ((oddN f 8 / 2 ^ 3 % 2 : Nat) : Int) + ((oddN f 8 / 2 ^ 7 % 2 : Nat) : Int)) % 2 = 0 ∧ (((oddN f 8 / 2 ^ 0 % 2 : Nat) : Int) + ((oddN f 8 / 2 ^ 1 % 2 : Nat) : Int) + ((oddN f 8 / 2 ^ 2 % 2 : Nat) : Int) + ((oddN f 8 / 2 ^ 6 % 2 : Nat) : Int)) % 2 = 0 ∧ (((oddN f 8 / 2 ^ 0 % 2 : Nat) : Int) + ((oddN f 8 / 2 ^ 2 % 2 : Nat) : Int) + ((oddN f 8 / 2 ^ 3 % 2 : Nat) : Int) + ((oddN f 8 / 2 ^ 5 % 2 : Nat) : Int)) % 2 = 0 ∧ (((oddN f 8 / 2 ^ 1 % 2 : Nat) : Int) + ((oddN f 8 / 2 ^ 2 % 2 : Nat) : Int) + ((oddN f 8 / 2 ^ 3 % 2 : Nat) : Int) + ((oddN f 8 / 2 ^ 4 % 2 : Nat) : Int)) % 2 = 0) ↔ ((zi f 0 + zi f 1 + zi f 3 + zi f 7) % 2 = 0 ∧ (zi f 0 + zi f 1 + zi f 2 + zi f 6) % 2 = 0 ∧ (zi f 0 + zi f 2 + zi f 3 + zi f 5) % 2 = 0 ∧ (zi f 1 + zi f 2 + zi f 3 + zi f 4) % 2 = 0)
    rw [h0, h1, h2, h3, h4, h5, h6, h7]
    omega
  | 4, _ =>
    refine (zlat_w4 _ hw).trans ?_
    show ((((oddN f 8 / 2 ^ 0 % 2 : Nat) : Int) + ((oddN f 8 / 2 ^ 2 % 2 : Nat) : Int) + ((oddN f 8 / 2 ^ 3 % 2 : Nat) : Int) + ((oddN f 8 / 2 ^ 7 % 2 : Nat) : Int)) % 2 = 0 ∧ (((oddN f 8 / 2 ^ 1 % 2 : Nat) : Int) + ((oddN f 8 / 2 ^ 2 % 2 : Nat) : Int) + ((oddN f 8 / 2 ^ 3 % 2 : Nat) : Int) + ((oddN f 8 / 2 ^ 6 % 2 : Nat) : Int)) % 2 = 0 ∧ (((oddN f 8 / 2 ^ 0 % 2 : Nat) : Int) + ((oddN f 8 / 2 ^ 1 % 2 : Nat) : Int) + ((oddN f 8 / 2 ^ 3 % 2 : Nat) : Int) + ((oddN f 8 / 2 ^ 5 % 2 : Nat) : Int)) % 2 = 0 ∧ (((oddN f 8 / 2 ^ 0 % 2 : Nat) : Int) + ((oddN f 8 / 2 ^ 1 % 2 : Nat) : Int) + ((oddN f 8 / 2 ^ 2 % 2 : Nat) : Int) + ((oddN f 8 / 2 ^ 4 % 2 : Nat) : Int)) % 2 = 0) ↔ ((zi f 0 + zi f 2 + zi f 3 + zi f 7) % 2 = 0 ∧ (zi f 1 + zi f 2 + zi f 3 + zi f 6) % 2 = 0 ∧ (zi f 0 + zi f 1 + zi f 3 + zi f 5) % 2 = 0 ∧ (zi f 0 + zi f 1 + zi f 2 + zi f 4) % 2 = 0)
    rw [h0, h1, h2, h3, h4, h5, h6, h7]
    omega
  | 5, _ =>
    refine (zlat_w5 _ hw).trans ?_
    show ((((oddN f 8 / 2 ^ 0 % 2 : Nat) : Int) + ((oddN f 8 / 2 ^ 1 % 2 : Nat) : Int) + ((oddN f 8 / 2 ^ 2 % 2 : Nat) : Int) + ((oddN f 8 / 2 ^ 7 % 2 : Nat) : Int)) % 2 = 0 ∧ (((oddN f 8 / 2 ^ 1 % 2 : Nat) : Int) + ((oddN f 8 / 2 ^ 2 % 2 : Nat) : Int) + ((oddN f 8 / 2 ^ 3 % 2 : Nat) : Int) + ((oddN f 8 / 2 ^ 6 % 2 : Nat) : Int)) % 2 = 0 ∧ (((oddN f 8 / 2 ^ 0 % 2 : Nat) : Int) + ((oddN f 8 / 2 ^ 2 % 2 : Nat) : Int) + ((oddN f 8 / 2 ^ 3 % 2 : Nat) : Int) + ((oddN f 8 / 2 ^ 5 % 2 : Nat) : Int)) % 2 = 0 ∧ (((oddN f 8 / 2 ^ 0 % 2 : Nat) : Int) + ((oddN f 8 / 2 ^ 1 % 2 : Nat) : Int) + ((oddN f 8 / 2 ^ 3 % 2 : Nat) : Int) + ((oddN f 8 / 2 ^ 4 % 2 : Nat) : Int)) % 2 = 0) ↔ ((zi f 0 + zi f 1 + zi f 2 + zi f 7) % 2 = 0 ∧ (zi f 1 + zi f 2 + zi f 3 + zi f 6) % 2 = 0 ∧ (zi f 0 + zi f 2 + zi f 3 + zi f 5) % 2 = 0 ∧ (zi f 0 + zi f 1 + zi f 3 + zi f 4) % 2 = 0)
    rw [h0, h1, h2, h3, h4, h5, h6, h7]
    omega
  | 6, _ =>
    refine (zlat_w6 _ hw).trans ?_
    show ((((oddN f 8 / 2 ^ 0 % 2 : Nat) : Int) + ((oddN f 8 / 2 ^ 1 % 2 : Nat) : Int) + ((oddN f 8 / 2 ^ 4 % 2 : Nat) : Int) + ((oddN f 8 / 2 ^ 7 % 2 : Nat) : Int)) % 2 = 0 ∧ (((oddN f 8 / 2 ^ 1 % 2 : Nat) : Int) + ((oddN f 8 / 2 ^ 2 % 2 : Nat) : Int) + ((oddN f 8 / 2 ^ 4 % 2 : Nat) : Int) + ((oddN f 8 / 2 ^ 6 % 2 : Nat) : Int)) % 2 = 0 ∧ (((oddN f 8 / 2 ^ 0 % 2 : Nat) : Int) + ((oddN f 8 / 2 ^ 2 % 2 : Nat) : Int) + ((oddN f 8 / 2 ^ 4 % 2 : Nat) : Int) + ((oddN f 8 / 2 ^ 5 % 2 : Nat) : Int)) % 2 = 0 ∧ (((oddN f 8 / 2 ^ 0 % 2 : Nat) : Int) + ((oddN f 8 / 2 ^ 1 % 2 : Nat) : Int) + ((oddN f 8 / 2 ^ 2 % 2 : Nat) : Int) + ((oddN f 8 / 2 ^ 3 % 2 : Nat) : Int)) % 2 = 0) ↔ ((zi f 0 + zi f 1 + zi f 4 + zi f 7) % 2 = 0 ∧ (zi f 1 + zi f 2 + zi f 4 + zi f 6) % 2 = 0 ∧ (zi f 0 + zi f 2 + zi f 4 + zi f 5) % 2 = 0 ∧ (zi f 0 + zi f 1 + zi f 2 + zi f 3) % 2 = 0)
    rw [h0, h1, h2, h3, h4, h5, h6, h7]
    omega
  | 7, _ =>
    refine (zlat_w7 _ hw).trans ?_
    show ((((oddN f 8 / 2 ^ 0 % 2 : Nat) : Int) + ((oddN f 8 / 2 ^ 1 % 2 : Nat) : Int) + ((oddN f 8 / 2 ^ 3 % 2 : Nat) : Int) + ((oddN f 8 / 2 ^ 7 % 2 : Nat) : Int)) % 2 = 0 ∧ (((oddN f 8 / 2 ^ 1 % 2 : Nat) : Int) + ((oddN f 8 / 2 ^ 2 % 2 : Nat) : Int) + ((oddN f 8 / 2 ^ 3 % 2 : Nat) : Int) + ((oddN f 8 / 2 ^ 6 % 2 : Nat) : Int)) % 2 = 0 ∧ (((oddN f 8 / 2 ^ 0 % 2 : Nat) : Int) + ((oddN f 8 / 2 ^ 1 % 2 : Nat) : Int) + ((oddN f 8 / 2 ^ 2 % 2 : Nat) : Int) + ((oddN f 8 / 2 ^ 5 % 2 : Nat) : Int)) % 2 = 0 ∧ (((oddN f 8 / 2 ^ 0 % 2 : Nat) : Int) + ((oddN f 8 / 2 ^ 2 % 2 : Nat) : Int) + ((oddN f 8 / 2 ^ 3 % 2 : Nat) : Int) + ((oddN f 8 / 2 ^ 4 % 2 : Nat) : Int)) % 2 = 0) ↔ ((zi f 0 + zi f 1 + zi f 3 + zi f 7) % 2 = 0 ∧ (zi f 1 + zi f 2 + zi f 3 + zi f 6) % 2 = 0 ∧ (zi f 0 + zi f 1 + zi f 2 + zi f 5) % 2 = 0 ∧ (zi f 0 + zi f 2 + zi f 3 + zi f 4) % 2 = 0)
    rw [h0, h1, h2, h3, h4, h5, h6, h7]
    omega
  | o + 8, h => exact absurd h (by omega)
theorem zcl0 (x b : Nat → Int) (hx : zlat 0 x) (hb : zlat 0 b) : ∀ k, k < 8 → zp x b k % 4 = 0 := by
  obtain ⟨a0, a1, a2, a3, a4, a5, a6, a7⟩ := hx
  obtain ⟨c0, c1, c2, c3, c4, c5, c6, c7⟩ := hb
  obtain ⟨s0, hs0⟩ : ∃ s : Int, x 0 = 2 * s := ⟨x 0 / 2, by omega⟩
  obtain ⟨t0, ht0⟩ : ∃ s : Int, b 0 = 2 * s := ⟨b 0 / 2, by omega⟩
  obtain ⟨s1, hs1⟩ : ∃ s : Int, x 1 = 2 * s := ⟨x 1 / 2, by omega⟩
  obtain ⟨t1, ht1⟩ : ∃ s : Int, b 1 = 2 * s := ⟨b 1 / 2, by omega⟩
  obtain ⟨s2, hs2⟩ : ∃ s : Int, x 2 = 2 * s := ⟨x 2 / 2, by omega⟩
  obtain ⟨t2, ht2⟩ : ∃ s : Int, b 2 = 2 * s := ⟨b 2 / 2, by omega⟩
  obtain ⟨s3, hs3⟩ : ∃ s : Int, x 3 = 2 * s := ⟨x 3 / 2, by omega⟩
  obtain ⟨t3, ht3⟩ : ∃ s : Int, b 3 = 2 * s := ⟨b 3 / 2, by omega⟩
  obtain ⟨s4, hs4⟩ : ∃ s : Int, x 4 = 2 * s := ⟨x 4 / 2, by omega⟩
  obtain ⟨t4, ht4⟩ : ∃ s : Int, b 4 = 2 * s := ⟨b 4 / 2, by omega⟩
  obtain ⟨s5, hs5⟩ : ∃ s : Int, x 5 = 2 * s := ⟨x 5 / 2, by omega⟩
  obtain ⟨t5, ht5⟩ : ∃ s : Int, b 5 = 2 * s := ⟨b 5 / 2, by omega⟩
  obtain ⟨s6, hs6⟩ : ∃ s : Int, x 6 = 2 * s := ⟨x 6 / 2, by omega⟩
  obtain ⟨t6, ht6⟩ : ∃ s : Int, b 6 = 2 * s := ⟨b 6 / 2, by omega⟩
  obtain ⟨s7, hs7⟩ : ∃ s : Int, x 7 = 2 * s := ⟨x 7 / 2, by omega⟩
  obtain ⟨t7, ht7⟩ : ∃ s : Int, b 7 = 2 * s := ⟨b 7 / 2, by omega⟩
  intro k hk
  rcases (show k = 0 ∨ k = 1 ∨ k = 2 ∨ k = 3 ∨ k = 4 ∨ k = 5 ∨ k = 6 ∨ k = 7 by omega) with rfl | rfl | rfl | rfl | rfl | rfl | rfl | rfl
  · have e : zp x b 0 = 4 * (0 + s0 * t0 - s1 * t1 - s2 * t2 - s3 * t3 - s4 * t4 - s5 * t5 - s6 * t6 - s7 * t7) := by
      simp only [zp, hs0, ht0, hs1, ht1, hs2, ht2, hs3, ht3, hs4, ht4, hs5, ht5, hs6, ht6, hs7, ht7]
      grind
    rw [e]; exact Int.mul_emod_right 4 _
  · have e : zp x b 1 = 4 * (0 + s0 * t1 + s1 * t0 + s2 * t4 - s4 * t2 + s5 * t6 - s6 * t5 + s3 * t7 - s7 * t3) := by
      simp only [zp, hs0, ht0, hs1, ht1, hs2, ht2, hs3, ht3, hs4, ht4, hs5, ht5, hs6, ht6, hs7, ht7]
      grind
    rw [e]; exact Int.mul_emod_right 4 _
  · have e : zp x b 2 = 4 * (0 + s0 * t2 + s2 * t0 + s4 * t1 - s1 * t4 + s3 * t5 - s5 * t3 + s6 * t7 - s7 * t6) := by
      simp only [zp, hs0, ht0, hs1, ht1, hs2, ht2, hs3, ht3, hs4, ht4, hs5, ht5, hs6, ht6, hs7, ht7]
      grind
    rw [e]; exact Int.mul_emod_right 4 _
  · have e : zp x b 3 = 4 * (0 + s0 * t3 + s3 * t0 + s5 * t2 - s2 * t5 + s4 * t6 - s6 * t4 + s7 * t1 - s1 * t7) := by
      simp only [zp, hs0, ht0, hs1, ht1, hs2, ht2, hs3, ht3, hs4, ht4, hs5, ht5, hs6, ht6, hs7, ht7]
      grind
    rw [e]; exact Int.mul_emod_right 4 _
  · have e : zp x b 4 = 4 * (0 + s0 * t4 + s4 * t0 + s1 * t2 - s2 * t1 + s6 * t3 - s3 * t6 + s5 * t7 - s7 * t5) := by
      simp only [zp, hs0, ht0, hs1, ht1, hs2, ht2, hs3, ht3, hs4, ht4, hs5, ht5, hs6, ht6, hs7, ht7]
      grind
    rw [e]; exact Int.mul_emod_right 4 _
  · have e : zp x b 5 = 4 * (0 + s0 * t5 + s5 * t0 + s2 * t3 - s3 * t2 + s7 * t4 - s4 * t7 + s6 * t1 - s1 * t6) := by
      simp only [zp, hs0, ht0, hs1, ht1, hs2, ht2, hs3, ht3, hs4, ht4, hs5, ht5, hs6, ht6, hs7, ht7]
      grind
    rw [e]; exact Int.mul_emod_right 4 _
  · have e : zp x b 6 = 4 * (0 + s0 * t6 + s6 * t0 + s3 * t4 - s4 * t3 + s1 * t5 - s5 * t1 + s7 * t2 - s2 * t7) := by
      simp only [zp, hs0, ht0, hs1, ht1, hs2, ht2, hs3, ht3, hs4, ht4, hs5, ht5, hs6, ht6, hs7, ht7]
      grind
    rw [e]; exact Int.mul_emod_right 4 _
  · have e : zp x b 7 = 4 * (0 + s0 * t7 + s7 * t0 + s4 * t5 - s5 * t4 + s2 * t6 - s6 * t2 + s1 * t3 - s3 * t1) := by
      simp only [zp, hs0, ht0, hs1, ht1, hs2, ht2, hs3, ht3, hs4, ht4, hs5, ht5, hs6, ht6, hs7, ht7]
      grind
    rw [e]; exact Int.mul_emod_right 4 _
theorem zclose {o : Nat} (ho : o < 8) {x b f : Nat → Int} (hx : zlat o x) (hb : zlat o b) (hf : zlat o f) : (∀ k, k < 8 → zp x b k % 2 = 0) ∧ zlat o (fun k => f k - zp x b k / 2) := by
  match o, ho, hx, hb, hf with
  | 0, _, hx, hb, hf =>
    have h := zcl0 x b hx hb
    have h0 := h 0 (by omega); have h1 := h 1 (by omega); have h2 := h 2 (by omega); have h3 := h 3 (by omega); have h4 := h 4 (by omega); have h5 := h 5 (by omega); have h6 := h 6 (by omega); have h7 := h 7 (by omega)
    obtain ⟨f0, f1, f2, f3, f4, f5, f6, f7⟩ := hf
    exact ⟨fun k hk => by have := h k hk; omega, by show (f 0 - zp x b 0 / 2) % 2 = 0; omega, by show (f 1 - zp x b 1 / 2) % 2 = 0; omega, by show (f 2 - zp x b 2 / 2) % 2 = 0; omega, by show (f 3 - zp x b 3 / 2) % 2 = 0; omega, by show (f 4 - zp x b 4 / 2) % 2 = 0; omega, by show (f 5 - zp x b 5 / 2) % 2 = 0; omega, by show (f 6 - zp x b 6 / 2) % 2 = 0; omega, by show (f 7 - zp x b 7 / 2) % 2 = 0; omega⟩
  | 1, _, hx, hb, hf =>
    obtain ⟨h, g1, g2, g3, g4⟩ := zcl1 x b hx hb
    have h0 := h 0 (by omega); have h1 := h 1 (by omega); have h2 := h 2 (by omega); have h3 := h 3 (by omega); have h4 := h 4 (by omega); have h5 := h 5 (by omega); have h6 := h 6 (by omega); have h7 := h 7 (by omega)
    obtain ⟨f1, f2, f3, f4⟩ := hf
    exact ⟨h, by show ((f 0 - zp x b 0 / 2) + (f 1 - zp x b 1 / 2) + (f 3 - zp x b 3 / 2) + (f 7 - zp x b 7 / 2)) % 2 = 0; omega, by show ((f 0 - zp x b 0 / 2) + (f 2 - zp x b 2 / 2) + (f 3 - zp x b 3 / 2) + (f 6 - zp x b 6 / 2)) % 2 = 0; omega, by show ((f 1 - zp x b 1 / 2) + (f 2 - zp x b 2 / 2) + (f 3 - zp x b 3 / 2) + (f 5 - zp x b 5 / 2)) % 2 = 0; omega, by show ((f 0 - zp x b 0 / 2) + (f 1 - zp x b 1 / 2) + (f 2 - zp x b 2 / 2) + (f 4 - zp x b 4 / 2)) % 2 = 0; omega⟩
  | 2, _, hx, hb, hf =>
    obtain ⟨h, g1, g2, g3, g4⟩ := zcl2 x b hx hb
    have h0 := h 0 (by omega); have h1 := h 1 (by omega); have h2 := h 2 (by omega); have h3 := h 3 (by omega); have h4 := h 4 (by omega); have h5 := h 5 (by omega); have h6 := h 6 (by omega); have h7 := h 7 (by omega)
    obtain ⟨f1, f2, f3, f4⟩ := hf
    exact ⟨h, by show ((f 1 - zp x b 1 / 2) + (f 2 - zp x b 2 / 2) + (f 3 - zp x b 3 / 2) + (f 7 - zp x b 7 / 2)) % 2 = 0; omega, by show ((f 0 - zp x b 0 / 2) + (f 1 - zp x b 1 / 2) + (f 3 - zp x b 3 / 2) + (f 6 - zp x b 6 / 2)) % 2 = 0; omega, by show ((f 0 - zp x b 0 / 2) + (f 2 - zp x b 2 / 2) + (f 3 - zp x b 3 / 2) + (f 5 - zp x b 5 / 2)) % 2 = 0; omega, by show ((f 0 - zp x b 0 / 2) + (f 1 - zp x b 1 / 2) + (f 2 - zp x b 2 / 2) + (f 4 - zp x b 4 / 2)) % 2 = 0; omega⟩
  | 3, _, hx, hb, hf =>
    obtain ⟨h, g1, g2, g3, g4⟩ := zcl3 x b hx hb
    have h0 := h 0 (by omega); have h1 := h 1 (by omega); have h2 := h 2 (by omega); have h3 := h 3 (by omega); have h4 := h 4 (by omega); have h5 := h 5 (by omega); have h6 := h 6 (by omega); have h7 := h 7 (by omega)
    obtain ⟨f1, f2, f3, f4⟩ := hf
    exact ⟨h, by show ((f 0 - zp x b 0 / 2) + (f 1 - zp x b 1 / 2) + (f 3 - zp x b 3 / 2) + (f 7 - zp x b 7 / 2)) % 2 = 0; omega, by show ((f 0 - zp x b 0 / 2) + (f 1 - zp x b 1 / 2) + (f 2 - zp x b 2 / 2) + (f 6 - zp x b 6 / 2)) % 2 = 0; omega, by show ((f 0 - zp x b 0 / 2) + (f 2 - zp x b 2 / 2) + (f 3 - zp x b 3 / 2) + (f 5 - zp x b 5 / 2)) % 2 = 0; omega, by show ((f 1 - zp x b 1 / 2) + (f 2 - zp x b 2 / 2) + (f 3 - zp x b 3 / 2) + (f 4 - zp x b 4 / 2)) % 2 = 0; omega⟩
  | 4, _, hx, hb, hf =>
    obtain ⟨h, g1, g2, g3, g4⟩ := zcl4 x b hx hb
    have h0 := h 0 (by omega); have h1 := h 1 (by omega); have h2 := h 2 (by omega); have h3 := h 3 (by omega); have h4 := h 4 (by omega); have h5 := h 5 (by omega); have h6 := h 6 (by omega); have h7 := h 7 (by omega)
    obtain ⟨f1, f2, f3, f4⟩ := hf
    exact ⟨h, by show ((f 0 - zp x b 0 / 2) + (f 2 - zp x b 2 / 2) + (f 3 - zp x b 3 / 2) + (f 7 - zp x b 7 / 2)) % 2 = 0; omega, by show ((f 1 - zp x b 1 / 2) + (f 2 - zp x b 2 / 2) + (f 3 - zp x b 3 / 2) + (f 6 - zp x b 6 / 2)) % 2 = 0; omega, by show ((f 0 - zp x b 0 / 2) + (f 1 - zp x b 1 / 2) + (f 3 - zp x b 3 / 2) + (f 5 - zp x b 5 / 2)) % 2 = 0; omega, by show ((f 0 - zp x b 0 / 2) + (f 1 - zp x b 1 / 2) + (f 2 - zp x b 2 / 2) + (f 4 - zp x b 4 / 2)) % 2 = 0; omega⟩
  | 5, _, hx, hb, hf =>
    obtain ⟨h, g1, g2, g3, g4⟩ := zcl5 x b hx hb
    have h0 := h 0 (by omega); have h1 := h 1 (by omega); have h2 := h 2 (by omega); have h3 := h 3 (by omega); have h4 := h 4 (by omega); have h5 := h 5 (by omega); have h6 := h 6 (by omega); have h7 := h 7 (by omega)
    obtain ⟨f1, f2, f3, f4⟩ := hf
    exact ⟨h, by show ((f 0 - zp x b 0 / 2) + (f 1 - zp x b 1 / 2) + (f 2 - zp x b 2 / 2) + (f 7 - zp x b 7 / 2)) % 2 = 0; omega, by show ((f 1 - zp x b 1 / 2) + (f 2 - zp x b 2 / 2) + (f 3 - zp x b 3 / 2) + (f 6 - zp x b 6 / 2)) % 2 = 0; omega, by show ((f 0 - zp x b 0 / 2) + (f 2 - zp x b 2 / 2) + (f 3 - zp x b 3 / 2) + (f 5 - zp x b 5 / 2)) % 2 = 0; omega, by show ((f 0 - zp x b 0 / 2) + (f 1 - zp x b 1 / 2) + (f 3 - zp x b 3 / 2) + (f 4 - zp x b 4 / 2)) % 2 = 0; omega⟩
  | 6, _, hx, hb, hf =>
    obtain ⟨h, g1, g2, g3, g4⟩ := zcl6 x b hx hb
    have h0 := h 0 (by omega); have h1 := h 1 (by omega); have h2 := h 2 (by omega); have h3 := h 3 (by omega); have h4 := h 4 (by omega); have h5 := h 5 (by omega); have h6 := h 6 (by omega); have h7 := h 7 (by omega)
    obtain ⟨f1, f2, f3, f4⟩ := hf
    exact ⟨h, by show ((f 0 - zp x b 0 / 2) + (f 1 - zp x b 1 / 2) + (f 4 - zp x b 4 / 2) + (f 7 - zp x b 7 / 2)) % 2 = 0; omega, by show ((f 1 - zp x b 1 / 2) + (f 2 - zp x b 2 / 2) + (f 4 - zp x b 4 / 2) + (f 6 - zp x b 6 / 2)) % 2 = 0; omega, by show ((f 0 - zp x b 0 / 2) + (f 2 - zp x b 2 / 2) + (f 4 - zp x b 4 / 2) + (f 5 - zp x b 5 / 2)) % 2 = 0; omega, by show ((f 0 - zp x b 0 / 2) + (f 1 - zp x b 1 / 2) + (f 2 - zp x b 2 / 2) + (f 3 - zp x b 3 / 2)) % 2 = 0; omega⟩
  | 7, _, hx, hb, hf =>
    obtain ⟨h, g1, g2, g3, g4⟩ := zcl7 x b hx hb
    have h0 := h 0 (by omega); have h1 := h 1 (by omega); have h2 := h 2 (by omega); have h3 := h 3 (by omega); have h4 := h 4 (by omega); have h5 := h 5 (by omega); have h6 := h 6 (by omega); have h7 := h 7 (by omega)
    obtain ⟨f1, f2, f3, f4⟩ := hf
    exact ⟨h, by show ((f 0 - zp x b 0 / 2) + (f 1 - zp x b 1 / 2) + (f 3 - zp x b 3 / 2) + (f 7 - zp x b 7 / 2)) % 2 = 0; omega, by show ((f 1 - zp x b 1 / 2) + (f 2 - zp x b 2 / 2) + (f 3 - zp x b 3 / 2) + (f 6 - zp x b 6 / 2)) % 2 = 0; omega, by show ((f 0 - zp x b 0 / 2) + (f 1 - zp x b 1 / 2) + (f 2 - zp x b 2 / 2) + (f 5 - zp x b 5 / 2)) % 2 = 0; omega, by show ((f 0 - zp x b 0 / 2) + (f 2 - zp x b 2 / 2) + (f 3 - zp x b 3 / 2) + (f 4 - zp x b 4 / 2)) % 2 = 0; omega⟩
  | o + 8, h, _, _, _ => exact absurd h (by omega)

