/-! ===== pure 3 ===== -/
theorem nI_bv (n : Nat) : (nI n).toBitVec = BitVec.ofNat 32 n := rfl
theorem nI_and (a b : Nat) : nI a &&& nI b = nI (a &&& b) := by
  apply Int32.toBitVec_inj.mp
  rw [Int32.toBitVec_and, nI_bv, nI_bv, nI_bv]
  apply BitVec.eq_of_toNat_eq
  rw [BitVec.toNat_and, BitVec.toNat_ofNat, BitVec.toNat_ofNat, BitVec.toNat_ofNat, Nat.and_mod_two_pow]
theorem nI_or (a b : Nat) : nI a ||| nI b = nI (a ||| b) := by
  apply Int32.toBitVec_inj.mp
  rw [Int32.toBitVec_or, nI_bv, nI_bv, nI_bv]
  apply BitVec.eq_of_toNat_eq
  rw [BitVec.toNat_or, BitVec.toNat_ofNat, BitVec.toNat_ofNat, BitVec.toNat_ofNat, Nat.or_mod_two_pow]
theorem nI_xor (a b : Nat) : nI a ^^^ nI b = nI (a ^^^ b) := by
  apply Int32.toBitVec_inj.mp
  rw [Int32.toBitVec_xor, nI_bv, nI_bv, nI_bv]
  apply BitVec.eq_of_toNat_eq
  rw [BitVec.toNat_xor, BitVec.toNat_ofNat, BitVec.toNat_ofNat, BitVec.toNat_ofNat, Nat.xor_mod_two_pow]
theorem nI_2k : ∀ k, k < 8 → (1 : Int32) <<< (nI k &&& 31) = nI (2 ^ k) := by decide +kernel
def oddN (f : Nat → Int64) : Nat → Nat
  | 0 => 0
  | k + 1 => if (f k).toInt % 2 = 0 then oddN f k else oddN f k ||| 2 ^ k
theorem oddN_lt (f : Nat → Int64) : ∀ n, oddN f n < 2 ^ n
  | 0 => Nat.zero_lt_one
  | n + 1 => by
    have h := oddN_lt f n
    have h2 : oddN f n < 2 ^ (n + 1) := by
      rw [Nat.pow_succ]
      omega
    unfold oddN
    by_cases z : (f n).toInt % 2 = 0
    · rw [if_pos z]
      exact h2
    · rw [if_neg z]
      exact Nat.or_lt_two_pow h2 (Nat.pow_lt_pow_right (by omega) (by omega))
theorem zoddN (f : Nat → Int64) : ∀ n, n ≤ 8 → q_odd f n = nI (oddN f n)
  | 0, _ => rfl
  | n + 1, hn => by
    rw [q_odd, oddN, zoddN f n (by omega)]
    by_cases h : f n &&& 1 = 0
    · rw [if_pos h, if_pos ((zand1 _).mp h)]
    · rw [if_neg h, if_neg (fun z => h ((zand1 _).mpr z)), nI_2k n (by omega), nI_or]
theorem oddN_congr {f g : Nat → Int64} : ∀ n, (∀ j, j < n → f j = g j) → oddN f n = oddN g n
  | 0, _ => rfl
  | n + 1, h => by
    rw [oddN, oddN, oddN_congr n (fun j hj => h j (by omega)), h n (by omega)]
def exN (s n : Nat) : Nat := s ^^^ (((s ^^^ (s >>> n)) &&& 1) ||| (((s ^^^ (s >>> n)) &&& 1) <<< n))
def osN (o m : Nat) : Nat := exN (if m < 8 then q_se (m % 8) else 255 ^^^ q_se (m % 8)) o
theorem os_ok : ∀ o, o < 8 → ∀ m, m < 16 → q_os o m = nI (osN o m) ∧ osN o m < 256 := by decide +kernel
def bN (o : Nat) : Nat := 1 ||| (1 <<< o)
def itsN (w o : Nat) : Nat := if w &&& bN o = 0 ∨ w &&& bN o = bN o then w else w ^^^ bN o
def fourN (t : Nat) : Nat := 1 ||| (1 <<< (t + 1)) ||| (1 <<< ((t + 1) % 7 + 1)) ||| (1 <<< ((t + 3) % 7 + 1))
def okP (o w : Nat) : Prop := (o = 0 ∧ w = 0) ∨ (o ≠ 0 ∧ (itsN w o = 0 ∨ itsN w o = 255 ∨ ∃ s, s < 7 ∧ (itsN w o = fourN s ∨ itsN w o = fourN s ^^^ 255)))
theorem both_ok : ∀ o, o < 8 → q_both o = nI (bN o) ∧ bN o < 256 := by decide +kernel
theorem four_ok : ∀ t, t < 7 → q_four t = nI (fourN t) ∧ fourN t < 256 := by decide +kernel
theorem xor_lt {a b : Nat} (h : a < 256) (h2 : b < 256) : a ^^^ b < 256 := Nat.xor_lt_two_pow (n := 8) h h2
theorem itsN_lt {w o : Nat} (hw : w < 256) (ho : o < 8) : itsN w o < 256 := by
  unfold itsN
  by_cases z : w &&& bN o = 0 ∨ w &&& bN o = bN o
  · rw [if_pos z]
    exact hw
  · rw [if_neg z]
    exact xor_lt hw (both_ok o ho).2
theorem its_ok {w o : Nat} (hw : w < 256) (ho : o < 8) : q_its (nI w) o = nI (itsN w o) := by
  obtain ⟨e, hb⟩ := both_ok o ho
  have ha : w &&& bN o < 256 := Nat.lt_of_le_of_lt Nat.and_le_left hw
  unfold q_its itsN
  rw [e, nI_and, nI_xor]
  by_cases z : w &&& bN o = 0 ∨ w &&& bN o = bN o
  · rw [if_pos z]
    refine q_if_pos ?_
    rcases z with z | z
    · exact Or.inl (by rw [z]; rfl)
    · exact Or.inr (by rw [z])
  · rw [if_neg z]
    refine q_if_neg (fun y => z ?_)
    rcases y with y | y
    · exact Or.inl ((nI_eq (b := 0) (by omega) (by omega)).mp y)
    · exact Or.inr ((nI_eq (by omega) (by omega)).mp y)
theorem isQ_ok {y : Nat} (hy : y < 256) : q_isQ (nI y) 7 ↔ (y = 0 ∨ y = 255 ∨ ∃ s, s < 7 ∧ (y = fourN s ∨ y = fourN s ^^^ 255)) := by
  have inj : ∀ b, b < 256 → (nI y = nI b ↔ y = b) := fun b hb => nI_eq (by omega) (by omega)
  unfold q_isQ
  constructor
  · intro h
    rcases h with h | h | ⟨s, hs, h⟩
    · exact Or.inl ((inj 0 (by omega)).mp h)
    · exact Or.inr (Or.inl ((inj 255 (by omega)).mp h))
    · obtain ⟨e, he⟩ := four_ok s hs
      rw [e, show (255 : Int32) = nI 255 from rfl, nI_xor] at h
      exact Or.inr (Or.inr ⟨s, hs, h.imp (inj _ he).mp (inj _ (xor_lt he (by omega))).mp⟩)
  · intro h
    rcases h with h | h | ⟨s, hs, h⟩
    · exact Or.inl ((inj 0 (by omega)).mpr h)
    · exact Or.inr (Or.inl ((inj 255 (by omega)).mpr h))
    · obtain ⟨e, he⟩ := four_ok s hs
      refine Or.inr (Or.inr ⟨s, hs, ?_⟩)
      rw [e, show (255 : Int32) = nI 255 from rfl, nI_xor]
      exact h.imp (inj _ he).mpr (inj _ (xor_lt he (by omega))).mpr
theorem okS_ok {o w : Nat} (ho : o < 8) (hw : w < 256) : q_okS o w ↔ okP o w := by
  unfold q_okS okP
  rw [its_ok hw ho, isQ_ok (itsN_lt hw ho)]
theorem okP_os : ∀ o, o < 8 → ∀ w, w < 256 → ((∃ m, m < q_sets o ∧ osN o m = w) ↔ okP o w) := by
  unfold okP
  decide +kernel
theorem sets_le (o : Nat) : q_sets o ≤ 16 := by
  unfold q_sets
  by_cases h : o = 0
  · rw [if_pos h]; omega
  · rw [if_neg h]; omega
theorem zal {f : Nat → Int64} {o : Nat} (ho : o < 8) : q_al o f ↔ okP o (oddN f 8) := by
  have hw : oddN f 8 < 256 := oddN_lt f 8
  have hs := sets_le o
  rw [← okP_os o ho _ hw]
  unfold q_al
  rw [zoddN f 8 (by omega)]
  constructor
  · rintro ⟨m, hm, h⟩
    obtain ⟨e, he⟩ := os_ok o ho m (by omega)
    rw [e] at h
    exact ⟨m, hm, (nI_eq (by omega) (by omega)).mp h⟩
  · rintro ⟨m, hm, h⟩
    obtain ⟨e, he⟩ := os_ok o ho m (by omega)
    exact ⟨m, hm, by rw [e, h]⟩
