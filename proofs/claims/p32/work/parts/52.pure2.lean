/-! ===== pure 2 ===== -/
theorem zadd {a b : Int64} (h1 : -9223372036854775808 ≤ a.toInt + b.toInt) (h2 : a.toInt + b.toInt < 9223372036854775808) : (a + b).toInt = a.toInt + b.toInt := by
  rw [Int64.toInt_add]
  exact Int.bmod_eq_of_le (by omega) (by omega)
theorem zsub {a b : Int64} (h1 : -9223372036854775808 ≤ a.toInt - b.toInt) (h2 : a.toInt - b.toInt < 9223372036854775808) : (a - b).toInt = a.toInt - b.toInt := by
  rw [Int64.toInt_sub]
  exact Int.bmod_eq_of_le (by omega) (by omega)
theorem zmul {a b : Int64} (h1 : -9223372036854775808 ≤ a.toInt * b.toInt) (h2 : a.toInt * b.toInt < 9223372036854775808) : (a * b).toInt = a.toInt * b.toInt := by
  rw [Int64.toInt_mul]
  exact Int.bmod_eq_of_le (by omega) (by omega)
theorem zneg {a : Int64} (h : a.toInt ≠ -9223372036854775808) : (-a).toInt = -a.toInt := by
  have h1 := a.toInt_lt
  have h2 := a.le_toInt
  rw [Int64.toInt_neg]
  exact Int.bmod_eq_of_le (by omega) (by omega)
theorem zlt {a b : Int64} : a < b ↔ a.toInt < b.toInt := Int64.lt_iff_toInt_lt
theorem zeq {a b : Int64} : a = b ↔ a.toInt = b.toInt := Int64.toInt_inj.symm
theorem zdiv {a b : Int64} (h : b ≠ -1) : (a / b).toInt = a.toInt.tdiv b.toInt := Int64.toInt_div_of_ne_right a b h
theorem zshr (x : Int64) (t : Nat) (ht : t < 3) : (q_sh (nI t) x).toInt = x.toInt / 2 ^ t := by
  unfold q_sh
  have e : (x >>> ((nI t).toInt64 &&& 63)).toInt = x.toInt >>> t := by
    show ((x >>> ((nI t).toInt64 &&& 63)).toBitVec).toInt = _
    rw [Int64.toBitVec_shiftRight, BitVec.toInt_sshiftRight']
    have e2 : (((nI t).toInt64 &&& 63).toBitVec.smod 64).toNat = t := by
      match t, ht with
      | 0, _ => decide
      | 1, _ => decide
      | 2, _ => decide
    rw [e2]
    rfl
  rw [e, Int.shiftRight_eq_div_pow]
  rfl
theorem zand (x : Int64) (t : Nat) (ht : t < 3) : x &&& (q_wh (nI t) - 1) = 0 ↔ x.toInt % 2 ^ t = 0 := by
  have e1 : (q_wh (nI t) - 1).toBitVec.toNat = 2 ^ t - 1 := by
    match t, ht with
    | 0, _ => decide
    | 1, _ => decide
    | 2, _ => decide
  have e2 : (x &&& (q_wh (nI t) - 1)).toBitVec.toNat = x.toBitVec.toNat % 2 ^ t := by
    rw [Int64.toBitVec_and, BitVec.toNat_and, e1, Nat.and_two_pow_sub_one_eq_mod]
  have e3 : x.toInt = if 2 * x.toBitVec.toNat < 2 ^ 64 then (x.toBitVec.toNat : Int) else (x.toBitVec.toNat : Int) - ((2 ^ 64 : Nat) : Int) := BitVec.toInt_eq_toNat_cond x.toBitVec
  have e4 : x &&& (q_wh (nI t) - 1) = 0 ↔ x.toBitVec.toNat % 2 ^ t = 0 := by
    rw [← e2, ← Int64.toBitVec_inj, ← BitVec.toNat_inj]
    rfl
  rw [e4, e3]
  match t, ht with
  | 0, _ => split <;> omega
  | 1, _ => split <;> omega
  | 2, _ => split <;> omega
theorem zand1 (x : Int64) : x &&& 1 = 0 ↔ x.toInt % 2 = 0 := zand x 1 (by omega)
theorem ztm (x : Int) (p : Int) : x - x.tdiv p * p = x.tmod p := by
  have := Int.mul_tdiv_add_tmod x p
  rw [Int.mul_comm] at this
  omega
theorem zrem {x p : Int64} (hp : 0 < p.toInt) (hp2 : p.toInt ≤ 4) : (x - x / p * p).toInt = x.toInt.tmod p.toInt ∧ (x / p).toInt = x.toInt.tdiv p.toInt := by
  have h1 := x.toInt_lt
  have h2 := x.le_toInt
  have hp1 : p ≠ -1 := fun e => by
    rw [e] at hp
    exact absurd hp (by decide)
  have hd := zdiv (a := x) (b := p) hp1
  have ht := ztm x.toInt p.toInt
  have b1 := Int.tmod_lt_of_pos x.toInt hp
  have b2 := Int.lt_tmod_of_pos x.toInt hp
  have b3 : 0 ≤ x.toInt → 0 ≤ x.toInt.tmod p.toInt := fun h => Int.tmod_nonneg _ h
  have b4 : x.toInt ≤ 0 → x.toInt.tmod p.toInt ≤ 0 := fun h => by
    have := Int.tmod_nonneg (a := -x.toInt) p.toInt (by omega)
    rw [Int.neg_tmod] at this
    omega
  have hm : (x / p * p).toInt = x.toInt.tdiv p.toInt * p.toInt := by
    rcases (show p.toInt = 1 ∨ p.toInt = 2 ∨ p.toInt = 3 ∨ p.toInt = 4 by omega) with e | e | e | e
    all_goals
      rw [zmul] <;> rw [hd]
      all_goals
        rw [e] at ht b1 b2 b3 b4 ⊢
        have := Int.mul_tdiv_add_tmod x.toInt p.toInt
        rw [e] at this
        omega
  refine ⟨?_, hd⟩
  rw [zsub] <;> rw [hm]
  · exact ht
  · omega
  · omega
theorem zmodt (x : Int) (p : Int) : x.tmod p = 0 ↔ x % p = 0 := by
  rw [← Int.dvd_iff_tmod_eq_zero, ← Int.dvd_iff_emod_eq_zero]
theorem zokc (t : Nat) (ht : t < 3) (p : Int64) (hp : p.toInt = 2 ^ t) (x : Int64) : (q_okc (nI t) x ↔ q_hok p x) ∧ (q_okc (nI t) x → q_sh (nI t) x = x / p) := by
  have hp0 : 0 < p.toInt ∧ p.toInt ≤ 4 := by
    rw [hp]
    match t, ht with
    | 0, _ => decide
    | 1, _ => decide
    | 2, _ => decide
  obtain ⟨r1, r2⟩ := zrem (x := x) hp0.1 hp0.2
  have hz : x - x / p * p = 0 ↔ x.toInt % 2 ^ t = 0 := by
    rw [zeq, r1, ← hp]
    exact zmodt _ _
  have hs : x.toInt % 2 ^ t = 0 → q_sh (nI t) x = x / p := fun h => by
    rw [zeq, zshr x t ht, r2, hp]
    have hd : ((2 : Int) ^ t) ∣ x.toInt := Int.dvd_of_emod_eq_zero h
    exact (Int.tdiv_eq_ediv_of_dvd hd).symm
  have ha := zand x t ht
  refine ⟨⟨fun h => ?_, fun h => ?_⟩, fun h => hs (ha.mp h.1)⟩
  · have h1 := ha.mp h.1
    exact ⟨hz.mpr h1, by rw [← hs h1]; exact h.2.1, by rw [← hs h1]; exact h.2.2⟩
  · have h1 := hz.mp h.1
    exact ⟨ha.mpr h1, by rw [hs h1]; exact h.2.1, by rw [hs h1]; exact h.2.2⟩
