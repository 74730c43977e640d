/-! ===== pure 4 ===== -/
theorem znegx {x y : Int64} (hy : 0 < y.toInt) : x ^^^ y < 0 ↔ x.toInt < 0 := by
  have h1 : x ^^^ y < 0 ↔ (x ^^^ y).toBitVec.msb = true := by
    rw [zlt, BitVec.msb_eq_toInt, decide_eq_true_iff]
    rfl
  have h2 : (x ^^^ y).toBitVec.msb = (x.toBitVec.msb ^^ y.toBitVec.msb) := by
    rw [Int64.toBitVec_xor, BitVec.msb_xor]
  have h3 : y.toBitVec.msb = false := by
    rw [BitVec.msb_eq_toInt, decide_eq_false_iff_not]
    show ¬ y.toInt < 0
    omega
  rw [h1, h2, h3, Bool.xor_false, BitVec.msb_eq_toInt, decide_eq_true_iff]
  rfl
theorem ztde (x y : Int) (hy : 0 < y) : x / y = if x < 0 ∧ ¬ y ∣ x then x.tdiv y - 1 else x.tdiv y := by
  have h := Int.tdiv_eq_ediv (a := x) (b := y)
  rw [Int.sign_eq_one_of_pos hy] at h
  by_cases z : x < 0 ∧ ¬ y ∣ x
  · rw [if_neg (by omega)] at h
    rw [if_pos z]
    omega
  · rw [if_pos (by
      by_cases z2 : 0 ≤ x
      · exact Or.inl z2
      · exact Or.inr (Classical.not_not.mp (fun y => z ⟨by omega, y⟩)))] at h
    rw [if_neg z]
    omega
theorem zfd {x y : Int64} (hy : 0 < y.toInt) (hx : -4611686018427387904 < x.toInt) (hx2 : x.toInt < 4611686018427387904) : (q_fd x y).toInt = x.toInt / y.toInt := by
  have hy1 : y ≠ -1 := fun e => by
    rw [e] at hy
    exact absurd hy (by decide)
  have hd := zdiv (a := x) (b := y) hy1
  have ht := ztm x.toInt y.toInt
  have e0 := Int.mul_tdiv_add_tmod x.toInt y.toInt
  rw [Int.mul_comm] at e0
  have b3 : 0 ≤ x.toInt → 0 ≤ x.toInt.tmod y.toInt := fun h => Int.tmod_nonneg _ h
  have b4 : x.toInt ≤ 0 → x.toInt.tmod y.toInt ≤ 0 := fun h => by
    have := Int.tmod_nonneg (a := -x.toInt) y.toInt (by omega)
    rw [Int.neg_tmod] at this
    omega
  have b5 : 0 ≤ x.toInt → 0 ≤ x.toInt.tdiv y.toInt := fun h => Int.tdiv_nonneg h (by omega)
  have b6 : x.toInt ≤ 0 → x.toInt.tdiv y.toInt ≤ 0 := fun h => by
    have := Int.tdiv_nonneg (a := -x.toInt) (b := y.toInt) (by omega) (by omega)
    rw [Int.neg_tdiv] at this
    omega
  have b7 : 0 ≤ x.toInt → x.toInt.tdiv y.toInt ≤ x.toInt := fun h => by
    have := Int.mul_le_mul_of_nonneg_left (show 1 ≤ y.toInt by omega) (b5 h)
    have := b3 h
    omega
  have b8 : x.toInt ≤ 0 → x.toInt ≤ x.toInt.tdiv y.toInt := fun h => by
    have := Int.mul_le_mul_of_nonneg_left (show 1 ≤ y.toInt by omega) (show 0 ≤ -x.toInt.tdiv y.toInt by have := b6 h; omega)
    rw [Int.neg_mul, Int.neg_mul] at this
    have := b4 h
    omega
  have hm : (x / y * y).toInt = x.toInt.tdiv y.toInt * y.toInt := by
    rw [zmul] <;> rw [hd]
    · rcases Int.le_total 0 x.toInt with h | h
      · have := b3 h; have := Int.mul_nonneg (b5 h) (show 0 ≤ y.toInt by omega); omega
      · have := b4 h; omega
    · rcases Int.le_total 0 x.toInt with h | h
      · have := b3 h; omega
      · have := b4 h; have := Int.mul_nonneg (show 0 ≤ -x.toInt.tdiv y.toInt by have := b6 h; omega) (show 0 ≤ y.toInt by omega); rw [Int.neg_mul] at this; omega
  have hne : x / y * y ≠ x ↔ ¬ y.toInt ∣ x.toInt := by
    rw [Ne, zeq, hm, Int.dvd_iff_tmod_eq_zero]
    omega
  rw [ztde _ _ hy]
  unfold q_fd
  by_cases z : x.toInt < 0 ∧ ¬ y.toInt ∣ x.toInt
  · rw [if_pos z, if_pos ⟨(znegx hy).mpr z.1, hne.mpr z.2⟩, zsub] <;> rw [hd] <;> rw [show (1 : Int64).toInt = 1 from rfl]
    · have := b8 (by omega); omega
    · have := b6 (by omega); omega
  · rw [if_neg z, if_neg (fun q => z ⟨(znegx hy).mp q.1, hne.mp q.2⟩), hd]
theorem zcut {x y : Int64} (hy : 0 < y.toInt) (hx : -4611686018427387904 < x.toInt) (hx2 : x.toInt < 4611686018427387904) : (q_cut x y).toInt = x.toInt / y.toInt := by
  have e : q_cut x y = q_fd x y := by
    have hy1 : y ≠ -1 := fun e => by
      rw [e] at hy
      exact absurd hy (by decide)
    have hd := zdiv (a := x) (b := y) hy1
    have ht := ztm x.toInt y.toInt
    have e0 := Int.mul_tdiv_add_tmod x.toInt y.toInt
    rw [Int.mul_comm] at e0
    have b1 := Int.tmod_lt_of_pos x.toInt hy
    have b2 := Int.lt_tmod_of_pos x.toInt hy
    have b3 : 0 ≤ x.toInt → 0 ≤ x.toInt.tmod y.toInt := fun h => Int.tmod_nonneg _ h
    have b4 : x.toInt ≤ 0 → x.toInt.tmod y.toInt ≤ 0 := fun h => by
      have := Int.tmod_nonneg (a := -x.toInt) y.toInt (by omega)
      rw [Int.neg_tmod] at this
      omega
    have hy2 := y.toInt_lt
    have hm : (x / y * y).toInt = x.toInt.tdiv y.toInt * y.toInt := by
      rw [zmul] <;> rw [hd] <;> omega
    have hr : (x - x / y * y).toInt = x.toInt.tmod y.toInt := by
      rw [zsub] <;> rw [hm] <;> omega
    have hne : x / y * y ≠ x ↔ ¬ x.toInt.tmod y.toInt = 0 := by
      rw [Ne, zeq, hm]
      omega
    unfold q_cut q_fd
    by_cases z : x - x / y * y < 0
    · have z2 := zlt.mp z
      rw [hr, show (0 : Int64).toInt = 0 from rfl] at z2
      rw [if_pos z, if_pos ⟨(znegx hy).mpr (by
        rcases Int.lt_or_le x.toInt 0 with q | q
        · exact q
        · have := b3 q; omega), hne.mpr (by omega)⟩]
    · have z2 : ¬ x.toInt.tmod y.toInt < 0 := fun q => z (zlt.mpr (by rw [hr]; exact q))
      rw [if_neg z, if_neg (fun q => by
        have q1 := (znegx hy).mp q.1
        have q2 := hne.mp q.2
        have := b4 (by omega)
        omega)]
  rw [e, zfd hy hx hx2]
/-- the half nearest to 2 p / N of the parity w, of two the lower one -/
def znear (N p w h : Int) : Prop := h % 2 = w ∧ 2 * p - N ≤ N * h ∧ N * h < 2 * p + N
theorem znear_1 {N p w h k : Int} (hN : 0 < N) (h1 : znear N p w h) (h2 : znear N p w k) : h = k := by
  obtain ⟨a1, a2, a3⟩ := h1
  obtain ⟨b1, b2, b3⟩ := h2
  have c1 : h - k < 2 := Int.lt_of_mul_lt_mul_left (a := N) (by rw [Int.mul_sub]; omega) (by omega)
  have c2 : k - h < 2 := Int.lt_of_mul_lt_mul_left (a := N) (by rw [Int.mul_sub]; omega) (by omega)
  omega
def zsm (x : Int64) : Prop := -40000000 ≤ x.toInt ∧ x.toInt ≤ 40000000
theorem zhv {N : Int64} {p : Nat → Int64} {w i : Nat} (hN : 0 < N.toInt) (hN2 : zsm N) (hp : zsm (p i)) (hw : w < 2) : znear N.toInt (p i).toInt w (q_hv N p w i).toInt ∧ -400000001 ≤ (q_hv N p w i).toInt ∧ (q_hv N p w i).toInt ≤ 400000001 := by
  obtain ⟨n1, n2⟩ := hN2
  obtain ⟨p1, p2⟩ := hp
  have ew : ((nI w).toInt64).toInt = (w : Int) := by
    match w, hw with
    | 0, _ => decide
    | 1, _ => decide
  have hw2 : (w : Int) = 0 ∨ (w : Int) = 1 := by omega
  have m1 : ((nI w).toInt64 * N).toInt = (w : Int) * N.toInt := by
    rcases hw2 with e | e <;> (rw [zmul] <;> rw [ew, e] <;> omega)
  have m2 : (2 * p i).toInt = 2 * (p i).toInt := by
    rw [zmul] <;> rw [show (2 : Int64).toInt = 2 from rfl] <;> omega
  have m3 : (2 * N).toInt = 2 * N.toInt := by
    rw [zmul] <;> rw [show (2 : Int64).toInt = 2 from rfl] <;> omega
  have wN : (w : Int) * N.toInt = 0 ∨ (w : Int) * N.toInt = N.toInt := by
    rcases hw2 with e | e
    · exact Or.inl (by rw [e, Int.zero_mul])
    · exact Or.inr (by rw [e, Int.one_mul])
  have m4 : (N + (nI w).toInt64 * N).toInt = N.toInt + (w : Int) * N.toInt := by
    rw [zadd] <;> rw [m1] <;> omega
  have m5 : (N + (nI w).toInt64 * N - 2 * p i).toInt = N.toInt + (w : Int) * N.toInt - 2 * (p i).toInt := by
    rw [zsub] <;> rw [m4, m2] <;> omega
  have hf := zfd (x := N + (nI w).toInt64 * N - 2 * p i) (y := 2 * N) (by rw [m3]; omega) (by rw [m5]; omega) (by rw [m5]; omega)
  rw [m5, m3] at hf
  generalize hF : (N.toInt + (w : Int) * N.toInt - 2 * (p i).toInt) / (2 * N.toInt) = F at hf
  have f1 := Int.mul_ediv_self_le (x := N.toInt + (w : Int) * N.toInt - 2 * (p i).toInt) (k := 2 * N.toInt) (by omega)
  have f2 := Int.lt_mul_ediv_self_add (x := N.toInt + (w : Int) * N.toInt - 2 * (p i).toInt) (k := 2 * N.toInt) (by omega)
  rw [hF] at f1 f2
  have fb1 : F < 200000000 := by
    rw [← hF]
    exact Int.ediv_lt_of_lt_mul (by omega) (by omega)
  have fb2 : -100000000 ≤ F := by
    rw [← hF]
    refine Int.le_ediv_of_mul_le (by omega) ?_
    have : -100000000 * (2 * N.toInt) ≤ -100000000 * 2 := by omega
    omega
  have m6 : (q_pr N p w i).toInt = -F := by
    unfold q_pr
    rw [zneg] <;> rw [hf]
    omega
  have m7 : (2 * q_pr N p w i).toInt = -(2 * F) := by
    rw [zmul] <;> rw [show (2 : Int64).toInt = 2 from rfl, m6] <;> omega
  have m8 : (q_hv N p w i).toInt = -(2 * F) + (w : Int) := by
    unfold q_hv
    rw [zadd] <;> rw [m7, ew] <;> omega
  rw [m8]
  refine ⟨⟨by omega, ?_, ?_⟩, by omega, by omega⟩
  · rw [Int.mul_add, Int.mul_neg, Int.mul_comm N.toInt (w : Int), show N.toInt * (2 * F) = 2 * N.toInt * F by rw [← Int.mul_assoc, Int.mul_comm N.toInt 2]]
    omega
  · rw [Int.mul_add, Int.mul_neg, Int.mul_comm N.toInt (w : Int), show N.toInt * (2 * F) = 2 * N.toInt * F by rw [← Int.mul_assoc, Int.mul_comm N.toInt 2]]
    omega
theorem znr {p N : Int64} {w : Int32} {v : Nat} (hN : 0 < N.toInt) (hN2 : zsm N) (hp : zsm p) (hv : v < 2) (hw : w = nI v) : znear N.toInt p.toInt v (q_nr p N w).toInt := by
  obtain ⟨n1, n2⟩ := hN2
  obtain ⟨p1, p2⟩ := hp
  subst hw
  have ew : ((nI v).toInt64).toInt = (v : Int) := by
    match v, hv with
    | 0, _ => decide
    | 1, _ => decide
  have t2 : (2 : Int64).toInt = 2 := rfl
  have hc := zcut (x := p) (y := N) hN (by omega) (by omega)
  generalize hF : p.toInt / N.toInt = F at hc
  have f1 := Int.mul_ediv_self_le (x := p.toInt) (k := N.toInt) (by omega)
  have f2 := Int.lt_mul_ediv_self_add (x := p.toInt) (k := N.toInt) hN
  rw [hF] at f1 f2
  have fb1 : F < 40000001 := by
    rw [← hF]
    exact Int.ediv_lt_of_lt_mul (by omega) (by omega)
  have fb2 : -40000001 ≤ F := by
    rw [← hF]
    refine Int.le_ediv_of_mul_le (by omega) ?_
    have : -40000001 * N.toInt ≤ -40000001 * 1 := by omega
    omega
  have vN : (v : Int) * N.toInt = 0 ∧ (v : Int) = 0 ∨ (v : Int) * N.toInt = N.toInt ∧ (v : Int) = 1 := by
    rcases (show (v : Int) = 0 ∨ (v : Int) = 1 by omega) with e | e
    · exact Or.inl ⟨by rw [e, Int.zero_mul], e⟩
    · exact Or.inr ⟨by rw [e, Int.one_mul], e⟩
  have m1 : (2 * q_cut p N).toInt = 2 * F := by
    rw [zmul] <;> rw [t2, hc] <;> omega
  have m2 : (2 * q_cut p N + (nI v).toInt64).toInt = 2 * F + v := by
    rw [zadd] <;> rw [m1, ew] <;> omega
  have m3 : (2 * p).toInt = 2 * p.toInt := by
    rw [zmul] <;> rw [t2] <;> omega
  have e1 : (2 * F + (v : Int)) * N.toInt = 2 * (N.toInt * F) + (v : Int) * N.toInt := by
    rw [Int.add_mul, Int.mul_assoc, Int.mul_comm F]
  have m4 : ((2 * q_cut p N + (nI v).toInt64) * N).toInt = 2 * (N.toInt * F) + (v : Int) * N.toInt := by
    rw [zmul] <;> rw [m2, e1] <;> omega
  -- the lower candidate
  have low : ∃ l : Int, (q_lw p N (nI v)).toInt = l ∧ l % 2 = (v : Int) ∧ N.toInt * l ≤ 2 * p.toInt ∧ 2 * p.toInt < N.toInt * l + 2 * N.toInt ∧ -90000000 ≤ l ∧ l ≤ 90000000 := by
    unfold q_lw
    have e2 : N.toInt * (2 * F + (v : Int)) = 2 * (N.toInt * F) + (v : Int) * N.toInt := by rw [Int.mul_comm, e1]
    by_cases z : 2 * p < (2 * q_cut p N + (nI v).toInt64) * N
    · have z2 := zlt.mp z
      rw [m3, m4] at z2
      rw [if_pos z]
      refine ⟨2 * F + v - 2, ?_, by omega, ?_, ?_, by omega, by omega⟩
      · rw [zsub] <;> rw [m2, t2] <;> omega
      · rw [Int.mul_sub, e2]; omega
      · rw [Int.mul_sub, e2]; omega
    · have z2 : ¬ 2 * p.toInt < 2 * (N.toInt * F) + (v : Int) * N.toInt := fun q => z (zlt.mpr (by rw [m3, m4]; exact q))
      rw [if_neg z]
      refine ⟨2 * F + v, m2, by omega, ?_, ?_, by omega, by omega⟩
      · rw [e2]; omega
      · rw [e2]; omega
  obtain ⟨l, hl, l1, l2, l3, l4, l5⟩ := low
  have e3 : l * N.toInt = N.toInt * l := Int.mul_comm _ _
  have m5 : (q_lw p N (nI v) * N).toInt = N.toInt * l := by
    rw [zmul] <;> rw [hl, e3] <;> omega
  have m6 : (q_lw p N (nI v) + 2).toInt = l + 2 := by
    rw [zadd] <;> rw [hl, t2] <;> omega
  have e4 : (l + 2) * N.toInt = N.toInt * l + 2 * N.toInt := by rw [Int.add_mul, e3]
  have m7 : ((q_lw p N (nI v) + 2) * N).toInt = N.toInt * l + 2 * N.toInt := by
    rw [zmul] <;> rw [m6, e4] <;> omega
  have m8 : ((q_lw p N (nI v) + 2) * N - 2 * p).toInt = N.toInt * l + 2 * N.toInt - 2 * p.toInt := by
    rw [zsub] <;> rw [m7, m3] <;> omega
  have m9 : (2 * p - q_lw p N (nI v) * N).toInt = 2 * p.toInt - N.toInt * l := by
    rw [zsub] <;> rw [m3, m5] <;> omega
  unfold q_nr
  by_cases z : (q_lw p N (nI v) + 2) * N - 2 * p < 2 * p - q_lw p N (nI v) * N
  · have z2 := zlt.mp z
    rw [m8, m9] at z2
    rw [if_pos z, m6]
    refine ⟨by omega, ?_, ?_⟩ <;> (rw [Int.mul_add]; omega)
  · have z2 : ¬ N.toInt * l + 2 * N.toInt - 2 * p.toInt < 2 * p.toInt - N.toInt * l := fun q => z (zlt.mpr (by rw [m8, m9]; exact q))
    rw [if_neg z, hl]
    exact ⟨l1, by omega, by omega⟩
theorem and1_cases (x : Int32) : x &&& 1 = 0 ∨ x &&& 1 = 1 := by
  have e : (x &&& 1).toBitVec.toNat = x.toBitVec.toNat % 2 := by
    rw [Int32.toBitVec_and, BitVec.toNat_and]
    exact Nat.and_one_is_mod _
  rcases Nat.mod_two_eq_zero_or_one x.toBitVec.toNat with h | h
  · refine Or.inl (Int32.toBitVec_inj.mp (BitVec.eq_of_toNat_eq ?_))
    rw [e, h]
    rfl
  · refine Or.inr (Int32.toBitVec_inj.mp (BitVec.eq_of_toNat_eq ?_))
    rw [e, h]
    rfl
theorem zsbit (w k : Nat) : q_sbit w k = nI (q_w (nI w) k) := by
  have e : q_sbit w k = q_bit (nI w) k := rfl
  rw [e]
  unfold q_w
  by_cases h : q_bit (nI w) k = 0
  · rw [if_pos h, h]
    rfl
  · rw [if_neg h]
    rcases and1_cases (nI w >>> (nI k &&& 31)) with z | z
    · exact absurd z h
    · exact z
theorem zw_lt (x : Int32) (k : Nat) : q_w x k < 2 := by
  unfold q_w
  by_cases h : q_bit x k = 0
  · rw [if_pos h]; omega
  · rw [if_neg h]; omega
theorem zcand {N : Int64} {p : Nat → Int64} {w k : Nat} (hN : 0 < N.toInt) (hN2 : zsm N) (hp : zsm (p k)) : q_tv (q_hv N p) (nI w) k = q_ner N p w k := by
  have h1 := (zhv hN hN2 hp (zw_lt (nI w) k)).1
  have h2 := znr hN hN2 hp (zw_lt (nI w) k) (zsbit w k)
  exact zeq.mpr (znear_1 hN h1 h2)

