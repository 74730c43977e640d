/-! ===== the law: quotient: the nearest half of a parity ===== -/
def y_ok (N p : Int64) (v : Nat) (m : Nat) (low off : Int64) : Prop := off.toInt = N.toInt * low.toInt - 2 * p.toInt ∧ low.toInt % 2 = (v : Int) ∧ off.toInt < N.toInt ∧ -N.toInt - 2 * N.toInt * (m : Int) ≤ off.toInt ∧ low.toInt + 2 * (m : Int) ≤ 80000010 ∧ -80000010 ≤ low.toInt
def y_adj (x : Int64) (v : Int32) : Int64 := if x &&& 1 = v.toInt64 then x + 0 else x + 1
theorem y_adj_ok {x : Int64} {v : Nat} (hv : v < 2) (h1 : -90000000 ≤ x.toInt) (h2 : x.toInt ≤ 90000000) : (y_adj x (nI v)).toInt % 2 = (v : Int) ∧ ((y_adj x (nI v)).toInt = x.toInt ∨ (y_adj x (nI v)).toInt = x.toInt + 1) := by
  have a0 : (x + 0).toInt = x.toInt := by rw [Int64.add_zero]
  have a1 : (x + 1).toInt = x.toInt + 1 := by
    rw [zadd] <;> rw [show (1 : Int64).toInt = 1 from rfl] <;> omega
  have z := zand1 x
  unfold y_adj
  match v, hv with
  | 0, _ =>
    by_cases e : x &&& 1 = (nI 0).toInt64
    · rw [if_pos e, a0]
      have := z.mp e
      omega
    · rw [if_neg e, a1]
      have : ¬ x.toInt % 2 = 0 := fun q => e (z.mpr q)
      omega
  | 1, _ =>
    by_cases e : x &&& 1 = (nI 1).toInt64
    · rw [if_pos e, a0]
      have : ¬ x.toInt % 2 = 0 := fun q => by
        rw [z.mpr q] at e
        exact absurd e (by decide)
      omega
    · rw [if_neg e, a1]
      have : x.toInt % 2 = 0 := by
        rcases y_bit1 x with ⟨q, _⟩ | ⟨_, q⟩
        · exact absurd q e
        · exact q
      omega
theorem y_ok_0 {N p : Int64} {v : Nat} (hN : 0 < N.toInt) (hN2 : zsm N) (hp : zsm p) (hv : v < 2) : y_ok N p v 2 (y_adj (2 * p / N - 4) (nI v)) (y_adj (2 * p / N - 4) (nI v) * N - 2 * p) := by
  obtain ⟨n1, n2⟩ := hN2
  obtain ⟨p1, p2⟩ := hp
  have m2 : (2 * p).toInt = 2 * p.toInt := by
    rw [zmul] <;> rw [show (2 : Int64).toInt = 2 from rfl] <;> omega
  have hN1 : N ≠ -1 := fun e => by
    rw [e] at hN
    exact absurd hN (by decide)
  have hd : (2 * p / N).toInt = (2 * p.toInt).tdiv N.toInt := by rw [zdiv hN1, m2]
  have e0 := Int.mul_tdiv_add_tmod (2 * p.toInt) N.toInt
  have b1 := Int.tmod_lt_of_pos (2 * p.toInt) hN
  have b2 := Int.lt_tmod_of_pos (2 * p.toInt) hN
  have b3 : ((2 * p.toInt).tdiv N.toInt).natAbs ≤ (2 * p.toInt).natAbs := by
    rw [Int.natAbs_tdiv]
    exact Nat.div_le_self _ _
  generalize (2 * p.toInt).tdiv N.toInt = T at hd e0 b3
  generalize (2 * p.toInt).tmod N.toInt = r at e0 b1 b2
  have m4 : (2 * p / N - 4).toInt = T - 4 := by
    rw [zsub] <;> rw [hd, show (4 : Int64).toInt = 4 from rfl] <;> omega
  obtain ⟨c1, c2⟩ := y_adj_ok (x := 2 * p / N - 4) hv (by omega) (by omega)
  generalize y_adj (2 * p / N - 4) (nI v) = y at c1 c2 ⊢
  rw [m4] at c2
  have hNy : N.toInt * y.toInt = N.toInt * T - 4 * N.toInt ∨ N.toInt * y.toInt = N.toInt * T - 3 * N.toInt := by
    rcases c2 with e | e
    · refine Or.inl ?_
      rw [e, Int.mul_sub]
      omega
    · refine Or.inr ?_
      rw [e, Int.mul_add, Int.mul_sub]
      omega
  have hyN : y.toInt * N.toInt = N.toInt * y.toInt := Int.mul_comm _ _
  have m5 : (y * N).toInt = N.toInt * y.toInt := by
    rw [zmul] <;> rw [hyN] <;> omega
  have m6 : (y * N - 2 * p).toInt = N.toInt * y.toInt - 2 * p.toInt := by
    rw [zsub] <;> rw [m5, m2] <;> omega
  refine ⟨m6, c1, ?_, ?_, ?_, ?_⟩
  · rw [m6]; omega
  · rw [m6]; omega
  · omega
  · omega
theorem y_ok_s {N p low off : Int64} {v m : Nat} (hN : 0 < N.toInt) (hN2 : zsm N) (hp : zsm p) (w : y_ok N p v (m + 1) low off) (h : off.toInt < -N.toInt) (hm : m < 3) : y_ok N p v m (low + 2) (off + 2 * N) := by
  obtain ⟨n1, n2⟩ := hN2
  obtain ⟨p1, p2⟩ := hp
  obtain ⟨w1, w2, w3, w4, w5, w6⟩ := w
  have m2 : (2 * N).toInt = 2 * N.toInt := by
    rw [zmul] <;> rw [show (2 : Int64).toInt = 2 from rfl] <;> omega
  have hm2 : 2 * N.toInt * ((m + 1 : Nat) : Int) = 2 * N.toInt * (m : Int) + 2 * N.toInt := by
    rw [show ((m + 1 : Nat) : Int) = (m : Int) + 1 from rfl, Int.mul_add, Int.mul_one]
  have hm3 : 2 * N.toInt * (m : Int) ≤ 2 * N.toInt * 3 := Int.mul_le_mul_of_nonneg_left (by omega) (by omega)
  rw [hm2] at w4
  have a1 : (low + 2).toInt = low.toInt + 2 := by
    rw [zadd] <;> rw [show (2 : Int64).toInt = 2 from rfl] <;> omega
  have a2 : (off + 2 * N).toInt = off.toInt + 2 * N.toInt := by
    rw [zadd] <;> rw [m2] <;> omega
  have a3 : N.toInt * (low.toInt + 2) = N.toInt * low.toInt + 2 * N.toInt := by
    rw [Int.mul_add]; omega
  refine ⟨?_, ?_, ?_, ?_, ?_, ?_⟩
  · rw [a1, a2, a3]; omega
  · rw [a1]; omega
  · rw [a2]; omega
  · rw [a2]; omega
  · rw [a1]; omega
  · rw [a1]; omega
theorem y_sq {N off : Int64} (hN : 0 < N.toInt) (hN2 : zsm N) (h1 : -400000000 ≤ off.toInt) (h2 : off.toInt ≤ 400000000) : (off + 2 * N) * (off + 2 * N) < off * off ↔ off.toInt < -N.toInt := by
  obtain ⟨n1, n2⟩ := hN2
  have m2 : (2 * N).toInt = 2 * N.toInt := by
    rw [zmul] <;> rw [show (2 : Int64).toInt = 2 from rfl] <;> omega
  have a2 : (off + 2 * N).toInt = off.toInt + 2 * N.toInt := by
    rw [zadd] <;> rw [m2] <;> omega
  have s1 := zsq (x := off.toInt) (b := 400000000) h1 h2
  have s2 := zsq (x := off.toInt + 2 * N.toInt) (b := 500000000) (by omega) (by omega)
  rw [zlt, zmul (by rw [a2]; omega) (by rw [a2]; omega), zmul (by omega) (by omega), a2]
  have e : (off.toInt + 2 * N.toInt) * (off.toInt + 2 * N.toInt) = off.toInt * off.toInt + 4 * (N.toInt * (off.toInt + N.toInt)) := by grind
  rw [e]
  constructor
  · intro q
    rcases Int.lt_or_le off.toInt (-N.toInt) with z | z
    · exact z
    · have := Int.mul_nonneg (show 0 ≤ N.toInt by omega) (show 0 ≤ off.toInt + N.toInt by omega)
      omega
  · intro q
    have := Int.mul_pos hN (show 0 < -(off.toInt + N.toInt) by omega)
    rw [Int.mul_neg] at this
    omega
theorem y_ok_e {N p low off : Int64} {v m : Nat} {x : Int64} (hN : 0 < N.toInt) (hN2 : zsm N) (hp : zsm p) (w : y_ok N p v m low off) (h : -N.toInt ≤ off.toInt) (hx : znear N.toInt p.toInt v x.toInt) : low = x ∧ off = low * N - 2 * p := by
  obtain ⟨n1, n2⟩ := hN2
  obtain ⟨p1, p2⟩ := hp
  obtain ⟨w1, w2, w3, w4, w5, w6⟩ := w
  refine ⟨zeq.mpr (znear_1 hN ⟨w2, by omega, by omega⟩ hx), zeq.mpr ?_⟩
  have hyN : low.toInt * N.toInt = N.toInt * low.toInt := Int.mul_comm _ _
  have m2 : (2 * p).toInt = 2 * p.toInt := by
    rw [zmul] <;> rw [show (2 : Int64).toInt = 2 from rfl] <;> omega
  have m5 : (low * N).toInt = N.toInt * low.toInt := by
    rw [zmul] <;> rw [hyN] <;> omega
  rw [zsub] <;> rw [m5, m2] <;> omega
theorem y_ok_b {N p low off : Int64} {v m : Nat} (hN2 : zsm N) (w : y_ok N p v m low off) (hN : 0 < N.toInt) (hm : m < 4) : -400000000 ≤ off.toInt ∧ off.toInt ≤ 400000000 := by
  obtain ⟨n1, n2⟩ := hN2
  obtain ⟨w1, w2, w3, w4, w5, w6⟩ := w
  have hm3 : 2 * N.toInt * (m : Int) ≤ 2 * N.toInt * 3 := Int.mul_le_mul_of_nonneg_left (by omega) (by omega)
  omega
abbrev y_lq (t a b o rc rp : Nat) (N : Int64) (rb : Nat) (ls : Int64) (w : Nat) (r : List (Option Value)) : List (Option Value) := some (.ref t) :: some (.ref a) :: some (.ref b) :: some (.int (nI o)) :: some (.ref rc) :: some (.ref rp) :: some (.long N) :: none :: some (.ref rb) :: some (.long ls) :: none :: some (.int (nI w)) :: r
section YQ
variable {E : og_E} {X : og_X} {Q : State → Prop} {d mc ms cells slots n t a b o rc rp rb rh w k : Nat} {h : og_H} {N ls far : Int64} {P : Nat → Int64}
/-- the while loop, from its head -/
theorem y_while (hN : 0 < N.toInt) (hN2 : zsm N) (hp : zsm (P k)) {v : Nat} {x : Int64} (hx : znear N.toInt (P k).toInt v x.toInt) {a13 a14 : Option Value}
    (K : og_G E RL cL_quotient d mc ms 20 X Q cells slots n h 200 (y_lq t a b o rc rp N rb ls w [some (.ref rh), some (.long far), none, some (.int (nI k)), some (.long x), none, some (.long (x * N - 2 * P k)), none]) []) :
    ∀ m, m < 3 → ∀ low off, y_ok N (P k) v m low off → og_G E RL cL_quotient d mc ms 20 X Q cells slots n h 143 (y_lq t a b o rc rp N rb ls w [some (.ref rh), some (.long far), none, some (.int (nI k)), some (.long low), none, some (.long off), none]) [] := by
  intro m
  induction m with
  | zero =>
    intro hm low off ok
    have hb := y_ok_b hN2 ok hN (by omega)
    have he : -N.toInt ≤ off.toInt := by
      have := ok.2.2.2.1
      rw [show ((0 : Nat) : Int) = 0 from rfl, Int.mul_zero] at this
      omega
    obtain ⟨e1, e2⟩ := y_ok_e hN hN2 hp ok he hx
    rw [e1] at e2
    rw [← e2, ← e1] at K
    refine og_lload (pc := 143) dL_quotient_143 rfl ?_
    refine og_lconst (pc := 145) (v := 0) dL_quotient_145 (by decide) ?_
    refine og_lcmp (pc := 146) dL_quotient_146 ?_
    refine og_if_ge (pc := 147) (tgt := 200) dL_quotient_147 (by decide) (fun c => K) (fun c => ?_)
    refine og_lload (pc := 150) dL_quotient_150 rfl ?_
    refine og_ldc2 (pc := 152) LC_L_23 dL_quotient_152 ?_
    refine og_lload (pc := 155) dL_quotient_155 rfl ?_
    refine og_lmul (pc := 157) dL_quotient_157 ?_
    refine og_ladd (pc := 158) dL_quotient_158 ?_
    refine og_lload (pc := 159) dL_quotient_159 rfl ?_
    refine og_ldc2 (pc := 161) LC_L_23 dL_quotient_161 ?_
    refine og_lload (pc := 164) dL_quotient_164 rfl ?_
    refine og_lmul (pc := 166) dL_quotient_166 ?_
    refine og_ladd (pc := 167) dL_quotient_167 ?_
    refine og_lmul (pc := 168) dL_quotient_168 ?_
    refine og_lload (pc := 169) dL_quotient_169 rfl ?_
    refine og_lload (pc := 171) dL_quotient_171 rfl ?_
    refine og_lmul (pc := 173) dL_quotient_173 ?_
    refine og_lcmp (pc := 174) dL_quotient_174 ?_
    refine og_if_ge (pc := 175) (tgt := 200) dL_quotient_175 (by decide) (fun c2 => K) (fun c2 => ?_)
    have := (y_sq hN hN2 hb.1 hb.2).mp ((og_cmpL _ _).mp (og_nle c2))
    omega
  | succ m ih =>
    intro hm low off ok
    have hb := y_ok_b hN2 ok hN (by omega)
    by_cases he : -N.toInt ≤ off.toInt
    · obtain ⟨e1, e2⟩ := y_ok_e hN hN2 hp ok he hx
      rw [e1] at e2
      rw [← e2, ← e1] at K
      refine og_lload (pc := 143) dL_quotient_143 rfl ?_
      refine og_lconst (pc := 145) (v := 0) dL_quotient_145 (by decide) ?_
      refine og_lcmp (pc := 146) dL_quotient_146 ?_
      refine og_if_ge (pc := 147) (tgt := 200) dL_quotient_147 (by decide) (fun c => K) (fun c => ?_)
      refine og_lload (pc := 150) dL_quotient_150 rfl ?_
      refine og_ldc2 (pc := 152) LC_L_23 dL_quotient_152 ?_
      refine og_lload (pc := 155) dL_quotient_155 rfl ?_
      refine og_lmul (pc := 157) dL_quotient_157 ?_
      refine og_ladd (pc := 158) dL_quotient_158 ?_
      refine og_lload (pc := 159) dL_quotient_159 rfl ?_
      refine og_ldc2 (pc := 161) LC_L_23 dL_quotient_161 ?_
      refine og_lload (pc := 164) dL_quotient_164 rfl ?_
      refine og_lmul (pc := 166) dL_quotient_166 ?_
      refine og_ladd (pc := 167) dL_quotient_167 ?_
      refine og_lmul (pc := 168) dL_quotient_168 ?_
      refine og_lload (pc := 169) dL_quotient_169 rfl ?_
      refine og_lload (pc := 171) dL_quotient_171 rfl ?_
      refine og_lmul (pc := 173) dL_quotient_173 ?_
      refine og_lcmp (pc := 174) dL_quotient_174 ?_
      refine og_if_ge (pc := 175) (tgt := 200) dL_quotient_175 (by decide) (fun c2 => K) (fun c2 => ?_)
      have := (y_sq hN hN2 hb.1 hb.2).mp ((og_cmpL _ _).mp (og_nle c2))
      omega
    · have he : off.toInt < -N.toInt := by omega
      refine og_lload (pc := 143) dL_quotient_143 rfl ?_
      refine og_lconst (pc := 145) (v := 0) dL_quotient_145 (by decide) ?_
      refine og_lcmp (pc := 146) dL_quotient_146 ?_
      refine og_if_ge (pc := 147) (tgt := 200) dL_quotient_147 (by decide) (fun c => ?_) (fun c => ?_)
      · exfalso
        refine og_lel c ((og_cmpL _ _).mpr (zlt.mpr ?_))
        show off.toInt < 0
        omega
      refine og_lload (pc := 150) dL_quotient_150 rfl ?_
      refine og_ldc2 (pc := 152) LC_L_23 dL_quotient_152 ?_
      refine og_lload (pc := 155) dL_quotient_155 rfl ?_
      refine og_lmul (pc := 157) dL_quotient_157 ?_
      refine og_ladd (pc := 158) dL_quotient_158 ?_
      refine og_lload (pc := 159) dL_quotient_159 rfl ?_
      refine og_ldc2 (pc := 161) LC_L_23 dL_quotient_161 ?_
      refine og_lload (pc := 164) dL_quotient_164 rfl ?_
      refine og_lmul (pc := 166) dL_quotient_166 ?_
      refine og_ladd (pc := 167) dL_quotient_167 ?_
      refine og_lmul (pc := 168) dL_quotient_168 ?_
      refine og_lload (pc := 169) dL_quotient_169 rfl ?_
      refine og_lload (pc := 171) dL_quotient_171 rfl ?_
      refine og_lmul (pc := 173) dL_quotient_173 ?_
      refine og_lcmp (pc := 174) dL_quotient_174 ?_
      refine og_if_ge (pc := 175) (tgt := 200) dL_quotient_175 (by decide) (fun c2 => ?_) (fun c2 => ?_)
      · exact (og_lel c2 ((og_cmpL _ _).mpr ((y_sq hN hN2 hb.1 hb.2).mpr he))).elim
      refine og_lload (pc := 178) dL_quotient_178 rfl ?_
      refine og_ldc2 (pc := 180) LC_L_23 dL_quotient_180 ?_
      refine og_ladd (pc := 183) dL_quotient_183 ?_
      refine og_lstore_16 (pc := 184) dL_quotient_184 rfl ?_
      refine og_lload (pc := 186) dL_quotient_186 rfl ?_
      refine og_ldc2 (pc := 188) LC_L_23 dL_quotient_188 ?_
      refine og_lload (pc := 191) dL_quotient_191 rfl ?_
      refine og_lmul (pc := 193) dL_quotient_193 ?_
      refine og_ladd (pc := 194) dL_quotient_194 ?_
      refine og_lstore_18 (pc := 195) dL_quotient_195 rfl ?_
      refine og_goto (pc := 197) (tgt := 143) dL_quotient_197 (by decide) ?_
      exact ih (by omega) _ _ (y_ok_s hN hN2 hp ok he (by omega))
end YQ
