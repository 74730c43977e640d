/-! ===== pure 9 ===== -/
theorem zmin_tr {S : Nat → Prop} {F F2 : Nat → Int64} {R R2 : Nat → Nat → Int64} {st : Int64 × (Nat → Int64)} (hF : ∀ w, F w = F2 w) (hR : ∀ w j, j < 8 → R w j = R2 w j) (h : zmin S F R st) : zmin S F2 R2 st := by
  obtain ⟨w, a1, a2, a3, a4⟩ := h
  refine ⟨w, a1, by rw [a2, hF], fun j hj => by rw [a3 j hj, hR w j hj], fun v hv q => a4 v hv ?_⟩
  rw [← hF] at q
  exact zbt_congr (fun j hj => (hR v j hj).symm) (fun _ _ => rfl) q
theorem zner_congr {N : Int64} {p p2 : Nat → Int64} (h : ∀ j, j < 8 → p j = p2 j) (w : Nat) : ∀ j, j < 8 → q_ner N p w j = q_ner N p2 w j := fun j hj => by
  unfold q_ner
  rw [h j hj]
theorem zfrr_c {N : Int64} {p p2 a b : Nat → Int64} (h : ∀ j, j < 8 → p j = p2 j) (h2 : ∀ j, j < 8 → a j = b j) (n : Nat) (hn : n ≤ 8) : q_frr N p a n = q_frr N p2 b n := by
  induction n with
  | zero => rfl
  | succ n ih =>
    have e1 := ih (by omega)
    have e2 := h n (by omega)
    have e3 := h2 n (by omega)
    show q_frr N p a n + (a n * N - 2 * p n) * (a n * N - 2 * p n) = q_frr N p2 b n + (b n * N - 2 * p2 n) * (b n * N - 2 * p2 n)
    rw [e1, e2, e3]
theorem zfrr_congr {N : Int64} {p p2 : Nat → Int64} (h : ∀ j, j < 8 → p j = p2 j) (w : Nat) (n : Nat) (hn : n ≤ 8) : q_frr N p (q_ner N p w) n = q_frr N p2 (q_ner N p2 w) n := zfrr_c h (zner_congr h w) n hn
theorem zq_two {N : Int64} {p p2 : Nat → Int64} (o : Nat) (ho : o < 8) (q0 q1 : Nat → Int64) (hN : 0 < N.toInt) (hN2 : zsm N) (hp : ∀ k, k < 8 → zsm (p2 k)) (h : ∀ j, j < 8 → p j = p2 j) : ∀ j, j < 8 → (q_cq (q_hv N p) (q_ds N p) o q0 (q_sets o)).2 j = (q_dvS N p2 o q1 256).2 j := by
  have hp1 : ∀ k, k < 8 → zsm (p k) := fun k hk => by rw [h k hk]; exact hp k hk
  obtain ⟨a1, a2⟩ := zq_same o ho q0 q1 hN hN2 hp1
  obtain ⟨-, b2⟩ := zq_same o ho q0 q1 hN hN2 hp
  have c := zmin_uniq (zmin_tr (fun w => zfrr_congr h w 8 (by omega)) (fun w j hj => zner_congr h w j hj) a2) b2 (fun _ => Iff.rfl)
  exact fun j hj => (a1 j hj).trans (c j hj)
theorem zo2 {N p x : Int} (hN : 0 < N) (h : znear N p 0 x) : (N * x - 2 * p) * (N * x - 2 * p) ≤ (2 * p) * (2 * p) := by
  obtain ⟨h0, h1, h2⟩ := h
  have key : (N * x - 2 * p = -(2 * p)) ∨ (N ≤ 2 * p) ∨ (N ≤ -(2 * p)) := by
    rcases Int.lt_or_le (2 * p) N with q | q
    · rcases Int.lt_or_le (-(2 * p)) N with r | r
      · left
        have c1 : x < 2 := Int.lt_of_mul_lt_mul_left (a := N) (by omega) (by omega)
        have c2 : -2 < x := Int.lt_of_mul_lt_mul_left (a := N) (by omega) (by omega)
        have : x = 0 := by omega
        rw [this]
        omega
      · exact Or.inr (Or.inr r)
    · exact Or.inr (Or.inl q)
  rcases key with e | e | e
  · rw [e, Int.neg_mul_neg]
    exact Int.le_refl _
  · exact (zsq (b := 2 * p) (by omega) (by omega)).2
  · have := (zsq (x := N * x - 2 * p) (b := -(2 * p)) (by omega) (by omega)).2
    rw [Int.neg_mul_neg] at this
    exact this
theorem zo8 {N : Int64} {p : Nat → Int64} (hN : 0 < N.toInt) (hN2 : zsm N) (hp : ∀ k, k < 8 → zsm (p k)) : ∀ n, n ≤ 8 → zos N p (q_ner N p 0) n ≤ zos 0 p (fun _ => 0) n
  | 0, _ => Int.le_refl _
  | n + 1, hn => by
    have ih := zo8 hN hN2 hp n (by omega)
    have h := (zner_b 0 n hN hN2 (hp n (by omega))).1
    have e : q_w (nI 0) n = 0 := by
      have := zoddW 0 (by omega) n (by omega)
      rw [this]
      simp
    rw [e] at h
    have h2 := zo2 hN h
    rw [zos, zos]
    have e2 : zoff 0 p (fun _ => 0) n * zoff 0 p (fun _ => 0) n = (2 * (p n).toInt) * (2 * (p n).toInt) := by
      unfold zoff
      rw [show ((0 : Int64).toInt) = 0 from rfl, Int.zero_mul, Int.zero_sub, Int.neg_mul_neg]
    rw [e2]
    unfold zoff
    omega
theorem zdv {f g f2 g2 : Nat → Int64} {o : Nat} (ho : o < 8) (e1 : ∀ j, j < 8 → f j = f2 j) (e2 : ∀ j, j < 8 → g j = g2 j) (hf : zok f2) (hg : zok g2) (hN : q_inner g2 g2 8 ≠ 0) (hof : zlat o (zi f2)) (hog : zlat o (zi g2)) :
    (∀ k, k < 8 → q_quo f g o k = m_quo f2 g2 o k) ∧ (∀ k, k < 8 → q_rem f g o k = m_rem f2 g2 o k) ∧ zok (m_rem f2 g2 o) ∧ zlat o (zi (m_rem f2 g2 o)) := by
  have hg0 : zn (zi g2) ≤ 32000000 := hg
  have hf0 : zn (zi f2) ≤ 32000000 := hf
  have nN := zok_N hg
  have nn := zn_nn (zi g2)
  have hNp : 0 < (q_inner g2 g2 8).toInt := by
    rw [nN]
    rcases Int.lt_or_le 0 (zn (zi g2)) with q | q
    · exact q
    · exact absurd (zeq.mpr (by rw [nN, show (0 : Int64).toInt = 0 from rfl]; omega)) hN
  have hNs : zsm (q_inner g2 g2 8) := by unfold zsm; rw [nN]; omega
  have hP := zP hf hg
  have hps : ∀ k, k < 8 → zsm (q_prod f2 (q_mirror g2) k) := fun k hk => by
    obtain ⟨a, b, c⟩ := hP k hk
    unfold zsm
    rw [a]
    omega
  have hpp : ∀ k, k < 8 → q_prod f (q_mirror g) k = q_prod f2 (q_mirror g2) k := zprod_congr e1 (fun j hj => by unfold q_mirror; rw [e2 j hj])
  have hquo : ∀ k, k < 8 → q_quo f g o k = m_quo f2 g2 o k := fun k hk => by
    unfold q_quo m_quo q_quo2
    rw [zinn e2]
    exact zq_two o ho _ _ hNp hNs hps hpp k hk
  obtain ⟨w, ⟨w1, w2⟩, w3, w4, w5⟩ := (zq_same o ho (fun _ => 0) (fun _ => 0) hNp hNs hps).2
  have w4 : ∀ j, j < 8 → m_quo f2 g2 o j = q_ner (q_inner g2 g2 8) (q_prod f2 (q_mirror g2)) w j := w4
  have hb : ∀ k, k < 8 → znear (zn (zi g2)) (zp (zi f2) (zc (zi g2)) k) (q_w (nI w) k) (zi (m_quo f2 g2 o) k) ∧ -400000001 ≤ zi (m_quo f2 g2 o) k ∧ zi (m_quo f2 g2 o) k ≤ 400000001 := fun k hk => by
    have := zner_b w k hNp hNs (hps k hk)
    rw [← w4 k hk, nN, (hP k hk).1] at this
    exact this
  have hlat : zlat o (zi (m_quo f2 g2 o)) := by
    refine (zlat_ok ho).mp ?_
    have : oddN (m_quo f2 g2 o) 8 = w := zeqbits (oddN_lt _ 8) w1 fun k hk => by
      have h1 := oddN_par (m_quo f2 g2 o) hk
      have h2 := (hb k hk).1.1
      have h3 := zoddW w w1 k hk
      rw [h3] at h2
      omega
    rw [this]
    exact w2
  obtain ⟨hev, hrl⟩ := zclose ho hlat hog hof
  have hzq : zn (zi (m_quo f2 g2 o)) ≤ 1280000006400000008 := by
    have s := fun k hk => (zsq (hb k hk).2.1 (hb k hk).2.2).2
    unfold zn
    have := s 0 (by omega); have := s 1 (by omega); have := s 2 (by omega); have := s 3 (by omega); have := s 4 (by omega); have := s 5 (by omega); have := s 6 (by omega); have := s 7 (by omega)
    omega
  have hzb : ∀ k, k < 8 → -6500000000000 ≤ zp (zi (m_quo f2 g2 o)) (zi g2) k ∧ zp (zi (m_quo f2 g2 o)) (zi g2) k ≤ 6500000000000 := fun k hk => by
    have := zp_sm hzq hg0 (by omega) k hk
    exact zsq_le (by omega) (by omega)
  have hpr : ∀ k, k < 8 → (q_prod (m_quo f2 g2 o) g2 k).toInt = zp (zi (m_quo f2 g2 o)) (zi g2) k := fun k hk => by
    have := hzb k hk
    rw [zhom _ _ k hk]
    exact zofI (by omega) (by omega)
  have hfb := zok_b hf
  have hhalf : ∀ k, k < 8 → (q_prod (m_quo f2 g2 o) g2 k / 2).toInt = zp (zi (m_quo f2 g2 o)) (zi g2) k / 2 := fun k hk => by
    rw [zdiv (by decide), hpr k hk, show (2 : Int64).toInt = 2 from rfl]
    exact Int.tdiv_eq_ediv_of_dvd (Int.dvd_of_emod_eq_zero (hev k hk))
  have hrem : ∀ k, k < 8 → zi (m_rem f2 g2 o) k = zi f2 k - zp (zi (m_quo f2 g2 o)) (zi g2) k / 2 := fun k hk => by
    have h1 := hzb k hk
    have h2 := hfb k hk
    have h3 := hhalf k hk
    have h4 : (f2 k).toInt = zi f2 k := rfl
    show (f2 k - q_prod (m_quo f2 g2 o) g2 k / 2).toInt = _
    rw [zsub] <;> rw [h3, h4] <;> omega
  refine ⟨hquo, fun k hk => ?_, ?_, ?_⟩
  · have h1 : q_prod (q_quo f g o) g k = q_prod (m_quo f2 g2 o) g2 k := zprod_congr hquo e2 k hk
    show f k - (q_prod (q_quo f g o) g k >>> ((1 : Int32).toInt64 &&& 63)) = f2 k - q_prod (m_quo f2 g2 o) g2 k / 2
    rw [h1, e1 k hk]
    congr 1
    refine zeq.mpr ?_
    have := zshr (q_prod (m_quo f2 g2 o) g2 k) 1 (by omega)
    rw [hhalf k hk]
    refine Eq.trans this ?_
    rw [hpr k hk]
    rfl
  · -- the norm does not grow
    have a1 : zn (fun k => 2 * zi (m_rem f2 g2 o) k) = zn (fun k => 2 * zi f2 k - zp (zi (m_quo f2 g2 o)) (zi g2) k) := zn_congr fun j hj => by
      have := hrem j hj
      have := hev j hj
      show 2 * zi (m_rem f2 g2 o) j = 2 * zi f2 j - zp (zi (m_quo f2 g2 o)) (zi g2) j
      omega
    rw [zn_2] at a1
    have a2 : zn (fun k => 2 * zi f2 k - zp (zi (m_quo f2 g2 o)) (zi g2) k) * zn (zi g2) = zn (fun k => 2 * zp (zi f2) (zc (zi g2)) k - zi (m_quo f2 g2 o) k * zn (zi g2)) := by
      rw [← zn_zc (zi g2), ← zn_mul]
      refine zn_congr fun j hj => ?_
      rw [zp_lin _ _ _ j hj, zp_cb _ _ j hj, zn_zc]
    have a3 : zos (q_inner g2 g2 8) (q_prod f2 (q_mirror g2)) (q_ner (q_inner g2 g2 8) (q_prod f2 (q_mirror g2)) w) 8 = zn (fun k => 2 * zp (zi f2) (zc (zi g2)) k - zi (m_quo f2 g2 o) k * zn (zi g2)) := by
      rw [zcsum (zi (m_quo f2 g2 o)) (zp (zi f2) (zc (zi g2))) (fun k hk => by rw [← w4 k hk]; rfl) (fun k hk => (hP k hk).1), nN]
    have a4 := zo8 hNp hNs hps 8 (by omega)
    have a5 : zos 0 (q_prod f2 (q_mirror g2)) (fun _ => 0) 8 = 4 * (zn (zi f2) * zn (zi g2)) := by
      rw [zcsum (fun _ => 0) (zp (zi f2) (zc (zi g2))) (fun k hk => rfl) (fun k hk => (hP k hk).1)]
      rw [← zn_zc (zi g2), ← zn_mul, ← zn_2]
      refine zn_congr fun j hj => ?_
      rw [Int.zero_mul, Int.sub_zero]
    have a6 : zos (q_inner g2 g2 8) (q_prod f2 (q_mirror g2)) (q_ner (q_inner g2 g2 8) (q_prod f2 (q_mirror g2)) w) 8 ≤ zos (q_inner g2 g2 8) (q_prod f2 (q_mirror g2)) (q_ner (q_inner g2 g2 8) (q_prod f2 (q_mirror g2)) 0) 8 := by
      rw [← (zfrr w hNp hNs hps 8 (by omega)).1, ← (zfrr 0 hNp hNs hps 8 (by omega)).1]
      have := w5 0 ⟨by omega, okP_0 o ho⟩
      rw [w3] at this
      rcases Int.lt_or_le (q_frr (q_inner g2 g2 8) (q_prod f2 (q_mirror g2)) (q_ner (q_inner g2 g2 8) (q_prod f2 (q_mirror g2)) 0) 8).toInt (q_frr (q_inner g2 g2 8) (q_prod f2 (q_mirror g2)) (q_ner (q_inner g2 g2 8) (q_prod f2 (q_mirror g2)) w) 8).toInt with q | q
      · exact absurd (Or.inl (zlt.mpr q)) this
      · exact q
    have hpos : 0 < zn (zi g2) := by rw [nN] at hNp; exact hNp
    have a7 : zn (zi (m_rem f2 g2 o)) * zn (zi g2) ≤ zn (zi f2) * zn (zi g2) := by
      have b : 4 * zn (zi (m_rem f2 g2 o)) * zn (zi g2) ≤ 4 * (zn (zi f2) * zn (zi g2)) := by
        rw [a1, a2, ← a3, ← a5]
        exact Int.le_trans a6 a4
      rw [Int.mul_assoc] at b
      omega
    have a8 : zn (zi (m_rem f2 g2 o)) ≤ zn (zi f2) := Int.le_of_mul_le_mul_right a7 hpos
    show zn (zi (m_rem f2 g2 o)) ≤ 32000000
    omega
  · refine (zlat_ok ho).mp ?_
    have hl2 : zlat o (fun k => zi f2 k - zp (zi (m_quo f2 g2 o)) (zi g2) k / 2) := hrl
    -- through the parities alone
    have : oddN (m_rem f2 g2 o) 8 = oddN (fun k => Int64.ofInt (zi f2 k - zp (zi (m_quo f2 g2 o)) (zi g2) k / 2)) 8 := oddN_congr 8 fun j hj => by
      refine zeq.mpr ?_
      have h1 := hzb j hj
      have h2 := hfb j hj
      have h3 := hrem j hj
      rw [zofI (by omega) (by omega)]
      exact h3
    rw [this]
    refine (zlat_ok ho).mpr ?_
    have h8 : ∀ k, k < 8 → zi (fun k => Int64.ofInt (zi f2 k - zp (zi (m_quo f2 g2 o)) (zi g2) k / 2)) k = (fun k => zi f2 k - zp (zi (m_quo f2 g2 o)) (zi g2) k / 2) k := fun k hk => by
      have h1 := hzb k hk
      have h2 := hfb k hk
      exact zofI (by omega) (by omega)
    exact (zlat_congr ho h8).mpr hl2

