/-! ===== the law: what the tables say at its entry ===== -/
theorem law_in0 : ∀ w ∈ u_ws RX0 TX0 7, w ∈ lw_tbl := by decide +kernel
theorem law_in1 : ∀ w ∈ u_ws RX1 TX1 9, w ∈ lw_tbl := by decide +kernel
theorem law_in4 : ∀ w ∈ u_ws RX4 TX4 4, w ∈ lw_tbl := by decide +kernel
theorem law_in5 : ∀ w ∈ u_ws RX5 TX5 3, w ∈ lw_tbl := by decide +kernel
theorem law_in6 : ∀ w ∈ u_ws RX6 TX6 2, w ∈ lw_tbl := by decide +kernel
theorem law_in7 : ∀ w ∈ u_ws RX7 TX7 10, w ∈ lw_tbl := by decide +kernel
theorem law_cl {args : Array Value} {s : State} (hts : ∀ w ∈ lw_tbl, w.before args s = true) : ∃ (dC : Nat → ClassId) (dI : Nat → Nat → Nat), ∀ (k : Nat) (q : vw_C), og_cl[k]? = some q → u_Kn s q.1 q.2.1 q.2.2 (dC k) (dI k) := by
  obtain ⟨c0, i0, h0⟩ := u_known (C := RX0) (T := TX0) (N := 7) (n := 7) hts law_in0 (hts (.instantiable RX0 7) (by decide +kernel))
  obtain ⟨c1, i1, h1⟩ := u_known (C := RX1) (T := TX1) (N := 9) (n := 9) hts law_in1 (hts (.instantiable RX1 9) (by decide +kernel))
  obtain ⟨c2, i2, h2⟩ := u_known (C := RX4) (T := TX4) (N := 4) (n := 4) hts law_in4 (hts (.instantiable RX4 4) (by decide +kernel))
  obtain ⟨c3, i3, h3⟩ := u_known (C := RX5) (T := TX5) (N := 3) (n := 3) hts law_in5 (hts (.instantiable RX5 3) (by decide +kernel))
  obtain ⟨c4, i4, h4⟩ := u_known (C := RX6) (T := TX6) (N := 2) (n := 2) hts law_in6 (hts (.instantiable RX6 2) (by decide +kernel))
  obtain ⟨c5, i5, h5⟩ := u_known (C := RX7) (T := TX7) (N := 10) (n := 10) hts law_in7 (hts (.instantiable RX7 10) (by decide +kernel))
  refine ⟨fun k => if k = 0 then c0 else if k = 1 then c1 else if k = 2 then c2 else if k = 3 then c3 else if k = 4 then c4 else c5, fun k => if k = 0 then i0 else if k = 1 then i1 else if k = 2 then i2 else if k = 3 then i3 else if k = 4 then i4 else i5, fun k q hq => ?_⟩
  match k, hq with
  | 0, hq => cases hq; exact h0
  | 1, hq => cases hq; exact h1
  | 2, hq => cases hq; exact h2
  | 3, hq => cases hq; exact h3
  | 4, hq => cases hq; exact h4
  | 5, hq => cases hq; exact h5
  | k + 6, hq => simp [og_cl] at hq
theorem law_U {args : Array Value} {s : State} (hts : ∀ w ∈ lw_tbl, w.before args s = true) (hnc : ∀ c ∈ og_exc, ∀ c2 ∈ og_exc, c ≠ c2 → (Cond.not (.castable c c2)).before args s = true) : og_U s := by
  refine ⟨va_AO.of (hts (.arrayOver (.object RX4)) (by decide +kernel)), va_AO.of (hts (.arrayOver (.object RX6)) (by decide +kernel)), (hts (.arrayOver (.array .long)) (by decide +kernel)), va_Nw.of rfl (hts (.methodLinkNest RX7 32 yX1_init RX7) (by decide +kernel)), va_Nw.of rfl (hts (.methodLinkNest RX7 39 yX5_init RX7) (by decide +kernel)), fun c hc => va_Nw.of rfl (hts (.castable c c) ?_), fun c hc c2 hc2 hn => va_Nc.of (hnc c hc c2 hc2 hn), fun y hy => va_Nw.of rfl (hts (.declares y) ?_)⟩
  · exact (by decide +kernel : ∀ c ∈ og_exc, Cond.castable c c ∈ lw_tbl) c hc
  · exact (by decide +kernel : ∀ y ∈ og_dec, Cond.declares y ∈ lw_tbl) y hy
