/-! ===== the law: arrays' classes at its entry ===== -/
theorem law_ar {args : Array Value} {s : State} (hts : ∀ w ∈ lw_tbl, w.before args s = true) : ∃ cA : Nat → ClassId, ∀ k, k < 7 → ArrOfT s (cA k) (og_ty k) ∧ va_RA s (cA k) (og_ty k) := by
  obtain ⟨c0, k0, p0, a0, b0, d0⟩ := Cond.arrayClass_spec (hts (.arrayClass .byte) (by decide +kernel))
  obtain ⟨c1, k1, p1, a1, b1, d1⟩ := Cond.arrayClass_spec (hts (.arrayClass .int) (by decide +kernel))
  obtain ⟨c2, k2, p2, a2, b2, d2⟩ := Cond.arrayClass_spec (hts (.arrayClass .long) (by decide +kernel))
  obtain ⟨p4, c4, k4, e4, -, b4, d4, a4⟩ := Cond.arrayOver_spec (hts (.arrayOver (.object RX4)) (by decide +kernel))
  obtain ⟨p5, c5, k5, e5, -, b5, d5, a5⟩ := Cond.arrayOver_spec (hts (.arrayOver (.object RX6)) (by decide +kernel))
  obtain ⟨p6, c6, k6, -, -, b6, d6, a6⟩ := og_AOA.spec (hts (.arrayOver (.array .long)) (by decide +kernel))
  refine ⟨fun k => if k = 0 then c0 else if k = 1 then c1 else if k = 2 then c2 else if k = 3 then c1 else if k = 4 then c4 else if k = 5 then c5 else c6, fun k hk => ?_⟩
  match k, hk with
  | 0, _ => exact ⟨fun N z => ⟨(fun k h => by cases h), k0, b0, p0, d0⟩, a0⟩
  | 1, _ => exact ⟨fun N z => ⟨(fun k h => by cases h), k1, b1, p1, d1⟩, a1⟩
  | 2, _ => exact ⟨fun N z => ⟨(fun k h => by cases h), k2, b2, p2, d2⟩, a2⟩
  | 3, _ => exact ⟨fun N z => ⟨(fun k h => by cases h), k1, b1, p1, d1⟩, a1⟩
  | 4, _ => exact ⟨fun N z => ⟨(fun k h => by cases h), k4, b4, p4, d4⟩, k4, p4, b4, d4, e4, a4⟩
  | 5, _ => exact ⟨fun N z => ⟨(fun k h => by cases h), k5, b5, p5, d5⟩, k5, p5, b5, d5, e5, a5⟩
  | 6, _ => exact ⟨fun N z => ⟨(fun k h => by cases h), k6, b6, p6, d6⟩, a6⟩
  | k + 7, h => omega
/-- the classes and the arrays, in one world -/
theorem law_K {args : Array Value} {s : State} (hts : ∀ w ∈ lw_tbl, w.before args s = true) : ∃ (dC : Nat → ClassId) (dI : Nat → Nat → Nat) (cA : Nat → ClassId), ∀ b r0 r1 r2 : Nat, va_K (og_D (dC, dI, cA, b, r0, r1, r2)) og_cl (og_tys (dC, dI, cA, b, r0, r1, r2)) s := by
  obtain ⟨dC, dI, h1⟩ := law_cl hts
  obtain ⟨cA, h2⟩ := law_ar hts
  refine ⟨dC, dI, cA, fun b r0 r1 r2 => ⟨h1, fun k q hq => ?_⟩⟩
  have hk : k < 7 := by
    have := (List.getElem?_eq_some_iff.mp hq).1
    unfold og_tys at this
    rw [List.length_map, List.length_range] at this
    exact this
  rw [og_tyAt _ hk] at hq
  cases hq
  exact h2 k hk
