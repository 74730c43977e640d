/-! ===== the law: the world at its entry ===== -/
theorem law_tab {args : Array Value} {s : State} {A : Nat → Prop} (h : (Jvm.Cond.and given_1 narrow_1).before args s = true) (hA : ∀ a : Nat, a < s.heap.size → ¬ A a) : (∃ t : Nat, (Term.static RX3 "TRIPLES" "[I").eval args s none [] s = some (.ref t) ∧ va_T .int t 21 (fun j => .int (nI (q_tr j))) A s s.heap) ∧ (∃ t : Nat, (Term.static RX2 "SETS" "[I").eval args s none [] s = some (.ref t) ∧ va_T .int t 8 (fun j => .int (nI (q_se j))) A s s.heap) := by
  have hs := flat_of_before _ h
  have e1 : ∀ j, j < 21 → (Cond.eq (.elem (.static RX3 "TRIPLES" "[I") (.int (Int32.ofNat j))) (.int (nI (q_tr j)))).before args s = true := fun j hj => hs _ (by revert j; decide +kernel)
  have e2 : ∀ j, j < 8 → (Cond.eq (.elem (.static RX2 "SETS" "[I") (.int (Int32.ofNat j))) (.int (nI (q_se j)))).before args s = true := fun j hj => hs _ (by revert j; decide +kernel)
  exact ⟨va_Tof (by decide) (hs _ (by decide +kernel)) (va_eqt (z := 21) (hs _ (by decide +kernel))) (fun j hj => va_eqt (e1 j hj)) hA, va_Tof (by decide) (hs _ (by decide +kernel)) (va_eqt (z := 8) (hs _ (by decide +kernel))) (fun j hj => va_eqt (e2 j hj)) hA⟩
theorem law_world {args : Array Value} {s : State} {b L : Nat} {xs : Nat → Int32} (hts : ∀ w ∈ lw_tbl, w.before args s = true) (hg : (Jvm.Cond.and given_1 narrow_1).before args s = true) (hX : va_X b L xs s s.heap) (hb : b < s.heap.size) : ∃ (E : og_E) (h : og_H), og_St E s s.heap ∧ og_Wd E s 3 h s.heap ∧ h 0 = some (rowI L xs) ∧ h 1 = some q_TR ∧ h 2 = some q_SE ∧ og_rho E 0 = b ∧ og_b E = s.heap.size := by
  obtain ⟨dC, dI, cA, hK⟩ := law_K hts
  have hA : ∀ a : Nat, a < s.heap.size → ¬ (fun q : Nat => s.heap.size ≤ q) a := fun a ha q => absurd q (Nat.not_le.mpr ha)
  obtain ⟨⟨t, ht, hT⟩, ⟨u, hu, hU⟩⟩ := law_tab hg hA
  obtain ⟨g1, g2, g3, g4, g5, g6, g7, g8⟩ := law_given hg
  obtain ⟨z1, z2⟩ := law_thr hts g3 g4 hA
  refine ⟨(dC, dI, cA, s.heap.size, b, t, u), og_set (og_set (og_set (fun _ => none) 0 (rowI L xs)) 1 q_TR) 2 q_SE, ⟨hK _ _ _ _, ?_, ?_, z1, z2, law_str hts g2, Nat.le_refl _, law_U hts g1⟩, ⟨rfl, Nat.le_refl 3, fun a e he => ?_⟩, ?_, ?_, og_set_eq _ _ _, rfl, rfl⟩
  · exact va_Zof (hts (.laysStatic RX3 "TRIPLES" "[I") (by decide +kernel)) (hts (.initialized RX3) (by decide +kernel)) ht hA
  · exact va_Zof (hts (.laysStatic RX2 "SETS" "[I") (by decide +kernel)) (hts (.initialized RX2) (by decide +kernel)) hu hA
  · by_cases h2 : a = 2
    · subst h2
      rw [og_set_eq] at he
      cases he
      obtain ⟨cell, a1, a2, a3, a4, a5, a6, a7⟩ := hU
      exact ⟨by omega, fun q => absurd q (by omega), fun _ => ⟨8, _, cell, rfl, a1, (Array.getElem?_eq_some_iff.mp a1).1, a2, a3, a4, a5, a6⟩⟩
    · rw [og_set_ne _ _ h2] at he
      by_cases h1 : a = 1
      · subst h1
        rw [og_set_eq] at he
        cases he
        obtain ⟨cell, a1, a2, a3, a4, a5, a6, a7⟩ := hT
        exact ⟨by omega, fun q => absurd q (by omega), fun _ => ⟨21, _, cell, rfl, a1, (Array.getElem?_eq_some_iff.mp a1).1, a2, a3, a4, a5, a6⟩⟩
      · rw [og_set_ne _ _ h1] at he
        by_cases h0 : a = 0
        · subst h0
          rw [og_set_eq] at he
          cases he
          obtain ⟨cell, a1, a2, a3, a4, a5⟩ := hX
          exact ⟨by omega, fun q => absurd q (by omega), fun _ => ⟨L, _, cell, rfl, a1, hb, a2, a3, Nat.le_of_eq a4.symm, by rw [a4], a5⟩⟩
        · rw [og_set_ne _ _ h0] at he
          cases he
  · exact (og_set_ne _ _ (by omega)).trans ((og_set_ne _ _ (by omega)).trans (og_set_eq _ _ _))
  · exact (og_set_ne _ _ (by omega)).trans (og_set_eq _ _ _)
