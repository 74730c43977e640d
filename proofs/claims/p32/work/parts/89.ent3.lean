/-! ===== the law: strings and Throwable's statics at its entry ===== -/
theorem law_str {args : Array Value} {s : State} (hts : ∀ w ∈ lw_tbl, w.before args s = true) (hg : ∀ q ∈ og_strs, (Cond.exactly (.string q.1 q.2.1) "java/lang/String").before args s = true) : ∀ q ∈ og_strs, ∃ sa : Nat, vk_R q.1 q.2.1 q.2.2 sa s := fun q hq => by
  obtain ⟨a, c, cell, k, h1, -⟩ := Cond.exactly_spec (hg q hq)
  exact ⟨a, vk_R.of (hts (.stringRef q.1 q.2.1 q.2.2) ((by decide +kernel : ∀ q ∈ og_strs, Cond.stringRef q.1 q.2.1 q.2.2 ∈ lw_tbl) q hq)) h1⟩
theorem law_thr {args : Array Value} {s : State} {A : Nat → Prop} (hts : ∀ w ∈ lw_tbl, w.before args s = true) (h1 : (Cond.isRef (.static Bundle.tN "UNASSIGNED_STACK" Bundle.steD)).before args s = true) (h2 : (Cond.isRef (.static Bundle.tN "SUPPRESSED_SENTINEL" Bundle.listD)).before args s = true) (hA : ∀ a : Nat, a < s.heap.size → ¬ A a) : vx_Zq Bundle.tN "UNASSIGNED_STACK" Bundle.steD A s s.heap ∧ vx_Zq Bundle.tN "SUPPRESSED_SENTINEL" Bundle.listD A s s.heap :=
  ⟨vx_Zqof (hts (.laysStatic Bundle.tN "UNASSIGNED_STACK" Bundle.steD) (by decide +kernel)) (hts (.initialized Bundle.tN) (by decide +kernel)) h1 hA, vx_Zqof (hts (.laysStatic Bundle.tN "SUPPRESSED_SENTINEL" Bundle.listD) (by decide +kernel)) (hts (.initialized Bundle.tN) (by decide +kernel)) h2 hA⟩
/-- what the Statement gives of the start, as the world wants it -/
theorem law_given {args : Array Value} {s : State} (h : (Jvm.Cond.and given_1 narrow_1).before args s = true) : (∀ c ∈ og_exc, ∀ c2 ∈ og_exc, c ≠ c2 → (Cond.not (.castable c c2)).before args s = true) ∧ (∀ q ∈ og_strs, (Cond.exactly (.string q.1 q.2.1) "java/lang/String").before args s = true) ∧ (Cond.isRef (.static Bundle.tN "UNASSIGNED_STACK" Bundle.steD)).before args s = true ∧ (Cond.isRef (.static Bundle.tN "SUPPRESSED_SENTINEL" Bundle.listD)).before args s = true ∧ (Cond.isRef (.static RX3 "TRIPLES" "[I")).before args s = true ∧ (Cond.isRef (.static RX2 "SETS" "[I")).before args s = true ∧ (Cond.arrayOf (.static RX3 "TRIPLES" "[I") .int).before args s = true ∧ (Cond.arrayOf (.static RX2 "SETS" "[I") .int).before args s = true := by
  have hs := flat_of_before _ h
  refine ⟨fun c hc c2 hc2 hn => hs _ ?_, fun q hq => hs _ ?_, hs _ (by decide +kernel), hs _ (by decide +kernel), hs _ (by decide +kernel), hs _ (by decide +kernel), hs _ (by decide +kernel), hs _ (by decide +kernel)⟩
  · simp only [og_exc, List.mem_cons, List.not_mem_nil, or_false] at hc hc2
    rcases hc with rfl | rfl | rfl | rfl <;> rcases hc2 with rfl | rfl | rfl | rfl <;> first | exact absurd rfl hn | decide +kernel
  · simp only [og_strs, List.mem_cons, List.not_mem_nil, or_false] at hq
    rcases hq with rfl | rfl | rfl | rfl | rfl | rfl | rfl | rfl | rfl <;> decide +kernel
