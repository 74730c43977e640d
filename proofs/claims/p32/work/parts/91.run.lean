/-! ===== the law: the whole run, from the machine's entry ===== -/
theorem law_run {p : Program} {e : Env} {s : State} {m : MethodId} {below : List Frame} {meth : Method} {c : Code} (l : Launch) (hst : l.stackTraces = false) {b L : Nat} {xs : Nat → Int32} (hL : L ≤ 260) (hx : p.tables.exec = Jvm.exec) (hb : c.code = cL_law) (hml : c.maxLocals = 9) (hown : s.vm.findClass RL = some m.cls) (hts : ∀ w ∈ lw_tbl, w.before #[Value.ref b] s = true) (hX : va_X b L xs s s.heap) (hbl : b < s.heap.size) (hlocks : meth.locks = false) (hg : (Jvm.Cond.and given_1 narrow_1).before #[Value.ref b] s = true) {R : Room} {Q : State → Prop} {MC MS : Nat} (hMC : 120000 ≤ MC) (hMS : 1100000 ≤ MS) (hR : 20 ≤ R.frames ∧ 520 ≤ R.locals ∧ 120000 ≤ R.cells ∧ 1100000 ≤ R.slots)
    (kend : ∀ (H : Heap) (ls : Array Slot), W p l e R s m #[Value.ref b] below meth c H [] MC MS Q (F0 m 260 ls [.int 1])) :
    W p l e R s m #[Value.ref b] below meth c s.heap [] 0 0 Q (entryFrame m ([Value.ref b] : List Value).toArray 9) := by
  obtain ⟨E, h, hSt, hWd, h0, h1, h2, hr0, hbE⟩ := law_world hts hg hX hbl
  have C : og_C E RL cL_law 8 120000 1100000 9 (p, l, e, R, s, m, #[Value.ref b], below, meth, c) := ⟨hx, hb, hml, hown, fun w hw => hts w (List.mem_filter.mp hw).1, hlocks, hSt, hst, hR⟩
  have fin : ∀ (cells slots n : Nat) (h : og_H) (lv : List (Option Value)), cells ≤ 120000 → slots ≤ 1100000 → og_G E RL cL_law 8 120000 1100000 9 (p, l, e, R, s, m, #[Value.ref b], below, meth, c) Q cells slots n h 260 lv [.int 1] := by
    intro cells slots n h lv hc hs C H locs ls hW hS hL
    exact va_forget (fun q hq => by have := hS.2.2 q hq; unfold og_A at this; rw [hbE] at this; exact this) (W.widen (Nat.le_trans hc hMC) (Nat.le_trans hs hMS) (kend H ls))
  have g := law_enter (E := E) (X := (p, l, e, R, s, m, #[Value.ref b], below, meth, c)) (Q := Q) (d := 8) (mc := 120000) (ms := 1100000) h0 h1 h2 hL (by decide) (Nat.le_refl _) (Nat.le_refl _) fin
  have hl2 := lv_entry ([Value.ref b]) (n := 9) (Nat.le_of_ble_eq_true rfl)
  rw [lg_entry_eq]
  refine g C s.heap [] _ hWd va_S.rf ⟨hl2.1, rfl, hl2.2.1, fun i v hv => ?_⟩
  match i, hv with
  | 0, hv =>
    cases hv
    show _ = some (Slot.val (.ref (og_rho E 0)))
    rw [hr0]
    exact hl2.2.2 (0, .ref b) List.mem_cons_self
  | 1, hv => cases hv
  | 2, hv => cases hv
  | 3, hv => cases hv
  | 4, hv => cases hv
  | 5, hv => cases hv
  | 6, hv => cases hv
  | 7, hv => cases hv
  | 8, hv => cases hv
  | i + 9, hv => cases hv
