/-! ===== the law: the whole run, from the machine's entry ===== -/
theorem law_run {p : Program} {e : Env} {s : State} {m : MethodId} {below : List Frame} {meth : Method} {c : Code} (l : Launch) (hst : l.stackTraces = false) {b L : Nat} {xs : Nat → Int32} (hL : L ≤ 3584) (hx : p.tables.exec = Jvm.exec) (hb : c.code = code) (hml : c.maxLocals = 8) (hown : s.vm.findClass RL = some m.cls) (hts : ∀ w ∈ lw_tbl, w.before #[Value.ref b] s = true) (hX : va_X b L xs s s.heap) (hbl : b < s.heap.size) (hlocks : meth.locks = false) (hg : (Jvm.Cond.and given_1 narrow_1).before #[Value.ref b] s = true) {R : Room} {Q : State → Prop} (hR : 72 ≤ R.frames ∧ 2600 ≤ R.locals ∧ 603072 ≤ R.cells ∧ 7194729 ≤ R.slots)
    (HA : ∀ E : og_E, lawStep E (p, l, e, R, s, m, #[Value.ref b], below, meth, c) Q 60 603072 7194729 L xs 1581) (HD : ∀ E : og_E, lawStep E (p, l, e, R, s, m, #[Value.ref b], below, meth, c) Q 60 603072 7194729 L xs 1450)
    (kend : ∀ (H : Heap) (ls : Array Slot), W p l e R s m #[Value.ref b] below meth c H [] 603072 7194729 Q (F0 m 2061 ls [.int 1])) :
    W p l e R s m #[Value.ref b] below meth c s.heap [] 0 0 Q (entryFrame m ([Value.ref b] : List Value).toArray 8) := by
  obtain ⟨E, h, hSt, hWd, h0, h1, h2, hr0, hbE⟩ := law_world hts hg hX hbl
  have C : og_C E RL code 60 603072 7194729 8 (p, l, e, R, s, m, #[Value.ref b], below, meth, c) := ⟨hx, hb, hml, hown, fun w hw => hts w (List.mem_filter.mp hw).1, hlocks, hSt, hst, hR⟩
  have fin : ∀ (cells slots n : Nat) (h : og_H) (lv : List (Option Value)), cells ≤ 603072 → slots ≤ 7194729 → og_G E RL cL_law 60 603072 7194729 8 (p, l, e, R, s, m, #[Value.ref b], below, meth, c) Q cells slots n h 2060 lv [] := by
    intro cells slots n h lv hc hs
    refine og_iconst (pc := 2060) (v := 1) dL_law_2060 (by decide) ?_
    intro C H locs ls hW hS hL
    exact va_forget (fun q hq => by have := hS.2.2 q hq; unfold og_A at this; rw [hbE] at this; exact this) (W.widen hc hs (kend H ls))
  have g := law_enter (E := E) (X := (p, l, e, R, s, m, #[Value.ref b], below, meth, c)) (Q := Q) (d := 60) (mc := 603072) (ms := 7194729) h0 h1 h2 hL (by omega) (by decide) (by decide) (HA E) (HD E) fin
  have hl2 := lv_entry ([Value.ref b]) (n := 8) (Nat.le_of_ble_eq_true rfl)
  rw [lg_entry_eq]
  refine g C s.heap [] _ hWd va_S.rf ⟨hl2.1, rfl, hl2.2.1, fun i v hv => ?_⟩
  match i, hv with
  | 0, hv =>
    cases hv
    show _ = some (Slot.val (.ref (og_rho E 0)))
    rw [hr0]
    exact hl2.2.2 (0, .ref b) List.mem_cons_self
  | 1, hv => cases hv
  | 2, hv => cases hv
  | 3, hv => cases hv
  | 4, hv => cases hv
  | 5, hv => cases hv
  | 6, hv => cases hv
  | 7, hv => cases hv
  | i + 8, hv => cases hv
