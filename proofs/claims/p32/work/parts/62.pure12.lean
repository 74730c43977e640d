/-! ===== pure 12 ===== -/
def insR (x : Nat) : List Nat → List Nat
  | [] => [x]
  | y :: ys => if x < y then y :: insR x ys else x :: y :: ys
theorem insR_len (x : Nat) : ∀ l, (insR x l).length = l.length + 1
  | [] => rfl
  | y :: ys => by
    unfold insR
    by_cases h : x < y
    · rw [if_pos h, List.length_cons, insR_len x ys, List.length_cons]
    · rw [if_neg h]; rfl
theorem insR_mem {x B : Nat} (hx : x < B) : ∀ l, (∀ y ∈ l, y < B) → ∀ y ∈ insR x l, y < B
  | [], _, y, hy => by
    rw [List.mem_singleton.mp hy]
    exact hx
  | z :: zs, h, y, hy => by
    unfold insR at hy
    by_cases q : x < z
    · rw [if_pos q] at hy
      rcases List.mem_cons.mp hy with e | e
      · rw [e]; exact h z List.mem_cons_self
      · exact insR_mem hx zs (fun t ht => h t (List.mem_cons_of_mem _ ht)) y e
    · rw [if_neg q] at hy
      rcases List.mem_cons.mp hy with e | e
      · rw [e]; exact hx
      · exact h y e
/-- the row's first cells, from behind -/
def zrep (l : List Nat) (c : Nat → Int32) : Prop := ∀ i, i < l.length → c (l.length - 1 - i) = nI (l.getD i 0)
theorem q_ins_rep (x : Nat) (hx : x < 2147483648) : ∀ (l : List Nat) (c : Nat → Int32), (∀ y ∈ l, y < 2147483648) → zrep l c → zrep (insR x l) (q_ins (nI x) l.length c) ∧ ∀ j, l.length < j → q_ins (nI x) l.length c j = c j
  | [], c, _, _ => ⟨fun i hi => by
      have : i = 0 := by simp [insR] at hi; omega
      subst this
      show upd c 0 (nI x) 0 = nI x
      exact if_pos rfl, fun j hj => by
      have hj : 0 < j := hj
      show upd c 0 (nI x) j = c j
      exact if_neg (by omega)⟩
  | y :: ys, c, hb, h => by
    have hy : y < 2147483648 := hb y List.mem_cons_self
    have hl : (y :: ys).length = ys.length + 1 := rfl
    have ht : c ys.length = nI y := by
      have := h 0 (by rw [hl]; omega)
      rw [hl, show ys.length + 1 - 1 - 0 = ys.length by omega] at this
      exact this
    have hr : ∀ i, i < ys.length → c (ys.length - 1 - i) = nI (ys.getD i 0) := fun i hi => by
      have := h (i + 1) (by rw [hl]; omega)
      rw [hl, show ys.length + 1 - 1 - (i + 1) = ys.length - 1 - i by omega] at this
      exact this
    rw [hl, q_ins, ht]
    unfold insR
    by_cases q : x < y
    · rw [if_pos ((nI_ltI hx hy).mpr q), if_pos q]
      have ih := q_ins_rep x hx ys (upd c (ys.length + 1) (nI y)) (fun t ht => hb t (List.mem_cons_of_mem _ ht)) (fun i hi => by
        rw [← hr i hi]
        exact if_neg (by omega))
      refine ⟨fun i hi => ?_, fun j hj => ?_⟩
      · rw [List.length_cons, insR_len] at hi ⊢
        cases i with
        | zero =>
          rw [show ys.length + 1 + 1 - 1 - 0 = ys.length + 1 by omega, ih.2 _ (by omega)]
          exact if_pos rfl
        | succ i =>
          have := ih.1 i (by rw [insR_len]; omega)
          rw [insR_len] at this
          rw [show ys.length + 1 + 1 - 1 - (i + 1) = ys.length + 1 - 1 - i by omega, this]
          rfl
      · rw [ih.2 j (by omega)]
        exact if_neg (by omega)
    · rw [if_neg (fun z => q ((nI_ltI hx hy).mp z)), if_neg q]
      refine ⟨fun i hi => ?_, fun j hj => if_neg (by omega)⟩
      rw [List.length_cons, List.length_cons] at hi ⊢
      cases i with
      | zero =>
        rw [show ys.length + 1 + 1 - 1 - 0 = ys.length + 1 by omega]
        exact if_pos rfl
      | succ i =>
        rw [show ys.length + 1 + 1 - 1 - (i + 1) = ys.length - i by omega]
        have e : upd c (ys.length + 1) (nI x) (ys.length - i) = c (ys.length - i) := if_neg (by omega)
        rw [e]
        have := h i (by rw [hl]; omega)
        rw [hl, show ys.length + 1 - 1 - i = ys.length - i by omega] at this
        exact this
def zr2 (s : Nat × (Nat → Int32)) (l : List Nat) : Prop := s.1 = l.length ∧ zrep l s.2 ∧ ∀ y ∈ l, y < 2147483648
theorem zr2_in {N x : Nat} {s : Nat × (Nat → Int32)} {l : List Nat} (h : zr2 s l) (hN : l.length < N) (hx : x < 2147483648) : zr2 (q_in N (nI x) s) (insR x l) := by
  obtain ⟨h1, h2, h3⟩ := h
  unfold q_in
  rw [if_pos (by omega)]
  refine ⟨by rw [insR_len]; show s.1 + 1 = _; omega, ?_, insR_mem hx l h3⟩
  show zrep (insR x l) (q_ins (nI x) s.1 s.2)
  rw [h1]
  exact (q_ins_rep x hx l s.2 h3 h2).1
def popN (w : Nat) : Nat := w % 2 + w / 2 % 2 + w / 4 % 2 + w / 8 % 2 + w / 16 % 2 + w / 32 % 2 + w / 64 % 2 + w / 128 % 2
def cPN (i : Nat) : Nat := 4793490 + 2 * 8 ^ (7 - i)
def cMN (i : Nat) : Nat := 4793490 - 2 * 8 ^ (7 - i)
/-- the code of the row with these odd places and signs, from the place i on -/
def cSN (w : Nat) : Nat → Nat → Nat → Nat → Nat
  | 0, _, _, c => c
  | n + 1, i, t, c => if w / 2 ^ i % 2 = 0 then cSN w n (i + 1) t (8 * c + 2) else cSN w n (i + 1) (t / 2) (8 * c + (if t % 2 = 0 then 3 else 1))
def cN (o m t : Nat) : Nat := cSN (osN o m) 8 0 t 0
def l1 : Nat → List Nat
  | 0 => []
  | i + 1 => insR (cMN i) (insR (cPN i) (l1 i))
def l2 (o m : Nat) (s : List Nat) : Nat → List Nat
  | 0 => s
  | t + 1 => insR (cN o m t) (l2 o m s t)
def l3 (o : Nat) : Nat → List Nat
  | 0 => l1 8
  | m + 1 => if popN (osN o m) = 4 then l2 o m (l3 o m) 16 else l3 o m
theorem z_c1 : ∀ i, i < 8 → q_code (q_e2 i 2) 8 = nI (cPN i) ∧ q_code (q_e2 i (-2)) 8 = nI (cMN i) ∧ cPN i < 2147483648 ∧ cMN i < 2147483648 := by decide +kernel
theorem z_pop : ∀ o, o < 8 → ∀ m, m < q_sets o → (q_bc (q_os o m) = 4 ↔ popN (osN o m) = 4) := by decide +kernel
theorem z_c2 : ∀ o, o < 8 → ∀ m, m < q_sets o → popN (osN o m) = 4 → ∀ t, t < 16 → q_code (q_spr (q_os o m) (nI t)) 8 = nI (cN o m t) ∧ cN o m t < 2147483648 := by decide +kernel

