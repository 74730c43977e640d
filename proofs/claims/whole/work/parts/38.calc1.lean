/-! ===== the calculator: what it answers ===== -/
abbrev v_T : Type := (Nat → Int64) × Nat × Int32
noncomputable def v_quo (bf : Nat → Int32) (L : Nat) : Nat → (Nat → Int64) → Nat → (Nat → Int64) × Nat
  | 0, f, c => (f, c)
  | m + 1, f, c => q_if (q_at bf L c = 39) (v_quo bf L m (q_mirror f) (c + 1)) (f, c)
noncomputable def v_dc (bf : Nat → Int32) (L c : Nat) : Nat := q_if (q_digit (q_at bf L c)) (c + 1) c
noncomputable def v_dt (bf : Nat → Int32) (L c : Nat) : Int32 := q_if (q_digit (q_at bf L c)) (q_at bf L c - 48) 1
noncomputable def v_fin (bf : Nat → Int32) (L : Nat) (t : Int32) (q : v_T) : Option v_T := q_if (q_fitx 0 (q_scale (v_quo bf L 100 q.1 q.2.1).1 t.toInt64)) (some (q_fv 0 (q_scale (v_quo bf L 100 q.1 q.2.1).1 t.toInt64), (v_quo bf L 100 q.1 q.2.1).2, q.2.2)) none
noncomputable def v_fac (bf : Nat → Int32) (L : Nat) (op : Nat → Int32 → Option v_T) (c : Nat) (p : Int32) : Option v_T :=
  match op (v_dc bf L c) p with
  | none => none
  | some q => v_fin bf L (v_dt bf L c) q
noncomputable def v_tl (bf : Nat → Int32) (L : Nat) (op : Nat → Int32 → Option v_T) : Nat → (Nat → Int64) → Nat → Int32 → Option v_T
  | 0, f, c, p => some (f, c, p)
  | m + 1, f, c, p => q_if (q_at bf L c = 42) (match v_fac bf L op (c + 1) p with
      | none => none
      | some q => q_if (q_fitx 1 (q_prod f q.1)) (v_tl bf L op m (q_fv 1 (q_prod f q.1)) q.2.1 (q.2.2 + 1)) none) (some (f, c, p))
noncomputable def v_term (bf : Nat → Int32) (L : Nat) (op : Nat → Int32 → Option v_T) (c : Nat) (p : Int32) : Option v_T :=
  match v_fac bf L op c p with
  | none => none
  | some q => v_tl bf L op 100 q.1 q.2.1 q.2.2
noncomputable def v_sg (bf : Nat → Int32) (L c : Nat) : Int32 := q_if (q_at bf L c = 45) 1 0
noncomputable def v_sl (bf : Nat → Int32) (L : Nat) (op : Nat → Int32 → Option v_T) : Nat → (Nat → Int64) → Nat → Int32 → Option v_T
  | 0, f, c, p => some (f, c, p)
  | m + 1, f, c, p => q_if (q_at bf L c = 43 ∨ q_at bf L c = 45) (match v_term bf L op (c + 1) p with
      | none => none
      | some q => q_if (q_fitx 0 (q_total f q.1 (v_sg bf L c))) (v_sl bf L op m (q_fv 0 (q_total f q.1 (v_sg bf L c))) q.2.1 q.2.2) none) (some (f, c, p))
noncomputable def v_sum (bf : Nat → Int32) (L : Nat) (op : Nat → Int32 → Option v_T) (c : Nat) (p : Int32) : Option v_T :=
  match v_term bf L op c p with
  | none => none
  | some q => v_sl bf L op 100 q.1 q.2.1 q.2.2
def v_li (x : Int32) : Nat := (x.toInt - 97).toNat
theorem v_li_lt {x : Int32} (h : q_letter x) : v_li x < 8 ∧ x - 97 = nI (v_li x) := by
  have h1 := Int32.le_iff_toInt_le.mp h.1
  have h2 := Int32.le_iff_toInt_le.mp h.2
  rw [show (97 : Int32).toInt = 97 from rfl] at h1
  rw [show (104 : Int32).toInt = 104 from rfl] at h2
  unfold v_li
  refine ⟨by omega, ?_⟩
  have e : x = nI (v_li x) + 97 := by
    apply Int32.toInt_inj.mp
    rw [show (97 : Int32) = nI 97 from rfl, nI_add, nI_toInt (by unfold v_li; omega)]
    unfold v_li
    omega
  rw [show (x.toInt - 97).toNat = v_li x from rfl]
  rw [e]
  have e2 : v_li (nI (v_li x) + 97) = v_li x := by rw [← e]
  rw [e2]
  exact Int32.add_sub_cancel _ _
noncomputable def v_up (q : Option v_T) : Option v_T := match q with
  | none => none
  | some q => some (q.1, q.2.1 + 1, q.2.2)
/-- an operand, with k depths left below it -/
noncomputable def v_op (R : Nat → Nat → Int64) (bf : Nat → Int32) (L : Nat) : Nat → Nat → Int32 → Option v_T
  | 0, c, p => q_if (q_letter (q_at bf L c)) (some (R (v_li (q_at bf L c)), c + 1, p)) none
  | k + 1, c, p => q_if (q_letter (q_at bf L c)) (some (R (v_li (q_at bf L c)), c + 1, p)) (q_if (q_at bf L c = 40) (v_up (v_sum bf L (v_op R bf L k) (c + 1) p)) none)
theorem q_at_lt {bf : Nat → Int32} {L c : Nat} (h : q_at bf L c ≠ 0) : c < L := by
  unfold q_at at h
  by_cases q : c < L
  · exact q
  · rw [if_neg q] at h
    exact absurd rfl h
theorem v_quo_le (bf : Nat → Int32) (L B : Nat) (hL : L ≤ B) : ∀ (m : Nat) (f : Nat → Int64) (c : Nat), c ≤ B → (v_quo bf L m f c).2 ≤ B
  | 0, f, c, h => h
  | m + 1, f, c, h => by
    rw [v_quo]
    by_cases q : q_at bf L c = 39
    · rw [q_if_t _ _ q]
      have := q_at_lt (bf := bf) (L := L) (c := c) (by rw [q]; decide)
      exact v_quo_le bf L B hL m _ (c + 1) (by omega)
    · rw [q_if_f _ _ q]
      exact h
theorem v_fac_le {bf : Nat → Int32} {L B : Nat} {op : Nat → Int32 → Option v_T} (hL : L ≤ B) (hop : ∀ c p q, op c p = some q → q.2.1 ≤ B) {c : Nat} {p : Int32} {q : v_T} (h : v_fac bf L op c p = some q) : q.2.1 ≤ B := by
  unfold v_fac at h
  cases ho : op (v_dc bf L c) p with
  | none => rw [ho] at h; cases h
  | some q1 =>
    rw [ho] at h
    have h : v_fin bf L (v_dt bf L c) q1 = some q := h
    unfold v_fin at h
    by_cases z : q_fitx 0 (q_scale (v_quo bf L 100 q1.1 q1.2.1).1 (v_dt bf L c).toInt64)
    · rw [q_if_t _ _ z] at h
      cases h
      exact v_quo_le bf L B hL 100 _ _ (hop _ _ _ ho)
    · rw [q_if_f _ _ z] at h
      cases h
theorem v_tl_le {bf : Nat → Int32} {L B : Nat} {op : Nat → Int32 → Option v_T} (hL : L ≤ B) (hop : ∀ c p q, op c p = some q → q.2.1 ≤ B) : ∀ (m : Nat) (f : Nat → Int64) (c : Nat) (p : Int32) (q : v_T), c ≤ B → v_tl bf L op m f c p = some q → q.2.1 ≤ B
  | 0, f, c, p, q, hc, h => by cases h; exact hc
  | m + 1, f, c, p, q, hc, h => by
    rw [v_tl] at h
    by_cases z : q_at bf L c = 42
    · rw [q_if_t _ _ z] at h
      cases hf : v_fac bf L op (c + 1) p with
      | none => rw [hf] at h; cases h
      | some q1 =>
        rw [hf] at h
        have h : q_if (q_fitx 1 (q_prod f q1.1)) (v_tl bf L op m (q_fv 1 (q_prod f q1.1)) q1.2.1 (q1.2.2 + 1)) none = some q := h
        by_cases y : q_fitx 1 (q_prod f q1.1)
        · rw [q_if_t _ _ y] at h
          exact v_tl_le hL hop m _ _ _ q (v_fac_le hL hop hf) h
        · rw [q_if_f _ _ y] at h
          cases h
    · rw [q_if_f _ _ z] at h
      cases h
      exact hc
theorem v_term_le {bf : Nat → Int32} {L B : Nat} {op : Nat → Int32 → Option v_T} (hL : L ≤ B) (hop : ∀ c p q, op c p = some q → q.2.1 ≤ B) {c : Nat} {p : Int32} {q : v_T} (h : v_term bf L op c p = some q) : q.2.1 ≤ B := by
  unfold v_term at h
  cases hf : v_fac bf L op c p with
  | none => rw [hf] at h; cases h
  | some q1 =>
    rw [hf] at h
    exact v_tl_le hL hop 100 _ _ _ q (v_fac_le hL hop hf) h
theorem v_sl_le {bf : Nat → Int32} {L B : Nat} {op : Nat → Int32 → Option v_T} (hL : L ≤ B) (hop : ∀ c p q, op c p = some q → q.2.1 ≤ B) : ∀ (m : Nat) (f : Nat → Int64) (c : Nat) (p : Int32) (q : v_T), c ≤ B → v_sl bf L op m f c p = some q → q.2.1 ≤ B
  | 0, f, c, p, q, hc, h => by cases h; exact hc
  | m + 1, f, c, p, q, hc, h => by
    rw [v_sl] at h
    by_cases z : q_at bf L c = 43 ∨ q_at bf L c = 45
    · rw [q_if_t _ _ z] at h
      cases hf : v_term bf L op (c + 1) p with
      | none => rw [hf] at h; cases h
      | some q1 =>
        rw [hf] at h
        have h : q_if (q_fitx 0 (q_total f q1.1 (v_sg bf L c))) (v_sl bf L op m (q_fv 0 (q_total f q1.1 (v_sg bf L c))) q1.2.1 q1.2.2) none = some q := h
        by_cases y : q_fitx 0 (q_total f q1.1 (v_sg bf L c))
        · rw [q_if_t _ _ y] at h
          exact v_sl_le hL hop m _ _ _ q (v_term_le hL hop hf) h
        · rw [q_if_f _ _ y] at h
          cases h
    · rw [q_if_f _ _ z] at h
      cases h
      exact hc
theorem v_sum_le {bf : Nat → Int32} {L B : Nat} {op : Nat → Int32 → Option v_T} (hL : L ≤ B) (hop : ∀ c p q, op c p = some q → q.2.1 ≤ B) {c : Nat} {p : Int32} {q : v_T} (h : v_sum bf L op c p = some q) : q.2.1 ≤ B := by
  unfold v_sum at h
  cases hf : v_term bf L op c p with
  | none => rw [hf] at h; cases h
  | some q1 =>
    rw [hf] at h
    exact v_sl_le hL hop 100 _ _ _ q (v_term_le hL hop hf) h
theorem v_let_ne {x : Int32} (h : q_letter x) : x ≠ 0 := by
  intro e
  rw [e] at h
  exact absurd h.1 (by decide)
theorem v_op_le (R : Nat → Nat → Int64) (bf : Nat → Int32) (L : Nat) : ∀ (k : Nat) (c : Nat) (p : Int32) (q : v_T), v_op R bf L k c p = some q → q.2.1 ≤ L + k
  | 0, c, p, q, h => by
    rw [v_op] at h
    by_cases z : q_letter (q_at bf L c)
    · rw [q_if_t _ _ z] at h
      cases h
      exact q_at_lt (v_let_ne z)
    · rw [q_if_f _ _ z] at h
      cases h
  | k + 1, c, p, q, h => by
    rw [v_op] at h
    by_cases z : q_letter (q_at bf L c)
    · rw [q_if_t _ _ z] at h
      cases h
      have := q_at_lt (v_let_ne z)
      show c + 1 ≤ L + (k + 1)
      omega
    · rw [q_if_f _ _ z] at h
      by_cases y : q_at bf L c = 40
      · rw [q_if_t _ _ y] at h
        cases hs : v_sum bf L (v_op R bf L k) (c + 1) p with
        | none => rw [hs] at h; cases h
        | some q1 =>
          rw [hs] at h
          cases h
          have := v_sum_le (B := L + k) (by omega) (fun c p q => v_op_le R bf L k c p q) hs
          show q1.2.1 + 1 ≤ L + (k + 1)
          omega
      · rw [q_if_f _ _ y] at h
        cases h
