/-! ===== the model: euclid ===== -/
theorem q_okS_0 (o : Nat) : q_okS o 0 := by
  by_cases h : o = 0
  · exact Or.inl ⟨h, rfl⟩
  · refine Or.inr ⟨h, Or.inl ?_⟩
    rw [q_its, show nI 0 = 0 from rfl, q_if_t _ _ (Or.inl (Int32.zero_and))]
theorem q_dvS_ind (N : Int64) (kp : Nat → Int64) (o : Nat) (q0 q1 : Nat → Int64) (w : Nat) : q_dvS N kp o q0 (w + 1) = q_dvS N kp o q1 (w + 1) := by
  induction w with
  | zero =>
    have b : ∀ q, q_btr N kp 0 (q_dvS N kp o q 0) := fun q => Or.inl (show (-1 : Int64) < 0 by decide)
    rw [q_dvS_new (q_okS_0 o) (b q0), q_dvS_new (q_okS_0 o) (b q1)]
  | succ w ih =>
    show q_if (q_okS o (w + 1)) (q_if (q_btr N kp (w + 1) (q_dvS N kp o q0 (w + 1))) (q_frr N kp (q_ner N kp (w + 1)) 8, q_ner N kp (w + 1)) (q_dvS N kp o q0 (w + 1))) (q_dvS N kp o q0 (w + 1)) = q_if (q_okS o (w + 1)) (q_if (q_btr N kp (w + 1) (q_dvS N kp o q1 (w + 1))) (q_frr N kp (q_ner N kp (w + 1)) 8, q_ner N kp (w + 1)) (q_dvS N kp o q1 (w + 1))) (q_dvS N kp o q1 (w + 1))
    rw [ih]
theorem q_quo2_ind (f g q0 q1 : Nat → Int64) (o : Nat) : q_quo2 f g q0 o = q_quo2 f g q1 o := by
  unfold q_quo2
  rw [q_dvS_ind (q_inner g g 8) (q_prod f (q_mirror g)) o q0 q1 255]
theorem q_rem2_ind (f g q0 q1 : Nat → Int64) (o : Nat) : q_rem2 f g q0 o = q_rem2 f g q1 o := by
  unfold q_rem2
  rw [q_quo2_ind f g q0 q1 o]
noncomputable def m_quo (f g : Nat → Int64) (o : Nat) : Nat → Int64 := q_quo2 f g (fun _ => 0) o
noncomputable def m_rem (f g : Nat → Int64) (o : Nat) : Nat → Int64 := q_rem2 f g (fun _ => 0) o
noncomputable def q_eu2 (f g : Nat → Int64) (o : Nat) : Nat → (Nat → Int64) × (Nat → Int64)
  | 0 => (f, g)
  | k + 1 => ((q_eu2 f g o k).2, m_rem (q_eu2 f g o k).1 (q_eu2 f g o k).2 o)
def q_nrm (f : Nat → Int64) : Int64 := q_inner f f 8
def m_wLs (M : q_M) (ls : Int64) : q_M := m_wO M (m_ps M) (m_ty M) (m_rf M) (m_la M) (m_un M) ls (m_dp M) (m_wl M) (m_ct M)
def q_mx (a b : Nat → Int64) (i : Nat) : Nat → Int64 := fun j => if j < i then a j else b j
