/-! ===== the law: one step, both sides (left) ===== -/
theorem z_l0 (F : Nat → Int64) (j : Nat) : ∀ i, i < 8 → j < 8 → ∃ k, k < 8 ∧ q_to (8 * k + j) = i ∧ (∀ t, t < 8 → q_to (8 * t + j) = i → t = k) ∧ (q_prod F (vp_updL (fun _ => 0) j 1) i).toInt32 = q_sg (8 * k + j) * (F k).toInt32 := by
  intro i hi hj
  have P : ∀ x : Int64, x * 0 = 0 := fun x => by grind
  have Q : ∀ x : Int64, x * 1 = x := fun x => by grind
  have A : ∀ x : Int64, 0 + x = x := fun x => by grind
  have B : ∀ x : Int64, x + 0 = x := fun x => by grind
  have C : ∀ x : Int64, x - 0 = x := fun x => by grind
  have S : ∀ x : Int64, 0 - x = -x := fun x => by grind
  have N : ∀ x : Int32, (-1) * x = -x := fun x => by grind
  have O : ∀ x : Int32, 1 * x = x := fun x => by grind
  have G : ∀ x : Int64, (-x).toInt32 = -x.toInt32 := fun x => by rw [Int64.toInt32_neg]
  match i, hi, j, hj with
  | 0, _, 0, _ =>
    have e : q_prod F (vp_updL (fun _ => 0) 0 1) 0 = F 0 := by
      show F 0 * (1 : Int64) - F 1 * (0 : Int64) - F 2 * (0 : Int64) - F 3 * (0 : Int64) - F 4 * (0 : Int64) - F 5 * (0 : Int64) - F 6 * (0 : Int64) - F 7 * (0 : Int64) = _
      simp only [P, Q, A, B, C, S]
    exact ⟨0, by decide, by decide, by decide, by rw [e]; exact (O _).symm⟩
  | 0, _, 1, _ =>
    have e : q_prod F (vp_updL (fun _ => 0) 1 1) 0 = -F 1 := by
      show F 0 * (0 : Int64) - F 1 * (1 : Int64) - F 2 * (0 : Int64) - F 3 * (0 : Int64) - F 4 * (0 : Int64) - F 5 * (0 : Int64) - F 6 * (0 : Int64) - F 7 * (0 : Int64) = _
      simp only [P, Q, A, B, C, S]
    exact ⟨1, by decide, by decide, by decide, by rw [e]; exact (G _).trans (N _).symm⟩
  | 0, _, 2, _ =>
    have e : q_prod F (vp_updL (fun _ => 0) 2 1) 0 = -F 2 := by
      show F 0 * (0 : Int64) - F 1 * (0 : Int64) - F 2 * (1 : Int64) - F 3 * (0 : Int64) - F 4 * (0 : Int64) - F 5 * (0 : Int64) - F 6 * (0 : Int64) - F 7 * (0 : Int64) = _
      simp only [P, Q, A, B, C, S]
    exact ⟨2, by decide, by decide, by decide, by rw [e]; exact (G _).trans (N _).symm⟩
  | 0, _, 3, _ =>
    have e : q_prod F (vp_updL (fun _ => 0) 3 1) 0 = -F 3 := by
      show F 0 * (0 : Int64) - F 1 * (0 : Int64) - F 2 * (0 : Int64) - F 3 * (1 : Int64) - F 4 * (0 : Int64) - F 5 * (0 : Int64) - F 6 * (0 : Int64) - F 7 * (0 : Int64) = _
      simp only [P, Q, A, B, C, S]
    exact ⟨3, by decide, by decide, by decide, by rw [e]; exact (G _).trans (N _).symm⟩
  | 0, _, 4, _ =>
    have e : q_prod F (vp_updL (fun _ => 0) 4 1) 0 = -F 4 := by
      show F 0 * (0 : Int64) - F 1 * (0 : Int64) - F 2 * (0 : Int64) - F 3 * (0 : Int64) - F 4 * (1 : Int64) - F 5 * (0 : Int64) - F 6 * (0 : Int64) - F 7 * (0 : Int64) = _
      simp only [P, Q, A, B, C, S]
    exact ⟨4, by decide, by decide, by decide, by rw [e]; exact (G _).trans (N _).symm⟩
  | 0, _, 5, _ =>
    have e : q_prod F (vp_updL (fun _ => 0) 5 1) 0 = -F 5 := by
      show F 0 * (0 : Int64) - F 1 * (0 : Int64) - F 2 * (0 : Int64) - F 3 * (0 : Int64) - F 4 * (0 : Int64) - F 5 * (1 : Int64) - F 6 * (0 : Int64) - F 7 * (0 : Int64) = _
      simp only [P, Q, A, B, C, S]
    exact ⟨5, by decide, by decide, by decide, by rw [e]; exact (G _).trans (N _).symm⟩
  | 0, _, 6, _ =>
    have e : q_prod F (vp_updL (fun _ => 0) 6 1) 0 = -F 6 := by
      show F 0 * (0 : Int64) - F 1 * (0 : Int64) - F 2 * (0 : Int64) - F 3 * (0 : Int64) - F 4 * (0 : Int64) - F 5 * (0 : Int64) - F 6 * (1 : Int64) - F 7 * (0 : Int64) = _
      simp only [P, Q, A, B, C, S]
    exact ⟨6, by decide, by decide, by decide, by rw [e]; exact (G _).trans (N _).symm⟩
  | 0, _, 7, _ =>
    have e : q_prod F (vp_updL (fun _ => 0) 7 1) 0 = -F 7 := by
      show F 0 * (0 : Int64) - F 1 * (0 : Int64) - F 2 * (0 : Int64) - F 3 * (0 : Int64) - F 4 * (0 : Int64) - F 5 * (0 : Int64) - F 6 * (0 : Int64) - F 7 * (1 : Int64) = _
      simp only [P, Q, A, B, C, S]
    exact ⟨7, by decide, by decide, by decide, by rw [e]; exact (G _).trans (N _).symm⟩
  | 1, _, 0, _ =>
    have e : q_prod F (vp_updL (fun _ => 0) 0 1) 1 = F 1 := by
      show F 0 * (0 : Int64) + F 1 * (1 : Int64) + (F 2 * (0 : Int64) - F 4 * (0 : Int64)) + (F 5 * (0 : Int64) - F 6 * (0 : Int64)) + (F 3 * (0 : Int64) - F 7 * (0 : Int64)) = _
      simp only [P, Q, A, B, C, S]
    exact ⟨1, by decide, by decide, by decide, by rw [e]; exact (O _).symm⟩
  | 1, _, 1, _ =>
    have e : q_prod F (vp_updL (fun _ => 0) 1 1) 1 = F 0 := by
      show F 0 * (1 : Int64) + F 1 * (0 : Int64) + (F 2 * (0 : Int64) - F 4 * (0 : Int64)) + (F 5 * (0 : Int64) - F 6 * (0 : Int64)) + (F 3 * (0 : Int64) - F 7 * (0 : Int64)) = _
      simp only [P, Q, A, B, C, S]
    exact ⟨0, by decide, by decide, by decide, by rw [e]; exact (O _).symm⟩
  | 1, _, 2, _ =>
    have e : q_prod F (vp_updL (fun _ => 0) 2 1) 1 = -F 4 := by
      show F 0 * (0 : Int64) + F 1 * (0 : Int64) + (F 2 * (0 : Int64) - F 4 * (1 : Int64)) + (F 5 * (0 : Int64) - F 6 * (0 : Int64)) + (F 3 * (0 : Int64) - F 7 * (0 : Int64)) = _
      simp only [P, Q, A, B, C, S]
    exact ⟨4, by decide, by decide, by decide, by rw [e]; exact (G _).trans (N _).symm⟩
  | 1, _, 3, _ =>
    have e : q_prod F (vp_updL (fun _ => 0) 3 1) 1 = -F 7 := by
      show F 0 * (0 : Int64) + F 1 * (0 : Int64) + (F 2 * (0 : Int64) - F 4 * (0 : Int64)) + (F 5 * (0 : Int64) - F 6 * (0 : Int64)) + (F 3 * (0 : Int64) - F 7 * (1 : Int64)) = _
      simp only [P, Q, A, B, C, S]
    exact ⟨7, by decide, by decide, by decide, by rw [e]; exact (G _).trans (N _).symm⟩
  | 1, _, 4, _ =>
    have e : q_prod F (vp_updL (fun _ => 0) 4 1) 1 = F 2 := by
      show F 0 * (0 : Int64) + F 1 * (0 : Int64) + (F 2 * (1 : Int64) - F 4 * (0 : Int64)) + (F 5 * (0 : Int64) - F 6 * (0 : Int64)) + (F 3 * (0 : Int64) - F 7 * (0 : Int64)) = _
      simp only [P, Q, A, B, C, S]
    exact ⟨2, by decide, by decide, by decide, by rw [e]; exact (O _).symm⟩
  | 1, _, 5, _ =>
    have e : q_prod F (vp_updL (fun _ => 0) 5 1) 1 = -F 6 := by
      show F 0 * (0 : Int64) + F 1 * (0 : Int64) + (F 2 * (0 : Int64) - F 4 * (0 : Int64)) + (F 5 * (0 : Int64) - F 6 * (1 : Int64)) + (F 3 * (0 : Int64) - F 7 * (0 : Int64)) = _
      simp only [P, Q, A, B, C, S]
    exact ⟨6, by decide, by decide, by decide, by rw [e]; exact (G _).trans (N _).symm⟩
  | 1, _, 6, _ =>
    have e : q_prod F (vp_updL (fun _ => 0) 6 1) 1 = F 5 := by
      show F 0 * (0 : Int64) + F 1 * (0 : Int64) + (F 2 * (0 : Int64) - F 4 * (0 : Int64)) + (F 5 * (1 : Int64) - F 6 * (0 : Int64)) + (F 3 * (0 : Int64) - F 7 * (0 : Int64)) = _
      simp only [P, Q, A, B, C, S]
    exact ⟨5, by decide, by decide, by decide, by rw [e]; exact (O _).symm⟩
  | 1, _, 7, _ =>
    have e : q_prod F (vp_updL (fun _ => 0) 7 1) 1 = F 3 := by
      show F 0 * (0 : Int64) + F 1 * (0 : Int64) + (F 2 * (0 : Int64) - F 4 * (0 : Int64)) + (F 5 * (0 : Int64) - F 6 * (0 : Int64)) + (F 3 * (1 : Int64) - F 7 * (0 : Int64)) = _
      simp only [P, Q, A, B, C, S]
    exact ⟨3, by decide, by decide, by decide, by rw [e]; exact (O _).symm⟩
  | 2, _, 0, _ =>
    have e : q_prod F (vp_updL (fun _ => 0) 0 1) 2 = F 2 := by
      show F 0 * (0 : Int64) + F 2 * (1 : Int64) + (F 4 * (0 : Int64) - F 1 * (0 : Int64)) + (F 3 * (0 : Int64) - F 5 * (0 : Int64)) + (F 6 * (0 : Int64) - F 7 * (0 : Int64)) = _
      simp only [P, Q, A, B, C, S]
    exact ⟨2, by decide, by decide, by decide, by rw [e]; exact (O _).symm⟩
  | 2, _, 1, _ =>
    have e : q_prod F (vp_updL (fun _ => 0) 1 1) 2 = F 4 := by
      show F 0 * (0 : Int64) + F 2 * (0 : Int64) + (F 4 * (1 : Int64) - F 1 * (0 : Int64)) + (F 3 * (0 : Int64) - F 5 * (0 : Int64)) + (F 6 * (0 : Int64) - F 7 * (0 : Int64)) = _
      simp only [P, Q, A, B, C, S]
    exact ⟨4, by decide, by decide, by decide, by rw [e]; exact (O _).symm⟩
  | 2, _, 2, _ =>
    have e : q_prod F (vp_updL (fun _ => 0) 2 1) 2 = F 0 := by
      show F 0 * (1 : Int64) + F 2 * (0 : Int64) + (F 4 * (0 : Int64) - F 1 * (0 : Int64)) + (F 3 * (0 : Int64) - F 5 * (0 : Int64)) + (F 6 * (0 : Int64) - F 7 * (0 : Int64)) = _
      simp only [P, Q, A, B, C, S]
    exact ⟨0, by decide, by decide, by decide, by rw [e]; exact (O _).symm⟩
  | 2, _, 3, _ =>
    have e : q_prod F (vp_updL (fun _ => 0) 3 1) 2 = -F 5 := by
      show F 0 * (0 : Int64) + F 2 * (0 : Int64) + (F 4 * (0 : Int64) - F 1 * (0 : Int64)) + (F 3 * (0 : Int64) - F 5 * (1 : Int64)) + (F 6 * (0 : Int64) - F 7 * (0 : Int64)) = _
      simp only [P, Q, A, B, C, S]
    exact ⟨5, by decide, by decide, by decide, by rw [e]; exact (G _).trans (N _).symm⟩
  | 2, _, 4, _ =>
    have e : q_prod F (vp_updL (fun _ => 0) 4 1) 2 = -F 1 := by
      show F 0 * (0 : Int64) + F 2 * (0 : Int64) + (F 4 * (0 : Int64) - F 1 * (1 : Int64)) + (F 3 * (0 : Int64) - F 5 * (0 : Int64)) + (F 6 * (0 : Int64) - F 7 * (0 : Int64)) = _
      simp only [P, Q, A, B, C, S]
    exact ⟨1, by decide, by decide, by decide, by rw [e]; exact (G _).trans (N _).symm⟩
  | 2, _, 5, _ =>
    have e : q_prod F (vp_updL (fun _ => 0) 5 1) 2 = F 3 := by
      show F 0 * (0 : Int64) + F 2 * (0 : Int64) + (F 4 * (0 : Int64) - F 1 * (0 : Int64)) + (F 3 * (1 : Int64) - F 5 * (0 : Int64)) + (F 6 * (0 : Int64) - F 7 * (0 : Int64)) = _
      simp only [P, Q, A, B, C, S]
    exact ⟨3, by decide, by decide, by decide, by rw [e]; exact (O _).symm⟩
  | 2, _, 6, _ =>
    have e : q_prod F (vp_updL (fun _ => 0) 6 1) 2 = -F 7 := by
      show F 0 * (0 : Int64) + F 2 * (0 : Int64) + (F 4 * (0 : Int64) - F 1 * (0 : Int64)) + (F 3 * (0 : Int64) - F 5 * (0 : Int64)) + (F 6 * (0 : Int64) - F 7 * (1 : Int64)) = _
      simp only [P, Q, A, B, C, S]
    exact ⟨7, by decide, by decide, by decide, by rw [e]; exact (G _).trans (N _).symm⟩
  | 2, _, 7, _ =>
    have e : q_prod F (vp_updL (fun _ => 0) 7 1) 2 = F 6 := by
      show F 0 * (0 : Int64) + F 2 * (0 : Int64) + (F 4 * (0 : Int64) - F 1 * (0 : Int64)) + (F 3 * (0 : Int64) - F 5 * (0 : Int64)) + (F 6 * (1 : Int64) - F 7 * (0 : Int64)) = _
      simp only [P, Q, A, B, C, S]
    exact ⟨6, by decide, by decide, by decide, by rw [e]; exact (O _).symm⟩
  | 3, _, 0, _ =>
    have e : q_prod F (vp_updL (fun _ => 0) 0 1) 3 = F 3 := by
      show F 0 * (0 : Int64) + F 3 * (1 : Int64) + (F 5 * (0 : Int64) - F 2 * (0 : Int64)) + (F 4 * (0 : Int64) - F 6 * (0 : Int64)) + (F 7 * (0 : Int64) - F 1 * (0 : Int64)) = _
      simp only [P, Q, A, B, C, S]
    exact ⟨3, by decide, by decide, by decide, by rw [e]; exact (O _).symm⟩
  | 3, _, 1, _ =>
    have e : q_prod F (vp_updL (fun _ => 0) 1 1) 3 = F 7 := by
      show F 0 * (0 : Int64) + F 3 * (0 : Int64) + (F 5 * (0 : Int64) - F 2 * (0 : Int64)) + (F 4 * (0 : Int64) - F 6 * (0 : Int64)) + (F 7 * (1 : Int64) - F 1 * (0 : Int64)) = _
      simp only [P, Q, A, B, C, S]
    exact ⟨7, by decide, by decide, by decide, by rw [e]; exact (O _).symm⟩
  | 3, _, 2, _ =>
    have e : q_prod F (vp_updL (fun _ => 0) 2 1) 3 = F 5 := by
      show F 0 * (0 : Int64) + F 3 * (0 : Int64) + (F 5 * (1 : Int64) - F 2 * (0 : Int64)) + (F 4 * (0 : Int64) - F 6 * (0 : Int64)) + (F 7 * (0 : Int64) - F 1 * (0 : Int64)) = _
      simp only [P, Q, A, B, C, S]
    exact ⟨5, by decide, by decide, by decide, by rw [e]; exact (O _).symm⟩
  | 3, _, 3, _ =>
    have e : q_prod F (vp_updL (fun _ => 0) 3 1) 3 = F 0 := by
      show F 0 * (1 : Int64) + F 3 * (0 : Int64) + (F 5 * (0 : Int64) - F 2 * (0 : Int64)) + (F 4 * (0 : Int64) - F 6 * (0 : Int64)) + (F 7 * (0 : Int64) - F 1 * (0 : Int64)) = _
      simp only [P, Q, A, B, C, S]
    exact ⟨0, by decide, by decide, by decide, by rw [e]; exact (O _).symm⟩
  | 3, _, 4, _ =>
    have e : q_prod F (vp_updL (fun _ => 0) 4 1) 3 = -F 6 := by
      show F 0 * (0 : Int64) + F 3 * (0 : Int64) + (F 5 * (0 : Int64) - F 2 * (0 : Int64)) + (F 4 * (0 : Int64) - F 6 * (1 : Int64)) + (F 7 * (0 : Int64) - F 1 * (0 : Int64)) = _
      simp only [P, Q, A, B, C, S]
    exact ⟨6, by decide, by decide, by decide, by rw [e]; exact (G _).trans (N _).symm⟩
  | 3, _, 5, _ =>
    have e : q_prod F (vp_updL (fun _ => 0) 5 1) 3 = -F 2 := by
      show F 0 * (0 : Int64) + F 3 * (0 : Int64) + (F 5 * (0 : Int64) - F 2 * (1 : Int64)) + (F 4 * (0 : Int64) - F 6 * (0 : Int64)) + (F 7 * (0 : Int64) - F 1 * (0 : Int64)) = _
      simp only [P, Q, A, B, C, S]
    exact ⟨2, by decide, by decide, by decide, by rw [e]; exact (G _).trans (N _).symm⟩
  | 3, _, 6, _ =>
    have e : q_prod F (vp_updL (fun _ => 0) 6 1) 3 = F 4 := by
      show F 0 * (0 : Int64) + F 3 * (0 : Int64) + (F 5 * (0 : Int64) - F 2 * (0 : Int64)) + (F 4 * (1 : Int64) - F 6 * (0 : Int64)) + (F 7 * (0 : Int64) - F 1 * (0 : Int64)) = _
      simp only [P, Q, A, B, C, S]
    exact ⟨4, by decide, by decide, by decide, by rw [e]; exact (O _).symm⟩
  | 3, _, 7, _ =>
    have e : q_prod F (vp_updL (fun _ => 0) 7 1) 3 = -F 1 := by
      show F 0 * (0 : Int64) + F 3 * (0 : Int64) + (F 5 * (0 : Int64) - F 2 * (0 : Int64)) + (F 4 * (0 : Int64) - F 6 * (0 : Int64)) + (F 7 * (0 : Int64) - F 1 * (1 : Int64)) = _
      simp only [P, Q, A, B, C, S]
    exact ⟨1, by decide, by decide, by decide, by rw [e]; exact (G _).trans (N _).symm⟩
  | 4, _, 0, _ =>
    have e : q_prod F (vp_updL (fun _ => 0) 0 1) 4 = F 4 := by
      show F 0 * (0 : Int64) + F 4 * (1 : Int64) + (F 1 * (0 : Int64) - F 2 * (0 : Int64)) + (F 6 * (0 : Int64) - F 3 * (0 : Int64)) + (F 5 * (0 : Int64) - F 7 * (0 : Int64)) = _
      simp only [P, Q, A, B, C, S]
    exact ⟨4, by decide, by decide, by decide, by rw [e]; exact (O _).symm⟩
  | 4, _, 1, _ =>
    have e : q_prod F (vp_updL (fun _ => 0) 1 1) 4 = -F 2 := by
      show F 0 * (0 : Int64) + F 4 * (0 : Int64) + (F 1 * (0 : Int64) - F 2 * (1 : Int64)) + (F 6 * (0 : Int64) - F 3 * (0 : Int64)) + (F 5 * (0 : Int64) - F 7 * (0 : Int64)) = _
      simp only [P, Q, A, B, C, S]
    exact ⟨2, by decide, by decide, by decide, by rw [e]; exact (G _).trans (N _).symm⟩
  | 4, _, 2, _ =>
    have e : q_prod F (vp_updL (fun _ => 0) 2 1) 4 = F 1 := by
      show F 0 * (0 : Int64) + F 4 * (0 : Int64) + (F 1 * (1 : Int64) - F 2 * (0 : Int64)) + (F 6 * (0 : Int64) - F 3 * (0 : Int64)) + (F 5 * (0 : Int64) - F 7 * (0 : Int64)) = _
      simp only [P, Q, A, B, C, S]
    exact ⟨1, by decide, by decide, by decide, by rw [e]; exact (O _).symm⟩
  | 4, _, 3, _ =>
    have e : q_prod F (vp_updL (fun _ => 0) 3 1) 4 = F 6 := by
      show F 0 * (0 : Int64) + F 4 * (0 : Int64) + (F 1 * (0 : Int64) - F 2 * (0 : Int64)) + (F 6 * (1 : Int64) - F 3 * (0 : Int64)) + (F 5 * (0 : Int64) - F 7 * (0 : Int64)) = _
      simp only [P, Q, A, B, C, S]
    exact ⟨6, by decide, by decide, by decide, by rw [e]; exact (O _).symm⟩
  | 4, _, 4, _ =>
    have e : q_prod F (vp_updL (fun _ => 0) 4 1) 4 = F 0 := by
      show F 0 * (1 : Int64) + F 4 * (0 : Int64) + (F 1 * (0 : Int64) - F 2 * (0 : Int64)) + (F 6 * (0 : Int64) - F 3 * (0 : Int64)) + (F 5 * (0 : Int64) - F 7 * (0 : Int64)) = _
      simp only [P, Q, A, B, C, S]
    exact ⟨0, by decide, by decide, by decide, by rw [e]; exact (O _).symm⟩
  | 4, _, 5, _ =>
    have e : q_prod F (vp_updL (fun _ => 0) 5 1) 4 = -F 7 := by
      show F 0 * (0 : Int64) + F 4 * (0 : Int64) + (F 1 * (0 : Int64) - F 2 * (0 : Int64)) + (F 6 * (0 : Int64) - F 3 * (0 : Int64)) + (F 5 * (0 : Int64) - F 7 * (1 : Int64)) = _
      simp only [P, Q, A, B, C, S]
    exact ⟨7, by decide, by decide, by decide, by rw [e]; exact (G _).trans (N _).symm⟩
  | 4, _, 6, _ =>
    have e : q_prod F (vp_updL (fun _ => 0) 6 1) 4 = -F 3 := by
      show F 0 * (0 : Int64) + F 4 * (0 : Int64) + (F 1 * (0 : Int64) - F 2 * (0 : Int64)) + (F 6 * (0 : Int64) - F 3 * (1 : Int64)) + (F 5 * (0 : Int64) - F 7 * (0 : Int64)) = _
      simp only [P, Q, A, B, C, S]
    exact ⟨3, by decide, by decide, by decide, by rw [e]; exact (G _).trans (N _).symm⟩
  | 4, _, 7, _ =>
    have e : q_prod F (vp_updL (fun _ => 0) 7 1) 4 = F 5 := by
      show F 0 * (0 : Int64) + F 4 * (0 : Int64) + (F 1 * (0 : Int64) - F 2 * (0 : Int64)) + (F 6 * (0 : Int64) - F 3 * (0 : Int64)) + (F 5 * (1 : Int64) - F 7 * (0 : Int64)) = _
      simp only [P, Q, A, B, C, S]
    exact ⟨5, by decide, by decide, by decide, by rw [e]; exact (O _).symm⟩
  | 5, _, 0, _ =>
    have e : q_prod F (vp_updL (fun _ => 0) 0 1) 5 = F 5 := by
      show F 0 * (0 : Int64) + F 5 * (1 : Int64) + (F 2 * (0 : Int64) - F 3 * (0 : Int64)) + (F 7 * (0 : Int64) - F 4 * (0 : Int64)) + (F 6 * (0 : Int64) - F 1 * (0 : Int64)) = _
      simp only [P, Q, A, B, C, S]
    exact ⟨5, by decide, by decide, by decide, by rw [e]; exact (O _).symm⟩
  | 5, _, 1, _ =>
    have e : q_prod F (vp_updL (fun _ => 0) 1 1) 5 = F 6 := by
      show F 0 * (0 : Int64) + F 5 * (0 : Int64) + (F 2 * (0 : Int64) - F 3 * (0 : Int64)) + (F 7 * (0 : Int64) - F 4 * (0 : Int64)) + (F 6 * (1 : Int64) - F 1 * (0 : Int64)) = _
      simp only [P, Q, A, B, C, S]
    exact ⟨6, by decide, by decide, by decide, by rw [e]; exact (O _).symm⟩
  | 5, _, 2, _ =>
    have e : q_prod F (vp_updL (fun _ => 0) 2 1) 5 = -F 3 := by
      show F 0 * (0 : Int64) + F 5 * (0 : Int64) + (F 2 * (0 : Int64) - F 3 * (1 : Int64)) + (F 7 * (0 : Int64) - F 4 * (0 : Int64)) + (F 6 * (0 : Int64) - F 1 * (0 : Int64)) = _
      simp only [P, Q, A, B, C, S]
    exact ⟨3, by decide, by decide, by decide, by rw [e]; exact (G _).trans (N _).symm⟩
  | 5, _, 3, _ =>
    have e : q_prod F (vp_updL (fun _ => 0) 3 1) 5 = F 2 := by
      show F 0 * (0 : Int64) + F 5 * (0 : Int64) + (F 2 * (1 : Int64) - F 3 * (0 : Int64)) + (F 7 * (0 : Int64) - F 4 * (0 : Int64)) + (F 6 * (0 : Int64) - F 1 * (0 : Int64)) = _
      simp only [P, Q, A, B, C, S]
    exact ⟨2, by decide, by decide, by decide, by rw [e]; exact (O _).symm⟩
  | 5, _, 4, _ =>
    have e : q_prod F (vp_updL (fun _ => 0) 4 1) 5 = F 7 := by
      show F 0 * (0 : Int64) + F 5 * (0 : Int64) + (F 2 * (0 : Int64) - F 3 * (0 : Int64)) + (F 7 * (1 : Int64) - F 4 * (0 : Int64)) + (F 6 * (0 : Int64) - F 1 * (0 : Int64)) = _
      simp only [P, Q, A, B, C, S]
    exact ⟨7, by decide, by decide, by decide, by rw [e]; exact (O _).symm⟩
  | 5, _, 5, _ =>
    have e : q_prod F (vp_updL (fun _ => 0) 5 1) 5 = F 0 := by
      show F 0 * (1 : Int64) + F 5 * (0 : Int64) + (F 2 * (0 : Int64) - F 3 * (0 : Int64)) + (F 7 * (0 : Int64) - F 4 * (0 : Int64)) + (F 6 * (0 : Int64) - F 1 * (0 : Int64)) = _
      simp only [P, Q, A, B, C, S]
    exact ⟨0, by decide, by decide, by decide, by rw [e]; exact (O _).symm⟩
  | 5, _, 6, _ =>
    have e : q_prod F (vp_updL (fun _ => 0) 6 1) 5 = -F 1 := by
      show F 0 * (0 : Int64) + F 5 * (0 : Int64) + (F 2 * (0 : Int64) - F 3 * (0 : Int64)) + (F 7 * (0 : Int64) - F 4 * (0 : Int64)) + (F 6 * (0 : Int64) - F 1 * (1 : Int64)) = _
      simp only [P, Q, A, B, C, S]
    exact ⟨1, by decide, by decide, by decide, by rw [e]; exact (G _).trans (N _).symm⟩
  | 5, _, 7, _ =>
    have e : q_prod F (vp_updL (fun _ => 0) 7 1) 5 = -F 4 := by
      show F 0 * (0 : Int64) + F 5 * (0 : Int64) + (F 2 * (0 : Int64) - F 3 * (0 : Int64)) + (F 7 * (0 : Int64) - F 4 * (1 : Int64)) + (F 6 * (0 : Int64) - F 1 * (0 : Int64)) = _
      simp only [P, Q, A, B, C, S]
    exact ⟨4, by decide, by decide, by decide, by rw [e]; exact (G _).trans (N _).symm⟩
  | 6, _, 0, _ =>
    have e : q_prod F (vp_updL (fun _ => 0) 0 1) 6 = F 6 := by
      show F 0 * (0 : Int64) + F 6 * (1 : Int64) + (F 3 * (0 : Int64) - F 4 * (0 : Int64)) + (F 1 * (0 : Int64) - F 5 * (0 : Int64)) + (F 7 * (0 : Int64) - F 2 * (0 : Int64)) = _
      simp only [P, Q, A, B, C, S]
    exact ⟨6, by decide, by decide, by decide, by rw [e]; exact (O _).symm⟩
  | 6, _, 1, _ =>
    have e : q_prod F (vp_updL (fun _ => 0) 1 1) 6 = -F 5 := by
      show F 0 * (0 : Int64) + F 6 * (0 : Int64) + (F 3 * (0 : Int64) - F 4 * (0 : Int64)) + (F 1 * (0 : Int64) - F 5 * (1 : Int64)) + (F 7 * (0 : Int64) - F 2 * (0 : Int64)) = _
      simp only [P, Q, A, B, C, S]
    exact ⟨5, by decide, by decide, by decide, by rw [e]; exact (G _).trans (N _).symm⟩
  | 6, _, 2, _ =>
    have e : q_prod F (vp_updL (fun _ => 0) 2 1) 6 = F 7 := by
      show F 0 * (0 : Int64) + F 6 * (0 : Int64) + (F 3 * (0 : Int64) - F 4 * (0 : Int64)) + (F 1 * (0 : Int64) - F 5 * (0 : Int64)) + (F 7 * (1 : Int64) - F 2 * (0 : Int64)) = _
      simp only [P, Q, A, B, C, S]
    exact ⟨7, by decide, by decide, by decide, by rw [e]; exact (O _).symm⟩
  | 6, _, 3, _ =>
    have e : q_prod F (vp_updL (fun _ => 0) 3 1) 6 = -F 4 := by
      show F 0 * (0 : Int64) + F 6 * (0 : Int64) + (F 3 * (0 : Int64) - F 4 * (1 : Int64)) + (F 1 * (0 : Int64) - F 5 * (0 : Int64)) + (F 7 * (0 : Int64) - F 2 * (0 : Int64)) = _
      simp only [P, Q, A, B, C, S]
    exact ⟨4, by decide, by decide, by decide, by rw [e]; exact (G _).trans (N _).symm⟩
  | 6, _, 4, _ =>
    have e : q_prod F (vp_updL (fun _ => 0) 4 1) 6 = F 3 := by
      show F 0 * (0 : Int64) + F 6 * (0 : Int64) + (F 3 * (1 : Int64) - F 4 * (0 : Int64)) + (F 1 * (0 : Int64) - F 5 * (0 : Int64)) + (F 7 * (0 : Int64) - F 2 * (0 : Int64)) = _
      simp only [P, Q, A, B, C, S]
    exact ⟨3, by decide, by decide, by decide, by rw [e]; exact (O _).symm⟩
  | 6, _, 5, _ =>
    have e : q_prod F (vp_updL (fun _ => 0) 5 1) 6 = F 1 := by
      show F 0 * (0 : Int64) + F 6 * (0 : Int64) + (F 3 * (0 : Int64) - F 4 * (0 : Int64)) + (F 1 * (1 : Int64) - F 5 * (0 : Int64)) + (F 7 * (0 : Int64) - F 2 * (0 : Int64)) = _
      simp only [P, Q, A, B, C, S]
    exact ⟨1, by decide, by decide, by decide, by rw [e]; exact (O _).symm⟩
  | 6, _, 6, _ =>
    have e : q_prod F (vp_updL (fun _ => 0) 6 1) 6 = F 0 := by
      show F 0 * (1 : Int64) + F 6 * (0 : Int64) + (F 3 * (0 : Int64) - F 4 * (0 : Int64)) + (F 1 * (0 : Int64) - F 5 * (0 : Int64)) + (F 7 * (0 : Int64) - F 2 * (0 : Int64)) = _
      simp only [P, Q, A, B, C, S]
    exact ⟨0, by decide, by decide, by decide, by rw [e]; exact (O _).symm⟩
  | 6, _, 7, _ =>
    have e : q_prod F (vp_updL (fun _ => 0) 7 1) 6 = -F 2 := by
      show F 0 * (0 : Int64) + F 6 * (0 : Int64) + (F 3 * (0 : Int64) - F 4 * (0 : Int64)) + (F 1 * (0 : Int64) - F 5 * (0 : Int64)) + (F 7 * (0 : Int64) - F 2 * (1 : Int64)) = _
      simp only [P, Q, A, B, C, S]
    exact ⟨2, by decide, by decide, by decide, by rw [e]; exact (G _).trans (N _).symm⟩
  | 7, _, 0, _ =>
    have e : q_prod F (vp_updL (fun _ => 0) 0 1) 7 = F 7 := by
      show F 0 * (0 : Int64) + F 7 * (1 : Int64) + (F 4 * (0 : Int64) - F 5 * (0 : Int64)) + (F 2 * (0 : Int64) - F 6 * (0 : Int64)) + (F 1 * (0 : Int64) - F 3 * (0 : Int64)) = _
      simp only [P, Q, A, B, C, S]
    exact ⟨7, by decide, by decide, by decide, by rw [e]; exact (O _).symm⟩
  | 7, _, 1, _ =>
    have e : q_prod F (vp_updL (fun _ => 0) 1 1) 7 = -F 3 := by
      show F 0 * (0 : Int64) + F 7 * (0 : Int64) + (F 4 * (0 : Int64) - F 5 * (0 : Int64)) + (F 2 * (0 : Int64) - F 6 * (0 : Int64)) + (F 1 * (0 : Int64) - F 3 * (1 : Int64)) = _
      simp only [P, Q, A, B, C, S]
    exact ⟨3, by decide, by decide, by decide, by rw [e]; exact (G _).trans (N _).symm⟩
  | 7, _, 2, _ =>
    have e : q_prod F (vp_updL (fun _ => 0) 2 1) 7 = -F 6 := by
      show F 0 * (0 : Int64) + F 7 * (0 : Int64) + (F 4 * (0 : Int64) - F 5 * (0 : Int64)) + (F 2 * (0 : Int64) - F 6 * (1 : Int64)) + (F 1 * (0 : Int64) - F 3 * (0 : Int64)) = _
      simp only [P, Q, A, B, C, S]
    exact ⟨6, by decide, by decide, by decide, by rw [e]; exact (G _).trans (N _).symm⟩
  | 7, _, 3, _ =>
    have e : q_prod F (vp_updL (fun _ => 0) 3 1) 7 = F 1 := by
      show F 0 * (0 : Int64) + F 7 * (0 : Int64) + (F 4 * (0 : Int64) - F 5 * (0 : Int64)) + (F 2 * (0 : Int64) - F 6 * (0 : Int64)) + (F 1 * (1 : Int64) - F 3 * (0 : Int64)) = _
      simp only [P, Q, A, B, C, S]
    exact ⟨1, by decide, by decide, by decide, by rw [e]; exact (O _).symm⟩
  | 7, _, 4, _ =>
    have e : q_prod F (vp_updL (fun _ => 0) 4 1) 7 = -F 5 := by
      show F 0 * (0 : Int64) + F 7 * (0 : Int64) + (F 4 * (0 : Int64) - F 5 * (1 : Int64)) + (F 2 * (0 : Int64) - F 6 * (0 : Int64)) + (F 1 * (0 : Int64) - F 3 * (0 : Int64)) = _
      simp only [P, Q, A, B, C, S]
    exact ⟨5, by decide, by decide, by decide, by rw [e]; exact (G _).trans (N _).symm⟩
  | 7, _, 5, _ =>
    have e : q_prod F (vp_updL (fun _ => 0) 5 1) 7 = F 4 := by
      show F 0 * (0 : Int64) + F 7 * (0 : Int64) + (F 4 * (1 : Int64) - F 5 * (0 : Int64)) + (F 2 * (0 : Int64) - F 6 * (0 : Int64)) + (F 1 * (0 : Int64) - F 3 * (0 : Int64)) = _
      simp only [P, Q, A, B, C, S]
    exact ⟨4, by decide, by decide, by decide, by rw [e]; exact (O _).symm⟩
  | 7, _, 6, _ =>
    have e : q_prod F (vp_updL (fun _ => 0) 6 1) 7 = F 2 := by
      show F 0 * (0 : Int64) + F 7 * (0 : Int64) + (F 4 * (0 : Int64) - F 5 * (0 : Int64)) + (F 2 * (1 : Int64) - F 6 * (0 : Int64)) + (F 1 * (0 : Int64) - F 3 * (0 : Int64)) = _
      simp only [P, Q, A, B, C, S]
    exact ⟨2, by decide, by decide, by decide, by rw [e]; exact (O _).symm⟩
  | 7, _, 7, _ =>
    have e : q_prod F (vp_updL (fun _ => 0) 7 1) 7 = F 0 := by
      show F 0 * (1 : Int64) + F 7 * (0 : Int64) + (F 4 * (0 : Int64) - F 5 * (0 : Int64)) + (F 2 * (0 : Int64) - F 6 * (0 : Int64)) + (F 1 * (0 : Int64) - F 3 * (0 : Int64)) = _
      simp only [P, Q, A, B, C, S]
    exact ⟨0, by decide, by decide, by decide, by rw [e]; exact (O _).symm⟩
theorem z_lf (s : Nat → Int32) (r i j k : Nat) (hk : q_to (8 * k + j) = i) (hu : ∀ t, t < 8 → q_to (8 * t + j) = i → t = k) : ∀ n, n ≤ 8 → q_lf s r i j n = if k < n then q_sg (8 * k + j) * s (8 * r + k) else 0
  | 0, _ => rfl
  | n + 1, hn => by
    rw [q_lf, z_lf s r i j k hk hu n (by omega)]
    by_cases z : k = n
    · rw [if_neg (by omega), ← z, if_pos hk, if_pos (by omega), Int32.zero_add]
    · have : ¬ q_to (8 * n + j) = i := fun q => z (hu n (by omega) q).symm
      rw [if_neg this, Int32.add_zero]
      by_cases y : k < n
      · rw [if_pos y, if_pos (by omega)]
      · rw [if_neg y, if_neg (by omega)]
theorem z_left {D : q_D} {M : q_M} (c : cp D M) {r i j : Nat} (hr : r < 8) (hi : i < 8) (hj : j < 8) : (q_prod (d_R D r) (vp_updL (fun _ => 0) j 1) i).toInt32 = q_lf (m_s M) r i j 8 := by
  obtain ⟨k, h1, h2, h3, h4⟩ := z_l0 (d_R D r) j i hi hj
  rw [h4, z_lf (m_s M) r i j k h2 h3 8 (Nat.le_refl 8), if_pos h1, c.at hr h1]
set_option maxRecDepth 4000 in
theorem P_left (E : og_E) (d n : Nat) (h : og_H) (x y t : Int32) {D : q_D} {M : q_M} {f : Nat → Int64} (W : zW n h D M) (h123 : h 123 = some (row1 f)) :
    og_M E yL_left (.codeWith yL_left cL_left 6 (some .int) [(0, 12, 15, 13)]) (d + 3 + 1) [.ref 3, .int x, .int y, .int t, .ref 123] n h 3 18 (zLo n h (zMi E yX8_left (.code yX8_left cX8_left 6 (some .int)) 2 [.ref 101, .int x, .int y, .int t])) no_x := by
  refine og_M.mono (c_L_left E (d + 3) n h x y t W.1.d3 (c_X7_left E d n h x y t W.1) (fun v n1 h1 z => ?_) (fun En n1 h1 z => ?_)) (fun v n1 h1 z => ?_) (fun _ _ _ z => z)
  · obtain ⟨w, r, i, j, hr, hi, hj, ex, ey, et, hv⟩ := z
    exact ⟨⟨_, hv⟩, f, (zW_ex W w).2.2.2.1.trans h123⟩
  · exact z.2.1
  · rcases z with ⟨r0, h2, f2, ⟨w, r, i, j, hr, hi, hj, ex, ey, et, hv⟩, h2f, rfl, rfl⟩ | ⟨z, rfl⟩
    · cases hv
      obtain ⟨w1, w2, w3, w4⟩ := zW_ok W w (row1 (vp_updL f2 0 _))
      refine ⟨0, _, rfl, w4, og_set_eq _ _ _, w3, ⟨_, w2.m⟩, fun d2 => og_M.mono (c_X8_left E d2 n1 _ x y t w2) (fun v nn h3 z => ?_) (fun _ _ _ z => z)⟩
      obtain ⟨rfl, z⟩ := z
      refine ⟨rfl, ?_⟩
      rcases z with ⟨a, -, -⟩ | ⟨r9, i9, j9, hr9, hi9, hj9, ex9, ey9, et9, hv9, w9⟩
      · exact absurd ⟨⟨r, hr, ex⟩, ⟨i, hi, ey⟩, ⟨j, hj, et⟩⟩ a
      · obtain rfl := zI8 (by omega) (by omega) (ex.symm.trans ex9)
        obtain rfl := zI8 (by omega) (by omega) (ey.symm.trans ey9)
        obtain rfl := zI8 (by omega) (by omega) (et.symm.trans et9)
        refine ⟨_, _, _, hv9, zW_fin w1 w9 W.2.2, rfl, fun _ => ?_⟩
        rw [← z_left W.2.2 hr hi hj]
        exact if_pos rfl
    · obtain ⟨w, -, hn⟩ := z
      obtain ⟨w1, w2, w3, w4, w5⟩ := zW_ex W w
      refine ⟨1, f, rfl, w5, w4.trans h123, w3, ⟨_, w2.m⟩, fun d2 => og_M.mono (c_X8_left E d2 n1 _ x y t w2) (fun v nn h3 z => ?_) (fun _ _ _ z => z)⟩
      obtain ⟨rfl, z⟩ := z
      refine ⟨rfl, ?_⟩
      rcases z with ⟨a, hv9, w9⟩ | ⟨r9, i9, j9, hr9, hi9, hj9, ex9, ey9, et9, -⟩
      · exact ⟨_, _, _, hv9, zW_fin w1 w9 W.2.2, rfl, fun q => absurd q (by decide)⟩
      · exact absurd ⟨⟨r9, hr9, ex9⟩, ⟨i9, hi9, ey9⟩, ⟨j9, hj9, et9⟩⟩ hn
