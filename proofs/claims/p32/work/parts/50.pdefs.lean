/-! ===== pure: words ===== -/
def q_hok (p : Int64) (x : Int64) : Prop := x - x / p * p = 0 ∧ ¬ x / p < -2000 ∧ ¬ 2000 < x / p
def q_both (o : Nat) : Int32 := 1 ||| ((1 : Int32) <<< (nI o &&& 31))
noncomputable def q_its (x : Int32) (o : Nat) : Int32 := q_if (x &&& q_both o = 0 ∨ x &&& q_both o = q_both o) x (x ^^^ q_both o)
def q_four (t : Nat) : Int32 := ((1 ||| ((1 : Int32) <<< (nI (t + 1) &&& 31))) ||| ((1 : Int32) <<< (nI ((t + 1) % 7 + 1) &&& 31))) ||| ((1 : Int32) <<< (nI ((t + 3) % 7 + 1) &&& 31))
def q_isQ (y : Int32) (t : Nat) : Prop := y = 0 ∨ y = 255 ∨ ∃ s, s < t ∧ (y = q_four s ∨ y = q_four s ^^^ 255)
def q_hall (p : Int64) (f : Nat → Int64) : Prop := ∀ j, j < 8 → q_hok p (f j)
def q_dv (p : Int64) (f : Nat → Int64) : Nat → Int64 := fun j => f j / p
def q_cut (x y : Int64) : Int64 := if x - x / y * y < 0 then x / y - 1 else x / y
def q_lw (p by1 : Int64) (w : Int32) : Int64 := if 2 * p < (2 * q_cut p by1 + w.toInt64) * by1 then 2 * q_cut p by1 + w.toInt64 - 2 else 2 * q_cut p by1 + w.toInt64
def q_nr (p by1 : Int64) (w : Int32) : Int64 := if (q_lw p by1 w + 2) * by1 - 2 * p < 2 * p - q_lw p by1 w * by1 then q_lw p by1 w + 2 else q_lw p by1 w
def q_sbit (w k : Nat) : Int32 := (nI w >>> (nI k &&& 31)) &&& 1
def q_ner (N : Int64) (kp : Nat → Int64) (w : Nat) : Nat → Int64 := fun k => q_nr (kp k) N (q_sbit w k)
def q_frr (N : Int64) (kp near : Nat → Int64) : Nat → Int64
  | 0 => 0
  | k + 1 => q_frr N kp near k + (near k * N - 2 * kp k) * (near k * N - 2 * kp k)
def q_okS (o w : Nat) : Prop := (o = 0 ∧ w = 0) ∨ (o ≠ 0 ∧ q_isQ (q_its (nI w) o) 7)
def q_btr (N : Int64) (kp : Nat → Int64) (w : Nat) (st : Int64 × (Nat → Int64)) : Prop := st.1 < 0 ∨ q_frr N kp (q_ner N kp w) 8 < st.1 ∨ (q_frr N kp (q_ner N kp w) 8 = st.1 ∧ q_first (q_ner N kp w) st.2)
noncomputable def q_dvS (N : Int64) (kp : Nat → Int64) (o : Nat) (q0 : Nat → Int64) : Nat → Int64 × (Nat → Int64)
  | 0 => (-1, q0)
  | w + 1 => q_if (q_okS o w) (q_if (q_btr N kp w (q_dvS N kp o q0 w)) (q_frr N kp (q_ner N kp w) 8, q_ner N kp w) (q_dvS N kp o q0 w)) (q_dvS N kp o q0 w)
theorem q_dvS_no {N : Int64} {kp : Nat → Int64} {o w : Nat} {q0 : Nat → Int64} (h : ¬ q_okS o w) : q_dvS N kp o q0 (w + 1) = q_dvS N kp o q0 w := by
  rw [q_dvS, q_if_f _ _ h]
theorem q_dvS_keep {N : Int64} {kp : Nat → Int64} {o w : Nat} {q0 : Nat → Int64} (h : q_okS o w) (h2 : ¬ q_btr N kp w (q_dvS N kp o q0 w)) : q_dvS N kp o q0 (w + 1) = q_dvS N kp o q0 w := by
  rw [q_dvS, q_if_t _ _ h, q_if_f _ _ h2]
theorem q_dvS_new {N : Int64} {kp : Nat → Int64} {o w : Nat} {q0 : Nat → Int64} (h : q_okS o w) (h2 : q_btr N kp w (q_dvS N kp o q0 w)) : q_dvS N kp o q0 (w + 1) = (q_frr N kp (q_ner N kp w) 8, q_ner N kp w) := by
  rw [q_dvS, q_if_t _ _ h, q_if_t _ _ h2]
noncomputable def q_quo2 (f g q0 : Nat → Int64) (o : Nat) : Nat → Int64 := (q_dvS (q_inner g g 8) (q_prod f (q_mirror g)) o q0 256).2
noncomputable def q_rem2 (f g q0 : Nat → Int64) (o : Nat) : Nat → Int64 := fun k => f k - q_prod (q_quo2 f g q0 o) g k / 2
noncomputable def m_quo (f g : Nat → Int64) (o : Nat) : Nat → Int64 := q_quo2 f g (fun _ => 0) o
noncomputable def m_rem (f g : Nat → Int64) (o : Nat) : Nat → Int64 := q_rem2 f g (fun _ => 0) o
def q_c2 (c : Nat) : Nat := (c - 2 + (2 - c)) * (c - 2 + (2 - c))
def q_ev (F : Nat → List (List Nat)) : Nat → List (List Nat)
  | 0 => []
  | j + 1 => F (4 - j) ++ q_ev F j
def q_en : Nat → List Nat → Nat → List (List Nat)
  | 0, p, s => if s = 4 then [p] else []
  | k + 1, p, s => q_ev (fun c => if s + q_c2 c ≤ 4 then q_en k (p ++ [c]) (s + q_c2 c) else []) 5
def q_row (r : List Nat) : Nat → Int64 := fun j => lN (r.getD j 2) - 2
theorem q_inn {f g : Nat → Int64} : ∀ n, (∀ j, j < n → f j = g j) → q_inner f f n = q_inner g g n
  | 0, _ => rfl
  | n + 1, h => by
    have e : q_inner f f n = q_inner g g n := q_inn n (fun j hj => h j (by omega))
    show q_inner f f n + f n * f n = q_inner g g n + g n * g n
    rw [e, h n (by omega)]
theorem q_cnt_pos (o : Nat) : 16 ≤ q_cnt o := by
  unfold q_cnt
  by_cases h : o = 0
  · rw [if_pos h]; omega
  · rw [if_neg h]; omega
