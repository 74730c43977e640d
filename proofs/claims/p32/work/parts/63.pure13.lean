/-! ===== pure 13 ===== -/
theorem l1_len : ∀ i, (l1 i).length = 2 * i
  | 0 => rfl
  | i + 1 => by rw [l1, insR_len, insR_len, l1_len i]; omega
theorem l2_len (o m : Nat) (s : List Nat) : ∀ t, (l2 o m s t).length = s.length + t
  | 0 => rfl
  | t + 1 => by rw [l2, insR_len, l2_len o m s t]; omega
def cnt4 (o : Nat) : Nat → Nat
  | 0 => 0
  | m + 1 => if popN (osN o m) = 4 then cnt4 o m + 1 else cnt4 o m
theorem l3_len (o : Nat) : ∀ m, (l3 o m).length = 16 + 16 * cnt4 o m
  | 0 => l1_len 8
  | m + 1 => by
    unfold l3 cnt4
    by_cases h : popN (osN o m) = 4
    · rw [if_pos h, if_pos h, l2_len, l3_len o m]; omega
    · rw [if_neg h, if_neg h, l3_len o m]
theorem cnt4_ok : ∀ o, o < 8 → ∀ m, m < q_sets o → popN (osN o m) = 4 → 16 + 16 * cnt4 o m + 16 ≤ q_cnt o := by decide +kernel
theorem z_l1 {N : Nat} (hN : 16 ≤ N) : ∀ i, i ≤ 8 → zr2 (q_u1 N i) (l1 i)
  | 0, _ => ⟨rfl, fun i hi => absurd hi (by simp [l1]), fun y hy => absurd hy (by simp [l1])⟩
  | i + 1, h => by
    have ih := z_l1 hN i (by omega)
    obtain ⟨e1, e2, b1, b2⟩ := z_c1 i (by omega)
    have hl := l1_len i
    rw [q_u1, l1, e1, e2]
    exact zr2_in (zr2_in ih (by omega) b1) (by rw [insR_len]; omega) b2
theorem z_l2 {N o m : Nat} {s : Nat × (Nat → Int32)} {l : List Nat} (ho : o < 8) (hm : m < q_sets o) (hp : popN (osN o m) = 4) (h : zr2 s l) (hN : l.length + 16 ≤ N) : ∀ t, t ≤ 16 → zr2 (q_u2 N (q_os o m) s t) (l2 o m l t)
  | 0, _ => h
  | t + 1, ht => by
    have ih := z_l2 ho hm hp h hN t (by omega)
    obtain ⟨e1, b1⟩ := z_c2 o ho m hm hp t (by omega)
    have hl := l2_len o m l t
    rw [q_u2, l2, e1]
    exact zr2_in ih (by omega) b1
theorem z_l3 {o : Nat} (ho : o < 8) : ∀ m, m ≤ q_sets o → zr2 (q_u3 (q_cnt o) o (q_u1 (q_cnt o) 8) m) (l3 o m)
  | 0, _ => z_l1 (q_cnt_pos o) 8 (by omega)
  | m + 1, hm => by
    have ih := z_l3 ho m (by omega)
    have hp := z_pop o ho m (by omega)
    unfold q_u3 l3
    by_cases h : popN (osN o m) = 4
    · rw [if_pos (hp.mpr h), if_pos h]
      have hl := l3_len o m
      have hc := cnt4_ok o ho m (by omega) h
      exact z_l2 ho (by omega) h ih (by omega) 16 (by omega)
    · rw [if_neg (fun z => h (hp.mp z)), if_neg h]
      exact ih
def maskL : List Nat → Nat → Nat → Nat
  | _, 0, _ => 0
  | [], _ + 1, _ => 0
  | c :: r, n + 1, b => (if c % 2 = 0 then 0 else b) + maskL r n (2 * b)
def masks (o : Nat) : List Nat := (List.range (q_sets o)).map (osN o)
def inB (o : Nat) (r : List Nat) : Bool := (masks o).contains (maskL r 8 1)
def codeL (r : List Nat) : Nat := r.foldl (fun a c => 8 * a + c) 0
def allL : List (List Nat) := q_en 8 [] 0
def mL (o : Nat) : List (List Nat) := allL.filter (inB o)
theorem allL_ok : allL.all (fun r => decide (r.length = 8) && r.all (fun c => decide (c < 5)) && decide (maskL r 8 1 = oddN (q_row r) 8) && decide (codeL r < 2147483648)) = true := by decide +kernel
theorem allL_read : allL.all (fun r => (List.range 8).all (fun k => decide (q_read (nI (codeL r)) k = q_row r k))) = true := by decide +kernel
theorem mL_ok0 : (mL 0).map codeL = (l3 0 (q_sets 0)).reverse ∧ (mL 0).length = q_cnt 0 := by decide +kernel
theorem mL_ok1 : (mL 1).map codeL = (l3 1 (q_sets 1)).reverse ∧ (mL 1).length = q_cnt 1 := by decide +kernel
theorem mL_ok2 : (mL 2).map codeL = (l3 2 (q_sets 2)).reverse ∧ (mL 2).length = q_cnt 2 := by decide +kernel
theorem mL_ok3 : (mL 3).map codeL = (l3 3 (q_sets 3)).reverse ∧ (mL 3).length = q_cnt 3 := by decide +kernel
theorem mL_ok4 : (mL 4).map codeL = (l3 4 (q_sets 4)).reverse ∧ (mL 4).length = q_cnt 4 := by decide +kernel
theorem mL_ok5 : (mL 5).map codeL = (l3 5 (q_sets 5)).reverse ∧ (mL 5).length = q_cnt 5 := by decide +kernel
theorem mL_ok6 : (mL 6).map codeL = (l3 6 (q_sets 6)).reverse ∧ (mL 6).length = q_cnt 6 := by decide +kernel
theorem mL_ok7 : (mL 7).map codeL = (l3 7 (q_sets 7)).reverse ∧ (mL 7).length = q_cnt 7 := by decide +kernel

