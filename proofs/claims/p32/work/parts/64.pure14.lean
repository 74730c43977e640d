/-! ===== pure 14 ===== -/
theorem allL_rd {r : List Nat} (h : r ∈ allL) {k : Nat} (hk : k < 8) : q_read (nI (codeL r)) k = q_row r k := by
  have := List.all_eq_true.mp allL_read r h
  exact decide_eq_true_iff.mp (List.all_eq_true.mp this k (List.mem_range.mpr hk))
theorem allL_cd : allL.all (fun r => decide (q_code (q_row r) 8 = nI (codeL r)) && decide (q_inner (q_row r) (q_row r) 8 = 4)) = true := by decide +kernel
theorem mL_ok {o : Nat} (ho : o < 8) : (mL o).map codeL = (l3 o (q_sets o)).reverse ∧ (mL o).length = q_cnt o := by
  match o, ho with
  | 0, _ => exact mL_ok0
  | 1, _ => exact mL_ok1
  | 2, _ => exact mL_ok2
  | 3, _ => exact mL_ok3
  | 4, _ => exact mL_ok4
  | 5, _ => exact mL_ok5
  | 6, _ => exact mL_ok6
  | 7, _ => exact mL_ok7
  | o + 8, h => exact absurd h (by omega)
/-- the unit u of the order o, as a row of digits -/
def zun (o u : Nat) : List Nat := (mL o).getD u []
theorem zun_mem {o u : Nat} (ho : o < 8) (hu : u < q_cnt o) : zun o u ∈ allL := by
  have hl := (mL_ok ho).2
  have h : u < (mL o).length := by omega
  have : zun o u = (mL o)[u] := by
    unfold zun
    rw [List.getD_eq_getElem?_getD, List.getElem?_eq_getElem h]
    rfl
  rw [this]
  exact (List.mem_filter.mp (List.getElem_mem h)).1
theorem zuc {o u : Nat} (ho : o < 8) (hu : u < q_cnt o) : q_uc o u = nI (codeL (zun o u)) := by
  obtain ⟨h1, h2, -⟩ := z_l3 ho (q_sets o) (Nat.le_refl _)
  obtain ⟨m1, m2⟩ := mL_ok ho
  have hlen : (l3 o (q_sets o)).length = q_cnt o := by
    have := congrArg List.length m1
    rw [List.length_map, List.length_reverse] at this
    omega
  have e := h2 (q_cnt o - 1 - u) (by omega)
  rw [hlen, show q_cnt o - 1 - (q_cnt o - 1 - u) = u by omega] at e
  have e2 : q_uc o u = nI ((l3 o (q_sets o)).getD (q_cnt o - 1 - u) 0) := e
  rw [e2]
  have e3 : ((mL o).map codeL)[u]? = (l3 o (q_sets o))[q_cnt o - 1 - u]? := by
    rw [m1, List.getElem?_reverse (by omega), hlen]
  have h : u < (mL o).length := by omega
  unfold zun
  rw [List.getD_eq_getElem?_getD, ← e3, List.getElem?_map, List.getD_eq_getElem?_getD, List.getElem?_eq_getElem h]
  rfl
theorem zurd {o u k : Nat} (ho : o < 8) (hu : u < q_cnt o) (hk : k < 8) : q_read (q_uc o u) k = q_row (zun o u) k := by
  rw [zuc ho hu]
  exact allL_rd (zun_mem ho hu) hk
theorem q_code_congr {f g : Nat → Int64} : ∀ n, (∀ j, j < n → f j = g j) → q_code f n = q_code g n
  | 0, _ => rfl
  | n + 1, h => by
    rw [q_code, q_code, q_code_congr n (fun j hj => h j (by omega)), h n (by omega)]
def sumC : List Nat → Nat
  | [] => 0
  | c :: r => q_c2 c + sumC r
theorem q_ev_mem (F : Nat → List (List Nat)) {c : Nat} {x : List Nat} (hc : c < 5) (h : x ∈ F c) : ∀ j, 5 - j ≤ c → j ≤ 5 → x ∈ q_ev F j
  | 0, h1, _ => by omega
  | j + 1, h1, h2 => by
    unfold q_ev
    by_cases e : c = 4 - j
    · exact List.mem_append_left _ (e ▸ h)
    · exact List.mem_append_right _ (q_ev_mem F hc h j (by omega) (by omega))
theorem q_en_mem : ∀ (r p : List Nat) (s : Nat), (∀ c ∈ r, c < 5) → s + sumC r = 4 → p ++ r ∈ q_en r.length p s
  | [], p, s, _, h => by
    have h : s = 4 := h
    show p ++ [] ∈ (if s = 4 then [p] else [])
    rw [if_pos h, List.append_nil]
    exact List.mem_singleton.mpr rfl
  | c :: r, p, s, hr, h => by
    have h : s + (q_c2 c + sumC r) = 4 := h
    have hc := hr c List.mem_cons_self
    show p ++ c :: r ∈ q_ev (fun c => if s + q_c2 c ≤ 4 then q_en r.length (p ++ [c]) (s + q_c2 c) else []) 5
    refine q_ev_mem _ hc ?_ 5 (by omega) (by omega)
    show p ++ c :: r ∈ (if s + q_c2 c ≤ 4 then q_en r.length (p ++ [c]) (s + q_c2 c) else [])
    rw [if_pos (by omega), show p ++ c :: r = (p ++ [c]) ++ r by simp]
    exact q_en_mem r (p ++ [c]) (s + q_c2 c) (fun t ht => hr t (List.mem_cons_of_mem _ ht)) (by omega)
/-- a row of norm 1 is one of the list -/
theorem zrow_of {f : Nat → Int64} (h : zok f) (h4 : q_inner f f 8 = 4) : ∃ r, r ∈ allL ∧ ∀ k, k < 8 → f k = q_row r k := by
  have hn : zn (zi f) = 4 := by
    rw [← zok_N h, h4]
    rfl
  have hb : ∀ k, k < 8 → -2 ≤ zi f k ∧ zi f k ≤ 2 := fun k hk => by
    have := zn_ge (zi f) k hk
    exact zsq_le (b := 2) (by omega) (by omega)
  have hd : ∀ k, k < 8 → ∃ c : Nat, c < 5 ∧ f k = lN c - 2 ∧ (q_c2 c : Int) = zi f k * zi f k := fun k hk => by
    obtain ⟨b1, b2⟩ := hb k hk
    have t : ∀ c : Nat, c < 5 → (lN c - 2).toInt = (c : Int) - 2 ∧ (q_c2 c : Int) = ((c : Int) - 2) * ((c : Int) - 2) := by decide +kernel
    refine ⟨(zi f k + 2).toNat, by omega, ?_, ?_⟩
    · rw [zeq, (t _ (by omega)).1]
      show zi f k = _
      omega
    · rw [(t _ (by omega)).2, show (((zi f k + 2).toNat : Nat) : Int) - 2 = zi f k by omega]
  obtain ⟨c0, p0, q0, s0⟩ := hd 0 (by omega)
  obtain ⟨c1, p1, q1, s1⟩ := hd 1 (by omega)
  obtain ⟨c2, p2, q2, s2⟩ := hd 2 (by omega)
  obtain ⟨c3, p3, q3, s3⟩ := hd 3 (by omega)
  obtain ⟨c4, p4, q4, s4⟩ := hd 4 (by omega)
  obtain ⟨c5, p5, q5, s5⟩ := hd 5 (by omega)
  obtain ⟨c6, p6, q6, s6⟩ := hd 6 (by omega)
  obtain ⟨c7, p7, q7, s7⟩ := hd 7 (by omega)
  refine ⟨[c0, c1, c2, c3, c4, c5, c6, c7], ?_, ?_⟩
  · have := q_en_mem [c0, c1, c2, c3, c4, c5, c6, c7] [] 0 (by
      intro c hc
      simp only [List.mem_cons, List.not_mem_nil, or_false] at hc
      omega) (by
      unfold zn at hn
      simp only [sumC]
      omega)
    exact this
  · intro k hk
    rcases (show k = 0 ∨ k = 1 ∨ k = 2 ∨ k = 3 ∨ k = 4 ∨ k = 5 ∨ k = 6 ∨ k = 7 by omega) with rfl | rfl | rfl | rfl | rfl | rfl | rfl | rfl
    · exact q0
    · exact q1
    · exact q2
    · exact q3
    · exact q4
    · exact q5
    · exact q6
    · exact q7
theorem allL_c {r : List Nat} (h : r ∈ allL) : q_code (q_row r) 8 = nI (codeL r) ∧ q_inner (q_row r) (q_row r) 8 = 4 := by
  have := List.all_eq_true.mp allL_cd r h
  simp only [Bool.and_eq_true, decide_eq_true_iff] at this
  exact this
theorem zun_iff {f : Nat → Int64} {o u : Nat} (ho : o < 8) (hu : u < q_cnt o) (h : zok f) : (q_inner f f 8 = 4 ∧ q_uc o u = q_code f 8) ↔ ∀ k, k < 8 → q_read (q_uc o u) k = f k := by
  constructor
  · rintro ⟨h4, he⟩ k hk
    obtain ⟨r, hr, hf⟩ := zrow_of h h4
    rw [he, q_code_congr 8 hf, (allL_c hr).1, allL_rd hr hk, hf k hk]
  · intro he
    have hm := zun_mem ho hu
    have hf : ∀ k, k < 8 → f k = q_row (zun o u) k := fun k hk => by rw [← he k hk, zurd ho hu hk]
    refine ⟨?_, ?_⟩
    · rw [zinn hf]
      exact (allL_c hm).2
    · rw [q_code_congr 8 hf, (allL_c hm).1]
      exact zuc ho hu

