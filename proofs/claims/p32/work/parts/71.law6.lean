/-! ===== the law: units: the fold over the rows of norm 4 is the class's list ===== -/
theorem og_M.mono {E : og_E} {y : MethodName} {wc : Cond} {d : Nat} {As : List Value} {n : Nat} {h : og_H} {mc ms : Nat} {Po Po2 : Option Value → Nat → og_H → Prop} {Px Px2 : String → Nat → og_H → Prop} (w : og_M E y wc d As n h mc ms Po Px) (hp : ∀ v n1 h1, Po v n1 h1 → Po2 v n1 h1) (hx : ∀ En n1 h1, Px En n1 h1 → Px2 En n1 h1) : og_M E y wc d As n h mc ms Po2 Px2 := fun l hl => by
  refine MetFree.mono (w l hl) (fun _ _ z => z) (fun _ _ _ _ _ z => z) (fun a s o t _ q => ?_)
  rcases q with ⟨⟨⟨v, n1, h1, e, p, k⟩, F⟩, L⟩ | ⟨q, e, En, ce, L, ⟨⟨n1, h1, p, k⟩, F⟩, z⟩
  · exact Or.inl ⟨⟨⟨v, n1, h1, e, hp _ _ _ p, k⟩, F⟩, L⟩
  · exact Or.inr ⟨q, e, En, ce, L, ⟨⟨n1, h1, hx _ _ _ p, k⟩, F⟩, z⟩
theorem masks_ok : ∀ o, o < 8 → ∀ w, w < 256 → ((masks o).contains w = true ↔ okP o w) := by
  unfold okP
  decide +kernel
theorem y_len {r : List Nat} (h : r ∈ allL) : maskL r 8 1 = oddN (q_row r) 8 ∧ codeL r < 2147483648 := by
  have := List.all_eq_true.mp allL_ok r h
  simp only [Bool.and_eq_true, decide_eq_true_iff] at this
  exact ⟨this.1.2, this.2⟩
theorem y_inB {o : Nat} (ho : o < 8) {r : List Nat} (h : r ∈ allL) : q_al o (q_row r) ↔ inB o r = true := by
  rw [zal ho]
  unfold inB
  rw [(y_len h).1]
  exact (masks_ok o ho _ (oddN_lt _ 8)).symm
noncomputable def y_fh (num : Int32) : List (List Nat) → y_S → y_S
  | [], S => S
  | r :: l, S => y_fh num l (y_hit num r S)
theorem y_fd_fh {o : Nat} (ho : o < 8) (num : Int32) : ∀ (l : List (List Nat)) (S : y_S), (∀ r ∈ l, r ∈ allL) → y_fd o num l S = y_fh num (l.filter (inB o)) S
  | [], _, _ => rfl
  | r :: l, S, h => by
    have h1 := y_inB ho (h r List.mem_cons_self)
    have h2 : ∀ r ∈ l, r ∈ allL := fun q hq => h q (List.mem_cons_of_mem _ hq)
    by_cases e : inB o r = true
    · rw [List.filter_cons_of_pos e, y_fd, q_if_pos (h1.mpr e), y_fh]
      exact y_fd_fh ho num l _ h2
    · rw [List.filter_cons_of_neg e, y_fd, q_if_neg (fun q => e (h1.mp q))]
      exact y_fd_fh ho num l _ h2
theorem y_fd_mL {o : Nat} (ho : o < 8) (num : Int32) (S : y_S) : y_fd o num allL S = y_fh num (mL o) S := y_fd_fh ho num allL S (fun _ h => h)
theorem y_fh_1 (num : Int32) : ∀ (l : List (List Nat)) (S : y_S), (y_fh num l S).1 = S.1 + l.length
  | [], _ => rfl
  | r :: l, S => by
    rw [y_fh, y_fh_1 num l]
    show S.1 + 1 + l.length = S.1 + (l.length + 1)
    omega
theorem y_cnt {o : Nat} (ho : o < 8) (num : Int32) (G : Nat → Int64) (x : Int32) : (y_fd o num allL (0, x, G)).1 = q_cnt o := by
  rw [y_fd_mL ho, y_fh_1, (mL_ok ho).2]
  exact Nat.zero_add _
theorem y_nm1 {k : Nat} (hk : k < 1000) : nI k ≠ -1 := fun h => by
  have := nI_pos (n := k) (by omega)
  rw [h] at this
  exact this (by decide)
theorem y_fh_w : ∀ (l : List (List Nat)) (S : y_S), S.1 + l.length ≤ 240 → (y_fh (-1) l S).2.2 = S.2.2 ∧ ((∃ v, v < l.length ∧ zE (q_row (l.getD v [])) S.2.2 ∧ (y_fh (-1) l S).2.1 = nI (S.1 + v)) ∨ ((∀ v, v < l.length → ¬ zE (q_row (l.getD v [])) S.2.2) ∧ (y_fh (-1) l S).2.1 = S.2.1))
  | [], _, _ => ⟨rfl, Or.inr ⟨fun v hv => absurd hv (Nat.not_lt_zero v), rfl⟩⟩
  | r :: l, S, hl => by
    have hl : S.1 + (l.length + 1) ≤ 240 := hl
    have eG : (y_hit (-1) r S).2.2 = S.2.2 := if_neg (y_nm1 (by omega))
    have e1 : (y_hit (-1) r S).1 = S.1 + 1 := rfl
    obtain ⟨i1, i2⟩ := y_fh_w l (y_hit (-1) r S) (by rw [e1]; omega)
    rw [y_fh, i1, eG]
    rw [eG, e1] at i2
    refine ⟨rfl, ?_⟩
    rcases i2 with ⟨v, v1, v2, v3⟩ | ⟨v1, v2⟩
    · exact Or.inl ⟨v + 1, Nat.succ_lt_succ v1, v2, by rw [v3]; congr 1; omega⟩
    · by_cases e : zE (q_row r) S.2.2
      · exact Or.inl ⟨0, Nat.succ_pos _, e, by rw [v2]; exact q_if_pos e⟩
      · refine Or.inr ⟨fun v hv => ?_, by rw [v2]; exact q_if_neg e⟩
        match v, hv with
        | 0, _ => exact e
        | v + 1, hv => exact v1 v (Nat.lt_of_succ_lt_succ hv)
theorem y_fh_u (u : Nat) (hu : u < 1000) : ∀ (l : List (List Nat)) (S : y_S), S.1 + l.length ≤ 240 → (u < S.1 → (y_fh (nI u) l S).2.2 = S.2.2) ∧ (S.1 ≤ u → u < S.1 + l.length → (y_fh (nI u) l S).2.2 = q_row (l.getD (u - S.1) []))
  | [], _, _ => ⟨fun _ => rfl, fun h1 h2 => absurd h2 (Nat.not_lt_of_le h1)⟩
  | r :: l, S, hl => by
    have hl : S.1 + (l.length + 1) ≤ 240 := hl
    have e1 : (y_hit (nI u) r S).1 = S.1 + 1 := rfl
    obtain ⟨i1, i2⟩ := y_fh_u u hu l (y_hit (nI u) r S) (by rw [e1]; omega)
    rw [e1] at i1 i2
    rw [y_fh]
    refine ⟨fun h => ?_, fun h1 h2 => ?_⟩
    · rw [i1 (by omega)]
      exact if_neg (fun q => absurd ((nI_eq (by omega) (by omega)).mp q) (by omega))
    · by_cases e : u = S.1
      · rw [i1 (by omega), e, Nat.sub_self]
        exact if_pos rfl
      · have h2 : u < S.1 + (l.length + 1) := h2
        rw [i2 (by omega) (by omega), show u - S.1 = (u - (S.1 + 1)) + 1 by omega]
        rfl
def y_inc : List Nat → Bool
  | a :: b :: t => decide (a < b) && y_inc (b :: t)
  | _ => true
theorem y_inc_lt : ∀ (l : List Nat), y_inc l = true → ∀ i j, i < j → j < l.length → l.getD i 0 < l.getD j 0
  | [], _, _, _, _, hj => absurd hj (Nat.not_lt_zero _)
  | [a], _, i, j, hi, hj => absurd hj (by show ¬ j < 1; omega)
  | a :: b :: t, h, i, j, hij, hj => by
    simp only [y_inc, Bool.and_eq_true, decide_eq_true_iff] at h
    have hj : j < t.length + 2 := hj
    have ih := y_inc_lt (b :: t) h.2
    match i, j, hij, hj with
    | 0, 1, _, _ => exact h.1
    | 0, j + 2, _, hj => exact Nat.lt_trans h.1 (ih 0 (j + 1) (by omega) (by show j + 1 < t.length + 1; omega))
    | i + 1, j + 1, hij, hj => exact ih i j (by omega) (by show j < t.length + 1; omega)
theorem y_inc_mL : ∀ o, o < 8 → y_inc ((mL o).map codeL) = true := by decide +kernel
theorem y_uniq {o : Nat} (ho : o < 8) {u v : Nat} (hu : u < q_cnt o) (hv : v < q_cnt o) (h : q_uc o u = q_uc o v) : u = v := by
  rw [zuc ho hu, zuc ho hv] at h
  have h2 := (nI_eq (y_len (zun_mem ho hu)).2 (y_len (zun_mem ho hv)).2).mp h
  have hl := (mL_ok ho).2
  have g : ∀ w, w < q_cnt o → ((mL o).map codeL).getD w 0 = codeL (zun o w) := fun w hw => by
    unfold zun
    rw [List.getD_eq_getElem?_getD, List.getElem?_map, List.getD_eq_getElem?_getD, List.getElem?_eq_getElem (by omega)]
    rfl
  have inc := y_inc_lt _ (y_inc_mL o ho)
  rw [List.length_map] at inc
  rcases Nat.lt_trichotomy u v with q | q | q
  · have := inc u v q (by omega)
    rw [g u hu, g v hv] at this
    omega
  · exact q
  · have := inc v u q (by omega)
    rw [g u hu, g v hv] at this
    omega
theorem y_uno {o : Nat} (ho : o < 8) {f : Nat → Int64} (hf : zok f) : (y_fd o (-1) allL (0, -1, f)).2.2 = f ∧ (y_fd o (-1) allL (0, -1, f)).2.1 = q_uno o f := by
  rw [y_fd_mL ho]
  have hl := (mL_ok ho).2
  have hc := q_cnt_le o
  obtain ⟨w1, w2⟩ := y_fh_w (mL o) (0, -1, f) (by show 0 + (mL o).length ≤ 240; omega)
  refine ⟨w1, ?_⟩
  have m : ∀ u, u < q_cnt o → (zE (q_row (zun o u)) f ↔ (q_inner f f 8 = 4 ∧ q_uc o u = q_code f 8)) := fun u hu => by
    rw [zun_iff ho hu hf]
    exact ⟨fun q k hk => by rw [zurd ho hu hk]; exact q k hk, fun q k hk => by rw [← zurd ho hu hk]; exact q k hk⟩
  rcases w2 with ⟨v, v1, v2, v3⟩ | ⟨v1, v2⟩
  · rw [hl] at v1
    obtain ⟨a, b⟩ := (m v v1).mp v2
    rw [v3, q_uno_1 a v1 b (fun j hj q => by
      have := y_uniq ho (by omega) v1 (q.trans b.symm)
      omega)]
    congr 1
    exact Nat.zero_add _
  · rw [v2]
    refine (q_uno_0 ?_).symm
    by_cases a : q_inner f f 8 = 4
    · exact Or.inr fun j hj q => v1 j (by omega) ((m j hj).mpr ⟨a, q⟩)
    · exact Or.inl a
theorem y_unu {o u : Nat} (ho : o < 8) (hu : u < q_cnt o) (G : Nat → Int64) : (y_fd o (nI u) allL (0, -1, G)).2.2 = q_row (zun o u) := by
  rw [y_fd_mL ho]
  have hl := (mL_ok ho).2
  have hc := q_cnt_le o
  exact (y_fh_u u (by omega) (mL o) (0, -1, G) (by show 0 + (mL o).length ≤ 240; omega)).2 (Nat.zero_le _) (by show u < 0 + (mL o).length; omega)
/-- which unit a row is -/
theorem c_L_unitsA (E : og_E) (d n b o : Nat) (h : og_H) (f : Nat → Int64) (hb : h b = some (rowL f)) (h3b : 3 ≤ b) (hbn : b < n) (ho : o < 8) (hf : zok f) :
    og_M E yL_units (.code yL_units cL_units 11 (some .int)) (d + 2) [.int (nI o), .ref b, .ref b, .int (-1)] n h 241 1928 (fun v n1 h1 => n ≤ n1 ∧ (∀ a, a < n → h1 a = h a) ∧ v = some (.int (q_uno o f))) no_x := by
  obtain ⟨u1, u2⟩ := y_uno ho hf
  refine og_M.mono (c_L_units E d n b o (-1) h f hb h3b hbn ho (by rw [y_cnt ho]; exact q_cnt_le o)) (fun v n1 h1 q => ?_) (fun _ _ _ z => z)
  obtain ⟨q1, q2, q3, q4⟩ := q
  refine ⟨q1, fun a ha => ?_, ?_⟩
  · by_cases e : a = b
    · rw [e, q3, u1, hb]
    · exact q2 a ha e
  · rcases q4 with ⟨_, q⟩ | ⟨q, _⟩
    · rw [q, u2]
    · exact absurd (by decide) q
/-- the row of a unit, and how many there are -/
theorem c_L_unitsB (E : og_E) (d n b o u : Nat) (h : og_H) (f : Nat → Int64) (hb : h b = some (rowL f)) (h3b : 3 ≤ b) (hbn : b < n) (ho : o < 8) (hu : u < q_cnt o) :
    og_M E yL_units (.code yL_units cL_units 11 (some .int)) (d + 2) [.int (nI o), .ref b, .ref b, .int (nI u)] n h 241 1928 (fun v n1 h1 => n ≤ n1 ∧ (∀ a, a < n → a ≠ b → h1 a = h a) ∧ h1 b = some (rowL (q_row (zun o u))) ∧ v = some (.int (nI (q_cnt o)))) no_x := by
  have hc := q_cnt_le o
  refine og_M.mono (c_L_units E d n b o (nI u) h f hb h3b hbn ho (by rw [y_cnt ho]; exact hc)) (fun v n1 h1 q => ?_) (fun _ _ _ z => z)
  obtain ⟨q1, q2, q3, q4⟩ := q
  rw [y_unu ho hu] at q3
  refine ⟨q1, q2, q3, ?_⟩
  rcases q4 with ⟨q, _⟩ | ⟨_, q⟩
  · exact absurd q (nI_pos (by omega))
  · rw [q, y_cnt ho]
