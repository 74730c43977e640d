/-! ===== Units: the constructor ===== -/
def q_in (N : Nat) (x : Int32) (s : Nat × (Nat → Int32)) : Nat × (Nat → Int32) := if s.1 < N then (s.1 + 1, q_ins x s.1 s.2) else s
def og_hu (h : og_H) (u n N : Nat) (s : Nat × (Nat → Int32)) (r : Nat → Int64) : og_H := og_set (og_set (og_set h u (.inr (4, [.ref n, .int (nI s.1)]))) n (rowI N s.2)) (n + 1) (rowL r)
theorem hu_u (h : og_H) {u n N : Nat} (s : Nat × (Nat → Int32)) (r : Nat → Int64) (hun : u < n) : og_hu h u n N s r u = some (.inr (4, [.ref n, .int (nI s.1)])) := by
  rw [og_hu, og_set_ne _ _ (by omega), og_set_ne _ _ (by omega), og_set_eq]
theorem hu_n (h : og_H) {u n N : Nat} (s : Nat × (Nat → Int32)) (r : Nat → Int64) : og_hu h u n N s r n = some (rowI N s.2) := by
  rw [og_hu, og_set_ne _ _ (by omega), og_set_eq]
theorem hu_r (h : og_H) {u n N : Nat} (s : Nat × (Nat → Int32)) (r : Nat → Int64) : og_hu h u n N s r (n + 1) = some (rowL r) := by
  rw [og_hu, og_set_eq]
theorem hu_ne (h : og_H) {u n N : Nat} (s : Nat × (Nat → Int32)) (r : Nat → Int64) {a : Nat} (h1 : a ≠ u) (h2 : a ≠ n) (h3 : a ≠ n + 1) : og_hu h u n N s r a = h a := by
  rw [og_hu, og_set_ne _ _ h3, og_set_ne _ _ h2, og_set_ne _ _ h1]
theorem hu_row (h : og_H) (u n N : Nat) (s : Nat × (Nat → Int32)) (r r2 : Nat → Int64) : og_set (og_hu h u n N s r) (n + 1) (rowL r2) = og_hu h u n N s r2 := by
  rw [og_hu, og_set_set]; rfl
theorem hu_ins (h : og_H) {u n N : Nat} (s : Nat × (Nat → Int32)) (r : Nat → Int64) (x : Int32) (hun : u < n) {h1 : og_H} (z : (s.1 < N ∧ h1 = og_set (og_set (og_hu h u n N s r) n (rowI N (q_ins x s.1 s.2))) u (.inr (4, [.ref n, .int (nI (s.1 + 1))]))) ∨ (N ≤ s.1 ∧ h1 = og_hu h u n N s r)) : h1 = og_hu h u n N (q_in N x s) r := by
  rcases z with ⟨a, b⟩ | ⟨a, b⟩
  · rw [b, q_in, if_pos a]
    funext q
    unfold og_hu og_set
    by_cases h1 : q = u
    · rw [if_pos h1, if_neg (by omega), if_neg (by omega), if_pos h1]
    · by_cases h2 : q = n
      · rw [if_neg h1, if_pos h2, if_neg (by omega), if_pos h2]
      · by_cases h3 : q = n + 1
        · rw [if_neg h1, if_neg h2, if_pos h3, if_pos h3]
        · rw [if_neg h1, if_neg h2, if_neg h3, if_neg h2, if_neg h1, if_neg h3, if_neg h2, if_neg h1]
  · rw [b, q_in, if_neg (by omega)]
theorem q_in_le {N : Nat} {x : Int32} {s : Nat × (Nat → Int32)} (h : s.1 ≤ N) : (q_in N x s).1 ≤ N := by
  unfold q_in
  split
  · show s.1 + 1 ≤ N
    omega
  · exact h
def q_e2 (i : Nat) (x : Int64) : Nat → Int64 := vp_updL (fun _ => 0) i x
def q_u1 (N : Nat) : Nat → Nat × (Nat → Int32)
  | 0 => (0, fun _ => 0)
  | i + 1 => q_in N (q_code (q_e2 i (-2)) 8) (q_in N (q_code (q_e2 i 2) 8) (q_u1 N i))
def q_u2 (N : Nat) (odd : Int32) (s : Nat × (Nat → Int32)) : Nat → Nat × (Nat → Int32)
  | 0 => s
  | t + 1 => q_in N (q_code (q_spr odd (nI t)) 8) (q_u2 N odd s t)
def q_r2 (odd : Int32) (r : Nat → Int64) : Nat → (Nat → Int64)
  | 0 => r
  | t + 1 => q_spr odd (nI t)
def q_u3 (N o : Nat) (s : Nat × (Nat → Int32)) : Nat → Nat × (Nat → Int32)
  | 0 => s
  | m + 1 => if q_bc (q_os o m) = 4 then q_u2 N (q_os o m) (q_u3 N o s m) 16 else q_u3 N o s m
def q_r3 (o : Nat) : Nat → (Nat → Int64)
  | 0 => fun _ => 0
  | m + 1 => if q_bc (q_os o m) = 4 then q_r2 (q_os o m) (q_r3 o m) 16 else q_r3 o m
/-- the codes of an order's units, as the class lists them -/
def q_us3 (o : Nat) : Nat × (Nat → Int32) := q_u3 (q_cnt o) o (q_u1 (q_cnt o) 8) (q_sets o)
def q_uc (o : Nat) : Nat → Int32 := (q_us3 o).2
theorem q_u1_le (N i : Nat) : (q_u1 N i).1 ≤ N := by
  induction i with
  | zero => exact Nat.zero_le _
  | succ i ih => exact q_in_le (q_in_le ih)
theorem q_u2_le {N : Nat} {odd : Int32} {s : Nat × (Nat → Int32)} (h : s.1 ≤ N) (t : Nat) : (q_u2 N odd s t).1 ≤ N := by
  induction t with
  | zero => exact h
  | succ t ih => exact q_in_le ih
theorem q_u3_le {N o : Nat} {s : Nat × (Nat → Int32)} (h : s.1 ≤ N) (m : Nat) : (q_u3 N o s m).1 ≤ N := by
  induction m with
  | zero => exact h
  | succ m ih =>
    rw [q_u3]
    split
    · exact q_u2_le ih 16
    · exact ih
theorem q_cnt_le (o : Nat) : q_cnt o ≤ 240 := by
  unfold q_cnt
  split <;> omega
theorem q_cnt_nn (o : Nat) : ¬ nI (q_cnt o) < 0 := by
  unfold q_cnt
  split <;> decide
theorem q_cnt_cl (o : Nat) : (nI (q_cnt o)).toNatClampNeg = q_cnt o := by
  unfold q_cnt
  split <;> rfl
theorem q_e2_up (i : Nat) (x y : Int64) : vp_updL (q_e2 i x) i y = q_e2 i y := by
  funext q
  unfold q_e2 vp_updL
  split <;> rfl
theorem q_e2_0 (i : Nat) (x : Int64) : vp_updL (q_e2 i x) i 0 = fun _ => 0 := by
  rw [q_e2_up]
  funext q
  unfold q_e2 vp_updL
  split <;> rfl
set_option maxRecDepth 4000 in
theorem c_X6_init (E : og_E) (d n u o : Nat) (h : og_H) (hE : h 2 = some q_SE) (ho : o < 8) (hu : h u = some (.inr (4, [.null, .int 0]))) (h3u : 3 ≤ u) (hun : u < n) :
    og_M E yX6_init (.code yX6_init cX6_init 7 none) (d + 3) [.ref u, .int (nI o)] n h 2 248 (fun v n1 h1 => v = none ∧ n1 = n + 2 ∧ h1 = og_hu h u n (q_cnt o) (q_us3 o) (q_r3 o (q_sets o))) no_x := by
  refine og_start (lv := [some (.ref u), some (.int (nI o)), none, none, none, none, none]) (by decide) rfl rfl (Nat.le_of_ble_eq_true rfl) fun X hr hnm htb => ?_
  have hc240 := q_cnt_le o
  have hcN : q_cnt o < 2147483648 := by omega
  refine og_aload_n (pc := 0) dX6_init_0 rfl ?_
  refine og_objInit (pc := 1) K_X6_3 I_obj C_obj dX6_init_1 (by decide) ?_
  refine og_aload_n (pc := 4) dX6_init_4 rfl ?_
  refine og_iload_n (pc := 5) dX6_init_5 rfl ?_
  refine og_callS (pc := 6) (As := [.int (nI o)]) (rest := [.ref u]) (c_X6_count E d n o h ho) Y_X6_count S_X6_count K_X6_9 dX6_init_6 rfl rfl (Nat.le_of_ble_eq_true rfl) (by omega) (by omega) (by omega) (fun _ _ _ z => z) (fun v n1 h1 z => ?_)
  obtain ⟨rfl, rfl, rfl⟩ := z
  refine og_newa (pc := 9) (k := 1) (N := q_cnt o) (x := (q_cnt o, .inl (fun _ => 0))) (atype := .int) AC_int rfl (by decide) dX6_init_9 (fun _ => rfl) (q_cnt_nn o) (q_cnt_cl o) (by show q_cnt o * 4 ≤ _; omega) (by omega) (by omega) ?_
  have e1 : og_set h1 n1 (rowI (q_cnt o) (fun _ => 0)) u = some (.inr (4, [.null, .int 0])) := (og_set_ne _ _ (by omega)).trans hu
  refine og_putF (pc := 11) P_X6_15 dX6_init_11 e1 (by omega) hnm rfl rfl (Nat.le_of_ble_eq_true rfl) ?_
  refine og_aload_n (pc := 14) dX6_init_14 rfl ?_
  refine og_iconst (pc := 15) (v := 0) dX6_init_15 (by decide) ?_
  refine og_put (pc := 16) P_X6_19 dX6_init_16 (by repeat (first | exact og_set_eq _ _ _ | assumption | refine (og_set_ne _ _ (by first | assumption | omega)).trans ?_)) (by omega) rfl rfl (Nat.le_of_ble_eq_true rfl) ?_
  refine og_bipush (pc := 19) (v := 8) dX6_init_19 (by decide) ?_
  refine og_newa (pc := 21) (k := 2) (N := 8) (x := (8, .inr (.inl (fun _ => 0)))) (atype := .long) AC_long rfl (by decide) dX6_init_21 (fun _ => rfl) (by decide) (by decide) (by decide) (by omega) (by omega) ?_
  refine og_astore_n_2 (pc := 23) dX6_init_23 rfl ?_
  refine og_iconst (pc := 24) (v := 0) dX6_init_24 (by decide) ?_
  refine og_istore_n_3 (pc := 25) dX6_init_25 rfl ?_
  have eH : ∀ g : og_H, g = og_hu h1 u n1 (q_cnt o) (q_u1 (q_cnt o) 0) (fun _ => 0) → og_G E yX6_init.cls cX6_init (d + 3) 2 248 7 X (og_Q E (fun v n2 h2 => v = none ∧ n2 = n1 + 2 ∧ h2 = og_hu h1 u n1 (q_cnt o) (q_us3 o) (q_r3 o (q_sets o))) no_x 2 248 X) (0 + 0 + 1 + 1) (0 + 0 + q_cnt o + 8) (n1 + 1 + 1) g 26 [some (.ref u), some (.int (nI o)), some (.ref (n1 + 1)), some (.int (nI 0)), none, none, none] [] := by
    intro g hg
    subst hg
    refine og_for (i0 := 0) (N := 8) (by decide) (fun i => og_hu h1 u n1 (q_cnt o) (q_u1 (q_cnt o) i) (fun _ => 0)) (fun i => [some (.ref u), some (.int (nI o)), some (.ref (n1 + 1)), some (.int (nI i)), none, none, none]) ?_ (fun i _ hi ih => ?_)
    · refine og_iload_n (pc := 26) dX6_init_26 rfl ?_
      refine og_bipush (pc := 27) (v := 8) dX6_init_27 (by decide) ?_
      refine og_geN (pc := 29) (tgt := 70) (i := 8) (N := 8) dX6_init_29 (by decide) rfl rfl (by omega) (by omega) (fun c_29 => ?_) (fun c_29 => ?_)
      · refine og_forget_3 ?_
        refine og_iload_n (pc := 70) dX6_init_70 rfl ?_
        refine og_callS (pc := 71) (As := [.int (nI o)]) (rest := []) (c_X2_sets E d (n1 + 1 + 1) o _ ((hu_ne _ _ _ (by omega) (by omega) (by omega)).trans hE) ho) Y_X2_sets S_X2_sets K_X6_37 dX6_init_71 rfl rfl (Nat.le_of_ble_eq_true rfl) (by omega) (by omega) (by omega) (fun _ _ _ z => z) (fun v n1 h1 z => ?_)
        obtain ⟨rfl, hn3, rfl⟩ := z
        subst hn3
        refine og_istore_n_3 (pc := 74) dX6_init_74 rfl ?_
        refine og_iconst (pc := 75) (v := 0) dX6_init_75 (by decide) ?_
        refine og_istore_4 (pc := 76) dX6_init_76 rfl ?_
        have lp : ∀ g : Nat → Int64, g = q_r3 o 0 → og_G E yX6_init.cls cX6_init (d + 3) 2 248 7 X (og_Q E (fun v n3 h3 => v = none ∧ n3 = n1 + 2 ∧ h3 = og_hu h1 u n1 (q_cnt o) (q_us3 o) (q_r3 o (q_sets o))) no_x 2 248 X) (0 + 0 + 1 + 1) (0 + 0 + q_cnt o + 8) (n1 + 1 + 1) (og_hu h1 u n1 (q_cnt o) (q_u1 (q_cnt o) 8) g) 78 [some (.ref u), some (.int (nI o)), some (.ref (n1 + 1)), some (.int (nI (q_sets o))), some (.int (nI 0)), none, none] [] := by
          intro g hg
          subst hg
          refine og_for (i0 := 0) (N := q_sets o) (Nat.zero_le _) (fun m => og_hu h1 u n1 (q_cnt o) (q_u3 (q_cnt o) o (q_u1 (q_cnt o) 8) m) (q_r3 o m)) (fun m => [some (.ref u), some (.int (nI o)), some (.ref (n1 + 1)), some (.int (nI (q_sets o))), some (.int (nI m)), none, none]) ?_ (fun m _ hm ih => ?_)
          · have hs31 : q_sets o < 2147483648 := by have := q_sets_le o; omega
            refine og_iload (pc := 78) dX6_init_78 rfl ?_
            refine og_iload_n (pc := 80) dX6_init_80 rfl ?_
            refine og_geN (pc := 81) (tgt := 139) (i := (q_sets o)) (N := (q_sets o)) dX6_init_81 (by decide) rfl rfl (by omega) (by omega) (fun c_81 => ?_) (fun c_81 => ?_)
            · exact og_vret (pc := 139) hr dX6_init_139 (by omega) (by omega) ⟨rfl, rfl, rfl⟩
            · omega
          · have hm16 : m < 16 := by have := q_sets_le o; omega
            have hs31 : q_sets o < 2147483648 := by have := q_sets_le o; omega
            refine og_iload (pc := 78) dX6_init_78 rfl ?_
            refine og_iload_n (pc := 80) dX6_init_80 rfl ?_
            refine og_geN (pc := 81) (tgt := 139) (i := m) (N := (q_sets o)) dX6_init_81 (by decide) rfl rfl (by omega) (by omega) (fun c_81 => ?_) (fun c_81 => ?_)
            · omega
            refine og_iload_n (pc := 84) dX6_init_84 rfl ?_
            refine og_iload (pc := 85) dX6_init_85 rfl ?_
            refine og_callS (pc := 87) (As := [.int (nI o), .int (nI m)]) (rest := []) (c_X2_oddSet E d (n1 + 1 + 1) o m _ ((hu_ne _ _ _ (by omega) (by omega) (by omega)).trans hE) ho hm16) Y_X2_oddSet S_X2_oddSet K_X6_42 dX6_init_87 rfl rfl (Nat.le_of_ble_eq_true rfl) (by omega) (by omega) (by omega) (fun _ _ _ z => z) (fun v n1 h1 z => ?_)
            obtain ⟨rfl, hn4, rfl⟩ := z
            subst hn4
            refine og_istore_5 (pc := 90) dX6_init_90 rfl ?_
            refine og_iconst (pc := 92) (v := 0) dX6_init_92 (by decide) ?_
            refine og_istore_6 (pc := 93) dX6_init_93 rfl ?_
            by_cases hb : q_bc (q_os o m) = 4
            · refine og_for (i0 := 0) (N := 16) (by decide) (fun t => og_hu h1 u n1 (q_cnt o) (q_u2 (q_cnt o) (q_os o m) (q_u3 (q_cnt o) o (q_u1 (q_cnt o) 8) m) t) (q_r2 (q_os o m) (q_r3 o m) t)) (fun t => [some (.ref u), some (.int (nI o)), some (.ref (n1 + 1)), some (.int (nI (q_sets o))), some (.int (nI m)), some (.int (q_os o m)), some (.int (nI t))]) ?_ (fun t _ ht ih2 => ?_)
              · refine og_iload (pc := 95) dX6_init_95 rfl ?_
                refine og_bipush (pc := 97) (v := 16) dX6_init_97 (by decide) ?_
                refine og_geN (pc := 99) (tgt := 133) (i := 16) (N := 16) dX6_init_99 (by decide) rfl rfl (by omega) (by omega) (fun c_99 => ?_) (fun c_99 => ?_)
                · refine og_forget_5 (og_forget_6 ?_)
                  refine og_iinc_4 (pc := 133) dX6_init_133 (og_inc m) rfl ?_
                  refine og_goto (pc := 136) (tgt := 78) dX6_init_136 (by decide) ?_
                  have e1 : q_u3 (q_cnt o) o (q_u1 (q_cnt o) 8) (m + 1) = q_u2 (q_cnt o) (q_os o m) (q_u3 (q_cnt o) o (q_u1 (q_cnt o) 8) m) 16 := if_pos hb
                  have e2 : q_r3 o (m + 1) = q_r2 (q_os o m) (q_r3 o m) 16 := if_pos hb
                  rw [e1, e2] at ih
                  exact ih
                · omega
              · have hle : (q_u2 (q_cnt o) (q_os o m) (q_u3 (q_cnt o) o (q_u1 (q_cnt o) 8) m) t).1 ≤ q_cnt o := q_u2_le (q_u3_le (q_u1_le _ _) _) _
                refine og_iload (pc := 95) dX6_init_95 rfl ?_
                refine og_bipush (pc := 97) (v := 16) dX6_init_97 (by decide) ?_
                refine og_geN (pc := 99) (tgt := 133) (i := t) (N := 16) dX6_init_99 (by decide) rfl rfl (by omega) (by omega) (fun c_99 => ?_) (fun c_99 => ?_)
                · omega
                refine og_iload (pc := 102) dX6_init_102 rfl ?_
                refine og_callS (pc := 104) (As := [.int (q_os o m)]) (rest := []) (c_J6_bitCount E d (n1 + 1 + 1) _ (q_os o m)) Y_J6_bitCount_0f7a4 S_J6_bitCount_0f7a4 K_X6_46 dX6_init_104 rfl rfl (Nat.le_of_ble_eq_true rfl) (by omega) (by omega) (by omega) (fun _ _ _ z => z) (fun v n1 h1 z => ?_)
                obtain ⟨rfl, hn5, rfl⟩ := z
                subst hn5
                refine og_iconst (pc := 107) (v := 4) dX6_init_107 (by decide) ?_
                refine og_icmp_ne (pc := 108) (tgt := 133) dX6_init_108 (by decide) (fun c => absurd hb c) (fun _ => ?_)
                refine og_iload (pc := 111) dX6_init_111 rfl ?_
                refine og_iload (pc := 113) dX6_init_113 rfl ?_
                refine og_aload_n (pc := 115) dX6_init_115 rfl ?_
                refine og_callS (pc := 116) (As := [.int (q_os o m), .int (nI t), .ref (n1 + 1)]) (rest := []) (c_X6_spread E d (n1 + 1 + 1) (n1 + 1) _ _ (q_os o m) (nI t) (hu_r _ _ _) (by omega)) Y_X6_spread S_X6_spread K_X6_51 dX6_init_116 rfl rfl (Nat.le_of_ble_eq_true rfl) (by omega) (by omega) (by omega) (fun _ _ _ z => z) (fun v n1 h1 z => ?_)
                obtain ⟨rfl, hn6, rfl⟩ := z
                subst hn6
                rw [hu_row]
                refine og_aload_n (pc := 119) dX6_init_119 rfl ?_
                refine og_aload_n (pc := 120) dX6_init_120 rfl ?_
                refine og_callS (pc := 121) (As := [.ref (n1 + 1)]) (rest := [.ref u]) (c_X6_code E d (n1 + 1 + 1) (n1 + 1) _ (q_spr (q_os o m) (nI t)) (hu_r _ _ _) (by omega)) Y_X6_code S_X6_code K_X6_27 dX6_init_121 rfl rfl (Nat.le_of_ble_eq_true rfl) (by omega) (by omega) (by omega) (fun _ _ _ z => z) (fun v n1 h1 z => ?_)
                obtain ⟨rfl, hn7, rfl⟩ := z
                subst hn7
                refine og_callV (pc := 124) (As := [.int (q_code (q_spr (q_os o m) (nI t)) 8)]) (rest := []) (c_X6_insert E d (n1 + 1 + 1) u n1 (q_cnt o) _ _ _ (q_code (q_spr (q_os o m) (nI t)) 8) (hu_u _ _ _ hun) (hu_n _ _ _) (by omega) (by omega) (by omega) hle hcN) Y_X6_insert I_X6_insert V_X6_insert (hu_u _ _ _ hun) (by omega) rfl rfl K_X6_31 dX6_init_124 rfl rfl (Nat.le_of_ble_eq_true rfl) (by omega) (by omega) (by omega) (fun _ _ _ z => z) (fun v n8 h8 z => ?_)
                obtain ⟨rfl, hn8, z⟩ := z
                subst hn8
                have z := hu_ins _ _ _ _ hun z
                subst z
                refine og_iinc_6 (pc := 127) dX6_init_127 (og_inc t) rfl ?_
                refine og_goto (pc := 130) (tgt := 95) dX6_init_130 (by decide) ?_
                exact ih2
            · refine og_iload (pc := 95) dX6_init_95 rfl ?_
              refine og_bipush (pc := 97) (v := 16) dX6_init_97 (by decide) ?_
              refine og_geN (pc := 99) (tgt := 133) (i := 0) (N := 16) dX6_init_99 (by decide) rfl rfl (by omega) (by omega) (fun c_99 => ?_) (fun c_99 => ?_)
              · omega
              refine og_iload (pc := 102) dX6_init_102 rfl ?_
              refine og_callS (pc := 104) (As := [.int (q_os o m)]) (rest := []) (c_J6_bitCount E d (n1 + 1 + 1) _ (q_os o m)) Y_J6_bitCount_0f7a4 S_J6_bitCount_0f7a4 K_X6_46 dX6_init_104 rfl rfl (Nat.le_of_ble_eq_true rfl) (by omega) (by omega) (by omega) (fun _ _ _ z => z) (fun v n1 h1 z => ?_)
              obtain ⟨rfl, hn5, rfl⟩ := z
              subst hn5
              refine og_iconst (pc := 107) (v := 4) dX6_init_107 (by decide) ?_
              refine og_icmp_ne (pc := 108) (tgt := 133) dX6_init_108 (by decide) (fun _ => ?_) (fun c => absurd c hb)
              refine og_forget_5 (og_forget_6 ?_)
              refine og_iinc_4 (pc := 133) dX6_init_133 (og_inc m) rfl ?_
              refine og_goto (pc := 136) (tgt := 78) dX6_init_136 (by decide) ?_
              have e1 : q_u3 (q_cnt o) o (q_u1 (q_cnt o) 8) (m + 1) = q_u3 (q_cnt o) o (q_u1 (q_cnt o) 8) m := if_neg hb
              have e2 : q_r3 o (m + 1) = q_r3 o m := if_neg hb
              rw [e1, e2] at ih
              exact ih
        exact lp _ rfl
      · omega
    · refine og_iload_n (pc := 26) dX6_init_26 rfl ?_
      refine og_bipush (pc := 27) (v := 8) dX6_init_27 (by decide) ?_
      refine og_geN (pc := 29) (tgt := 70) (i := i) (N := 8) dX6_init_29 (by decide) rfl rfl (by omega) (by omega) (fun c_29 => ?_) (fun c_29 => ?_)
      · omega
      have er : og_hu h1 u n1 (q_cnt o) (q_u1 (q_cnt o) i) (fun _ => 0) (n1 + 1) = some (rowL (fun _ => 0)) := hu_r _ _ _
      refine og_aload_n (pc := 32) dX6_init_32 rfl ?_
      refine og_iload_n (pc := 33) dX6_init_33 rfl ?_
      refine og_ldc2 (pc := 34) LC_X6_25 dX6_init_34 ?_
      refine og_lastN (pc := 37) rfl dX6_init_37 er (by omega) (by omega) (by first | decide | assumption | omega) ?_
      refine og_aload_n (pc := 38) dX6_init_38 rfl ?_
      refine og_aload_n (pc := 39) dX6_init_39 rfl ?_
      rw [hu_row, show vp_updL (fun _ => 0) i 2 = q_e2 i 2 from rfl]
      refine og_callS (pc := 40) (As := [.ref (n1 + 1)]) (rest := [.ref u]) (c_X6_code E d (n1 + 1 + 1) (n1 + 1) _ (q_e2 i 2) (hu_r _ _ _) (by omega)) Y_X6_code S_X6_code K_X6_27 dX6_init_40 rfl rfl (Nat.le_of_ble_eq_true rfl) (by omega) (by omega) (by omega) (fun _ _ _ z => z) (fun v n1 h1 z => ?_)
      obtain ⟨rfl, hn2, rfl⟩ := z
      subst hn2
      refine og_callV (pc := 43) (As := [.int (q_code (q_e2 i 2) 8)]) (rest := []) (c_X6_insert E d (n1 + 1 + 1) u n1 (q_cnt o) (q_u1 (q_cnt o) i).1 _ (q_u1 (q_cnt o) i).2 (q_code (q_e2 i 2) 8) (hu_u _ _ _ hun) (hu_n _ _ _) (by omega) (by omega) (by omega) (q_u1_le _ _) hcN) Y_X6_insert I_X6_insert V_X6_insert (hu_u _ _ _ hun) (by omega) rfl rfl K_X6_31 dX6_init_43 rfl rfl (Nat.le_of_ble_eq_true rfl) (by omega) (by omega) (by omega) (fun _ _ _ z => z) (fun v n3 h3 z => ?_)
      obtain ⟨rfl, hn3, z⟩ := z
      subst hn3
      have z := hu_ins _ _ _ _ hun z
      subst z
      refine og_aload_n (pc := 46) dX6_init_46 rfl ?_
      refine og_iload_n (pc := 47) dX6_init_47 rfl ?_
      refine og_ldc2 (pc := 48) LC_X6_35 dX6_init_48 ?_
      refine og_lastN (pc := 51) rfl dX6_init_51 (hu_r _ _ _) (by omega) (by omega) (by first | decide | assumption | omega) ?_
      refine og_aload_n (pc := 52) dX6_init_52 rfl ?_
      refine og_aload_n (pc := 53) dX6_init_53 rfl ?_
      rw [hu_row, q_e2_up]
      refine og_callS (pc := 54) (As := [.ref (n1 + 1)]) (rest := [.ref u]) (c_X6_code E d (n1 + 1 + 1) (n1 + 1) _ (q_e2 i (-2)) (hu_r _ _ _) (by omega)) Y_X6_code S_X6_code K_X6_27 dX6_init_54 rfl rfl (Nat.le_of_ble_eq_true rfl) (by omega) (by omega) (by omega) (fun _ _ _ z => z) (fun v n1 h1 z => ?_)
      obtain ⟨rfl, hn4, rfl⟩ := z
      subst hn4
      refine og_callV (pc := 57) (As := [.int (q_code (q_e2 i (-2)) 8)]) (rest := []) (c_X6_insert E d (n1 + 1 + 1) u n1 (q_cnt o) (q_in (q_cnt o) (q_code (q_e2 i 2) 8) (q_u1 (q_cnt o) i)).1 _ _ (q_code (q_e2 i (-2)) 8) (hu_u _ _ _ hun) (hu_n _ _ _) (by omega) (by omega) (by omega) (q_in_le (q_u1_le _ _)) hcN) Y_X6_insert I_X6_insert V_X6_insert (hu_u _ _ _ hun) (by omega) rfl rfl K_X6_31 dX6_init_57 rfl rfl (Nat.le_of_ble_eq_true rfl) (by omega) (by omega) (by omega) (fun _ _ _ z => z) (fun v n5 h5 z => ?_)
      obtain ⟨rfl, hn5, z⟩ := z
      subst hn5
      have z := hu_ins _ _ _ _ hun z
      subst z
      refine og_aload_n (pc := 60) dX6_init_60 rfl ?_
      refine og_iload_n (pc := 61) dX6_init_61 rfl ?_
      refine og_lconst (pc := 62) (v := 0) dX6_init_62 (by decide) ?_
      refine og_lastN (pc := 63) rfl dX6_init_63 (hu_r _ _ _) (by omega) (by omega) (by first | decide | assumption | omega) ?_
      refine og_iinc_3 (pc := 64) dX6_init_64 (og_inc i) rfl ?_
      rw [hu_row, q_e2_0]
      refine og_goto (pc := 67) (tgt := 26) dX6_init_67 (by decide) ?_
      exact ih
  refine eH _ ?_
  rw [og_set_set, og_set_comm h1 _ _ (show n1 ≠ u by omega)]
  rfl
