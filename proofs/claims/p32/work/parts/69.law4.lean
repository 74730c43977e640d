/-! ===== the law: units ===== -/
abbrev y_S : Type := Nat × Int32 × (Nat → Int64)
noncomputable def y_hit (num : Int32) (r : List Nat) (S : y_S) : y_S := (S.1 + 1, q_if (zE (q_row r) S.2.2) (nI S.1) S.2.1, if nI S.1 = num then q_row r else S.2.2)
noncomputable def y_fd (o : Nat) (num : Int32) : List (List Nat) → y_S → y_S
  | [], S => S
  | r :: l, S => y_fd o num l (q_if (q_al o (q_row r)) (y_hit num r S) S)
theorem y_fd_app (o : Nat) (num : Int32) : ∀ (l1 l2 : List (List Nat)) (S : y_S), y_fd o num (l1 ++ l2) S = y_fd o num l2 (y_fd o num l1 S)
  | [], _, _ => rfl
  | r :: l, l2, S => y_fd_app o num l l2 _
theorem y_fd_le (o : Nat) (num : Int32) : ∀ (l : List (List Nat)) (S : y_S), S.1 ≤ (y_fd o num l S).1
  | [], _ => Nat.le_refl _
  | r :: l, S => by
    refine Nat.le_trans ?_ (y_fd_le o num l _)
    by_cases e : q_al o (q_row r)
    · rw [q_if_pos e]
      exact Nat.le_succ _
    · rw [q_if_neg e]
      exact Nat.le_refl _
def y_F (k : Nat) (p : List Nat) (s : Nat) : Nat → List (List Nat) := fun c => if s + q_c2 c ≤ 4 then q_en k (p ++ [c]) (s + q_c2 c) else []
def y_W (h : og_H) (b n0 : Nat) (h1 : og_H) (G U : Nat → Int64) : Prop := (∀ a, a < n0 → a ≠ b → h1 a = h a) ∧ h1 b = some (rowL G) ∧ h1 n0 = some (rowL U)
theorem y_W.u {h : og_H} {b n0 : Nat} {h1 : og_H} {G U : Nat → Int64} (w : y_W h b n0 h1 G U) (hb : b < n0) (V : Nat → Int64) : y_W h b n0 (og_set h1 n0 (rowL V)) G V :=
  ⟨fun a a1 a2 => (og_set_ne _ _ (by omega)).trans (w.1 a a1 a2), (og_set_ne _ _ (by omega)).trans w.2.1, og_set_eq _ _ _⟩
theorem y_W.g {h : og_H} {b n0 : Nat} {h1 : og_H} {G U : Nat → Int64} (w : y_W h b n0 h1 G U) (hb : b < n0) (V : Nat → Int64) : y_W h b n0 (og_set h1 b (rowL V)) V U :=
  ⟨fun a a1 a2 => (og_set_ne _ _ a2).trans (w.1 a a1 a2), og_set_eq _ _ _, (og_set_ne _ _ (by omega)).trans w.2.2⟩
theorem y_W.n {h : og_H} {b n0 : Nat} {h1 : og_H} {G U : Nat → Int64} (w : y_W h b n0 h1 G U) (hb : b < n0) {n1 : Nat} (hn : n0 < n1) (e : og_N) : y_W h b n0 (og_set h1 n1 e) G U :=
  ⟨fun a a1 a2 => (og_set_ne _ _ (by omega)).trans (w.1 a a1 a2), (og_set_ne _ _ (by omega)).trans w.2.1, (og_set_ne _ _ (by omega)).trans w.2.2⟩
abbrev y_lv (b n0 o : Nat) (num : Int32) (S : y_S) (z : Int32) : List (Option Value) := [some (.int (nI o)), some (.ref b), some (.ref b), some (.int num), some (.int (nI S.1)), some (.int S.2.1), some (.ref n0), some (.int z), none, none, none]
def y_At (E : og_E) (X : og_X) (Q : State → Prop) (d mc ms n0 b o : Nat) (num : Int32) (h : og_H) (S : y_S) (z : Int32) (V : (Nat → Int64) → Prop) : Prop :=
  ∀ (h1 : og_H) (U : Nat → Int64), V U → y_W h b n0 h1 S.2.2 U → og_G E RL cL_units (d + 2) mc ms 11 X Q (1 + S.1) (8 + 8 * S.1) (n0 + 1 + S.1) h1 22 (y_lv b n0 o num S z) []
section YU
variable {E : og_E} {X : og_X} {Q : State → Prop} {d mc ms n0 b o B cells slots n1 : Nat} {num : Int32} {h : og_H}
theorem y_c5 : ∀ c, c < 6 → (lN c - 3 + 1 = lN c - 2) ∧ (c < 5 → ¬ 2 < lN c - 2) ∧ (c < 5 → (lN c - 2) * (lN c - 2) = lN (q_c2 c)) ∧ (c < 5 → q_c2 c ≤ 4) ∧ (c < 5 → lN (c + 1) - 3 = lN c - 2) := by decide +kernel
theorem y_s9 : ∀ t, t < 9 → (4 < lN t ↔ 4 < t) ∧ (lN t = 4 ↔ t = 4) := by decide +kernel
theorem y_row_l (p : List Nat) (c i : Nat) (hi : i < p.length) : q_row (p ++ [c]) i = q_row p i := by
  unfold q_row
  rw [List.getD_eq_getElem?_getD, List.getD_eq_getElem?_getD, List.getElem?_append_left hi]
theorem y_row_r (p : List Nat) (c : Nat) : q_row (p ++ [c]) p.length = lN c - 2 := by
  unfold q_row
  rw [List.getD_eq_getElem?_getD, List.getElem?_append_right (Nat.le_refl _), Nat.sub_self]
  rfl
/-- from the loop's head to the test of what was counted up -/
theorem y_pre {m : Nat} {U G : Nat → Int64} {a4 a5 : Int32} {h1 : og_H} (hb : b < n0) (h3b : 3 ≤ b) (hm : m < 8) (w : y_W h b n0 h1 G U) {x : Int64} (hx : U m + 1 = x)
    (K : ∀ h2, y_W h b n0 h2 G (vp_updL U m x) → og_G E RL cL_units (d + 2) mc ms 11 X Q cells slots n1 h2 71 [some (.int (nI o)), some (.ref b), some (.ref b), some (.int num), some (.int a4), some (.int a5), some (.ref n0), some (.int (nI m)), some (.long (q_inner (vp_updL U m x) (vp_updL U m x) (m + 1))), none, some (.int (nI (m + 1)))] []) :
    og_G E RL cL_units (d + 2) mc ms 11 X Q cells slots n1 h1 22 [some (.int (nI o)), some (.ref b), some (.ref b), some (.int num), some (.int a4), some (.int a5), some (.ref n0), some (.int (nI m)), none, none, none] [] := by
  have w1 := w.2.2
  refine og_iload (pc := 22) dL_units_22 rfl ?_
  refine og_if_lt (pc := 24) (tgt := 202) dL_units_24 (by decide) (fun c => absurd c (nI_pos (by omega))) (fun c => ?_)
  refine og_aload (pc := 27) dL_units_27 rfl ?_
  refine og_iload (pc := 29) dL_units_29 rfl ?_
  refine og_dup2 (pc := 31) dL_units_31 rfl rfl ?_
  refine og_laldN (pc := 32) (j := m) rfl dL_units_32 (by repeat (first | exact og_set_eq _ _ _ | assumption | refine (og_set_ne _ _ (by first | assumption | omega)).trans ?_)) (by omega) (by omega) (by first | decide | assumption | omega) ?_
  refine og_lconst (pc := 33) (v := 1) dL_units_33 (by decide) ?_
  refine og_ladd (pc := 34) dL_units_34 ?_
  rw [hx]
  refine og_lastN (pc := 35) (j := m) rfl dL_units_35 (by repeat (first | exact og_set_eq _ _ _ | assumption | refine (og_set_ne _ _ (by first | assumption | omega)).trans ?_)) (by omega) (by omega) (by first | decide | assumption | omega) ?_
  refine og_lconst (pc := 36) (v := 0) dL_units_36 (by decide) ?_
  refine og_lstore_8 (pc := 37) dL_units_37 rfl ?_
  refine og_iconst (pc := 39) (v := 0) dL_units_39 (by decide) ?_
  refine og_istore_10 (pc := 40) dL_units_40 rfl ?_
  have w2 := w.u hb (vp_updL U m x)
  generalize og_set h1 n0 (rowL (vp_updL U m x)) = h2 at w2 ⊢
  have w3 := w2.2.2
  have K2 := K h2 w2
  generalize vp_updL U m x = V at w2 w3 K2 ⊢
  refine og_for (i0 := 0) (N := m + 1) (by omega) (fun _ => h2) (fun i => [some (.int (nI o)), some (.ref b), some (.ref b), some (.int num), some (.int a4), some (.int a5), some (.ref n0), some (.int (nI m)), some (.long (q_inner V V i)), none, some (.int (nI i))]) ?_ (fun i hi1 hi ih => ?_)
  · refine og_iload (pc := 42) dL_units_42 rfl ?_
    refine og_iload (pc := 44) dL_units_44 rfl ?_
    refine og_icmp_gt (pc := 46) (tgt := 71) dL_units_46 (by decide) (fun c => K2) (fun c => absurd (nI_lt (Nat.lt_succ_self m) (by omega)) c)
  · refine og_iload (pc := 42) dL_units_42 rfl ?_
    refine og_iload (pc := 44) dL_units_44 rfl ?_
    refine og_icmp_gt (pc := 46) (tgt := 71) dL_units_46 (by decide) (fun c => absurd c (nI_nlt (by omega) (by omega))) (fun c => ?_)
    refine og_lload (pc := 49) dL_units_49 rfl ?_
    refine og_aload (pc := 51) dL_units_51 rfl ?_
    refine og_iload (pc := 53) dL_units_53 rfl ?_
    refine og_laldN (pc := 55) (j := i) rfl dL_units_55 (by repeat (first | exact og_set_eq _ _ _ | assumption | refine (og_set_ne _ _ (by first | assumption | omega)).trans ?_)) (by omega) (by omega) (by first | decide | assumption | omega) ?_
    refine og_aload (pc := 56) dL_units_56 rfl ?_
    refine og_iload (pc := 58) dL_units_58 rfl ?_
    refine og_laldN (pc := 60) (j := i) rfl dL_units_60 (by repeat (first | exact og_set_eq _ _ _ | assumption | refine (og_set_ne _ _ (by first | assumption | omega)).trans ?_)) (by omega) (by omega) (by first | decide | assumption | omega) ?_
    refine og_lmul (pc := 61) dL_units_61 ?_
    refine og_ladd (pc := 62) dL_units_62 ?_
    refine og_lstore_8 (pc := 63) dL_units_63 rfl ?_
    refine og_iinc_10 (pc := 65) dL_units_65 (og_inc i) rfl ?_
    refine og_goto (pc := 68) (tgt := 42) dL_units_68 (by decide) ?_
    exact ih
theorem y_cs {own : String} {cc : ByteArray} {d mc ms nL : Nat} {X : og_X} {Q : State → Prop} {cells slots n c2 s2 n2 : Nat} {h : og_H} {pc : Nat} {lv : List (Option Value)} {st : List Value} (e1 : cells = c2) (e2 : slots = s2) (e3 : n = n2) (k : og_G E own cc d mc ms nL X Q c2 s2 n2 h pc lv st) : og_G E own cc d mc ms nL X Q cells slots n h pc lv st := by
  subst e1; subst e2; subst e3
  exact k
theorem y_m1 (m : Nat) : nI m + Int32.ofInt (-1) = nI m - 1 := by
  rw [Int32.sub_eq_add_neg]
  rfl
theorem y_al {o : Nat} (ho : o < 8) {f g : Nat → Int64} (e : zE f g) : q_al o f ↔ q_al o g := by
  rw [zal ho, zal ho, oddN_congr 8 e]
theorem y_zl (f g : Nat → Int64) : q_zr (y_less f g) ↔ zE f g := by
  refine ⟨fun q j hj => ?_, fun q j hj => ?_⟩
  · have := q j hj
    have e2 : y_less f g j + g j = 0 + g j := by rw [this]
    rwa [y_less, Int64.sub_add_cancel, Int64.zero_add] at e2
  · show f j - g j = 0
    rw [q j hj, Int64.sub_self]
set_option maxHeartbeats 1000000 in
/-- one level of the search, from c on -/
theorem y_lev1 {k m : Nat} {p : List Nat} {s : Nat} (hb : b < n0) (h3b : 3 ≤ b) (ho : o < 8) (hmc : 1 + B ≤ mc) (hms : 8 + 8 * B ≤ ms) (hmk : m + k = 7) (hpl : p.length = m)
    (hs : ∀ U : Nat → Int64, (∀ i, i < m → U i = q_row p i) → q_inner U U m = lN s) (hs4 : s ≤ 4)
    (hdesc : m < 7 → ∀ c, c < 5 → s + q_c2 c ≤ 4 → ∀ S : y_S, (y_fd o num (y_F k p s c) S).1 ≤ B → y_At E X Q d mc ms n0 b o num h (y_fd o num (y_F k p s c) S) (nI m) (fun U => ∀ i, i < m + 1 → U i = q_row (p ++ [c]) i) → y_At E X Q d mc ms n0 b o num h S (nI (m + 1)) (fun U => (∀ i, i < m + 1 → U i = q_row (p ++ [c]) i) ∧ U (m + 1) = lN 0 - 3)) :
    ∀ j c, c + j = 5 → ∀ S : y_S, (y_fd o num (q_ev (y_F k p s) j) S).1 ≤ B → y_At E X Q d mc ms n0 b o num h (y_fd o num (q_ev (y_F k p s) j) S) (nI m - 1) (fun U => ∀ i, i < m → U i = q_row p i) → y_At E X Q d mc ms n0 b o num h S (nI m) (fun U => (∀ i, i < m → U i = q_row p i) ∧ U m = lN c - 3) := by
  intro j
  induction j with
  | zero =>
    intro c hc S hB K h1 U hU w
    obtain rfl : c = 5 := by omega
    refine y_pre hb h3b (by omega) w (x := lN 5 - 2) (by rw [hU.2]; exact (y_c5 5 (by omega)).1) (fun h2 w2 => ?_)
    have w3 := w2.2.2
    refine og_aload (pc := 71) dL_units_71 rfl ?_
    refine og_iload (pc := 73) dL_units_73 rfl ?_
    refine og_laldN (pc := 75) (j := m) rfl dL_units_75 (by repeat (first | exact og_set_eq _ _ _ | assumption | refine (og_set_ne _ _ (by first | assumption | omega)).trans ?_)) (by omega) (by omega) (by first | decide | assumption | omega) ?_
    refine og_ldc2 (pc := 76) LC_L_23 dL_units_76 ?_
    refine og_lcmp (pc := 79) dL_units_79 ?_
    rw [show vp_updL U m (lN 5 - 2) m = lN 5 - 2 from if_pos rfl]
    refine og_if_le (pc := 80) (tgt := 89) dL_units_80 (by decide) (fun c1 => (og_lel c1 ((og_cmpG _ _).mpr (by decide))).elim) (fun c1 => ?_)
    refine og_iinc_7 (pc := 83) dL_units_83 (y_m1 m) rfl ?_
    refine og_goto (pc := 86) (tgt := 199) dL_units_86 (by decide) ?_
    refine og_goto (pc := 199) (tgt := 22) dL_units_199 (by decide) ?_
    refine og_forget_8 (og_forget_10 ?_)
    exact K h2 _ (fun i hi => by rw [← hU.1 i hi]; exact if_neg (by omega)) w2
  | succ j ih =>
    intro c hc S hB K h1 U hU w
    have hc5 : c < 5 := by omega
    obtain ⟨k1, k2, k3, k4, k5⟩ := y_c5 c (by omega)
    have k2 := k2 hc5
    have k3 := k3 hc5
    have k4 := k4 hc5
    have k5 := k5 hc5
    have hF : y_fd o num (q_ev (y_F k p s) (j + 1)) S = y_fd o num (q_ev (y_F k p s) j) (y_fd o num (y_F k p s c) S) := by
      rw [show c = 4 - j by omega]
      exact y_fd_app o num _ _ S
    rw [hF] at hB K
    have hSB : S.1 ≤ B := Nat.le_trans (y_fd_le o num (y_F k p s c) S) (Nat.le_trans (y_fd_le o num (q_ev (y_F k p s) j) _) hB)
    refine y_pre hb h3b (by omega) w (x := lN c - 2) (by rw [hU.2]; exact k1) (fun h2 w2 => ?_)
    have hVm : vp_updL U m (lN c - 2) m = lN c - 2 := if_pos rfl
    have hVi : ∀ i, i < m → vp_updL U m (lN c - 2) i = q_row p i := fun i hi => by rw [← hU.1 i hi]; exact if_neg (by omega)
    have hVr : ∀ i, i < m + 1 → vp_updL U m (lN c - 2) i = q_row (p ++ [c]) i := fun i hi => by
      by_cases e : i = m
      · rw [e, hVm, ← hpl, y_row_r]
      · rw [hVi i (by omega), y_row_l p c i (by omega)]
    have hsum : q_inner (vp_updL U m (lN c - 2)) (vp_updL U m (lN c - 2)) (m + 1) = lN (s + q_c2 c) := by
      rw [q_inner, hs _ hVi, hVm, k3, lN_add]
    generalize vp_updL U m (lN c - 2) = V at w2 hVm hVi hVr hsum ⊢
    have t9 := y_s9 (s + q_c2 c) (by omega)
    have nxt : ∀ (S2 : y_S), y_fd o num (y_F k p s c) S = S2 → ∀ (h3 : og_H), y_W h b n0 h3 S2.2.2 V → og_G E RL cL_units (d + 2) mc ms 11 X Q (1 + S2.1) (8 + 8 * S2.1) (n0 + 1 + S2.1) h3 22 (y_lv b n0 o num S2 (nI m)) [] := fun S2 e h3 w3 => by
      rw [e] at hB K
      exact ih (c + 1) (by omega) S2 hB K h3 V ⟨hVi, by rw [hVm, k5]⟩ w3
    have w3 := w2.2.2
    refine og_aload (pc := 71) dL_units_71 rfl ?_
    refine og_iload (pc := 73) dL_units_73 rfl ?_
    refine og_laldN (pc := 75) (j := m) rfl dL_units_75 (by repeat (first | exact og_set_eq _ _ _ | assumption | refine (og_set_ne _ _ (by first | assumption | omega)).trans ?_)) (by omega) (by omega) (by first | decide | assumption | omega) ?_
    refine og_ldc2 (pc := 76) LC_L_23 dL_units_76 ?_
    refine og_lcmp (pc := 79) dL_units_79 ?_
    rw [hVm, hsum]
    refine og_if_le (pc := 80) (tgt := 89) dL_units_80 (by decide) (fun c1 => ?_) (fun c1 => absurd ((og_cmpG _ _).mp (og_nle c1)) k2)
    refine og_lload (pc := 89) dL_units_89 rfl ?_
    refine og_ldc2 (pc := 91) LC_L_25 dL_units_91 ?_
    refine og_lcmp (pc := 94) dL_units_94 ?_
    have at119 : ¬ (m = 7 ∧ s + q_c2 c = 4) → y_F k p s c = [] → og_G E RL cL_units (d + 2) mc ms 11 X Q (1 + S.1) (8 + 8 * S.1) (n0 + 1 + S.1) h2 119 [some (.int (nI o)), some (.ref b), some (.ref b), some (.int num), some (.int (nI S.1)), some (.int S.2.1), some (.ref n0), some (.int (nI m)), some (.long (lN (s + q_c2 c))), none, some (.int (nI (m + 1)))] [] := fun hn hFc => by
      have N := nxt S (by rw [hFc]; rfl) h2 w2
      refine og_iload (pc := 119) dL_units_119 rfl ?_
      refine og_bipush (pc := 121) (v := 7) dL_units_121 (by decide) ?_
      refine og_icmp_ne (pc := 123) (tgt := 199) dL_units_123 (by decide) (fun c3 => ?_) (fun c3 => ?_)
      · refine og_goto (pc := 199) (tgt := 22) dL_units_199 (by decide) ?_
        exact og_forget_8 (og_forget_10 N)
      · have hm7 : m = 7 := (nI_eq (b := 7) (by omega) (by omega)).mp c3
        refine og_lload (pc := 126) dL_units_126 rfl ?_
        refine og_ldc2 (pc := 128) LC_L_25 dL_units_128 ?_
        refine og_lcmp (pc := 131) dL_units_131 ?_
        refine og_if_ne (pc := 132) (tgt := 199) dL_units_132 (by decide) (fun c4 => ?_) (fun c4 => ?_)
        · refine og_goto (pc := 199) (tgt := 22) dL_units_199 (by decide) ?_
          exact og_forget_8 (og_forget_10 N)
        · exact absurd ⟨hm7, t9.2.mp ((og_cmp0 _ _).mp c4)⟩ hn
    refine og_if_gt (pc := 95) (tgt := 119) dL_units_95 (by decide) (fun c2 => ?_) (fun c2 => ?_)
    · have h4 : 4 < s + q_c2 c := t9.1.mp ((og_cmpG _ _).mp c2)
      exact at119 (by omega) (if_neg (by omega))
    have h4 : s + q_c2 c ≤ 4 := Nat.le_of_not_lt fun q => c2 ((og_cmpG _ _).mpr (t9.1.mpr q))
    have hFc : y_F k p s c = q_en k (p ++ [c]) (s + q_c2 c) := if_pos h4
    refine og_iload (pc := 98) dL_units_98 rfl ?_
    refine og_bipush (pc := 100) (v := 7) dL_units_100 (by decide) ?_
    refine og_geN (pc := 102) (tgt := 119) (i := m) (N := 7) dL_units_102 (by decide) rfl rfl (by omega) (by omega) (fun c_102 => ?_) (fun c_102 => ?_)
    · have hm7 : m = 7 := by omega
      have hk0 : k = 0 := by omega
      subst hk0
      have hFc : y_F 0 p s c = (if s + q_c2 c = 4 then [p ++ [c]] else []) := hFc
      by_cases h44 : s + q_c2 c = 4
      · rw [if_pos h44] at hFc
        have hzr : zE V (q_row (p ++ [c])) := fun i hi => hVr i (by omega)
        refine og_iload (pc := 119) dL_units_119 rfl ?_
        refine og_bipush (pc := 121) (v := 7) dL_units_121 (by decide) ?_
        refine og_icmp_ne (pc := 123) (tgt := 199) dL_units_123 (by decide) (fun c3 => absurd (by rw [hm7]; rfl) c3) (fun c3 => ?_)
        refine og_lload (pc := 126) dL_units_126 rfl ?_
        refine og_ldc2 (pc := 128) LC_L_25 dL_units_128 ?_
        refine og_lcmp (pc := 131) dL_units_131 ?_
        refine og_if_ne (pc := 132) (tgt := 199) dL_units_132 (by decide) (fun c4 => absurd ((og_cmp0 _ _).mpr (t9.2.mpr h44)) c4) (fun c4 => ?_)
        refine og_aload (pc := 135) dL_units_135 rfl ?_
        refine og_iload_n (pc := 137) dL_units_137 rfl ?_
        refine og_callS (pc := 138) (As := [.ref n0, .int (nI o)]) (rest := []) (c_L_isIn E d _ n0 o h2 V w3 (by omega) ho) Y_L_isIn S_L_isIn K_L_27 dL_units_138 rfl rfl (Nat.le_of_ble_eq_true rfl) (by omega) (by omega) (by omega) (fun _ _ _ z => z) (fun v n1 h1 z => ?_)
        obtain ⟨rfl, e9, z⟩ := z
        rw [e9]
        rcases z with ⟨rfl, hin⟩ | ⟨rfl, hin⟩
        rotate_left
        · have N := nxt S (by rw [hFc]; exact q_if_neg (fun q => hin ((y_al ho hzr).mpr q))) _ w2
          refine og_if_eq (pc := 141) (tgt := 199) dL_units_141 (by decide) (fun c5 => ?_) (fun c5 => absurd rfl c5)
          refine og_goto (pc := 199) (tgt := 22) dL_units_199 (by decide) ?_
          exact og_forget_8 (og_forget_10 N)
        have hin2 : q_al o (q_row (p ++ [c])) := (y_al ho hzr).mp hin
        have hf1 : y_fd o num (y_F 0 p s c) S = y_hit num (p ++ [c]) S := by rw [hFc]; exact q_if_pos hin2
        have hB1 : S.1 + 1 ≤ B := by
          have := y_fd_le o num (q_ev (y_F 0 p s) j) (y_fd o num (y_F 0 p s c) S)
          rw [hf1] at this hB
          exact Nat.le_trans this hB
        refine og_if_eq (pc := 141) (tgt := 199) dL_units_141 (by decide) (fun c5 => absurd c5 (by decide)) (fun c5 => ?_)
        refine og_aload (pc := 144) dL_units_144 rfl ?_
        refine og_aload_n (pc := 146) dL_units_146 rfl ?_
        refine og_callS (pc := 147) (As := [.ref n0, .ref b]) (rest := []) (c_L_less E d _ n0 b h2 V S.2.2 w3 w2.2.1 (by omega) h3b (by omega) (by omega)) Y_L_less S_L_less K_L_31 dL_units_147 rfl rfl (Nat.le_of_ble_eq_true rfl) (by omega) (by omega) (by omega) (fun _ _ _ z => z) (fun v n1 h1 z => ?_)
        obtain ⟨rfl, rfl, rfl⟩ := z
        refine og_callS (pc := 150) (As := [.ref (n0 + 1 + S.1)]) (rest := []) (c_L_isNought E d _ (n0 + 1 + S.1) _ (y_less V S.2.2) (og_set_eq _ _ _) (by omega)) Y_L_isNought S_L_isNought K_L_35 dL_units_150 rfl rfl (Nat.le_of_ble_eq_true rfl) (by omega) (by omega) (by omega) (fun _ _ _ z => z) (fun v n1 h1 z => ?_)
        obtain ⟨rfl, e9, z⟩ := z
        rw [e9]
        rw [y_zl] at z
        have w4 := w2.n hb (n1 := n0 + 1 + S.1) (by omega) (rowL (y_less V S.2.2))
        generalize og_set h2 (n0 + 1 + S.1) (rowL (y_less V S.2.2)) = h4 at w4 ⊢
        have tail : ∀ x5 : Int32, q_if (zE (q_row (p ++ [c])) S.2.2) (nI S.1) S.2.1 = x5 → og_G E RL cL_units (d + 2) mc ms 11 X Q (1 + (S.1 + 1)) (8 + 8 * (S.1 + 1)) (n0 + 1 + (S.1 + 1)) h4 163 [some (.int (nI o)), some (.ref b), some (.ref b), some (.int num), some (.int (nI S.1)), some (.int S.2.1), some (.ref n0), some (.int (nI m)), some (.long (lN (s + q_c2 c))), none, some (.int (nI (m + 1)))] [.int x5] := fun x5 h5 => by
          refine og_istore_5 (pc := 163) dL_units_163 rfl ?_
          refine og_iconst (pc := 165) (v := 0) dL_units_165 (by decide) ?_
          refine og_istore_10 (pc := 166) dL_units_166 rfl ?_
          by_cases e : nI S.1 = num
          · refine og_congL (fun j => if j < 0 then V j else S.2.2 j) w4.2.1 h3b (fun j _ => by simp) ?_
            refine og_for (i0 := 0) (N := 8) (by decide) (fun i => og_set h4 b (rowL (fun j => if j < i then V j else S.2.2 j))) (fun i => [some (.int (nI o)), some (.ref b), some (.ref b), some (.int num), some (.int (nI S.1)), some (.int x5), some (.ref n0), some (.int (nI m)), some (.long (lN (s + q_c2 c))), none, some (.int (nI i))]) ?_ (fun i hi1 hi ih2 => ?_)
            · refine og_iload (pc := 168) dL_units_168 rfl ?_
              refine og_bipush (pc := 170) (v := 8) dL_units_170 (by decide) ?_
              refine og_geN (pc := 172) (tgt := 196) (i := 8) (N := 8) dL_units_172 (by decide) rfl rfl (by omega) (by omega) (fun c_172 => ?_) (fun c_172 => ?_)
              · refine og_congL (q_row (p ++ [c])) (og_set_eq _ _ _) h3b (fun j hj => by rw [if_pos (by omega)]; exact hzr j hj) ?_
                rw [og_set_set]
                refine og_iinc_4 (pc := 196) dL_units_196 (og_inc S.1) rfl ?_
                refine og_goto (pc := 199) (tgt := 22) dL_units_199 (by decide) ?_
                refine og_forget_8 (og_forget_10 ?_)
                exact nxt (S.1 + 1, x5, q_row (p ++ [c])) (by
                  rw [hf1]
                  show (S.1 + 1, q_if _ _ _, if nI S.1 = num then _ else _) = _
                  rw [h5, if_pos e]) _ (w4.g hb _)
              · omega
            · refine og_iload (pc := 168) dL_units_168 rfl ?_
              refine og_bipush (pc := 170) (v := 8) dL_units_170 (by decide) ?_
              refine og_geN (pc := 172) (tgt := 196) (i := i) (N := 8) dL_units_172 (by decide) rfl rfl (by omega) (by omega) (fun c_172 => ?_) (fun c_172 => ?_)
              · omega
              refine og_iload (pc := 175) dL_units_175 rfl ?_
              refine og_iload_n (pc := 177) dL_units_177 rfl ?_
              refine og_icmp_ne (pc := 178) (tgt := 196) dL_units_178 (by decide) (fun q => absurd e q) (fun q => ?_)
              refine og_aload_n (pc := 181) dL_units_181 rfl ?_
              refine og_iload (pc := 182) dL_units_182 rfl ?_
              refine og_aload (pc := 184) dL_units_184 rfl ?_
              refine og_iload (pc := 186) dL_units_186 rfl ?_
              refine og_laldN (pc := 188) rfl dL_units_188 ((og_set_ne _ _ (by omega)).trans w4.2.2) (by omega) (by omega) (by first | decide | assumption | omega) ?_
              refine og_lastN (pc := 189) rfl dL_units_189 (by repeat (first | exact og_set_eq _ _ _ | assumption | refine (og_set_ne _ _ (by first | assumption | omega)).trans ?_)) (by omega) (by omega) (by first | decide | assumption | omega) ?_
              refine og_iinc_10 (pc := 190) dL_units_190 (og_inc i) rfl ?_
              refine og_goto (pc := 193) (tgt := 168) dL_units_193 (by decide) ?_
              rw [og_set_set, og_fill (by rfl)]
              exact ih2
          · refine og_iload (pc := 168) dL_units_168 rfl ?_
            refine og_bipush (pc := 170) (v := 8) dL_units_170 (by decide) ?_
            refine og_geN (pc := 172) (tgt := 196) (i := 0) (N := 8) dL_units_172 (by decide) rfl rfl (by omega) (by omega) (fun c_172 => ?_) (fun c_172 => ?_)
            · omega
            refine og_iload (pc := 175) dL_units_175 rfl ?_
            refine og_iload_n (pc := 177) dL_units_177 rfl ?_
            refine og_icmp_ne (pc := 178) (tgt := 196) dL_units_178 (by decide) (fun q => ?_) (fun q => absurd q e)
            refine og_iinc_4 (pc := 196) dL_units_196 (og_inc S.1) rfl ?_
            refine og_goto (pc := 199) (tgt := 22) dL_units_199 (by decide) ?_
            refine og_forget_8 (og_forget_10 ?_)
            exact nxt (S.1 + 1, x5, S.2.2) (by
              rw [hf1]
              show (S.1 + 1, q_if _ _ _, if nI S.1 = num then _ else _) = _
              rw [h5, if_neg e]) _ w4
        rcases z with ⟨rfl, hz⟩ | ⟨rfl, hz⟩
        · refine og_if_eq (pc := 153) (tgt := 161) dL_units_153 (by decide) (fun c6 => absurd c6 (by decide)) (fun c6 => ?_)
          refine og_iload (pc := 156) dL_units_156 rfl ?_
          refine og_goto (pc := 158) (tgt := 163) dL_units_158 (by decide) ?_
          exact y_cs (by omega) (by omega) (by omega) (tail _ (q_if_pos (hzr.symm.trans hz)))
        · refine og_if_eq (pc := 153) (tgt := 161) dL_units_153 (by decide) (fun c6 => ?_) (fun c6 => absurd rfl c6)
          refine og_iload (pc := 161) dL_units_161 rfl ?_
          exact y_cs (by omega) (by omega) (by omega) (tail _ (q_if_neg (fun q => hz (hzr.trans q))))
      · rw [if_neg h44] at hFc
        exact at119 (fun q => h44 q.2) hFc
    · refine og_iinc_7 (pc := 105) dL_units_105 (og_inc m) rfl ?_
      refine og_aload (pc := 108) dL_units_108 rfl ?_
      refine og_iload (pc := 110) dL_units_110 rfl ?_
      refine og_ldc2 (pc := 112) LC_L_21 dL_units_112 ?_
      refine og_lastN (pc := 115) (j := (m + 1)) rfl dL_units_115 (by repeat (first | exact og_set_eq _ _ _ | assumption | refine (og_set_ne _ _ (by first | assumption | omega)).trans ?_)) (by omega) (by omega) (by first | decide | assumption | omega) ?_
      refine og_goto (pc := 116) (tgt := 199) dL_units_116 (by decide) ?_
      refine og_goto (pc := 199) (tgt := 22) dL_units_199 (by decide) ?_
      refine og_forget_8 (og_forget_10 ?_)
      refine hdesc c_102 c hc5 h4 S (Nat.le_trans (y_fd_le o num (q_ev (y_F k p s) j) _) hB) (fun h3 V3 hV3 w3 => ?_) _ _ ⟨fun i hi => ?_, if_pos rfl⟩ (w2.u hb _)
      · exact ih (c + 1) (by omega) _ hB K h3 V3 ⟨fun i hi => by rw [hV3 i (by omega), y_row_l p c i (by omega)], by rw [hV3 m (by omega), ← hpl, y_row_r, k5]⟩ w3
      · rw [← hVr i hi]
        exact if_neg (by omega)
end YU
