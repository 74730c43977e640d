/-! ===== the model: laysUnits ===== -/
def q_c2 (c : Nat) : Nat := (c - 2 + (2 - c)) * (c - 2 + (2 - c))
def q_ev (F : Nat → List (List Nat)) : Nat → List (List Nat)
  | 0 => []
  | j + 1 => F (4 - j) ++ q_ev F j
def q_en : Nat → List Nat → Nat → List (List Nat)
  | 0, p, s => if s = 4 then [p] else []
  | k + 1, p, s => q_ev (fun c => if s + q_c2 c ≤ 4 then q_en k (p ++ [c]) (s + q_c2 c) else []) 5
def q_row (r : List Nat) : Nat → Int64 := fun j => lN (r.getD j 2) - 2
noncomputable def q_em1 (o : Nat) (S : Nat × (Nat → Int32)) (r : List Nat) : Nat × (Nat → Int32) := q_if (q_inP (q_row r) o) (S.1 + 1, q_pt S.2 (q_row r) S.1) S
noncomputable def q_ems (o : Nat) (l : List (List Nat)) (S : Nat × (Nat → Int32)) : Nat × (Nat → Int32) := l.foldl (q_em1 o) S
theorem q_ems_app (o : Nat) (a b : List (List Nat)) (S : Nat × (Nat → Int32)) : q_ems o (a ++ b) S = q_ems o b (q_ems o a S) := List.foldl_append
theorem q_em1_le (o : Nat) (S : Nat × (Nat → Int32)) (r : List Nat) : S.1 ≤ (q_em1 o S r).1 := by
  unfold q_em1
  by_cases z : q_inP (q_row r) o
  · rw [q_if_pos z]
    exact Nat.le_succ _
  · rw [q_if_neg z]
    exact Nat.le_refl _
theorem q_ems_le (o : Nat) : ∀ (l : List (List Nat)) (S : Nat × (Nat → Int32)), S.1 ≤ (q_ems o l S).1
  | [], S => Nat.le_refl _
  | r :: l, S => Nat.le_trans (q_em1_le o S r) (q_ems_le o l (q_em1 o S r))
theorem q_inn {f g : Nat → Int64} : ∀ n, (∀ j, j < n → f j = g j) → q_inner f f n = q_inner g g n
  | 0, _ => rfl
  | n + 1, h => by
    have e : q_inner f f n = q_inner g g n := q_inn n (fun j hj => h j (by omega))
    show q_inner f f n + f n * f n = q_inner g g n + g n * g n
    rw [e, h n (by omega)]
theorem q_vv : ∀ c, c < 5 → (lN c - 2) * (lN c - 2) = lN (q_c2 c) := by decide +kernel
theorem q_v2 : ∀ c, c < 5 → ¬ (2 : Int64) < lN c - 2 := by decide +kernel
theorem q_v3 : ∀ c, c < 5 → lN c - 3 + 1 = lN c - 2 := by decide +kernel
theorem q_c2_le : ∀ c, c < 5 → q_c2 c ≤ 4 := by decide +kernel
theorem q_dec (n : Nat) : nI n + Int32.ofInt (-1) = nI n - 1 := by
  rw [Int32.sub_eq_add_neg]
  rfl
theorem q_row_app1 (p : List Nat) (c : Nat) {j : Nat} (h : j < p.length) : q_row (p ++ [c]) j = q_row p j := by
  unfold q_row
  rw [List.getD_eq_getElem?_getD, List.getD_eq_getElem?_getD, List.getElem?_append_left h]
theorem q_row_app2 (p : List Nat) (c : Nat) : q_row (p ++ [c]) p.length = lN c - 2 := by
  unfold q_row
  rw [List.getD_eq_getElem?_getD, List.getElem?_append_right (Nat.le_refl _), Nat.sub_self]
  rfl
def m_wUn (M : q_M) (la un : Int32) (u : Nat → Int32) : q_M := m_wU (m_wO M (m_ps M) (m_ty M) (m_rf M) la un (m_ls M) (m_dp M) (m_wl M) (m_ct M)) u
section LU
variable {E : og_E} {d n : Nat} {h0 : og_H} {X : og_X} {Q : State → Prop} {M : q_M} {o : Nat}
set_option maxRecDepth 4000 in
theorem w_laysV (F : Nat → List (List Nat)) (p : List Nat) (s : Nat) (hp : p.length ≤ 7) (hs4 : s ≤ 4) (hs : q_inner (q_row p) (q_row p) p.length = lN s)
    (hF : ∀ c, c < 5 → ∀ (f : Nat → Int64) (S : Nat × (Nat → Int32)) (h : og_H), (∀ j, j < p.length → f j = q_row p j) → f p.length = lN c - 2 → (q_ems o (F c) S).1 ≤ 240 → og_MK h0 h (m_wUn M (nI o) (nI S.1) S.2) → h 109 = some (rowL f) →
      (∀ (f2 : Nat → Int64) (h2 : og_H), og_MK h0 h2 (m_wUn M (nI o) (nI (q_ems o (F c) S).1) (q_ems o (F c) S).2) → h2 109 = some (rowL f2) → (∀ j, j < p.length + 1 → f2 j = f j) → og_G E yX8_laysUnits.cls cX8_laysUnits (d + 2) 0 0 5 X Q 0 0 n h2 42 [some (.ref 101), some (.int (nI p.length)), none, none, none] []) →
      og_G E yX8_laysUnits.cls cX8_laysUnits (d + 2) 0 0 5 X Q 0 0 n h 110 [some (.ref 101), some (.int (nI p.length)), some (.long (lN (s + q_c2 c))), none, none] []) :
    ∀ (j : Nat), j ≤ 5 → ∀ (f : Nat → Int64) (S : Nat × (Nat → Int32)) (h : og_H), (∀ j, j < p.length → f j = q_row p j) → f p.length = lN (5 - j) - 3 → (q_ems o (q_ev F j) S).1 ≤ 240 → og_MK h0 h (m_wUn M (nI o) (nI S.1) S.2) → h 109 = some (rowL f) →
      (∀ (f2 : Nat → Int64) (h2 : og_H), og_MK h0 h2 (m_wUn M (nI o) (nI (q_ems o (q_ev F j) S).1) (q_ems o (q_ev F j) S).2) → h2 109 = some (rowL f2) → (∀ j, j < p.length → f2 j = q_row p j) → og_G E yX8_laysUnits.cls cX8_laysUnits (d + 2) 0 0 5 X Q 0 0 n h2 42 [some (.ref 101), some (.int (nI p.length - 1)), none, none, none] []) →
      og_G E yX8_laysUnits.cls cX8_laysUnits (d + 2) 0 0 5 X Q 0 0 n h 42 [some (.ref 101), some (.int (nI p.length)), none, none, none] [] := by
  intro j
  induction j with
  | zero =>
    intro _ f S h hf hv hS w e109 kk
    have wm := w.m
    refine og_iload_n (pc := 42) dX8_laysUnits_42 rfl ?_
    refine og_if_lt (pc := 43) (tgt := 214) dX8_laysUnits_43 (by decide) (fun c => absurd c (nI_pos (by omega))) (fun _ => ?_)
    refine og_aload_n (pc := 46) dX8_laysUnits_46 rfl ?_
    refine og_get (pc := 47) F_X8_32 dX8_laysUnits_47 wm (by omega) rfl ?_
    refine og_iload_n (pc := 50) dX8_laysUnits_50 rfl ?_
    refine og_dup2 (pc := 51) dX8_laysUnits_51 rfl rfl ?_
    refine og_laldN (pc := 52) (j := p.length) rfl dX8_laysUnits_52 (by repeat (first | exact og_set_eq _ _ _ | assumption | refine (og_set_ne _ _ (by first | assumption | omega)).trans ?_)) (by omega) (by omega) (by first | decide | assumption | omega) ?_
    refine og_lconst (pc := 53) (v := 1) dX8_laysUnits_53 (by decide) ?_
    refine og_ladd (pc := 54) dX8_laysUnits_54 ?_
    refine og_lastN (pc := 55) (j := p.length) rfl dX8_laysUnits_55 (by repeat (first | exact og_set_eq _ _ _ | assumption | refine (og_set_ne _ _ (by first | assumption | omega)).trans ?_)) (by omega) (by omega) (by first | decide | assumption | omega) ?_
    refine og_lconst (pc := 56) (v := 0) dX8_laysUnits_56 (by decide) ?_
    refine og_lstore_n_2 (pc := 57) dX8_laysUnits_57 rfl ?_
    refine og_iconst (pc := 58) (v := 0) dX8_laysUnits_58 (by decide) ?_
    refine og_istore_4 (pc := 59) dX8_laysUnits_59 rfl ?_
    have h1 : og_MK h0 (og_set h 109 (rowL (vp_updL f p.length (f p.length + 1)))) (m_wUn M (nI o) (nI S.1) S.2) := w.row _ (by unfold q_ms; omega)
    have g109 : og_set h 109 (rowL (vp_updL f p.length (f p.length + 1))) 109 = some (rowL (vp_updL f p.length (f p.length + 1))) := og_set_eq _ _ _
    generalize hf1 : vp_updL f p.length (f p.length + 1) = f1 at h1 g109
    generalize og_set h 109 (rowL f1) = h1' at h1 g109
    have a1 : f1 p.length = 3 := by rw [← hf1]; unfold vp_updL; rw [if_pos rfl, hv]; decide
    have a2 : ∀ j, j < p.length → f1 j = f j := fun j hj => by rw [← hf1]; unfold vp_updL; rw [if_neg (by omega)]
    have wm := h1.m
    refine og_for (i0 := 0) (N := p.length + 1) (by omega) (fun _ => h1') (fun i => [some (.ref 101), some (.int (nI p.length)), some (.long (q_inner f1 f1 i)), none, some (.int (nI i))]) ?_ (fun i _ hi ih => ?_)
    · refine og_iload (pc := 61) dX8_laysUnits_61 rfl ?_
      refine og_iload_n (pc := 63) dX8_laysUnits_63 rfl ?_
      refine og_icmp_gt (pc := 64) (tgt := 91) dX8_laysUnits_64 (by decide) (fun _ => ?_) (fun c => absurd (nI_lt (by omega) (by omega)) c)
      refine og_aload_n (pc := 91) dX8_laysUnits_91 rfl ?_
      refine og_get (pc := 92) F_X8_32 dX8_laysUnits_92 wm (by omega) rfl ?_
      refine og_iload_n (pc := 95) dX8_laysUnits_95 rfl ?_
      refine og_laldN (pc := 96) (j := p.length) rfl dX8_laysUnits_96 (by repeat (first | exact og_set_eq _ _ _ | assumption | refine (og_set_ne _ _ (by first | assumption | omega)).trans ?_)) (by omega) (by omega) (by first | decide | assumption | omega) ?_
      refine og_ldc2 (pc := 97) LC_X8_101 dX8_laysUnits_97 ?_
      refine og_lcmp (pc := 100) dX8_laysUnits_100 ?_
      refine og_if_le (pc := 101) (tgt := 110) dX8_laysUnits_101 (by decide) (fun c => absurd ((og_cmpG _ _).mpr (by rw [a1]; decide)) (fun q => og_lel c q)) (fun _ => ?_)
      refine og_iinc_1 (pc := 104) dX8_laysUnits_104 (q_dec p.length) rfl ?_
      refine og_goto (pc := 107) (tgt := 211) dX8_laysUnits_107 (by decide) ?_
      refine og_goto (pc := 211) (tgt := 42) dX8_laysUnits_211 (by decide) ?_
      refine og_forget_2 ?_
      refine og_forget_4 ?_
      exact kk f1 h1' h1 g109 (fun j hj => by rw [a2 j hj, hf j hj])
    · refine og_iload (pc := 61) dX8_laysUnits_61 rfl ?_
      refine og_iload_n (pc := 63) dX8_laysUnits_63 rfl ?_
      refine og_icmp_gt (pc := 64) (tgt := 91) dX8_laysUnits_64 (by decide) (fun c => absurd c (nI_nlt (by omega) (by omega))) (fun _ => ?_)
      refine og_lload_n (pc := 67) dX8_laysUnits_67 rfl ?_
      refine og_aload_n (pc := 68) dX8_laysUnits_68 rfl ?_
      refine og_get (pc := 69) F_X8_32 dX8_laysUnits_69 wm (by omega) rfl ?_
      refine og_iload (pc := 72) dX8_laysUnits_72 rfl ?_
      refine og_laldN (pc := 74) (j := i) rfl dX8_laysUnits_74 (by repeat (first | exact og_set_eq _ _ _ | assumption | refine (og_set_ne _ _ (by first | assumption | omega)).trans ?_)) (by omega) (by omega) (by first | decide | assumption | omega) ?_
      refine og_aload_n (pc := 75) dX8_laysUnits_75 rfl ?_
      refine og_get (pc := 76) F_X8_32 dX8_laysUnits_76 wm (by omega) rfl ?_
      refine og_iload (pc := 79) dX8_laysUnits_79 rfl ?_
      refine og_laldN (pc := 81) (j := i) rfl dX8_laysUnits_81 (by repeat (first | exact og_set_eq _ _ _ | assumption | refine (og_set_ne _ _ (by first | assumption | omega)).trans ?_)) (by omega) (by omega) (by first | decide | assumption | omega) ?_
      refine og_lmul (pc := 82) dX8_laysUnits_82 ?_
      refine og_ladd (pc := 83) dX8_laysUnits_83 ?_
      refine og_lstore_n_2 (pc := 84) dX8_laysUnits_84 rfl ?_
      refine og_iinc_4 (pc := 85) dX8_laysUnits_85 (og_inc i) rfl ?_
      refine og_goto (pc := 88) (tgt := 61) dX8_laysUnits_88 (by decide) ?_
      exact ih
  | succ j ihj =>
    intro hj5 f S h hf hv hS w e109 kk
    have hc : 4 - j < 5 := by omega
    have hle : (q_ems o (F (4 - j)) S).1 ≤ 240 := by
      have := q_ems_le o (q_ev F j) (q_ems o (F (4 - j)) S)
      rw [← q_ems_app] at this
      exact Nat.le_trans this hS
    have wm := w.m
    refine og_iload_n (pc := 42) dX8_laysUnits_42 rfl ?_
    refine og_if_lt (pc := 43) (tgt := 214) dX8_laysUnits_43 (by decide) (fun c => absurd c (nI_pos (by omega))) (fun _ => ?_)
    refine og_aload_n (pc := 46) dX8_laysUnits_46 rfl ?_
    refine og_get (pc := 47) F_X8_32 dX8_laysUnits_47 wm (by omega) rfl ?_
    refine og_iload_n (pc := 50) dX8_laysUnits_50 rfl ?_
    refine og_dup2 (pc := 51) dX8_laysUnits_51 rfl rfl ?_
    refine og_laldN (pc := 52) (j := p.length) rfl dX8_laysUnits_52 (by repeat (first | exact og_set_eq _ _ _ | assumption | refine (og_set_ne _ _ (by first | assumption | omega)).trans ?_)) (by omega) (by omega) (by first | decide | assumption | omega) ?_
    refine og_lconst (pc := 53) (v := 1) dX8_laysUnits_53 (by decide) ?_
    refine og_ladd (pc := 54) dX8_laysUnits_54 ?_
    refine og_lastN (pc := 55) (j := p.length) rfl dX8_laysUnits_55 (by repeat (first | exact og_set_eq _ _ _ | assumption | refine (og_set_ne _ _ (by first | assumption | omega)).trans ?_)) (by omega) (by omega) (by first | decide | assumption | omega) ?_
    refine og_lconst (pc := 56) (v := 0) dX8_laysUnits_56 (by decide) ?_
    refine og_lstore_n_2 (pc := 57) dX8_laysUnits_57 rfl ?_
    refine og_iconst (pc := 58) (v := 0) dX8_laysUnits_58 (by decide) ?_
    refine og_istore_4 (pc := 59) dX8_laysUnits_59 rfl ?_
    have h1 : og_MK h0 (og_set h 109 (rowL (vp_updL f p.length (f p.length + 1)))) (m_wUn M (nI o) (nI S.1) S.2) := w.row _ (by unfold q_ms; omega)
    have g109 : og_set h 109 (rowL (vp_updL f p.length (f p.length + 1))) 109 = some (rowL (vp_updL f p.length (f p.length + 1))) := og_set_eq _ _ _
    generalize hf1 : vp_updL f p.length (f p.length + 1) = f1 at h1 g109
    generalize og_set h 109 (rowL f1) = h1' at h1 g109
    have a1 : f1 p.length = lN (4 - j) - 2 := by
      rw [← hf1]
      unfold vp_updL
      rw [if_pos rfl, hv, show 5 - (j + 1) = 4 - j by omega]
      exact q_v3 _ hc
    have a2 : ∀ j, j < p.length → f1 j = f j := fun j hj => by rw [← hf1]; unfold vp_updL; rw [if_neg (by omega)]
    have a3 : q_inner f1 f1 (p.length + 1) = lN (s + q_c2 (4 - j)) := by
      show q_inner f1 f1 p.length + f1 p.length * f1 p.length = _
      rw [a1, q_vv _ hc, q_inn p.length (fun j hj => (a2 j hj).trans (hf j hj)), hs, lN_add]
    have wm := h1.m
    refine og_for (i0 := 0) (N := p.length + 1) (by omega) (fun _ => h1') (fun i => [some (.ref 101), some (.int (nI p.length)), some (.long (q_inner f1 f1 i)), none, some (.int (nI i))]) ?_ (fun i _ hi ih => ?_)
    · refine og_iload (pc := 61) dX8_laysUnits_61 rfl ?_
      refine og_iload_n (pc := 63) dX8_laysUnits_63 rfl ?_
      refine og_icmp_gt (pc := 64) (tgt := 91) dX8_laysUnits_64 (by decide) (fun _ => ?_) (fun c => absurd (nI_lt (by omega) (by omega)) c)
      refine og_aload_n (pc := 91) dX8_laysUnits_91 rfl ?_
      refine og_get (pc := 92) F_X8_32 dX8_laysUnits_92 wm (by omega) rfl ?_
      refine og_iload_n (pc := 95) dX8_laysUnits_95 rfl ?_
      refine og_laldN (pc := 96) (j := p.length) rfl dX8_laysUnits_96 (by repeat (first | exact og_set_eq _ _ _ | assumption | refine (og_set_ne _ _ (by first | assumption | omega)).trans ?_)) (by omega) (by omega) (by first | decide | assumption | omega) ?_
      refine og_ldc2 (pc := 97) LC_X8_101 dX8_laysUnits_97 ?_
      refine og_lcmp (pc := 100) dX8_laysUnits_100 ?_
      refine og_if_le (pc := 101) (tgt := 110) dX8_laysUnits_101 (by decide) (fun _ => ?_) (fun c => absurd ((og_cmpG _ _).mp (og_nle c)) (by rw [a1]; exact q_v2 _ hc))
      rw [a3]
      refine og_forget_4 ?_
      refine hF (4 - j) hc f1 S h1' (fun j hj => (a2 j hj).trans (hf j hj)) a1 hle h1 g109 (fun f2 h2 w2 e2 hf2 => ?_)
      refine ihj (by omega) f2 (q_ems o (F (4 - j)) S) h2 (fun j hj => by rw [hf2 j (by omega), a2 j hj, hf j hj]) ?_ (by rw [← q_ems_app]; exact hS) w2 e2 (fun f3 h3 w3 e3 hf3 => ?_)
      · rw [hf2 _ (by omega), a1]
        have : 5 - j = 4 - j + 1 := by omega
        rw [this]
        have z : ∀ c, c < 5 → lN c - 2 = lN (c + 1) - 3 := by decide +kernel
        exact z _ hc
      · refine kk f3 h3 ?_ e3 hf3
        rw [← q_ems_app] at w3
        exact w3
    · refine og_iload (pc := 61) dX8_laysUnits_61 rfl ?_
      refine og_iload_n (pc := 63) dX8_laysUnits_63 rfl ?_
      refine og_icmp_gt (pc := 64) (tgt := 91) dX8_laysUnits_64 (by decide) (fun c => absurd c (nI_nlt (by omega) (by omega))) (fun _ => ?_)
      refine og_lload_n (pc := 67) dX8_laysUnits_67 rfl ?_
      refine og_aload_n (pc := 68) dX8_laysUnits_68 rfl ?_
      refine og_get (pc := 69) F_X8_32 dX8_laysUnits_69 wm (by omega) rfl ?_
      refine og_iload (pc := 72) dX8_laysUnits_72 rfl ?_
      refine og_laldN (pc := 74) (j := i) rfl dX8_laysUnits_74 (by repeat (first | exact og_set_eq _ _ _ | assumption | refine (og_set_ne _ _ (by first | assumption | omega)).trans ?_)) (by omega) (by omega) (by first | decide | assumption | omega) ?_
      refine og_aload_n (pc := 75) dX8_laysUnits_75 rfl ?_
      refine og_get (pc := 76) F_X8_32 dX8_laysUnits_76 wm (by omega) rfl ?_
      refine og_iload (pc := 79) dX8_laysUnits_79 rfl ?_
      refine og_laldN (pc := 81) (j := i) rfl dX8_laysUnits_81 (by repeat (first | exact og_set_eq _ _ _ | assumption | refine (og_set_ne _ _ (by first | assumption | omega)).trans ?_)) (by omega) (by omega) (by first | decide | assumption | omega) ?_
      refine og_lmul (pc := 82) dX8_laysUnits_82 ?_
      refine og_ladd (pc := 83) dX8_laysUnits_83 ?_
      refine og_lstore_n_2 (pc := 84) dX8_laysUnits_84 rfl ?_
      refine og_iinc_4 (pc := 85) dX8_laysUnits_85 (og_inc i) rfl ?_
      refine og_goto (pc := 88) (tgt := 61) dX8_laysUnits_88 (by decide) ?_
      exact ih
end LU
