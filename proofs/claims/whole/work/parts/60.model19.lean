/-! ===== the model: laysUnits, the levels ===== -/
theorem q_od2_congr {f g : Nat → Int64} : ∀ n, (∀ j, j < n → f j = g j) → q_od2 f n = q_od2 g n
  | 0, _ => rfl
  | n + 1, h => by
    show q_od2 f n ||| _ = q_od2 g n ||| _
    rw [q_od2_congr n (fun j hj => h j (by omega)), h n (by omega)]
theorem q_inP_congr {f g : Nat → Int64} {o : Nat} (h : ∀ j, j < 8 → f j = g j) : q_inP f o ↔ q_inP g o := by
  unfold q_inP
  rw [q_od2_congr 8 h]
theorem q_pti_8 (s : Nat → Int32) {f g : Nat → Int64} (r : Nat) (h : ∀ j, j < 8 → f j = g j) : q_pti s f r 8 = q_pt s g r := by
  funext j
  unfold q_pti q_pt
  by_cases z : 8 * r ≤ j ∧ j < 8 * r + 8
  · rw [if_pos z, if_pos z, h _ (by omega)]
  · rw [if_neg z, if_neg z]
section LU2
variable {E : og_E} {d n : Nat} {h0 : og_H} {X : og_X} {Q : State → Prop} {M : q_M} {o : Nat}
set_option maxRecDepth 4000 in
theorem w_laysF0 (htb : og_tb X = []) (ho8 : o < 8) (p : List Nat) (s : Nat) (hp : p.length = 7) (hs4 : s ≤ 4) (c : Nat) (hc : c < 5) (f : Nat → Int64) (S : Nat × (Nat → Int32)) (h : og_H) (hf : ∀ j, j < p.length → f j = q_row p j) (hv : f p.length = lN c - 2)
    (hS : (q_ems o (if s + q_c2 c ≤ 4 then q_en 0 (p ++ [c]) (s + q_c2 c) else []) S).1 ≤ 240) (w : og_MK h0 h (m_wUn M (nI o) (nI S.1) S.2)) (e109 : h 109 = some (rowL f))
    (kk : ∀ (f2 : Nat → Int64) (h2 : og_H), og_MK h0 h2 (m_wUn M (nI o) (nI (q_ems o (if s + q_c2 c ≤ 4 then q_en 0 (p ++ [c]) (s + q_c2 c) else []) S).1) (q_ems o (if s + q_c2 c ≤ 4 then q_en 0 (p ++ [c]) (s + q_c2 c) else []) S).2) → h2 109 = some (rowL f2) → (∀ j, j < p.length + 1 → f2 j = f j) → og_G E yX8_laysUnits.cls cX8_laysUnits (d + 2) 0 0 5 X Q 0 0 n h2 42 [some (.ref 101), some (.int (nI p.length)), none, none, none] []) :
    og_G E yX8_laysUnits.cls cX8_laysUnits (d + 2) 0 0 5 X Q 0 0 n h 110 [some (.ref 101), some (.int (nI p.length)), some (.long (lN (s + q_c2 c))), none, none] [] := by
  have hc4 := q_c2_le c hc
  have wm := w.m
  have k139 : og_G E yX8_laysUnits.cls cX8_laysUnits (d + 2) 0 0 5 X Q 0 0 n h 139 [some (.ref 101), some (.int (nI p.length)), some (.long (lN (s + q_c2 c))), none, none] [] := by
    refine og_lload_n (pc := 139) dX8_laysUnits_139 rfl ?_
    refine og_ldc2 (pc := 140) LC_X8_112 dX8_laysUnits_140 ?_
    refine og_lcmp (pc := 143) dX8_laysUnits_143 ?_
    refine og_if_ne (pc := 144) (tgt := 211) dX8_laysUnits_144 (by decide) (fun z => ?_) (fun z => ?_)
    · have t4 : ¬ s + q_c2 c = 4 := fun e => z ((og_cmp0 _ _).mpr (by rw [e]; rfl))
      have e1 : (if s + q_c2 c ≤ 4 then q_en 0 (p ++ [c]) (s + q_c2 c) else []) = [] := by
        by_cases q : s + q_c2 c ≤ 4
        · rw [if_pos q]
          exact if_neg t4
        · exact if_neg q
      rw [e1] at kk
      refine og_goto (pc := 211) (tgt := 42) dX8_laysUnits_211 (by decide) ?_
      refine og_forget_2 ?_
      exact kk f h w e109 (fun _ _ => rfl)
    · have t4 : s + q_c2 c = 4 := by
        have z2 := (og_cmp0 _ _).mp z
        exact (lN_eq (a := s + q_c2 c) (b := 4) (by omega) (by omega)).mp z2
      have e1 : (if s + q_c2 c ≤ 4 then q_en 0 (p ++ [c]) (s + q_c2 c) else []) = [p ++ [c]] := by
        rw [if_pos (by omega)]
        exact if_pos t4
      rw [e1] at kk hS
      have hrow : ∀ j, j < 8 → f j = q_row (p ++ [c]) j := fun j hj => by
        by_cases q : j < p.length
        · rw [q_row_app1 p c q, hf j q]
        · have : j = p.length := by omega
          rw [this, q_row_app2, hv]
      have e2 : q_ems o [p ++ [c]] S = q_em1 o S (p ++ [c]) := rfl
      rw [e2] at kk hS
      refine og_aload_n (pc := 147) dX8_laysUnits_147 rfl ?_
      refine og_aload_n (pc := 148) dX8_laysUnits_148 rfl ?_
      refine og_get (pc := 149) F_X8_32 dX8_laysUnits_149 wm (by omega) rfl ?_
      refine og_aload_n (pc := 152) dX8_laysUnits_152 rfl ?_
      refine og_get (pc := 153) F_X8_44 dX8_laysUnits_153 wm (by omega) rfl ?_
      refine og_callV (pc := 156) (As := [.ref 109, .int (nI o)]) (rest := []) (c_X8_isIn E d n 109 o h f wm e109 (by omega) ho8) Y_X8_isIn I_X8_isIn V_X8_isIn wm (by omega) rfl rfl K_X8_114 dX8_laysUnits_156 rfl rfl (Nat.le_of_ble_eq_true rfl) (by omega) (by omega) (by omega) (fun _ _ _ z => z) (fun v n1 h1 z => ?_)
      obtain ⟨hn, hh, y⟩ := z
      subst hn hh
      rcases y with ⟨rfl, y⟩ | ⟨rfl, y⟩
      · refine og_if_eq (pc := 159) (tgt := 211) dX8_laysUnits_159 (by decide) (fun q => absurd q (by decide)) (fun _ => ?_)
        have e3 : q_em1 o S (p ++ [c]) = (S.1 + 1, q_pt S.2 (q_row (p ++ [c])) S.1) := q_if_pos ((q_inP_congr hrow).mp y)
        rw [e3] at kk hS
        have hS2 : S.1 + 1 ≤ 240 := hS
        refine og_iconst (pc := 162) (v := 0) dX8_laysUnits_162 (by decide) ?_
        refine og_istore_4 (pc := 163) dX8_laysUnits_163 rfl ?_
        refine og_congI (q_pti S.2 f S.1 0) w.u (by omega) (fun j _ => by unfold q_pti; rw [if_neg (by omega)]; rfl) ?_
        refine og_for (i0 := 0) (N := 8) (by decide) (fun i => og_set h1 113 (rowI 1920 (q_pti S.2 f S.1 i))) (fun i => [some (.ref 101), some (.int (nI p.length)), some (.long (lN (s + q_c2 c))), none, some (.int (nI i))]) ?_ (fun i _ hi ih => ?_)
        · refine og_iload (pc := 165) dX8_laysUnits_165 rfl ?_
          refine og_bipush (pc := 167) (v := 8) dX8_laysUnits_167 (by decide) ?_
          refine og_geN (pc := 169) (tgt := 201) (i := 8) (N := 8) dX8_laysUnits_169 (by decide) rfl rfl (by omega) (by omega) (fun c_169 => ?_) (fun c_169 => ?_)
          · refine og_aload_n (pc := 201) dX8_laysUnits_201 rfl ?_
            refine og_dup (pc := 202) dX8_laysUnits_202 rfl ?_
            refine og_get (pc := 203) F_X8_107 dX8_laysUnits_203 (by repeat (first | exact og_set_eq _ _ _ | assumption | refine (og_set_ne _ _ (by first | assumption | omega)).trans ?_)) (by omega) rfl ?_
            refine og_iconst (pc := 206) (v := 1) dX8_laysUnits_206 (by decide) ?_
            refine og_iadd (pc := 207) dX8_laysUnits_207 ?_
            refine og_put (pc := 208) P_X8_107 dX8_laysUnits_208 (by repeat (first | exact og_set_eq _ _ _ | assumption | refine (og_set_ne _ _ (by first | assumption | omega)).trans ?_)) (by omega) rfl rfl (Nat.le_of_ble_eq_true rfl) ?_
            refine og_goto (pc := 211) (tgt := 42) dX8_laysUnits_211 (by decide) ?_
            refine og_forget_2 ?_
            refine og_forget_4 ?_
            have w2 := (w.sU (q_pti S.2 f S.1 8)).sO (m_ps M) (m_ty M) (m_rf M) (nI o) (nI S.1 + 1) (m_ls M) (m_dp M) (m_wl M) (m_ct M) w.ok.1 w.ok.2
            refine kk f _ ?_ ?_ (fun _ _ => rfl)
            rotate_left
            · exact (og_set_ne _ _ (by omega)).trans ((og_set_ne _ _ (by omega)).trans e109)
            rw [← q_pti_8 S.2 S.1 hrow, ← nI_1]
            exact w2
          · omega
        · refine og_iload (pc := 165) dX8_laysUnits_165 rfl ?_
          refine og_bipush (pc := 167) (v := 8) dX8_laysUnits_167 (by decide) ?_
          refine og_geN (pc := 169) (tgt := 201) (i := i) (N := 8) dX8_laysUnits_169 (by decide) rfl rfl (by omega) (by omega) (fun c_169 => ?_) (fun c_169 => ?_)
          · omega
          refine og_aload_n (pc := 172) dX8_laysUnits_172 rfl ?_
          refine og_get (pc := 173) F_X8_48 dX8_laysUnits_173 (by repeat (first | exact og_set_eq _ _ _ | assumption | refine (og_set_ne _ _ (by first | assumption | omega)).trans ?_)) (by omega) rfl ?_
          refine og_bipush (pc := 176) (v := 8) dX8_laysUnits_176 (by decide) ?_
          refine og_aload_n (pc := 178) dX8_laysUnits_178 rfl ?_
          refine og_get (pc := 179) F_X8_107 dX8_laysUnits_179 (by repeat (first | exact og_set_eq _ _ _ | assumption | refine (og_set_ne _ _ (by first | assumption | omega)).trans ?_)) (by omega) rfl ?_
          refine og_imul (pc := 182) dX8_laysUnits_182 ?_
          refine og_iload (pc := 183) dX8_laysUnits_183 rfl ?_
          refine og_iadd (pc := 185) dX8_laysUnits_185 ?_
          refine og_aload_n (pc := 186) dX8_laysUnits_186 rfl ?_
          refine og_get (pc := 187) F_X8_32 dX8_laysUnits_187 (by repeat (first | exact og_set_eq _ _ _ | assumption | refine (og_set_ne _ _ (by first | assumption | omega)).trans ?_)) (by omega) rfl ?_
          refine og_iload (pc := 190) dX8_laysUnits_190 rfl ?_
          refine og_laldN (pc := 192) (j := i) rfl dX8_laysUnits_192 (by repeat (first | exact og_set_eq _ _ _ | assumption | refine (og_set_ne _ _ (by first | assumption | omega)).trans ?_)) (by omega) (by omega) (by first | decide | assumption | omega) ?_
          refine og_l2i (pc := 193) dX8_laysUnits_193 rfl ?_
          refine og_iastN (pc := 194) (j := (8 * S.1 + i)) (og_i8 S.1 i) dX8_laysUnits_194 (by repeat (first | exact og_set_eq _ _ _ | assumption | refine (og_set_ne _ _ (by first | assumption | omega)).trans ?_)) (by omega) (by omega) (by first | decide | assumption | omega) ?_
          refine og_iinc_4 (pc := 195) dX8_laysUnits_195 (og_inc i) rfl ?_
          refine og_goto (pc := 198) (tgt := 165) dX8_laysUnits_198 (by decide) ?_
          rw [og_set_set, q_pti_next]
          exact ih
      · refine og_if_eq (pc := 159) (tgt := 211) dX8_laysUnits_159 (by decide) (fun _ => ?_) (fun q => absurd rfl q)
        have e3 : q_em1 o S (p ++ [c]) = S := q_if_neg (fun q => y ((q_inP_congr hrow).mpr q))
        rw [e3] at kk
        refine og_goto (pc := 211) (tgt := 42) dX8_laysUnits_211 (by decide) ?_
        refine og_forget_2 ?_
        exact kk f h1 w e109 (fun _ _ => rfl)
  refine og_lload_n (pc := 110) dX8_laysUnits_110 rfl ?_
  refine og_ldc2 (pc := 111) LC_X8_112 dX8_laysUnits_111 ?_
  refine og_lcmp (pc := 114) dX8_laysUnits_114 ?_
  refine og_if_gt (pc := 115) (tgt := 139) dX8_laysUnits_115 (by decide) (fun _ => k139) (fun _ => ?_)
  refine og_iload_n (pc := 118) dX8_laysUnits_118 rfl ?_
  refine og_bipush (pc := 119) (v := 7) dX8_laysUnits_119 (by decide) ?_
  refine og_geN (pc := 121) (tgt := 139) (i := p.length) (N := 7) dX8_laysUnits_121 (by decide) rfl rfl (by omega) (by omega) (fun c_121 => ?_) (fun c_121 => ?_)
  · exact k139
  · omega
set_option maxRecDepth 4000 in
theorem w_laysL (htb : og_tb X = []) (ho8 : o < 8) : ∀ (k : Nat) (p : List Nat) (s : Nat), p.length + k = 7 → s ≤ 4 → q_inner (q_row p) (q_row p) p.length = lN s → ∀ (f : Nat → Int64) (S : Nat × (Nat → Int32)) (h : og_H), (∀ j, j < p.length → f j = q_row p j) → f p.length = -3 → (q_ems o (q_en (k + 1) p s) S).1 ≤ 240 → og_MK h0 h (m_wUn M (nI o) (nI S.1) S.2) → h 109 = some (rowL f) →
      (∀ (f2 : Nat → Int64) (h2 : og_H), og_MK h0 h2 (m_wUn M (nI o) (nI (q_ems o (q_en (k + 1) p s) S).1) (q_ems o (q_en (k + 1) p s) S).2) → h2 109 = some (rowL f2) → (∀ j, j < p.length → f2 j = q_row p j) → og_G E yX8_laysUnits.cls cX8_laysUnits (d + 2) 0 0 5 X Q 0 0 n h2 42 [some (.ref 101), some (.int (nI p.length - 1)), none, none, none] []) →
      og_G E yX8_laysUnits.cls cX8_laysUnits (d + 2) 0 0 5 X Q 0 0 n h 42 [some (.ref 101), some (.int (nI p.length)), none, none, none] [] := by
  intro k
  induction k with
  | zero =>
    intro p s hp hs4 hs f S h hf hv hS w e109 kk
    exact w_laysV (fun c => if s + q_c2 c ≤ 4 then q_en 0 (p ++ [c]) (s + q_c2 c) else []) p s (by omega) hs4 hs (fun c hc f S h => w_laysF0 htb ho8 p s (by omega) hs4 c hc f S h) 5 (Nat.le_refl 5) f S h hf (by rw [hv]; decide) hS w e109 kk
  | succ k ih =>
    intro p s hp hs4 hs f S h hf hv hS w e109 kk
    refine w_laysV (fun c => if s + q_c2 c ≤ 4 then q_en (k + 1) (p ++ [c]) (s + q_c2 c) else []) p s (by omega) hs4 hs ?_ 5 (Nat.le_refl 5) f S h hf (by rw [hv]; decide) hS w e109 kk
    intro c hc f S h hf hv hS w e109 kk
    have hc4 := q_c2_le c hc
    have wm := w.m
    refine og_lload_n (pc := 110) dX8_laysUnits_110 rfl ?_
    refine og_ldc2 (pc := 111) LC_X8_112 dX8_laysUnits_111 ?_
    refine og_lcmp (pc := 114) dX8_laysUnits_114 ?_
    refine og_if_gt (pc := 115) (tgt := 139) dX8_laysUnits_115 (by decide) (fun z => ?_) (fun z => ?_)
    · have t4 : ¬ s + q_c2 c ≤ 4 := fun q => by
        have z2 : lN 4 < lN (s + q_c2 c) := (og_cmpG _ _).mp z
        have := (lN_lt (by omega) (by omega)).mp z2
        omega
      have e1 : (if s + q_c2 c ≤ 4 then q_en (k + 1) (p ++ [c]) (s + q_c2 c) else []) = [] := if_neg t4
      have kk2 := kk f h
      rw [e1] at kk2
      refine og_lload_n (pc := 139) dX8_laysUnits_139 rfl ?_
      refine og_ldc2 (pc := 140) LC_X8_112 dX8_laysUnits_140 ?_
      refine og_lcmp (pc := 143) dX8_laysUnits_143 ?_
      refine og_if_ne (pc := 144) (tgt := 211) dX8_laysUnits_144 (by decide) (fun z => ?_) (fun z => ?_)
      · refine og_goto (pc := 211) (tgt := 42) dX8_laysUnits_211 (by decide) ?_
        refine og_forget_2 ?_
        exact kk2 w e109 (fun _ _ => rfl)
      · have z2 := (og_cmp0 _ _).mp z
        have := (lN_eq (a := s + q_c2 c) (b := 4) (by omega) (by omega)).mp z2
        omega
    · have t4 : s + q_c2 c ≤ 4 := by
        rcases Nat.lt_or_ge 4 (s + q_c2 c) with q | q
        · exact absurd ((og_cmpG _ _).mpr ((lN_lt (a := 4) (b := s + q_c2 c) (by omega) (by omega)).mpr q)) z
        · exact q
      have e1 : (if s + q_c2 c ≤ 4 then q_en (k + 1) (p ++ [c]) (s + q_c2 c) else []) = q_en (k + 1) (p ++ [c]) (s + q_c2 c) := if_pos t4
      have hS2 := hS
      have kk2 := kk
      simp only [e1] at hS2 kk2
      refine og_iload_n (pc := 118) dX8_laysUnits_118 rfl ?_
      refine og_bipush (pc := 119) (v := 7) dX8_laysUnits_119 (by decide) ?_
      refine og_geN (pc := 121) (tgt := 139) (i := p.length) (N := 7) dX8_laysUnits_121 (by decide) rfl rfl (by omega) (by omega) (fun c_121 => ?_) (fun c_121 => ?_)
      · omega
      have hpl : (p ++ [c]).length = p.length + 1 := List.length_append
      refine og_iinc_1 (pc := 124) dX8_laysUnits_124 (og_inc p.length) rfl ?_
      refine og_aload_n (pc := 127) dX8_laysUnits_127 rfl ?_
      refine og_get (pc := 128) F_X8_32 dX8_laysUnits_128 wm (by omega) rfl ?_
      refine og_iload_n (pc := 131) dX8_laysUnits_131 rfl ?_
      refine og_ldc2 (pc := 132) LC_X8_110 dX8_laysUnits_132 ?_
      refine og_lastN (pc := 135) (j := (p.length + 1)) rfl dX8_laysUnits_135 (by repeat (first | exact og_set_eq _ _ _ | assumption | refine (og_set_ne _ _ (by first | assumption | omega)).trans ?_)) (by omega) (by omega) (by first | decide | assumption | omega) ?_
      refine og_goto (pc := 136) (tgt := 211) dX8_laysUnits_136 (by decide) ?_
      refine og_goto (pc := 211) (tgt := 42) dX8_laysUnits_211 (by decide) ?_
      refine og_forget_2 ?_
      have w2 : og_MK h0 (og_set h 109 (rowL (vp_updL f (p.length + 1) (-3)))) (m_wUn M (nI o) (nI S.1) S.2) := w.row _ (by unfold q_ms; omega)
      have hrow : ∀ j, j < p.length + 1 → f j = q_row (p ++ [c]) j := fun j hj => by
        by_cases q : j < p.length
        · rw [q_row_app1 p c q, hf j q]
        · have : j = p.length := by omega
          rw [this, q_row_app2, hv]
      have hs' : q_inner (q_row (p ++ [c])) (q_row (p ++ [c])) (p.length + 1) = lN (s + q_c2 c) := by
        show q_inner (q_row (p ++ [c])) (q_row (p ++ [c])) p.length + q_row (p ++ [c]) p.length * q_row (p ++ [c]) p.length = _
        rw [q_row_app2, q_vv c hc, q_inn p.length (fun j hj => q_row_app1 p c hj), hs, lN_add]
      have goal := ih (p ++ [c]) (s + q_c2 c) (by rw [hpl]; omega) t4 (by rw [hpl]; exact hs') (vp_updL f (p.length + 1) (-3)) S _ (fun j hj => by rw [hpl] at hj; unfold vp_updL; rw [if_neg (by omega)]; exact hrow j hj) (by rw [hpl]; exact if_pos rfl) hS2 w2 (og_set_eq _ _ _) (fun f2 h2 w3 e3 hf2 => by
        rw [hpl, nI_s1]
        exact kk2 f2 h2 w3 e3 (fun j hj => by rw [hf2 j (by rw [hpl]; omega), hrow j hj]))
      rw [hpl] at goal
      exact goal
end LU2
