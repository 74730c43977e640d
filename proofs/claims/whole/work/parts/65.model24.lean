/-! ===== the model: dimension ===== -/
def q_on : Option Nat → Int32
  | none => -1
  | some r => nI r
theorem q_on_some {r : Nat} (h : r < 2147483648) : q_on (some r) ≠ -1 := fun e => by
  have z : ¬ nI r < 0 := nI_pos h
  have e2 : nI r = -1 := e
  rw [e2] at z
  exact z (by decide)
def q_im (f : Nat → Int64) : Nat → Int64 := vp_updL f 0 0
def q_nc (f g : Nat → Int64) : Prop := q_inner (q_total (q_prod f g) (q_prod g f) 1) (q_total (q_prod f g) (q_prod g f) 1) 8 ≠ 0
noncomputable def m_dx (M : q_M) (q : Nat) : Nat → Option Nat
  | 0 => none
  | r + 1 => q_if (m_dx M q r = none ∧ q_sbit q r = 1 ∧ q_inner (q_im (m_R M r)) (q_im (m_R M r)) 8 ≠ 0) (some r) (m_dx M q r)
noncomputable def m_dy (M : q_M) (q : Nat) (x : Option Nat) : Nat → Option Nat
  | 0 => none
  | r + 1 => q_if (m_dy M q x r = none ∧ q_sbit q r = 1 ∧ ∃ a, x = some a ∧ q_nc (m_R M a) (m_R M r)) (some r) (m_dy M q x r)
def m_dap (M : q_M) (q a b k : Nat) : Prop := ∃ s, s < k ∧ q_sbit q s = 1 ∧ ¬ ∀ i, i < 8 → q_asc (m_R M a) (m_R M b) (m_R M s) i = 0
noncomputable def m_dim (M : q_M) (q : Nat) : Int32 :=
  match m_dx M q 8 with
  | none => 1
  | some a => match m_dy M q (some a) 8 with
    | none => 2
    | some b => q_if (m_dap M q a b 8) 8 4
theorem m_dx_lt (M : q_M) (q : Nat) : ∀ r a, m_dx M q r = some a → a < r
  | 0, a, h => by cases h
  | r + 1, a, h => by
    by_cases z : m_dx M q r = none ∧ q_sbit q r = 1 ∧ q_inner (q_im (m_R M r)) (q_im (m_R M r)) 8 ≠ 0
    · rw [m_dx, q_if_t _ _ z] at h
      cases h
      omega
    · rw [m_dx, q_if_f _ _ z] at h
      have := m_dx_lt M q r a h
      omega
theorem m_dy_lt (M : q_M) (q : Nat) (x : Option Nat) : ∀ r a, m_dy M q x r = some a → a < r
  | 0, a, h => by cases h
  | r + 1, a, h => by
    by_cases z : m_dy M q x r = none ∧ q_sbit q r = 1 ∧ ∃ a, x = some a ∧ q_nc (m_R M a) (m_R M r)
    · rw [m_dy, q_if_t _ _ z] at h
      cases h
      omega
    · rw [m_dy, q_if_f _ _ z] at h
      have := m_dy_lt M q x r a h
      omega
theorem m_dy_none (M : q_M) (q : Nat) : ∀ r, m_dy M q none r = none
  | 0 => rfl
  | r + 1 => by
    rw [m_dy, q_if_f _ _ (fun z => by obtain ⟨-, -, a, h, -⟩ := z; cases h)]
    exact m_dy_none M q r
set_option maxRecDepth 4000 in
theorem c_X8_dimension (E : og_E) (d n : Nat) (h : og_H) (x : Int32) {h0 : og_H} {M : q_M} (w : og_MK h0 h M) :
    og_M E yX8_dimension (.code yX8_dimension cX8_dimension 6 (some .int)) (d + 3) [.ref 101, .int x] n h 0 0 (fun v nn h1 => nn = n ∧ ((¬ (∃ q9, 1 ≤ q9 ∧ q9 ≤ 255 ∧ x = nI q9) ∧ v = some (.int 0) ∧ og_MK h0 h1 (m_wRf M 1)) ∨ (∃ q9, 1 ≤ q9 ∧ q9 ≤ 255 ∧ x = nI q9 ∧ v = some (.int (m_dim M q9)) ∧ og_MK h0 h1 (m_wRf M 0)))) no_x := by
  refine og_start (lv := [some (.ref 101), some (.int x), none, none, none, none]) (by decide) rfl rfl (Nat.le_of_ble_eq_true rfl) fun X hr hnm htb => ?_
  have wm := w.m
  refine og_aload_n (pc := 0) dX8_dimension_0 rfl ?_
  refine og_iload_n (pc := 1) dX8_dimension_1 rfl ?_
  refine og_iconst (pc := 2) (v := 1) dX8_dimension_2 (by decide) ?_
  refine og_sipush (pc := 3) (v := 255) dX8_dimension_3 (by decide) ?_
  refine og_callS (pc := 6) (As := [.int x, .int 1, .int 255]) (rest := [.ref 101]) (c_X8_in E d n h x 1 255) Y_X8_in S_X8_in K_X8_86 dX8_dimension_6 rfl rfl (Nat.le_of_ble_eq_true rfl) (by omega) (by omega) (by omega) (fun _ _ _ z => z) (fun v n1 h1 z => ?_)
  obtain ⟨hn, hh, z⟩ := z
  subst hn hh
  rcases z with ⟨rfl, z1, z2⟩ | ⟨rfl, z⟩
  rotate_left
  · refine og_if_eq (pc := 9) (tgt := 16) dX8_dimension_9 (by decide) (fun _ => ?_) (fun q => absurd rfl q)
    refine og_iconst (pc := 16) (v := 1) dX8_dimension_16 (by decide) ?_
    refine og_callV (pc := 17) (As := [.int 1]) (rest := []) (c_X8_throwsAt E d n1 h1 1 wm) Y_X8_throwsAt I_X8_throwsAt V_X8_throwsAt wm (by omega) rfl rfl K_X8_125 dX8_dimension_17 rfl rfl (Nat.le_of_ble_eq_true rfl) (by omega) (by omega) (by omega) (fun _ _ _ z => z) (fun v n2 h2 z => ?_)
    obtain ⟨hn, hh, y⟩ := z
    subst hn
    have w2 := w.rf_ 1
    rcases y with ⟨rfl, y⟩ | ⟨rfl, y⟩
    rotate_left
    · exact absurd (by decide) y
    refine og_if_eq (pc := 20) (tgt := 25) dX8_dimension_20 (by decide) (fun q => absurd q (by decide)) (fun _ => ?_)
    refine og_iconst (pc := 23) (v := 0) dX8_dimension_23 (by decide) ?_
    exact og_iret (pc := 24) hr dX8_dimension_24 (by omega) (by omega) ⟨rfl, Or.inl ⟨fun ⟨q, q1, q2, q3⟩ => z (by rw [q3]; exact ⟨nI_le (a := 1) q1 (by omega), nI_le (b := 255) q2 (by omega)⟩), rfl, by rw [hh]; exact w2⟩⟩
  refine og_if_eq (pc := 9) (tgt := 16) dX8_dimension_9 (by decide) (fun q => absurd q (by decide)) (fun _ => ?_)
  obtain ⟨q, hq, rfl⟩ := q_inN_iff (m := 255) (by omega) x (Int32.le_trans (by decide) z1) z2
  have hq1 : 1 ≤ q := (nI_leI (a := 1) (b := q) (by omega) (by omega)).mp z1
  refine og_iconst (pc := 12) (v := 0) dX8_dimension_12 (by decide) ?_
  refine og_goto (pc := 13) (tgt := 17) dX8_dimension_13 (by decide) ?_
  refine og_callV (pc := 17) (As := [.int 0]) (rest := []) (c_X8_throwsAt E d n1 h1 0 wm) Y_X8_throwsAt I_X8_throwsAt V_X8_throwsAt wm (by omega) rfl rfl K_X8_125 dX8_dimension_17 rfl rfl (Nat.le_of_ble_eq_true rfl) (by omega) (by omega) (by omega) (fun _ _ _ z => z) (fun v n2 h2 z => ?_)
  obtain ⟨hn, hh, y⟩ := z
  subst hn
  have w2 := w.rf_ 0
  rcases y with ⟨rfl, y⟩ | ⟨rfl, -⟩
  · exact absurd y (by decide)
  refine og_if_eq (pc := 20) (tgt := 25) dX8_dimension_20 (by decide) (fun _ => ?_) (fun q => absurd rfl q)
  refine og_abs (P := fun g => og_MK h0 g (m_wRf M 0)) (by rw [hh]; exact w2) fun g w => ?_
  refine og_iconst (pc := 25) (v := (-1)) dX8_dimension_25 (by decide) ?_
  refine og_istore_n_2 (pc := 26) dX8_dimension_26 rfl ?_
  refine og_iconst (pc := 27) (v := (-1)) dX8_dimension_27 (by decide) ?_
  refine og_istore_n_3 (pc := 28) dX8_dimension_28 rfl ?_
  refine og_iconst (pc := 29) (v := 0) dX8_dimension_29 (by decide) ?_
  refine og_istore_4 (pc := 30) dX8_dimension_30 rfl ?_
  refine og_iconst (pc := 32) (v := 0) dX8_dimension_32 (by decide) ?_
  refine og_istore_5 (pc := 33) dX8_dimension_33 rfl ?_
  have fin3 : ∀ (g : og_H) (ox oy : Option Nat) (ap : Int32) (l5 : Option Value), og_MK h0 g (m_wRf M 0) → (∀ a, ox = some a → a < 8) → (∀ a, oy = some a → a < 8) → (match ox with | none => 1 | some _ => match oy with | none => 2 | some _ => (if ap = 0 then (4 : Int32) else 8)) = m_dim M q → og_G E yX8_dimension.cls cX8_dimension (d + 3) 0 0 6 X (og_Q E (fun v nn h1 => nn = n2 ∧ ((¬ (∃ q9, 1 ≤ q9 ∧ q9 ≤ 255 ∧ nI q = nI q9) ∧ v = some (.int 0) ∧ og_MK h0 h1 (m_wRf M 1)) ∨ (∃ q9, 1 ≤ q9 ∧ q9 ≤ 255 ∧ nI q = nI q9 ∧ v = some (.int (m_dim M q9)) ∧ og_MK h0 h1 (m_wRf M 0)))) no_x 0 0 X) 0 0 n2 g 208 [some (.ref 101), some (.int (nI q)), some (.int (q_on ox)), some (.int (q_on oy)), some (.int ap), l5] [] := by
    intro g ox oy ap l5 w hx hy e
    refine og_iload_n (pc := 208) dX8_dimension_208 rfl ?_
    refine og_iconst (pc := 209) (v := (-1)) dX8_dimension_209 (by decide) ?_
    cases ox with
    | none =>
      refine og_icmp_ne (pc := 210) (tgt := 217) dX8_dimension_210 (by decide) (fun c => absurd rfl c) (fun _ => ?_)
      refine og_iconst (pc := 213) (v := 1) dX8_dimension_213 (by decide) ?_
      refine og_goto (pc := 214) (tgt := 237) dX8_dimension_214 (by decide) ?_
      exact og_iret (pc := 237) hr dX8_dimension_237 (by omega) (by omega) ⟨rfl, Or.inr ⟨q, hq1, by omega, rfl, by rw [← e], w⟩⟩
    | some a =>
      refine og_icmp_ne (pc := 210) (tgt := 217) dX8_dimension_210 (by decide) (fun _ => ?_) (fun c => absurd c (q_on_some (by have := hx a rfl; omega)))
      refine og_iload_n (pc := 217) dX8_dimension_217 rfl ?_
      refine og_iconst (pc := 218) (v := (-1)) dX8_dimension_218 (by decide) ?_
      cases oy with
      | none =>
        refine og_icmp_ne (pc := 219) (tgt := 226) dX8_dimension_219 (by decide) (fun c => absurd rfl c) (fun _ => ?_)
        refine og_iconst (pc := 222) (v := 2) dX8_dimension_222 (by decide) ?_
        refine og_goto (pc := 223) (tgt := 237) dX8_dimension_223 (by decide) ?_
        exact og_iret (pc := 237) hr dX8_dimension_237 (by omega) (by omega) ⟨rfl, Or.inr ⟨q, hq1, by omega, rfl, by rw [← e], w⟩⟩
      | some b =>
        refine og_icmp_ne (pc := 219) (tgt := 226) dX8_dimension_219 (by decide) (fun _ => ?_) (fun c => absurd c (q_on_some (by have := hy b rfl; omega)))
        refine og_iload (pc := 226) dX8_dimension_226 rfl ?_
        have e2 : (if ap = 0 then (4 : Int32) else 8) = m_dim M q := e
        refine og_if_eq (pc := 228) (tgt := 236) dX8_dimension_228 (by decide) (fun c => ?_) (fun c => ?_)
        · refine og_iconst (pc := 236) (v := 4) dX8_dimension_236 (by decide) ?_
          exact og_iret (pc := 237) hr dX8_dimension_237 (by omega) (by omega) ⟨rfl, Or.inr ⟨q, hq1, by omega, rfl, by rw [← e2, if_pos c], w⟩⟩
        · refine og_bipush (pc := 231) (v := 8) dX8_dimension_231 (by decide) ?_
          refine og_goto (pc := 233) (tgt := 237) dX8_dimension_233 (by decide) ?_
          exact og_iret (pc := 237) hr dX8_dimension_237 (by omega) (by omega) ⟨rfl, Or.inr ⟨q, hq1, by omega, rfl, by rw [← e2, if_neg c], w⟩⟩
  have loop3 : ∀ (a b : Nat), a < 8 → b < 8 → m_dx M q 8 = some a → m_dy M q (some a) 8 = some b → ∀ k i, i + k = 8 → ∀ g, og_MK h0 g (m_wRf M 0) → og_G E yX8_dimension.cls cX8_dimension (d + 3) 0 0 6 X (og_Q E (fun v nn h1 => nn = n2 ∧ ((¬ (∃ q9, 1 ≤ q9 ∧ q9 ≤ 255 ∧ nI q = nI q9) ∧ v = some (.int 0) ∧ og_MK h0 h1 (m_wRf M 1)) ∨ (∃ q9, 1 ≤ q9 ∧ q9 ≤ 255 ∧ nI q = nI q9 ∧ v = some (.int (m_dim M q9)) ∧ og_MK h0 h1 (m_wRf M 0)))) no_x 0 0 X) 0 0 n2 g 153 [some (.ref 101), some (.int (nI q)), some (.int (nI a)), some (.int (nI b)), some (.int (q_if (m_dap M q a b i) 1 0)), some (.int (nI i))] [] := by
    intro a b ha8 hb8 hxa hyb k
    induction k with
    | zero =>
      intro i hi g w
      have ei : i = 8 := by omega
      subst ei
      refine og_iload (pc := 153) dX8_dimension_153 rfl ?_
      refine og_bipush (pc := 155) (v := 8) dX8_dimension_155 (by decide) ?_
      refine og_geN (pc := 157) (tgt := 208) (i := 8) (N := 8) dX8_dimension_157 (by decide) rfl rfl (by omega) (by omega) (fun c_157 => ?_) (fun c_157 => ?_)
      rotate_left
      · omega
      refine fin3 g (some a) (some b) _ _ w (fun a2 e => by cases e; exact ha8) (fun a2 e => by cases e; exact hb8) ?_
      rw [m_dim, hxa]
      show (if q_if (m_dap M q a b 8) (1 : Int32) 0 = 0 then (4 : Int32) else 8) = match m_dy M q (some a) 8 with | none => 2 | some b => q_if (m_dap M q a b 8) 8 4
      rw [hyb]
      show (if q_if (m_dap M q a b 8) (1 : Int32) 0 = 0 then (4 : Int32) else 8) = q_if (m_dap M q a b 8) 8 4
      by_cases z : m_dap M q a b 8
      · rw [q_if_t _ _ z, q_if_t _ _ z]
        rfl
      · rw [q_if_f _ _ z, q_if_f _ _ z]
        rfl
    | succ k ihk =>
      intro i hi g w
      have wm := w.m
      have nx : ∀ g2, og_MK h0 g2 (m_wRf M 0) → ∀ v : Int32, v = q_if (m_dap M q a b (i + 1)) 1 0 → og_G E yX8_dimension.cls cX8_dimension (d + 3) 0 0 6 X (og_Q E (fun v nn h1 => nn = n2 ∧ ((¬ (∃ q9, 1 ≤ q9 ∧ q9 ≤ 255 ∧ nI q = nI q9) ∧ v = some (.int 0) ∧ og_MK h0 h1 (m_wRf M 1)) ∨ (∃ q9, 1 ≤ q9 ∧ q9 ≤ 255 ∧ nI q = nI q9 ∧ v = some (.int (m_dim M q9)) ∧ og_MK h0 h1 (m_wRf M 0)))) no_x 0 0 X) 0 0 n2 g2 202 [some (.ref 101), some (.int (nI q)), some (.int (nI a)), some (.int (nI b)), some (.int v), some (.int (nI i))] [] := by
        intro g2 w2 v hv
        subst hv
        refine og_iinc_5 (pc := 202) dX8_dimension_202 (og_inc i) rfl ?_
        refine og_goto (pc := 205) (tgt := 153) dX8_dimension_205 (by decide) ?_
        exact ihk (i + 1) (by omega) g2 w2
      refine og_iload (pc := 153) dX8_dimension_153 rfl ?_
      refine og_bipush (pc := 155) (v := 8) dX8_dimension_155 (by decide) ?_
      refine og_geN (pc := 157) (tgt := 208) (i := i) (N := 8) dX8_dimension_157 (by decide) rfl rfl (by omega) (by omega) (fun c_157 => ?_) (fun c_157 => ?_)
      · omega
      refine og_iload_n (pc := 160) dX8_dimension_160 rfl ?_
      refine og_iconst (pc := 161) (v := (-1)) dX8_dimension_161 (by decide) ?_
      refine og_icmp_eq (pc := 162) (tgt := 208) dX8_dimension_162 (by decide) (fun c => absurd c (q_on_some (by omega))) (fun _ => ?_)
      refine og_iload_n (pc := 165) dX8_dimension_165 rfl ?_
      refine og_iload (pc := 166) dX8_dimension_166 rfl ?_
      refine og_ishr (pc := 168) dX8_dimension_168 ?_
      refine og_iconst (pc := 169) (v := 1) dX8_dimension_169 (by decide) ?_
      refine og_iand (pc := 170) dX8_dimension_170 ?_
      refine og_iconst (pc := 171) (v := 1) dX8_dimension_171 (by decide) ?_
      refine og_icmp_ne (pc := 172) (tgt := 202) dX8_dimension_172 (by decide) (fun c => ?_) (fun c => ?_)
      · refine nx g w _ ?_
        by_cases z : m_dap M q a b i
        · rw [q_if_t _ _ z, q_if_t _ _ (by obtain ⟨s, hs, z2⟩ := z; exact ⟨s, by omega, z2⟩)]
        · rw [q_if_f _ _ z, q_if_f _ _ (fun y => by
            obtain ⟨s, hs, z2, z3⟩ := y
            by_cases e : s = i
            · rw [e] at z2
              exact c z2
            · exact z ⟨s, by omega, z2, z3⟩)]
      have hb : q_sbit q i = 1 := c
      refine og_aload_n (pc := 175) dX8_dimension_175 rfl ?_
      refine og_iload_n (pc := 176) dX8_dimension_176 rfl ?_
      refine og_iload_n (pc := 177) dX8_dimension_177 rfl ?_
      refine og_iload (pc := 178) dX8_dimension_178 rfl ?_
      refine og_callV (pc := 180) (As := [.int (nI a), .int (nI b), .int (nI i)]) (rest := []) (c_X8_associates E d n2 a b i g w ha8 hb8 (by omega)) Y_X8_associates I_X8_associates V_X8_associates wm (by omega) rfl rfl K_X8_156 dX8_dimension_180 rfl rfl (Nat.le_of_ble_eq_true rfl) (by omega) (by omega) (by omega) (fun _ _ _ z => z) (fun v n3 h3 z => ?_)
      obtain ⟨hn, rfl, w4, e110⟩ := z
      subst hn
      have wm := w4.m
      refine og_iload (pc := 183) dX8_dimension_183 rfl ?_
      refine og_if_ne (pc := 185) (tgt := 195) dX8_dimension_185 (by decide) (fun c => ?_) (fun c => ?_)
      · have z : m_dap M q a b i := Classical.byContradiction fun y => c (q_if_f _ _ y)
        refine og_iconst (pc := 195) (v := 1) dX8_dimension_195 (by decide) ?_
        refine og_goto (pc := 196) (tgt := 200) dX8_dimension_196 (by decide) ?_
        refine og_istore_4 (pc := 200) dX8_dimension_200 rfl ?_
        exact nx _ w4 1 (q_if_t _ _ (by obtain ⟨s, hs, z2⟩ := z; exact ⟨s, by omega, z2⟩)).symm
      have z : ¬ m_dap M q a b i := fun y => by
        rw [q_if_t _ _ y] at c
        exact absurd c (by decide)
      refine og_aload_n (pc := 188) dX8_dimension_188 rfl ?_
      refine og_callV (pc := 189) (As := []) (rest := []) (c_X8_isFlat E d n3 h3 w4 e110) Y_X8_isFlat I_X8_isFlat V_X8_isFlat wm (by omega) rfl rfl K_X8_204 dX8_dimension_189 rfl rfl (Nat.le_of_ble_eq_true rfl) (by omega) (by omega) (by omega) (fun _ _ _ z => z) (fun v n4 h4 z => ?_)
      obtain ⟨hn, hh, y⟩ := z
      subst hn hh
      rcases y with ⟨rfl, y⟩ | ⟨rfl, y⟩
      · refine og_if_ne (pc := 192) (tgt := 199) dX8_dimension_192 (by decide) (fun _ => ?_) (fun c => absurd c (by decide))
        refine og_iconst (pc := 199) (v := 0) dX8_dimension_199 (by decide) ?_
        refine og_istore_4 (pc := 200) dX8_dimension_200 rfl ?_
        exact nx _ w4 0 (q_if_f _ _ (fun y2 => by
          obtain ⟨s, hs, z2, z3⟩ := y2
          by_cases e : s = i
          · rw [e] at z3
            exact z3 y
          · exact z ⟨s, by omega, z2, z3⟩)).symm
      · refine og_if_ne (pc := 192) (tgt := 199) dX8_dimension_192 (by decide) (fun c => absurd rfl c) (fun _ => ?_)
        refine og_iconst (pc := 195) (v := 1) dX8_dimension_195 (by decide) ?_
        refine og_goto (pc := 196) (tgt := 200) dX8_dimension_196 (by decide) ?_
        refine og_istore_4 (pc := 200) dX8_dimension_200 rfl ?_
        exact nx _ w4 1 (q_if_t _ _ ⟨i, by omega, hb, y⟩).symm
  have loop2 : ∀ k i, i + k = 8 → ∀ g, og_MK h0 g (m_wRf M 0) → og_G E yX8_dimension.cls cX8_dimension (d + 3) 0 0 6 X (og_Q E (fun v nn h1 => nn = n2 ∧ ((¬ (∃ q9, 1 ≤ q9 ∧ q9 ≤ 255 ∧ nI q = nI q9) ∧ v = some (.int 0) ∧ og_MK h0 h1 (m_wRf M 1)) ∨ (∃ q9, 1 ≤ q9 ∧ q9 ≤ 255 ∧ nI q = nI q9 ∧ v = some (.int (m_dim M q9)) ∧ og_MK h0 h1 (m_wRf M 0)))) no_x 0 0 X) 0 0 n2 g 100 [some (.ref 101), some (.int (nI q)), some (.int (q_on (m_dx M q 8))), some (.int (q_on (m_dy M q (m_dx M q 8) i))), some (.int 0), some (.int (nI i))] [] := by
    intro k
    induction k with
    | zero =>
      intro i hi g w
      have ei : i = 8 := by omega
      subst ei
      refine og_iload (pc := 100) dX8_dimension_100 rfl ?_
      refine og_bipush (pc := 102) (v := 8) dX8_dimension_102 (by decide) ?_
      refine og_geN (pc := 104) (tgt := 150) (i := 8) (N := 8) dX8_dimension_104 (by decide) rfl rfl (by omega) (by omega) (fun c_104 => ?_) (fun c_104 => ?_)
      rotate_left
      · omega
      refine og_iconst (pc := 150) (v := 0) dX8_dimension_150 (by decide) ?_
      refine og_istore_5 (pc := 151) dX8_dimension_151 rfl ?_
      cases hx : m_dx M q 8 with
      | none =>
        rw [m_dy_none]
        refine og_iload (pc := 153) dX8_dimension_153 rfl ?_
        refine og_bipush (pc := 155) (v := 8) dX8_dimension_155 (by decide) ?_
        refine og_geN (pc := 157) (tgt := 208) (i := 0) (N := 8) dX8_dimension_157 (by decide) rfl rfl (by omega) (by omega) (fun c_157 => ?_) (fun c_157 => ?_)
        · omega
        refine og_iload_n (pc := 160) dX8_dimension_160 rfl ?_
        refine og_iconst (pc := 161) (v := (-1)) dX8_dimension_161 (by decide) ?_
        refine og_icmp_eq (pc := 162) (tgt := 208) dX8_dimension_162 (by decide) (fun _ => ?_) (fun c => absurd rfl c)
        exact fin3 g none none 0 _ w (fun a2 e => by cases e) (fun a2 e => by cases e) (by rw [m_dim, hx])
      | some a =>
        have ha := m_dx_lt M q 8 a hx
        cases hy : m_dy M q (some a) 8 with
        | none =>
          refine og_iload (pc := 153) dX8_dimension_153 rfl ?_
          refine og_bipush (pc := 155) (v := 8) dX8_dimension_155 (by decide) ?_
          refine og_geN (pc := 157) (tgt := 208) (i := 0) (N := 8) dX8_dimension_157 (by decide) rfl rfl (by omega) (by omega) (fun c_157 => ?_) (fun c_157 => ?_)
          · omega
          refine og_iload_n (pc := 160) dX8_dimension_160 rfl ?_
          refine og_iconst (pc := 161) (v := (-1)) dX8_dimension_161 (by decide) ?_
          refine og_icmp_eq (pc := 162) (tgt := 208) dX8_dimension_162 (by decide) (fun _ => ?_) (fun c => absurd rfl c)
          refine fin3 g (some a) none 0 _ w (fun a2 e => by cases e; exact ha) (fun a2 e => by cases e) ?_
          rw [m_dim, hx]
          show (2 : Int32) = match m_dy M q (some a) 8 with | none => 2 | some b => q_if (m_dap M q a b 8) 8 4
          rw [hy]
        | some b =>
          have hb := m_dy_lt M q (some a) 8 b hy
          refine og_to (lv1 := [some (.ref 101), some (.int (nI q)), some (.int (nI a)), some (.int (nI b)), some (.int (q_if (m_dap M q a b 0) 1 0)), some (.int (nI 0))]) rfl rfl rfl ?_ rfl (loop3 a b ha hb hx hy 8 0 rfl g w)
          rw [q_if_f _ _ (fun z => by obtain ⟨s, hs, -⟩ := z; omega)]
          rfl
    | succ k ihk =>
      intro i hi g w
      have wm := w.m
      have fin : ∀ g2, og_MK h0 g2 (m_wRf M 0) → ∀ oy : Option Nat, oy = m_dy M q (m_dx M q 8) (i + 1) → og_G E yX8_dimension.cls cX8_dimension (d + 3) 0 0 6 X (og_Q E (fun v nn h1 => nn = n2 ∧ ((¬ (∃ q9, 1 ≤ q9 ∧ q9 ≤ 255 ∧ nI q = nI q9) ∧ v = some (.int 0) ∧ og_MK h0 h1 (m_wRf M 1)) ∨ (∃ q9, 1 ≤ q9 ∧ q9 ≤ 255 ∧ nI q = nI q9 ∧ v = some (.int (m_dim M q9)) ∧ og_MK h0 h1 (m_wRf M 0)))) no_x 0 0 X) 0 0 n2 g2 143 [some (.ref 101), some (.int (nI q)), some (.int (q_on (m_dx M q 8))), some (.int (q_on (m_dy M q (m_dx M q 8) i))), some (.int 0), some (.int (nI i))] [.int (q_on oy)] := by
        intro g2 w2 oy hv
        subst hv
        refine og_istore_n_3 (pc := 143) dX8_dimension_143 rfl ?_
        refine og_iinc_5 (pc := 144) dX8_dimension_144 (og_inc i) rfl ?_
        refine og_goto (pc := 147) (tgt := 100) dX8_dimension_147 (by decide) ?_
        exact ihk (i + 1) (by omega) g2 w2
      have no : ¬ (m_dy M q (m_dx M q 8) i = none ∧ q_sbit q i = 1 ∧ ∃ a, m_dx M q 8 = some a ∧ q_nc (m_R M a) (m_R M i)) → ∀ g2, og_MK h0 g2 (m_wRf M 0) → og_G E yX8_dimension.cls cX8_dimension (d + 3) 0 0 6 X (og_Q E (fun v nn h1 => nn = n2 ∧ ((¬ (∃ q9, 1 ≤ q9 ∧ q9 ≤ 255 ∧ nI q = nI q9) ∧ v = some (.int 0) ∧ og_MK h0 h1 (m_wRf M 1)) ∨ (∃ q9, 1 ≤ q9 ∧ q9 ≤ 255 ∧ nI q = nI q9 ∧ v = some (.int (m_dim M q9)) ∧ og_MK h0 h1 (m_wRf M 0)))) no_x 0 0 X) 0 0 n2 g2 142 [some (.ref 101), some (.int (nI q)), some (.int (q_on (m_dx M q 8))), some (.int (q_on (m_dy M q (m_dx M q 8) i))), some (.int 0), some (.int (nI i))] [] := by
        intro z g2 w2
        refine og_iload_n (pc := 142) dX8_dimension_142 rfl ?_
        exact fin g2 w2 _ (q_if_f _ _ z).symm
      refine og_iload (pc := 100) dX8_dimension_100 rfl ?_
      refine og_bipush (pc := 102) (v := 8) dX8_dimension_102 (by decide) ?_
      refine og_geN (pc := 104) (tgt := 150) (i := i) (N := 8) dX8_dimension_104 (by decide) rfl rfl (by omega) (by omega) (fun c_104 => ?_) (fun c_104 => ?_)
      · omega
      refine og_iload_n (pc := 107) dX8_dimension_107 rfl ?_
      refine og_iconst (pc := 108) (v := (-1)) dX8_dimension_108 (by decide) ?_
      refine og_icmp_eq (pc := 109) (tgt := 142) dX8_dimension_109 (by decide) (fun c => ?_) (fun c => ?_)
      · refine no (fun z => ?_) g w
        obtain ⟨-, -, a, ha, -⟩ := z
        rw [ha] at c
        exact q_on_some (by have := m_dx_lt M q 8 a ha; omega) c
      obtain ⟨a, ha⟩ : ∃ a, m_dx M q 8 = some a := by
        cases hx : m_dx M q 8 with
        | none => rw [hx] at c; exact absurd rfl c
        | some a => exact ⟨a, rfl⟩
      have ha8 := m_dx_lt M q 8 a ha
      refine og_iload_n (pc := 112) dX8_dimension_112 rfl ?_
      refine og_iconst (pc := 113) (v := (-1)) dX8_dimension_113 (by decide) ?_
      refine og_icmp_ne (pc := 114) (tgt := 142) dX8_dimension_114 (by decide) (fun c2 => ?_) (fun c2 => ?_)
      · refine no (fun z => ?_) g w
        rw [z.1] at c2
        exact c2 rfl
      have hy0 : m_dy M q (m_dx M q 8) i = none := by
        cases hy : m_dy M q (m_dx M q 8) i with
        | none => rfl
        | some b =>
          rw [hy] at c2
          exact absurd c2 (q_on_some (by have := m_dy_lt M q _ i b hy; omega))
      refine og_iload_n (pc := 117) dX8_dimension_117 rfl ?_
      refine og_iload (pc := 118) dX8_dimension_118 rfl ?_
      refine og_ishr (pc := 120) dX8_dimension_120 ?_
      refine og_iconst (pc := 121) (v := 1) dX8_dimension_121 (by decide) ?_
      refine og_iand (pc := 122) dX8_dimension_122 ?_
      refine og_iconst (pc := 123) (v := 1) dX8_dimension_123 (by decide) ?_
      refine og_icmp_ne (pc := 124) (tgt := 142) dX8_dimension_124 (by decide) (fun c3 => no (fun z => c3 z.2.1) g w) (fun c3 => ?_)
      have hbit : q_sbit q i = 1 := c3
      refine og_to (lv1 := [some (.ref 101), some (.int (nI q)), some (.int (nI a)), some (.int (q_on (m_dy M q (m_dx M q 8) i))), some (.int 0), some (.int (nI i))]) rfl rfl rfl (by rw [ha]; rfl) rfl ?_
      refine og_aload_n (pc := 127) dX8_dimension_127 rfl ?_
      refine og_iload_n (pc := 128) dX8_dimension_128 rfl ?_
      refine og_iload (pc := 129) dX8_dimension_129 rfl ?_
      refine og_callV (pc := 131) (As := [.int (nI a), .int (nI i)]) (rest := []) (c_X8_doCommute E d n2 a i g w ha8 (by omega)) Y_X8_doCommute I_X8_doCommute V_X8_doCommute wm (by omega) rfl rfl K_X8_201 dX8_dimension_131 rfl rfl (Nat.le_of_ble_eq_true rfl) (by omega) (by omega) (by omega) (fun _ _ _ z => z) (fun v n3 h3 z => ?_)
      obtain ⟨hn, w4, y⟩ := z
      subst hn
      refine og_to (lv1 := [some (.ref 101), some (.int (nI q)), some (.int (q_on (m_dx M q 8))), some (.int (q_on (m_dy M q (m_dx M q 8) i))), some (.int 0), some (.int (nI i))]) rfl rfl rfl (by rw [ha]; rfl) rfl ?_
      rcases y with ⟨rfl, y⟩ | ⟨rfl, y⟩
      · refine og_if_ne (pc := 134) (tgt := 142) dX8_dimension_134 (by decide) (fun _ => ?_) (fun c => absurd c (by decide))
        refine no (fun z => ?_) _ w4
        obtain ⟨-, -, a2, ha2, z⟩ := z
        rw [ha] at ha2
        cases ha2
        exact z y
      · refine og_if_ne (pc := 134) (tgt := 142) dX8_dimension_134 (by decide) (fun c => absurd rfl c) (fun _ => ?_)
        refine og_iload (pc := 137) dX8_dimension_137 rfl ?_
        refine og_goto (pc := 139) (tgt := 143) dX8_dimension_139 (by decide) ?_
        exact fin _ w4 (some i) (q_if_t _ _ ⟨hy0, hbit, a, ha, y⟩).symm
  have loop1 : ∀ k i, i + k = 8 → ∀ g, og_MK h0 g (m_wRf M 0) → og_G E yX8_dimension.cls cX8_dimension (d + 3) 0 0 6 X (og_Q E (fun v nn h1 => nn = n2 ∧ ((¬ (∃ q9, 1 ≤ q9 ∧ q9 ≤ 255 ∧ nI q = nI q9) ∧ v = some (.int 0) ∧ og_MK h0 h1 (m_wRf M 1)) ∨ (∃ q9, 1 ≤ q9 ∧ q9 ≤ 255 ∧ nI q = nI q9 ∧ v = some (.int (m_dim M q9)) ∧ og_MK h0 h1 (m_wRf M 0)))) no_x 0 0 X) 0 0 n2 g 35 [some (.ref 101), some (.int (nI q)), some (.int (q_on (m_dx M q i))), some (.int (-1)), some (.int 0), some (.int (nI i))] [] := by
    intro k
    induction k with
    | zero =>
      intro i hi g w
      have ei : i = 8 := by omega
      subst ei
      refine og_iload (pc := 35) dX8_dimension_35 rfl ?_
      refine og_bipush (pc := 37) (v := 8) dX8_dimension_37 (by decide) ?_
      refine og_geN (pc := 39) (tgt := 97) (i := 8) (N := 8) dX8_dimension_39 (by decide) rfl rfl (by omega) (by omega) (fun c_39 => ?_) (fun c_39 => ?_)
      rotate_left
      · omega
      refine og_iconst (pc := 97) (v := 0) dX8_dimension_97 (by decide) ?_
      refine og_istore_5 (pc := 98) dX8_dimension_98 rfl ?_
      exact loop2 8 0 rfl g w
    | succ k ihk =>
      intro i hi g w
      have wm := w.m
      obtain ⟨f7, e107⟩ := w.scr 107 (by unfold q_ms; omega)
      have fin : ∀ g2, og_MK h0 g2 (m_wRf M 0) → ∀ oy : Option Nat, oy = m_dx M q (i + 1) → og_G E yX8_dimension.cls cX8_dimension (d + 3) 0 0 6 X (og_Q E (fun v nn h1 => nn = n2 ∧ ((¬ (∃ q9, 1 ≤ q9 ∧ q9 ≤ 255 ∧ nI q = nI q9) ∧ v = some (.int 0) ∧ og_MK h0 h1 (m_wRf M 1)) ∨ (∃ q9, 1 ≤ q9 ∧ q9 ≤ 255 ∧ nI q = nI q9 ∧ v = some (.int (m_dim M q9)) ∧ og_MK h0 h1 (m_wRf M 0)))) no_x 0 0 X) 0 0 n2 g2 90 [some (.ref 101), some (.int (nI q)), some (.int (q_on (m_dx M q i))), some (.int (-1)), some (.int 0), some (.int (nI i))] [.int (q_on oy)] := by
        intro g2 w2 oy hv
        subst hv
        refine og_istore_n_2 (pc := 90) dX8_dimension_90 rfl ?_
        refine og_iinc_5 (pc := 91) dX8_dimension_91 (og_inc i) rfl ?_
        refine og_goto (pc := 94) (tgt := 35) dX8_dimension_94 (by decide) ?_
        exact ihk (i + 1) (by omega) g2 w2
      have no : ¬ (m_dx M q i = none ∧ q_sbit q i = 1 ∧ q_inner (q_im (m_R M i)) (q_im (m_R M i)) 8 ≠ 0) → ∀ g2, og_MK h0 g2 (m_wRf M 0) → og_G E yX8_dimension.cls cX8_dimension (d + 3) 0 0 6 X (og_Q E (fun v nn h1 => nn = n2 ∧ ((¬ (∃ q9, 1 ≤ q9 ∧ q9 ≤ 255 ∧ nI q = nI q9) ∧ v = some (.int 0) ∧ og_MK h0 h1 (m_wRf M 1)) ∨ (∃ q9, 1 ≤ q9 ∧ q9 ≤ 255 ∧ nI q = nI q9 ∧ v = some (.int (m_dim M q9)) ∧ og_MK h0 h1 (m_wRf M 0)))) no_x 0 0 X) 0 0 n2 g2 89 [some (.ref 101), some (.int (nI q)), some (.int (q_on (m_dx M q i))), some (.int (-1)), some (.int 0), some (.int (nI i))] [] := by
        intro z g2 w2
        refine og_iload_n (pc := 89) dX8_dimension_89 rfl ?_
        exact fin g2 w2 _ (q_if_f _ _ z).symm
      refine og_iload (pc := 35) dX8_dimension_35 rfl ?_
      refine og_bipush (pc := 37) (v := 8) dX8_dimension_37 (by decide) ?_
      refine og_geN (pc := 39) (tgt := 97) (i := i) (N := 8) dX8_dimension_39 (by decide) rfl rfl (by omega) (by omega) (fun c_39 => ?_) (fun c_39 => ?_)
      · omega
      refine og_aload_n (pc := 42) dX8_dimension_42 rfl ?_
      refine og_aload_n (pc := 43) dX8_dimension_43 rfl ?_
      refine og_get (pc := 44) F_X8_25 dX8_dimension_44 (by repeat (first | exact og_set_eq _ _ _ | assumption | refine (og_set_ne _ _ (by first | assumption | omega)).trans ?_)) (by omega) rfl ?_
      refine og_iload (pc := 47) dX8_dimension_47 rfl ?_
      refine og_callV (pc := 49) (As := [.ref 107, .int (nI i)]) (rest := []) (c_X8_takes E d n2 107 i g (m_s M) f7 wm w.s e107 (by omega) (by omega)) Y_X8_takes I_X8_takes V_X8_takes wm (by omega) rfl rfl K_X8_131 dX8_dimension_49 rfl rfl (Nat.le_of_ble_eq_true rfl) (by omega) (by omega) (by omega) (fun _ _ _ z => z) (fun v n3 h3 z => ?_)
      obtain ⟨rfl, hn, hh⟩ := z
      subst hn
      refine og_abs (P := fun g => og_MK h0 g (m_wRf M 0) ∧ g 107 = some (rowL (m_R M i))) (by rw [hh]; exact ⟨w.row _ (by unfold q_ms; omega), og_set_eq _ _ _⟩) fun g ⟨w, e107⟩ => ?_
      have wm := w.m
      refine og_aload_n (pc := 52) dX8_dimension_52 rfl ?_
      refine og_get (pc := 53) F_X8_25 dX8_dimension_53 (by repeat (first | exact og_set_eq _ _ _ | assumption | refine (og_set_ne _ _ (by first | assumption | omega)).trans ?_)) (by omega) rfl ?_
      refine og_iconst (pc := 56) (v := 0) dX8_dimension_56 (by decide) ?_
      refine og_lconst (pc := 57) (v := 0) dX8_dimension_57 (by decide) ?_
      refine og_lastN (pc := 58) (j := 0) rfl dX8_dimension_58 (by repeat (first | exact og_set_eq _ _ _ | assumption | refine (og_set_ne _ _ (by first | assumption | omega)).trans ?_)) (by omega) (by omega) (by first | decide | assumption | omega) ?_
      refine og_abs (P := fun g => og_MK h0 g (m_wRf M 0) ∧ g 107 = some (rowL (q_im (m_R M i)))) ⟨w.row _ (by unfold q_ms; omega), og_set_eq _ _ _⟩ fun g ⟨w, e107⟩ => ?_
      have wm := w.m
      refine og_iload_n (pc := 59) dX8_dimension_59 rfl ?_
      refine og_iconst (pc := 60) (v := (-1)) dX8_dimension_60 (by decide) ?_
      refine og_icmp_ne (pc := 61) (tgt := 89) dX8_dimension_61 (by decide) (fun c2 => ?_) (fun c2 => ?_)
      · refine no (fun z => ?_) g w
        rw [z.1] at c2
        exact c2 rfl
      have hy0 : m_dx M q i = none := by
        cases hy : m_dx M q i with
        | none => rfl
        | some b =>
          rw [hy] at c2
          exact absurd c2 (q_on_some (by have := m_dx_lt M q i b hy; omega))
      refine og_iload_n (pc := 64) dX8_dimension_64 rfl ?_
      refine og_iload (pc := 65) dX8_dimension_65 rfl ?_
      refine og_ishr (pc := 67) dX8_dimension_67 ?_
      refine og_iconst (pc := 68) (v := 1) dX8_dimension_68 (by decide) ?_
      refine og_iand (pc := 69) dX8_dimension_69 ?_
      refine og_iconst (pc := 70) (v := 1) dX8_dimension_70 (by decide) ?_
      refine og_icmp_ne (pc := 71) (tgt := 89) dX8_dimension_71 (by decide) (fun c3 => no (fun z => c3 z.2.1) g w) (fun c3 => ?_)
      refine og_aload_n (pc := 74) dX8_dimension_74 rfl ?_
      refine og_get (pc := 75) F_X8_25 dX8_dimension_75 (by repeat (first | exact og_set_eq _ _ _ | assumption | refine (og_set_ne _ _ (by first | assumption | omega)).trans ?_)) (by omega) rfl ?_
      refine og_callS (pc := 78) (As := [.ref 107]) (rest := []) (c_X8_isNought E d n3 107 g _ e107 (by omega)) Y_X8_isNought S_X8_isNought K_X8_173 dX8_dimension_78 rfl rfl (Nat.le_of_ble_eq_true rfl) (by omega) (by omega) (by omega) (fun _ _ _ z => z) (fun v n4 h4 z => ?_)
      obtain ⟨hn, hh2, y⟩ := z
      subst hn hh2
      rcases y with ⟨rfl, y⟩ | ⟨rfl, y⟩
      · refine og_if_ne (pc := 81) (tgt := 89) dX8_dimension_81 (by decide) (fun _ => no (fun z => z.2.2 y) _ w) (fun c => absurd c (by decide))
      · refine og_if_ne (pc := 81) (tgt := 89) dX8_dimension_81 (by decide) (fun c => absurd rfl c) (fun _ => ?_)
        refine og_iload (pc := 84) dX8_dimension_84 rfl ?_
        refine og_goto (pc := 86) (tgt := 90) dX8_dimension_86 (by decide) ?_
        exact fin _ w (some i) (q_if_t _ _ ⟨hy0, c3, y⟩).symm
  exact loop1 8 0 rfl g w
