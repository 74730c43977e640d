/-! ===== the law: one step, both sides (associate, dimension) ===== -/
theorem zok_im {g : Nat → Int64} (hg : zok g) : zok (q_im g) := by
  have h0 : zi (q_im g) 0 = 0 := rfl
  have h1 : zi (q_im g) 1 = zi g 1 := rfl
  have h2 : zi (q_im g) 2 = zi g 2 := rfl
  have h3 : zi (q_im g) 3 = zi g 3 := rfl
  have h4 : zi (q_im g) 4 = zi g 4 := rfl
  have h5 : zi (q_im g) 5 = zi g 5 := rfl
  have h6 : zi (q_im g) 6 = zi g 6 := rfl
  have h7 : zi (q_im g) 7 = zi g 7 := rfl
  have s := zsqn (zi g 0)
  unfold zok zn at hg ⊢
  rw [h0, h1, h2, h3, h4, h5, h6, h7]
  omega
theorem z_real {f g : Nat → Int64} (e : zE f g) (hg : zok g) : q_real f ↔ q_inner (q_im g) (q_im g) 8 = 0 := by
  rw [← zzr (zok_im hg)]
  constructor
  · intro h j hj
    show (if j = 0 then (0 : Int64) else g j) = 0
    by_cases z : j = 0
    · rw [if_pos z]
    · rw [if_neg z, ← e j hj]
      exact h j (by omega) hj
  · intro h j h1 hj
    have z : (if j = 0 then (0 : Int64) else g j) = 0 := h j hj
    rw [if_neg (by omega)] at z
    rw [e j hj]
    exact z
theorem z_nc {f g : Nat → Int64} (hf : zok f) (hg : zok g) : q_nc f g ↔ ¬ q_par f g := by
  rw [zpar_c hf hg]
  exact Iff.rfl
theorem par_real {f g : Nat → Int64} (h : q_real g) : q_par f g := fun i j h1 h2 h3 => by
  rw [h j (by omega) h3, h i h1 (by omega), Int64.mul_zero, Int64.mul_zero]
theorem par_self (f : Nat → Int64) : q_par f f := fun i j _ _ _ => Int64.mul_comm _ _
theorem real_ex {f : Nat → Int64} (h : ¬ q_real f) : ∃ i, 1 ≤ i ∧ i < 8 ∧ zi f i ≠ 0 := by
  refine Classical.byContradiction fun n => h fun i h1 h8 => ?_
  refine Classical.byContradiction fun z => n ⟨i, h1, h8, fun q => z ?_⟩
  rw [zeq]
  exact q
theorem m_dx_none {M : q_M} {q : Nat} : ∀ r, m_dx M q r = none → ∀ i, i < r → q_sbit q i = 1 → q_inner (q_im (m_R M i)) (q_im (m_R M i)) 8 = 0
  | 0, _, i, h, _ => absurd h (by omega)
  | r + 1, h, i, hi, b => by
    by_cases z : m_dx M q r = none ∧ q_sbit q r = 1 ∧ q_inner (q_im (m_R M r)) (q_im (m_R M r)) 8 ≠ 0
    · rw [m_dx, q_if_t _ _ z] at h
      cases h
    · rw [m_dx, q_if_f _ _ z] at h
      by_cases e : i = r
      · rw [e] at b ⊢
        exact Classical.byContradiction fun y => z ⟨h, b, y⟩
      · exact m_dx_none r h i (by omega) b
theorem m_dx_at {M : q_M} {q : Nat} : ∀ r a, m_dx M q r = some a → q_inner (q_im (m_R M a)) (q_im (m_R M a)) 8 ≠ 0
  | 0, a, h => by cases h
  | r + 1, a, h => by
    by_cases z : m_dx M q r = none ∧ q_sbit q r = 1 ∧ q_inner (q_im (m_R M r)) (q_im (m_R M r)) 8 ≠ 0
    · rw [m_dx, q_if_t _ _ z] at h
      cases h
      exact z.2.2
    · rw [m_dx, q_if_f _ _ z] at h
      exact m_dx_at r a h
theorem m_dy_no {M : q_M} {q a : Nat} : ∀ r, (∀ i, i < r → q_sbit q i = 1 → ¬ q_nc (m_R M a) (m_R M i)) → m_dy M q (some a) r = none
  | 0, _ => rfl
  | r + 1, h => by
    rw [m_dy, q_if_f _ _ (fun z => by obtain ⟨-, b, a2, e, y⟩ := z; cases e; exact h r (by omega) b y)]
    exact m_dy_no r fun i hi => h i (by omega)
theorem m_dy_of {M : q_M} {q a : Nat} : ∀ r, m_dy M q (some a) r = none → ∀ i, i < r → q_sbit q i = 1 → ¬ q_nc (m_R M a) (m_R M i)
  | 0, _, i, h, _ => absurd h (by omega)
  | r + 1, h, i, hi, b => by
    by_cases z : m_dy M q (some a) r = none ∧ q_sbit q r = 1 ∧ ∃ a2, some a = some a2 ∧ q_nc (m_R M a2) (m_R M r)
    · rw [m_dy, q_if_t _ _ z] at h
      cases h
    · rw [m_dy, q_if_f _ _ z] at h
      by_cases e : i = r
      · rw [e] at b ⊢
        exact fun y => z ⟨h, b, a, rfl, y⟩
      · exact m_dy_of r h i (by omega) b
noncomputable def z_st (M : q_M) (q r : Nat) : Option (Option Nat × Option Nat) :=
  match m_dx M q r with
  | none => some (none, none)
  | some a => match m_dy M q (some a) r with
    | none => some (some a, none)
    | some b => q_if (m_dap M q a b r) none (some (some a, some b))
theorem z_st0 {M : q_M} {q r : Nat} (h : m_dx M q r = none) : z_st M q r = some (none, none) := by
  unfold z_st
  rw [h]
theorem z_st1 {M : q_M} {q r a : Nat} (h : m_dx M q r = some a) (h2 : m_dy M q (some a) r = none) : z_st M q r = some (some a, none) := by
  unfold z_st
  rw [h]
  show (match m_dy M q (some a) r with
    | none => some (some a, none)
    | some b => q_if (m_dap M q a b r) none (some (some a, some b))) = _
  rw [h2]
theorem z_st2 {M : q_M} {q r a b : Nat} (h : m_dx M q r = some a) (h2 : m_dy M q (some a) r = some b) : z_st M q r = q_if (m_dap M q a b r) none (some (some a, some b)) := by
  unfold z_st
  rw [h]
  show (match m_dy M q (some a) r with
    | none => some (some a, none)
    | some b => q_if (m_dap M q a b r) none (some (some a, some b))) = _
  rw [h2]
theorem q_dm_b (D : q_D) (q r : Nat) (a b : Option Nat) (h : q_dm D (nI q) r = some (a, b)) : q_dm D (nI q) (r + 1) = q_if (q_sbit q r = 0) (some (a, b)) (q_dmS D (nI q) r a b) := q_dm_s D (nI q) r a b h
theorem z_dm {D : q_D} {M : q_M} (c : cp D M) (q : Nat) : ∀ r, r ≤ 8 → q_dm D (nI q) r = z_st M q r
  | 0, _ => rfl
  | r + 1, h => by
    have ih := z_dm c q r (by omega)
    have hr : r < 8 := by omega
    have bits : q_sbit q r = 0 ∨ q_sbit q r = 1 := and1_cases _
    have n01 : ¬ (1 : Int32) = 0 := by decide
    have real : ∀ i, i < 8 → (q_real (d_R D i) ↔ q_inner (q_im (m_R M i)) (q_im (m_R M i)) 8 = 0) := fun i hi => z_real (c.row hi) (c.1.ok hi)
    have realm : ∀ i, i < 8 → (q_real (m_R M i) ↔ q_inner (q_im (m_R M i)) (q_im (m_R M i)) 8 = 0) := fun i hi => z_real (fun _ _ => rfl) (c.1.ok hi)
    have nc : ∀ i j, i < 8 → j < 8 → (q_nc (m_R M i) (m_R M j) ↔ ¬ q_par (m_R M i) (m_R M j)) := fun i j hi hj => z_nc (c.1.ok hi) (c.1.ok hj)
    cases hx : m_dx M q r with
    | none =>
      have e : q_dm D (nI q) r = some (none, none) := ih.trans (z_st0 hx)
      rw [q_dm_b D q r none none e]
      have none_of : ¬ (m_dx M q r = none ∧ q_sbit q r = 1 ∧ q_inner (q_im (m_R M r)) (q_im (m_R M r)) 8 ≠ 0) → m_dx M q (r + 1) = none := fun z => by
        rw [m_dx, q_if_f _ _ z, hx]
      rcases bits with b | b
      · rw [q_if_t _ _ b, z_st0 (none_of fun z => n01 (z.2.1.symm.trans b))]
      · rw [q_if_f _ _ (fun z => n01 (b.symm.trans z))]
        show some (q_if (q_real (d_R D r)) none (some r), none) = _
        by_cases hre : q_real (d_R D r)
        · rw [q_if_t _ _ hre, z_st0 (none_of fun z => z.2.2 ((real r hr).mp hre))]
        · have hx1 : m_dx M q (r + 1) = some r := by
            rw [m_dx]
            exact q_if_t _ _ ⟨hx, b, fun z => hre ((real r hr).mpr z)⟩
          rw [q_if_f _ _ hre, z_st1 hx1 (m_dy_no (r + 1) fun i hi bi => ?_)]
          rw [nc r i hr (by omega)]
          refine fun z => z ?_
          by_cases e : i = r
          · rw [e]
            exact par_self _
          · exact par_real ((realm i (by omega)).mpr (m_dx_none r hx i (by omega) bi))
    | some a =>
      have ha : a < 8 := Nat.lt_trans (m_dx_lt M q r a hx) hr
      have hx1 : m_dx M q (r + 1) = some a := by
        rw [m_dx, q_if_f _ _ (fun z => by rw [hx] at z; cases z.1), hx]
      cases hy : m_dy M q (some a) r with
      | none =>
        have e : q_dm D (nI q) r = some (some a, none) := ih.trans (z_st1 hx hy)
        rw [q_dm_b D q r (some a) none e]
        have none_of : ¬ (m_dy M q (some a) r = none ∧ q_sbit q r = 1 ∧ ∃ a2, some a = some a2 ∧ q_nc (m_R M a2) (m_R M r)) → m_dy M q (some a) (r + 1) = none := fun z => by
          rw [m_dy, q_if_f _ _ z, hy]
        rcases bits with b | b
        · rw [q_if_t _ _ b, z_st1 hx1 (none_of fun z => n01 (z.2.1.symm.trans b))]
        · rw [q_if_f _ _ (fun z => n01 (b.symm.trans z))]
          show some (some a, q_if (q_par (d_R D a) (d_R D r)) none (some r)) = _
          have hpar := zpar_congr (c.row ha) (c.row hr)
          by_cases hp : q_par (d_R D a) (d_R D r)
          · rw [q_if_t _ _ hp, z_st1 hx1 (none_of fun z => by obtain ⟨-, -, a2, e2, y⟩ := z; cases e2; exact (nc a r ha hr).mp y (hpar.mp hp))]
          · have hy1 : m_dy M q (some a) (r + 1) = some r := by
              rw [m_dy]
              exact q_if_t _ _ ⟨hy, b, a, rfl, (nc a r ha hr).mpr fun y => hp (hpar.mpr y)⟩
            rw [q_if_f _ _ hp, z_st2 hx1 hy1, q_if_f]
            intro ⟨s, hs, bs, hn⟩
            refine hn fun i hi => (zasc_0 (c.1.ok ha) (c.1.ok hr) (c.1.ok (by omega)) hi).mpr ?_
            by_cases e : s = r
            · rw [e]
              exact zasc_alt _ _ i hi
            · have hs8 : s < 8 := by omega
              have p : q_par (m_R M a) (m_R M s) := Classical.byContradiction fun y => m_dy_of r hy s (by omega) bs ((nc a s ha hs8).mpr y)
              obtain ⟨i9, h1, h8, hne⟩ := real_ex (fun y => m_dx_at r a hx ((realm a ha).mp y))
              exact zasc_par ((zpar_q (c.1.ok ha) (c.1.ok hs8)).mp p) h1 h8 hne i hi
      | some b2 =>
        have hb : b2 < 8 := Nat.lt_trans (m_dy_lt M q (some a) r b2 hy) hr
        have hy1 : m_dy M q (some a) (r + 1) = some b2 := by
          rw [m_dy, q_if_f _ _ (fun z => by rw [hy] at z; cases z.1), hy]
        have ih := ih.trans (z_st2 hx hy)
        rw [z_st2 hx1 hy1]
        by_cases hd : m_dap M q a b2 r
        · rw [q_if_t _ _ hd] at ih
          rw [q_dm_none D (nI q) r 1 ih, q_if_t]
          obtain ⟨s, hs, bs, hn⟩ := hd
          exact ⟨s, by omega, bs, hn⟩
        · rw [q_if_f _ _ hd] at ih
          rw [q_dm_b D q r (some a) (some b2) ih]
          have up : m_dap M q a b2 (r + 1) → q_sbit q r = 1 ∧ ¬ ∀ i, i < 8 → q_asc (m_R M a) (m_R M b2) (m_R M r) i = 0 := fun ⟨s, hs, bs, hn⟩ => by
            by_cases e : s = r
            · rw [e] at bs hn
              exact ⟨bs, hn⟩
            · exact absurd ⟨s, by omega, bs, hn⟩ hd
          rcases bits with b | b
          · rw [q_if_t _ _ b, q_if_f _ _ fun z => n01 ((up z).1.symm.trans b)]
          · rw [q_if_f _ _ (fun z => n01 (b.symm.trans z))]
            show q_if (q_az (d_R D a) (d_R D b2) (d_R D r)) (some (some a, some b2)) none = _
            have hz := zzrE (zascE (c.row ha) (c.row hb) (c.row hr))
            by_cases hq : q_az (d_R D a) (d_R D b2) (d_R D r)
            · rw [q_if_t _ _ hq, q_if_f _ _ fun z => (up z).2 (hz.mp hq)]
            · rw [q_if_f _ _ hq, q_if_t]
              exact ⟨r, by omega, b, fun z => hq (hz.mpr z)⟩
theorem z_dim {D : q_D} {M : q_M} (c : cp D M) (q : Nat) : q_dma (q_dm D (nI q) 8) = m_dim M q := by
  rw [z_dm c q 8 (Nat.le_refl 8)]
  cases hx : m_dx M q 8 with
  | none =>
    rw [z_st0 hx]
    unfold m_dim
    rw [hx]
    rfl
  | some a =>
    unfold m_dim
    rw [hx]
    show _ = (match m_dy M q (some a) 8 with
      | none => (2 : Int32)
      | some b => q_if (m_dap M q a b 8) 8 4)
    cases hy : m_dy M q (some a) 8 with
    | none =>
      rw [z_st1 hx hy]
      rfl
    | some b =>
      rw [z_st2 hx hy]
      show _ = q_if (m_dap M q a b 8) 8 4
      by_cases z : m_dap M q a b 8
      · rw [q_if_t _ _ z, q_if_t _ _ z]
        rfl
      · rw [q_if_f _ _ z, q_if_f _ _ z]
        rfl
theorem z_1255 {x : Int32} (h1 : 1 ≤ x) (h2 : x ≤ 255) : ∃ q, 1 ≤ q ∧ q ≤ 255 ∧ x = nI q := by
  obtain ⟨q, hq, rfl⟩ := q_inN_iff (m := 255) (by omega) x (Int32.le_trans (by decide) h1) h2
  exact ⟨q, (nI_leI (a := 1) (b := q) (by omega) (by omega)).mp h1, by omega, rfl⟩
set_option maxRecDepth 4000 in
theorem P_associate (E : og_E) (d n : Nat) (h : og_H) (x y t : Int32) {D : q_D} {M : q_M} {f : Nat → Int64} (W : zW n h D M) (h123 : h 123 = some (row1 f)) :
    og_M E yL_associate (.codeWith yL_associate cL_associate 6 (some .int) [(0, 19, 22, 13)]) (d + 3 + 1) [.ref 3, .int x, .int y, .int t, .ref 123] n h 3 18 (zLo n h (zMz E yX8_associate (.code yX8_associate cX8_associate 4 (some .boolean)) 2 [.ref 101, .int x, .int y, .int t])) no_x := by
  refine og_M.mono (c_L_associate E (d + 3) n h x y t W.1.d3 (c_X7_associate E d n h x y t W.1) (fun v n1 h1 z => ?_) (fun En n1 h1 z => ?_)) (fun v n1 h1 z => ?_) (fun _ _ _ z => z)
  · obtain ⟨w, i, j, k, hi, hj, hk, ex, ey, et, hv⟩ := z
    exact ⟨hv.elim (fun q => ⟨_, q.1⟩) (fun q => ⟨_, q.1⟩), f, (zW_ex W w).2.2.2.1.trans h123⟩
  · exact z.2.1
  · rcases z with ⟨r0, h2, f2, ⟨w, i, j, k, hi, hj, hk, ex, ey, et, hv⟩, h2f, rfl, rfl⟩ | ⟨z, rfl⟩
    · skip
      obtain ⟨w1, w2, w3, w4⟩ := zW_ok W w (row1 (vp_updL f2 0 _))
      refine ⟨0, _, rfl, w4, og_set_eq _ _ _, w3, ⟨_, w2.m⟩, fun d2 => og_M.mono (c_X8_associate E d2 n1 _ x y t w2) (fun v nn h3 z => ?_) (fun _ _ _ z => z)⟩
      obtain ⟨rfl, z⟩ := z
      refine ⟨rfl, ?_⟩
      rcases z with ⟨a, -, -⟩ | ⟨i9, j9, k9, hi9, hj9, hk9, ex9, ey9, et9, w9, hv9⟩
      · exact absurd ⟨⟨i, hi, ex⟩, ⟨j, hj, ey⟩, ⟨k, hk, et⟩⟩ a
      · obtain rfl := zI8 (by omega) (by omega) (ex.symm.trans ex9)
        obtain rfl := zI8 (by omega) (by omega) (ey.symm.trans ey9)
        obtain rfl := zI8 (by omega) (by omega) (et.symm.trans et9)
        have hq := zzrE (zascE (W.2.2.row hi) (W.2.2.row hj) (W.2.2.row hk))
        rcases hv with ⟨e, hp⟩ | ⟨e, hp⟩
        · rcases hv9 with ⟨hv9, -⟩ | ⟨hv9, hn⟩
          · cases e
            exact ⟨_, _, _, hv9, zW_fin w1 w9 W.2.2, rfl, fun _ => if_pos rfl⟩
          · exact absurd (hq.mp hp) hn
        · rcases hv9 with ⟨hv9, hn⟩ | ⟨hv9, -⟩
          · exact absurd (hq.mpr hn) hp
          · cases e
            exact ⟨_, _, _, hv9, zW_fin w1 w9 W.2.2, rfl, fun _ => if_pos rfl⟩
    · obtain ⟨w, -, hn⟩ := z
      obtain ⟨w1, w2, w3, w4, w5⟩ := zW_ex W w
      refine ⟨1, f, rfl, w5, w4.trans h123, w3, ⟨_, w2.m⟩, fun d2 => og_M.mono (c_X8_associate E d2 n1 _ x y t w2) (fun v nn h3 z => ?_) (fun _ _ _ z => z)⟩
      obtain ⟨rfl, z⟩ := z
      refine ⟨rfl, ?_⟩
      rcases z with ⟨a, hv9, w9⟩ | ⟨i9, j9, k9, hi9, hj9, hk9, ex9, ey9, et9, -⟩
      · exact ⟨_, _, _, hv9, zW_fin w1 w9 W.2.2, rfl, fun q => absurd q (by decide)⟩
      · exact absurd ⟨⟨i9, hi9, ex9⟩, ⟨j9, hj9, ey9⟩, ⟨k9, hk9, et9⟩⟩ hn

set_option maxRecDepth 4000 in
theorem P_dimension (E : og_E) (d n : Nat) (h : og_H) (x : Int32) {D : q_D} {M : q_M} {f : Nat → Int64} (W : zW n h D M) (h123 : h 123 = some (row1 f)) :
    og_M E yL_dimension (.codeWith yL_dimension cL_dimension 4 (some .int) [(0, 9, 12, 15)]) (d + 3 + 1) [.ref 3, .int x, .ref 123] n h 1 6 (zLo n h (zMi E yX8_dimension (.code yX8_dimension cX8_dimension 6 (some .int)) 3 [.ref 101, .int x])) no_x := by
  refine og_M.mono (c_L_dimension E (d + 3) n h x W.1.d3 (c_X7_dimension E d n h x W.1) (fun v n1 h1 z => ?_) (fun En n1 h1 z => ?_)) (fun v n1 h1 z => ?_) (fun _ _ _ z => z)
  · obtain ⟨w, hx1, hx2, hv⟩ := z
    exact ⟨⟨_, hv⟩, f, (zW_ex W w).2.2.2.1.trans h123⟩
  · exact z.2.1
  · rcases z with ⟨r0, h2, f2, ⟨w, hx1, hx2, hv⟩, h2f, rfl, rfl⟩ | ⟨z, rfl⟩
    · cases hv
      obtain ⟨w1, w2, w3, w4⟩ := zW_ok W w (row1 (vp_updL f2 0 _))
      refine ⟨0, _, rfl, w4, og_set_eq _ _ _, w3, ⟨_, w2.m⟩, fun d2 => og_M.mono (c_X8_dimension E d2 n1 _ x w2) (fun v nn h3 z => ?_) (fun _ _ _ z => z)⟩
      obtain ⟨rfl, z⟩ := z
      refine ⟨rfl, ?_⟩
      rcases z with ⟨a, -, -⟩ | ⟨q9, a1, a2, ex9, hv9, w9⟩
      · exact absurd (z_1255 hx1 hx2) a
      · refine ⟨_, _, _, hv9, zW_fin w1 w9 W.2.2, rfl, fun _ => ?_⟩
        rw [ex9, z_dim W.2.2 q9]
        exact if_pos rfl
    · obtain ⟨w, -, hn⟩ := z
      obtain ⟨w1, w2, w3, w4, w5⟩ := zW_ex W w
      refine ⟨1, f, rfl, w5, w4.trans h123, w3, ⟨_, w2.m⟩, fun d2 => og_M.mono (c_X8_dimension E d2 n1 _ x w2) (fun v nn h3 z => ?_) (fun _ _ _ z => z)⟩
      obtain ⟨rfl, z⟩ := z
      refine ⟨rfl, ?_⟩
      rcases z with ⟨a, hv9, w9⟩ | ⟨q9, a1, a2, ex9, -⟩
      · exact ⟨_, _, _, hv9, zW_fin w1 w9 W.2.2, rfl, fun q => absurd q (by decide)⟩
      · refine absurd ?_ hn
        rw [ex9]
        exact ⟨nI_le (a := 1) a1 (by omega), nI_le (b := 255) a2 (by omega)⟩
