/-! ===== the model in the heap ===== -/
abbrev q_M : Type := (Nat → Int32) × (Nat → Int32) × Nat × (Nat → Int32) × Nat × Int32 × Int32 × Int32 × Int64 × Int32 × Int32 × Int32 × (Nat → Int32)
abbrev m_s (M : q_M) : Nat → Int32 := M.1
abbrev m_p (M : q_M) : Nat → Int32 := M.2.1
abbrev m_ps (M : q_M) : Nat := M.2.2.1
abbrev m_t (M : q_M) : Nat → Int32 := M.2.2.2.1
abbrev m_ty (M : q_M) : Nat := M.2.2.2.2.1
abbrev m_rf (M : q_M) : Int32 := M.2.2.2.2.2.1
abbrev m_la (M : q_M) : Int32 := M.2.2.2.2.2.2.1
abbrev m_un (M : q_M) : Int32 := M.2.2.2.2.2.2.2.1
abbrev m_ls (M : q_M) : Int64 := M.2.2.2.2.2.2.2.2.1
abbrev m_dp (M : q_M) : Int32 := M.2.2.2.2.2.2.2.2.2.1
abbrev m_wl (M : q_M) : Int32 := M.2.2.2.2.2.2.2.2.2.2.1
abbrev m_ct (M : q_M) : Int32 := M.2.2.2.2.2.2.2.2.2.2.2.1
abbrev m_u (M : q_M) : Nat → Int32 := M.2.2.2.2.2.2.2.2.2.2.2.2
def m_wS (M : q_M) (s : Nat → Int32) : q_M := (s, m_p M, m_ps M, m_t M, m_ty M, m_rf M, m_la M, m_un M, m_ls M, m_dp M, m_wl M, m_ct M, m_u M)
def m_wP (M : q_M) (p : Nat → Int32) : q_M := (m_s M, p, m_ps M, m_t M, m_ty M, m_rf M, m_la M, m_un M, m_ls M, m_dp M, m_wl M, m_ct M, m_u M)
def m_wT (M : q_M) (t : Nat → Int32) : q_M := (m_s M, m_p M, m_ps M, t, m_ty M, m_rf M, m_la M, m_un M, m_ls M, m_dp M, m_wl M, m_ct M, m_u M)
def m_wU (M : q_M) (u : Nat → Int32) : q_M := (m_s M, m_p M, m_ps M, m_t M, m_ty M, m_rf M, m_la M, m_un M, m_ls M, m_dp M, m_wl M, m_ct M, u)
def m_wO (M : q_M) (ps ty : Nat) (rf la un : Int32) (ls : Int64) (dp wl ct : Int32) : q_M := (m_s M, m_p M, ps, m_t M, ty, rf, la, un, ls, dp, wl, ct, m_u M)
def m_wRf (M : q_M) (rf : Int32) : q_M := (m_s M, m_p M, m_ps M, m_t M, m_ty M, rf, m_la M, m_un M, m_ls M, m_dp M, m_wl M, m_ct M, m_u M)
def q_ms (a : Nat) : Prop := (107 ≤ a ∧ a < 113) ∨ (114 ≤ a ∧ a < 117) ∨ a = 122
def og_mM (M : q_M) : og_N := og_mo (nI (m_ps M)) (nI (m_ty M)) (m_rf M) (m_la M) (m_un M) (m_ls M) (m_dp M) (m_wl M) (m_ct M)
abbrev rowL56 (f : Nat → Int64) : og_N := .inl (2, 56, .inr (.inl f))
abbrev rowZ7 (f : Nat → Int32) : og_N := .inl (3, 7, .inl f)
def og_MK (h0 h : og_H) (M : q_M) : Prop :=
  (h 101 = some (og_mM M)) ∧
  (h 102 = some (rowI 67 (m_s M))) ∧
  (h 103 = some (rowI 268 (m_p M))) ∧
  (h 104 = some (rowI 100 (m_t M))) ∧
  (h 105 = some og_TO) ∧
  (h 106 = some og_SG) ∧
  (∀ a, q_ms a → ∃ f, h a = some (rowL f)) ∧
  (h 113 = some (rowI 1920 (m_u M))) ∧
  (∃ f, h 117 = some (rowL56 f)) ∧
  (∃ f, h 118 = some (rowL56 f)) ∧
  (∃ f, h 119 = some (rowI 7 f)) ∧
  (∃ f, h 120 = some (rowZ7 f)) ∧
  (∃ f, h 121 = some (rowI 7 f)) ∧
  (∀ a, ¬ (101 ≤ a ∧ a < 123) → h a = h0 a) ∧
  (m_ps M ≤ 4 ∧ m_ty M ≤ 100)
theorem og_MK.m {h0 h : og_H} {M : q_M} (w : og_MK h0 h M) : h 101 = some (og_mM M) := w.1
theorem og_MK.s {h0 h : og_H} {M : q_M} (w : og_MK h0 h M) : h 102 = some (rowI 67 (m_s M)) := w.2.1
theorem og_MK.p {h0 h : og_H} {M : q_M} (w : og_MK h0 h M) : h 103 = some (rowI 268 (m_p M)) := w.2.2.1
theorem og_MK.t {h0 h : og_H} {M : q_M} (w : og_MK h0 h M) : h 104 = some (rowI 100 (m_t M)) := w.2.2.2.1
theorem og_MK.to {h0 h : og_H} {M : q_M} (w : og_MK h0 h M) : h 105 = some og_TO := w.2.2.2.2.1
theorem og_MK.sg {h0 h : og_H} {M : q_M} (w : og_MK h0 h M) : h 106 = some og_SG := w.2.2.2.2.2.1
theorem og_MK.scr {h0 h : og_H} {M : q_M} (w : og_MK h0 h M) : ∀ a, q_ms a → ∃ f, h a = some (rowL f) := w.2.2.2.2.2.2.1
theorem og_MK.u {h0 h : og_H} {M : q_M} (w : og_MK h0 h M) : h 113 = some (rowI 1920 (m_u M)) := w.2.2.2.2.2.2.2.1
theorem og_MK.b7 {h0 h : og_H} {M : q_M} (w : og_MK h0 h M) : ∃ f, h 117 = some (rowL56 f) := w.2.2.2.2.2.2.2.2.1
theorem og_MK.b8 {h0 h : og_H} {M : q_M} (w : og_MK h0 h M) : ∃ f, h 118 = some (rowL56 f) := w.2.2.2.2.2.2.2.2.2.1
theorem og_MK.b9 {h0 h : og_H} {M : q_M} (w : og_MK h0 h M) : ∃ f, h 119 = some (rowI 7 f) := w.2.2.2.2.2.2.2.2.2.2.1
theorem og_MK.c0 {h0 h : og_H} {M : q_M} (w : og_MK h0 h M) : ∃ f, h 120 = some (rowZ7 f) := w.2.2.2.2.2.2.2.2.2.2.2.1
theorem og_MK.c1 {h0 h : og_H} {M : q_M} (w : og_MK h0 h M) : ∃ f, h 121 = some (rowI 7 f) := w.2.2.2.2.2.2.2.2.2.2.2.2.1
theorem og_MK.fr {h0 h : og_H} {M : q_M} (w : og_MK h0 h M) : ∀ a, ¬ (101 ≤ a ∧ a < 123) → h a = h0 a := w.2.2.2.2.2.2.2.2.2.2.2.2.2.1
theorem og_MK.ok {h0 h : og_H} {M : q_M} (w : og_MK h0 h M) : m_ps M ≤ 4 ∧ m_ty M ≤ 100 := w.2.2.2.2.2.2.2.2.2.2.2.2.2.2
section MK
variable {h0 h : og_H} {M : q_M}
theorem og_MK.row (w : og_MK h0 h M) {x : Nat} (f : Nat → Int64) (hx : q_ms x) : og_MK h0 (og_set h x (rowL f)) M := by
  have hx2 : (107 ≤ x ∧ x < 113) ∨ (114 ≤ x ∧ x < 117) ∨ x = 122 := hx
  refine ⟨?_, ?_⟩
  · exact (og_set_ne _ _ (by omega)).trans w.m
  refine ⟨?_, ?_⟩
  · exact (og_set_ne _ _ (by omega)).trans w.s
  refine ⟨?_, ?_⟩
  · exact (og_set_ne _ _ (by omega)).trans w.p
  refine ⟨?_, ?_⟩
  · exact (og_set_ne _ _ (by omega)).trans w.t
  refine ⟨?_, ?_⟩
  · exact (og_set_ne _ _ (by omega)).trans w.to
  refine ⟨?_, ?_⟩
  · exact (og_set_ne _ _ (by omega)).trans w.sg
  refine ⟨?_, ?_⟩
  · exact fun b hb => by
      by_cases e : b = x
      · exact ⟨f, by rw [e, og_set_eq]⟩
      · rw [og_set_ne _ _ e]
        exact w.scr b hb
  refine ⟨?_, ?_⟩
  · exact (og_set_ne _ _ (by omega)).trans w.u
  refine ⟨?_, ?_⟩
  · exact w.b7.elim fun f hf => ⟨f, (og_set_ne _ _ (by omega)).trans hf⟩
  refine ⟨?_, ?_⟩
  · exact w.b8.elim fun f hf => ⟨f, (og_set_ne _ _ (by omega)).trans hf⟩
  refine ⟨?_, ?_⟩
  · exact w.b9.elim fun f hf => ⟨f, (og_set_ne _ _ (by omega)).trans hf⟩
  refine ⟨?_, ?_⟩
  · exact w.c0.elim fun f hf => ⟨f, (og_set_ne _ _ (by omega)).trans hf⟩
  refine ⟨?_, ?_⟩
  · exact w.c1.elim fun f hf => ⟨f, (og_set_ne _ _ (by omega)).trans hf⟩
  refine ⟨?_, ?_⟩
  · exact fun a ha => (og_set_ne _ _ (by omega)).trans (w.fr a ha)
  exact w.ok
theorem og_MK.sS (w : og_MK h0 h M) (s : Nat → Int32) : og_MK h0 (og_set h 102 (rowI 67 s)) (m_wS M s) := by
  refine ⟨?_, ?_⟩
  · exact (og_set_ne _ _ (by omega)).trans w.m
  refine ⟨?_, ?_⟩
  · exact og_set_eq _ _ _
  refine ⟨?_, ?_⟩
  · exact (og_set_ne _ _ (by omega)).trans w.p
  refine ⟨?_, ?_⟩
  · exact (og_set_ne _ _ (by omega)).trans w.t
  refine ⟨?_, ?_⟩
  · exact (og_set_ne _ _ (by omega)).trans w.to
  refine ⟨?_, ?_⟩
  · exact (og_set_ne _ _ (by omega)).trans w.sg
  refine ⟨?_, ?_⟩
  · exact fun b hb => by
      rw [og_set_ne _ _ (by unfold q_ms at hb; omega)]
      exact w.scr b hb
  refine ⟨?_, ?_⟩
  · exact (og_set_ne _ _ (by omega)).trans w.u
  refine ⟨?_, ?_⟩
  · exact w.b7.elim fun f hf => ⟨f, (og_set_ne _ _ (by omega)).trans hf⟩
  refine ⟨?_, ?_⟩
  · exact w.b8.elim fun f hf => ⟨f, (og_set_ne _ _ (by omega)).trans hf⟩
  refine ⟨?_, ?_⟩
  · exact w.b9.elim fun f hf => ⟨f, (og_set_ne _ _ (by omega)).trans hf⟩
  refine ⟨?_, ?_⟩
  · exact w.c0.elim fun f hf => ⟨f, (og_set_ne _ _ (by omega)).trans hf⟩
  refine ⟨?_, ?_⟩
  · exact w.c1.elim fun f hf => ⟨f, (og_set_ne _ _ (by omega)).trans hf⟩
  refine ⟨?_, ?_⟩
  · exact fun a ha => (og_set_ne _ _ (by omega)).trans (w.fr a ha)
  exact w.ok
theorem og_MK.sP (w : og_MK h0 h M) (p : Nat → Int32) : og_MK h0 (og_set h 103 (rowI 268 p)) (m_wP M p) := by
  refine ⟨?_, ?_⟩
  · exact (og_set_ne _ _ (by omega)).trans w.m
  refine ⟨?_, ?_⟩
  · exact (og_set_ne _ _ (by omega)).trans w.s
  refine ⟨?_, ?_⟩
  · exact og_set_eq _ _ _
  refine ⟨?_, ?_⟩
  · exact (og_set_ne _ _ (by omega)).trans w.t
  refine ⟨?_, ?_⟩
  · exact (og_set_ne _ _ (by omega)).trans w.to
  refine ⟨?_, ?_⟩
  · exact (og_set_ne _ _ (by omega)).trans w.sg
  refine ⟨?_, ?_⟩
  · exact fun b hb => by
      rw [og_set_ne _ _ (by unfold q_ms at hb; omega)]
      exact w.scr b hb
  refine ⟨?_, ?_⟩
  · exact (og_set_ne _ _ (by omega)).trans w.u
  refine ⟨?_, ?_⟩
  · exact w.b7.elim fun f hf => ⟨f, (og_set_ne _ _ (by omega)).trans hf⟩
  refine ⟨?_, ?_⟩
  · exact w.b8.elim fun f hf => ⟨f, (og_set_ne _ _ (by omega)).trans hf⟩
  refine ⟨?_, ?_⟩
  · exact w.b9.elim fun f hf => ⟨f, (og_set_ne _ _ (by omega)).trans hf⟩
  refine ⟨?_, ?_⟩
  · exact w.c0.elim fun f hf => ⟨f, (og_set_ne _ _ (by omega)).trans hf⟩
  refine ⟨?_, ?_⟩
  · exact w.c1.elim fun f hf => ⟨f, (og_set_ne _ _ (by omega)).trans hf⟩
  refine ⟨?_, ?_⟩
  · exact fun a ha => (og_set_ne _ _ (by omega)).trans (w.fr a ha)
  exact w.ok
theorem og_MK.sT (w : og_MK h0 h M) (t : Nat → Int32) : og_MK h0 (og_set h 104 (rowI 100 t)) (m_wT M t) := by
  refine ⟨?_, ?_⟩
  · exact (og_set_ne _ _ (by omega)).trans w.m
  refine ⟨?_, ?_⟩
  · exact (og_set_ne _ _ (by omega)).trans w.s
  refine ⟨?_, ?_⟩
  · exact (og_set_ne _ _ (by omega)).trans w.p
  refine ⟨?_, ?_⟩
  · exact og_set_eq _ _ _
  refine ⟨?_, ?_⟩
  · exact (og_set_ne _ _ (by omega)).trans w.to
  refine ⟨?_, ?_⟩
  · exact (og_set_ne _ _ (by omega)).trans w.sg
  refine ⟨?_, ?_⟩
  · exact fun b hb => by
      rw [og_set_ne _ _ (by unfold q_ms at hb; omega)]
      exact w.scr b hb
  refine ⟨?_, ?_⟩
  · exact (og_set_ne _ _ (by omega)).trans w.u
  refine ⟨?_, ?_⟩
  · exact w.b7.elim fun f hf => ⟨f, (og_set_ne _ _ (by omega)).trans hf⟩
  refine ⟨?_, ?_⟩
  · exact w.b8.elim fun f hf => ⟨f, (og_set_ne _ _ (by omega)).trans hf⟩
  refine ⟨?_, ?_⟩
  · exact w.b9.elim fun f hf => ⟨f, (og_set_ne _ _ (by omega)).trans hf⟩
  refine ⟨?_, ?_⟩
  · exact w.c0.elim fun f hf => ⟨f, (og_set_ne _ _ (by omega)).trans hf⟩
  refine ⟨?_, ?_⟩
  · exact w.c1.elim fun f hf => ⟨f, (og_set_ne _ _ (by omega)).trans hf⟩
  refine ⟨?_, ?_⟩
  · exact fun a ha => (og_set_ne _ _ (by omega)).trans (w.fr a ha)
  exact w.ok
theorem og_MK.sU (w : og_MK h0 h M) (u : Nat → Int32) : og_MK h0 (og_set h 113 (rowI 1920 u)) (m_wU M u) := by
  refine ⟨?_, ?_⟩
  · exact (og_set_ne _ _ (by omega)).trans w.m
  refine ⟨?_, ?_⟩
  · exact (og_set_ne _ _ (by omega)).trans w.s
  refine ⟨?_, ?_⟩
  · exact (og_set_ne _ _ (by omega)).trans w.p
  refine ⟨?_, ?_⟩
  · exact (og_set_ne _ _ (by omega)).trans w.t
  refine ⟨?_, ?_⟩
  · exact (og_set_ne _ _ (by omega)).trans w.to
  refine ⟨?_, ?_⟩
  · exact (og_set_ne _ _ (by omega)).trans w.sg
  refine ⟨?_, ?_⟩
  · exact fun b hb => by
      rw [og_set_ne _ _ (by unfold q_ms at hb; omega)]
      exact w.scr b hb
  refine ⟨?_, ?_⟩
  · exact og_set_eq _ _ _
  refine ⟨?_, ?_⟩
  · exact w.b7.elim fun f hf => ⟨f, (og_set_ne _ _ (by omega)).trans hf⟩
  refine ⟨?_, ?_⟩
  · exact w.b8.elim fun f hf => ⟨f, (og_set_ne _ _ (by omega)).trans hf⟩
  refine ⟨?_, ?_⟩
  · exact w.b9.elim fun f hf => ⟨f, (og_set_ne _ _ (by omega)).trans hf⟩
  refine ⟨?_, ?_⟩
  · exact w.c0.elim fun f hf => ⟨f, (og_set_ne _ _ (by omega)).trans hf⟩
  refine ⟨?_, ?_⟩
  · exact w.c1.elim fun f hf => ⟨f, (og_set_ne _ _ (by omega)).trans hf⟩
  refine ⟨?_, ?_⟩
  · exact fun a ha => (og_set_ne _ _ (by omega)).trans (w.fr a ha)
  exact w.ok
theorem og_MK.sO (w : og_MK h0 h M) (ps ty : Nat) (rf la un : Int32) (ls : Int64) (dp wl ct : Int32) (h4 : ps ≤ 4) (h100 : ty ≤ 100) : og_MK h0 (og_set h 101 (og_mo (nI ps) (nI ty) rf la un ls dp wl ct)) (m_wO M ps ty rf la un ls dp wl ct) := by
  refine ⟨?_, ?_⟩
  · exact og_set_eq _ _ _
  refine ⟨?_, ?_⟩
  · exact (og_set_ne _ _ (by omega)).trans w.s
  refine ⟨?_, ?_⟩
  · exact (og_set_ne _ _ (by omega)).trans w.p
  refine ⟨?_, ?_⟩
  · exact (og_set_ne _ _ (by omega)).trans w.t
  refine ⟨?_, ?_⟩
  · exact (og_set_ne _ _ (by omega)).trans w.to
  refine ⟨?_, ?_⟩
  · exact (og_set_ne _ _ (by omega)).trans w.sg
  refine ⟨?_, ?_⟩
  · exact fun b hb => by
      rw [og_set_ne _ _ (by unfold q_ms at hb; omega)]
      exact w.scr b hb
  refine ⟨?_, ?_⟩
  · exact (og_set_ne _ _ (by omega)).trans w.u
  refine ⟨?_, ?_⟩
  · exact w.b7.elim fun f hf => ⟨f, (og_set_ne _ _ (by omega)).trans hf⟩
  refine ⟨?_, ?_⟩
  · exact w.b8.elim fun f hf => ⟨f, (og_set_ne _ _ (by omega)).trans hf⟩
  refine ⟨?_, ?_⟩
  · exact w.b9.elim fun f hf => ⟨f, (og_set_ne _ _ (by omega)).trans hf⟩
  refine ⟨?_, ?_⟩
  · exact w.c0.elim fun f hf => ⟨f, (og_set_ne _ _ (by omega)).trans hf⟩
  refine ⟨?_, ?_⟩
  · exact w.c1.elim fun f hf => ⟨f, (og_set_ne _ _ (by omega)).trans hf⟩
  refine ⟨?_, ?_⟩
  · exact fun a ha => (og_set_ne _ _ (by omega)).trans (w.fr a ha)
  exact ⟨h4, h100⟩
theorem og_MK.s7 (w : og_MK h0 h M) (f : Nat → Int64) : og_MK h0 (og_set h 117 (rowL56 f)) M := by
  refine ⟨?_, ?_⟩
  · exact (og_set_ne _ _ (by omega)).trans w.m
  refine ⟨?_, ?_⟩
  · exact (og_set_ne _ _ (by omega)).trans w.s
  refine ⟨?_, ?_⟩
  · exact (og_set_ne _ _ (by omega)).trans w.p
  refine ⟨?_, ?_⟩
  · exact (og_set_ne _ _ (by omega)).trans w.t
  refine ⟨?_, ?_⟩
  · exact (og_set_ne _ _ (by omega)).trans w.to
  refine ⟨?_, ?_⟩
  · exact (og_set_ne _ _ (by omega)).trans w.sg
  refine ⟨?_, ?_⟩
  · exact fun b hb => by
      rw [og_set_ne _ _ (by unfold q_ms at hb; omega)]
      exact w.scr b hb
  refine ⟨?_, ?_⟩
  · exact (og_set_ne _ _ (by omega)).trans w.u
  refine ⟨?_, ?_⟩
  · exact ⟨f, og_set_eq _ _ _⟩
  refine ⟨?_, ?_⟩
  · exact w.b8.elim fun f hf => ⟨f, (og_set_ne _ _ (by omega)).trans hf⟩
  refine ⟨?_, ?_⟩
  · exact w.b9.elim fun f hf => ⟨f, (og_set_ne _ _ (by omega)).trans hf⟩
  refine ⟨?_, ?_⟩
  · exact w.c0.elim fun f hf => ⟨f, (og_set_ne _ _ (by omega)).trans hf⟩
  refine ⟨?_, ?_⟩
  · exact w.c1.elim fun f hf => ⟨f, (og_set_ne _ _ (by omega)).trans hf⟩
  refine ⟨?_, ?_⟩
  · exact fun a ha => (og_set_ne _ _ (by omega)).trans (w.fr a ha)
  exact w.ok
theorem og_MK.s8 (w : og_MK h0 h M) (f : Nat → Int64) : og_MK h0 (og_set h 118 (rowL56 f)) M := by
  refine ⟨?_, ?_⟩
  · exact (og_set_ne _ _ (by omega)).trans w.m
  refine ⟨?_, ?_⟩
  · exact (og_set_ne _ _ (by omega)).trans w.s
  refine ⟨?_, ?_⟩
  · exact (og_set_ne _ _ (by omega)).trans w.p
  refine ⟨?_, ?_⟩
  · exact (og_set_ne _ _ (by omega)).trans w.t
  refine ⟨?_, ?_⟩
  · exact (og_set_ne _ _ (by omega)).trans w.to
  refine ⟨?_, ?_⟩
  · exact (og_set_ne _ _ (by omega)).trans w.sg
  refine ⟨?_, ?_⟩
  · exact fun b hb => by
      rw [og_set_ne _ _ (by unfold q_ms at hb; omega)]
      exact w.scr b hb
  refine ⟨?_, ?_⟩
  · exact (og_set_ne _ _ (by omega)).trans w.u
  refine ⟨?_, ?_⟩
  · exact w.b7.elim fun f hf => ⟨f, (og_set_ne _ _ (by omega)).trans hf⟩
  refine ⟨?_, ?_⟩
  · exact ⟨f, og_set_eq _ _ _⟩
  refine ⟨?_, ?_⟩
  · exact w.b9.elim fun f hf => ⟨f, (og_set_ne _ _ (by omega)).trans hf⟩
  refine ⟨?_, ?_⟩
  · exact w.c0.elim fun f hf => ⟨f, (og_set_ne _ _ (by omega)).trans hf⟩
  refine ⟨?_, ?_⟩
  · exact w.c1.elim fun f hf => ⟨f, (og_set_ne _ _ (by omega)).trans hf⟩
  refine ⟨?_, ?_⟩
  · exact fun a ha => (og_set_ne _ _ (by omega)).trans (w.fr a ha)
  exact w.ok
theorem og_MK.s9 (w : og_MK h0 h M) (f : Nat → Int32) : og_MK h0 (og_set h 119 (rowI 7 f)) M := by
  refine ⟨?_, ?_⟩
  · exact (og_set_ne _ _ (by omega)).trans w.m
  refine ⟨?_, ?_⟩
  · exact (og_set_ne _ _ (by omega)).trans w.s
  refine ⟨?_, ?_⟩
  · exact (og_set_ne _ _ (by omega)).trans w.p
  refine ⟨?_, ?_⟩
  · exact (og_set_ne _ _ (by omega)).trans w.t
  refine ⟨?_, ?_⟩
  · exact (og_set_ne _ _ (by omega)).trans w.to
  refine ⟨?_, ?_⟩
  · exact (og_set_ne _ _ (by omega)).trans w.sg
  refine ⟨?_, ?_⟩
  · exact fun b hb => by
      rw [og_set_ne _ _ (by unfold q_ms at hb; omega)]
      exact w.scr b hb
  refine ⟨?_, ?_⟩
  · exact (og_set_ne _ _ (by omega)).trans w.u
  refine ⟨?_, ?_⟩
  · exact w.b7.elim fun f hf => ⟨f, (og_set_ne _ _ (by omega)).trans hf⟩
  refine ⟨?_, ?_⟩
  · exact w.b8.elim fun f hf => ⟨f, (og_set_ne _ _ (by omega)).trans hf⟩
  refine ⟨?_, ?_⟩
  · exact ⟨f, og_set_eq _ _ _⟩
  refine ⟨?_, ?_⟩
  · exact w.c0.elim fun f hf => ⟨f, (og_set_ne _ _ (by omega)).trans hf⟩
  refine ⟨?_, ?_⟩
  · exact w.c1.elim fun f hf => ⟨f, (og_set_ne _ _ (by omega)).trans hf⟩
  refine ⟨?_, ?_⟩
  · exact fun a ha => (og_set_ne _ _ (by omega)).trans (w.fr a ha)
  exact w.ok
theorem og_MK.s0 (w : og_MK h0 h M) (f : Nat → Int32) : og_MK h0 (og_set h 120 (rowZ7 f)) M := by
  refine ⟨?_, ?_⟩
  · exact (og_set_ne _ _ (by omega)).trans w.m
  refine ⟨?_, ?_⟩
  · exact (og_set_ne _ _ (by omega)).trans w.s
  refine ⟨?_, ?_⟩
  · exact (og_set_ne _ _ (by omega)).trans w.p
  refine ⟨?_, ?_⟩
  · exact (og_set_ne _ _ (by omega)).trans w.t
  refine ⟨?_, ?_⟩
  · exact (og_set_ne _ _ (by omega)).trans w.to
  refine ⟨?_, ?_⟩
  · exact (og_set_ne _ _ (by omega)).trans w.sg
  refine ⟨?_, ?_⟩
  · exact fun b hb => by
      rw [og_set_ne _ _ (by unfold q_ms at hb; omega)]
      exact w.scr b hb
  refine ⟨?_, ?_⟩
  · exact (og_set_ne _ _ (by omega)).trans w.u
  refine ⟨?_, ?_⟩
  · exact w.b7.elim fun f hf => ⟨f, (og_set_ne _ _ (by omega)).trans hf⟩
  refine ⟨?_, ?_⟩
  · exact w.b8.elim fun f hf => ⟨f, (og_set_ne _ _ (by omega)).trans hf⟩
  refine ⟨?_, ?_⟩
  · exact w.b9.elim fun f hf => ⟨f, (og_set_ne _ _ (by omega)).trans hf⟩
  refine ⟨?_, ?_⟩
  · exact ⟨f, og_set_eq _ _ _⟩
  refine ⟨?_, ?_⟩
  · exact w.c1.elim fun f hf => ⟨f, (og_set_ne _ _ (by omega)).trans hf⟩
  refine ⟨?_, ?_⟩
  · exact fun a ha => (og_set_ne _ _ (by omega)).trans (w.fr a ha)
  exact w.ok
theorem og_MK.s1 (w : og_MK h0 h M) (f : Nat → Int32) : og_MK h0 (og_set h 121 (rowI 7 f)) M := by
  refine ⟨?_, ?_⟩
  · exact (og_set_ne _ _ (by omega)).trans w.m
  refine ⟨?_, ?_⟩
  · exact (og_set_ne _ _ (by omega)).trans w.s
  refine ⟨?_, ?_⟩
  · exact (og_set_ne _ _ (by omega)).trans w.p
  refine ⟨?_, ?_⟩
  · exact (og_set_ne _ _ (by omega)).trans w.t
  refine ⟨?_, ?_⟩
  · exact (og_set_ne _ _ (by omega)).trans w.to
  refine ⟨?_, ?_⟩
  · exact (og_set_ne _ _ (by omega)).trans w.sg
  refine ⟨?_, ?_⟩
  · exact fun b hb => by
      rw [og_set_ne _ _ (by unfold q_ms at hb; omega)]
      exact w.scr b hb
  refine ⟨?_, ?_⟩
  · exact (og_set_ne _ _ (by omega)).trans w.u
  refine ⟨?_, ?_⟩
  · exact w.b7.elim fun f hf => ⟨f, (og_set_ne _ _ (by omega)).trans hf⟩
  refine ⟨?_, ?_⟩
  · exact w.b8.elim fun f hf => ⟨f, (og_set_ne _ _ (by omega)).trans hf⟩
  refine ⟨?_, ?_⟩
  · exact w.b9.elim fun f hf => ⟨f, (og_set_ne _ _ (by omega)).trans hf⟩
  refine ⟨?_, ?_⟩
  · exact w.c0.elim fun f hf => ⟨f, (og_set_ne _ _ (by omega)).trans hf⟩
  refine ⟨?_, ?_⟩
  · exact ⟨f, og_set_eq _ _ _⟩
  refine ⟨?_, ?_⟩
  · exact fun a ha => (og_set_ne _ _ (by omega)).trans (w.fr a ha)
  exact w.ok
theorem og_MK.rf_ (w : og_MK h0 h M) (rf : Int32) : og_MK h0 (og_set h 101 (og_mM (m_wRf M rf))) (m_wRf M rf) := w.sO (m_ps M) (m_ty M) rf (m_la M) (m_un M) (m_ls M) (m_dp M) (m_wl M) (m_ct M) w.ok.1 w.ok.2
theorem og_MK.k (w : og_MK h0 h M) {x : Nat} (hx : q_ms x) : ∃ f, h x = some (rowL f) := w.scr x hx
end MK
