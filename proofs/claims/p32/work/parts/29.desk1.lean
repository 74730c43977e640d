/-! ===== the desk in the heap ===== -/
abbrev q_D : Type := og_SD × Nat × Nat × (Nat → og_SD) × (Nat → Option Nat) × Nat × Nat × (Nat → Int32) × Int32 × Int32
abbrev d_st (D : q_D) : og_SD := D.1
abbrev d_sc (D : q_D) : Nat := D.2.1
abbrev d_rot (D : q_D) : Nat := D.2.2.1
abbrev d_S (D : q_D) : Nat → og_SD := D.2.2.2.1
abbrev d_un (D : q_D) : Nat → Option Nat := D.2.2.2.2.1
abbrev d_tl (D : q_D) : Nat := D.2.2.2.2.2.1
abbrev d_td (D : q_D) : Nat := D.2.2.2.2.2.2.1
abbrev d_tb (D : q_D) : Nat → Int32 := D.2.2.2.2.2.2.2.1
abbrev d_cu (D : q_D) : Int32 := D.2.2.2.2.2.2.2.2.1
abbrev d_pr (D : q_D) : Int32 := D.2.2.2.2.2.2.2.2.2
def d_wSt (D : q_D) (s : og_SD) : q_D := (s, D.2)
def d_wSc (D : q_D) (c : Nat) : q_D := (D.1, c, D.2.2)
def d_wRot (D : q_D) (t : Nat) : q_D := (D.1, D.2.1, t, D.2.2.2)
def d_wS (D : q_D) (S : Nat → og_SD) : q_D := (D.1, D.2.1, D.2.2.1, S, D.2.2.2.2)
def d_wUn (D : q_D) (u : Nat → Option Nat) : q_D := (D.1, D.2.1, D.2.2.1, D.2.2.2.1, u, D.2.2.2.2.2)
def d_wTx (D : q_D) (L dp : Nat) : q_D := (D.1, D.2.1, D.2.2.1, D.2.2.2.1, D.2.2.2.2.1, L, dp, D.2.2.2.2.2.2.2)
def d_wTb (D : q_D) (f : Nat → Int32) : q_D := (D.1, D.2.1, D.2.2.1, D.2.2.2.1, D.2.2.2.2.1, D.2.2.2.2.2.1, D.2.2.2.2.2.2.1, f, D.2.2.2.2.2.2.2.2)
def d_wCa (D : q_D) (cu pr : Int32) : q_D := (D.1, D.2.1, D.2.2.1, D.2.2.2.1, D.2.2.2.2.1, D.2.2.2.2.2.1, D.2.2.2.2.2.2.1, D.2.2.2.2.2.2.2.1, cu, pr)
def og_dk (sc : Nat) : og_N := .inr (5, [.ref 4, .ref 14, .int (nI sc), .ref 55, .ref 56, .ref 70, .ref 72, .ref 98, .ref 99, .ref 100])
def og_ca (cu pr : Int32) : og_N := .inr (0, [.ref 70, .ref 73, .ref 81, .ref 89, .ref 97, .int cu, .int pr])
def q_sa (rot : Nat) : Nat → Option Nat := fun i => if i < 4 then some (15 + 10 * ((i + rot) % 4)) else none
def og_refs (k N : Nat) (f : Nat → Option Nat) : og_N := .inl (k, N, .inr (.inr (.inr (.inr f))))
def q_scr (a : Nat) : Prop := (57 ≤ a ∧ a < 64) ∨ (65 ≤ a ∧ a < 67) ∨ (68 ≤ a ∧ a < 70) ∨ (74 ≤ a ∧ a < 81) ∨ (82 ≤ a ∧ a < 89) ∨ (90 ≤ a ∧ a < 101)
def og_uo (u o : Nat) : og_N := .inr (4, [.ref (u + 1), .int (nI (q_us3 o).1)])
def og_DK (h0 : og_H) (n0 n : Nat) (h : og_H) (D : q_D) : Prop :=
  (h 3 = some (og_dk (d_sc D))) ∧
  (og_Sat h 4 (d_st D)) ∧
  (h 14 = some (og_refs 4 4 (q_sa (d_rot D)))) ∧
  (∀ j, j < 4 → og_Sat h (15 + 10 * j) ((d_S D) j)) ∧
  (h 55 = some (og_refs 5 8 (d_un D))) ∧
  (∀ o u, (d_un D) o = some u → o < 8 ∧ 104 ≤ u ∧ u + 3 ≤ n ∧ h u = some (og_uo u o) ∧ h (u + 1) = some (rowI (q_cnt o) (q_uc o))) ∧
  (h 56 = some og_DV) ∧
  (h 64 = some (og_grid 64 2)) ∧
  (h 67 = some (og_grid 67 2)) ∧
  (h 70 = some (og_tx (d_tl D) (d_td D))) ∧
  (h 71 = some (rowB (d_tb D))) ∧
  (h 72 = some (og_ca (d_cu D) (d_pr D))) ∧
  (h 73 = some (og_grid 73 7)) ∧
  (h 81 = some (og_grid 81 7)) ∧
  (h 89 = some (og_grid 89 7)) ∧
  (∀ a, q_scr a → ∃ f, h a = some (rowL f)) ∧
  (h 1 = some q_TR) ∧
  (h 2 = some q_SE) ∧
  (∀ a, (a = 0 ∨ 101 ≤ a) → a < n0 → h a = h0 a) ∧
  (104 ≤ n0 ∧ n0 ≤ n) ∧
  ((d_st D).2.1 < 8 ∧ (d_sc D) ≤ 4 ∧ (d_rot D) < 4 ∧ (d_tl D) ≤ 100 ∧ (d_td D) ≤ 6)
theorem og_DK.d3 {h0 : og_H} {n0 n : Nat} {h : og_H} {D : q_D} (w : og_DK h0 n0 n h D) : h 3 = some (og_dk (d_sc D)) := w.1
theorem og_DK.now {h0 : og_H} {n0 n : Nat} {h : og_H} {D : q_D} (w : og_DK h0 n0 n h D) : og_Sat h 4 (d_st D) := w.2.1
theorem og_DK.s14 {h0 : og_H} {n0 n : Nat} {h : og_H} {D : q_D} (w : og_DK h0 n0 n h D) : h 14 = some (og_refs 4 4 (q_sa (d_rot D))) := w.2.2.1
theorem og_DK.sv {h0 : og_H} {n0 n : Nat} {h : og_H} {D : q_D} (w : og_DK h0 n0 n h D) : ∀ j, j < 4 → og_Sat h (15 + 10 * j) ((d_S D) j) := w.2.2.2.1
theorem og_DK.u55 {h0 : og_H} {n0 n : Nat} {h : og_H} {D : q_D} (w : og_DK h0 n0 n h D) : h 55 = some (og_refs 5 8 (d_un D)) := w.2.2.2.2.1
theorem og_DK.un {h0 : og_H} {n0 n : Nat} {h : og_H} {D : q_D} (w : og_DK h0 n0 n h D) : ∀ o u, (d_un D) o = some u → o < 8 ∧ 104 ≤ u ∧ u + 3 ≤ n ∧ h u = some (og_uo u o) ∧ h (u + 1) = some (rowI (q_cnt o) (q_uc o)) := w.2.2.2.2.2.1
theorem og_DK.d56 {h0 : og_H} {n0 n : Nat} {h : og_H} {D : q_D} (w : og_DK h0 n0 n h D) : h 56 = some og_DV := w.2.2.2.2.2.2.1
theorem og_DK.g64 {h0 : og_H} {n0 n : Nat} {h : og_H} {D : q_D} (w : og_DK h0 n0 n h D) : h 64 = some (og_grid 64 2) := w.2.2.2.2.2.2.2.1
theorem og_DK.g67 {h0 : og_H} {n0 n : Nat} {h : og_H} {D : q_D} (w : og_DK h0 n0 n h D) : h 67 = some (og_grid 67 2) := w.2.2.2.2.2.2.2.2.1
theorem og_DK.t70 {h0 : og_H} {n0 n : Nat} {h : og_H} {D : q_D} (w : og_DK h0 n0 n h D) : h 70 = some (og_tx (d_tl D) (d_td D)) := w.2.2.2.2.2.2.2.2.2.1
theorem og_DK.t71 {h0 : og_H} {n0 n : Nat} {h : og_H} {D : q_D} (w : og_DK h0 n0 n h D) : h 71 = some (rowB (d_tb D)) := w.2.2.2.2.2.2.2.2.2.2.1
theorem og_DK.c72 {h0 : og_H} {n0 n : Nat} {h : og_H} {D : q_D} (w : og_DK h0 n0 n h D) : h 72 = some (og_ca (d_cu D) (d_pr D)) := w.2.2.2.2.2.2.2.2.2.2.2.1
theorem og_DK.g73 {h0 : og_H} {n0 n : Nat} {h : og_H} {D : q_D} (w : og_DK h0 n0 n h D) : h 73 = some (og_grid 73 7) := w.2.2.2.2.2.2.2.2.2.2.2.2.1
theorem og_DK.g81 {h0 : og_H} {n0 n : Nat} {h : og_H} {D : q_D} (w : og_DK h0 n0 n h D) : h 81 = some (og_grid 81 7) := w.2.2.2.2.2.2.2.2.2.2.2.2.2.1
theorem og_DK.g89 {h0 : og_H} {n0 n : Nat} {h : og_H} {D : q_D} (w : og_DK h0 n0 n h D) : h 89 = some (og_grid 89 7) := w.2.2.2.2.2.2.2.2.2.2.2.2.2.2.1
theorem og_DK.scr {h0 : og_H} {n0 n : Nat} {h : og_H} {D : q_D} (w : og_DK h0 n0 n h D) : ∀ a, q_scr a → ∃ f, h a = some (rowL f) := w.2.2.2.2.2.2.2.2.2.2.2.2.2.2.2.1
theorem og_DK.tr {h0 : og_H} {n0 n : Nat} {h : og_H} {D : q_D} (w : og_DK h0 n0 n h D) : h 1 = some q_TR := w.2.2.2.2.2.2.2.2.2.2.2.2.2.2.2.2.1
theorem og_DK.se {h0 : og_H} {n0 n : Nat} {h : og_H} {D : q_D} (w : og_DK h0 n0 n h D) : h 2 = some q_SE := w.2.2.2.2.2.2.2.2.2.2.2.2.2.2.2.2.2.1
theorem og_DK.fr {h0 : og_H} {n0 n : Nat} {h : og_H} {D : q_D} (w : og_DK h0 n0 n h D) : ∀ a, (a = 0 ∨ 101 ≤ a) → a < n0 → h a = h0 a := w.2.2.2.2.2.2.2.2.2.2.2.2.2.2.2.2.2.2.1
theorem og_DK.nn {h0 : og_H} {n0 n : Nat} {h : og_H} {D : q_D} (w : og_DK h0 n0 n h D) : 104 ≤ n0 ∧ n0 ≤ n := w.2.2.2.2.2.2.2.2.2.2.2.2.2.2.2.2.2.2.2.1
theorem og_DK.ok {h0 : og_H} {n0 n : Nat} {h : og_H} {D : q_D} (w : og_DK h0 n0 n h D) : (d_st D).2.1 < 8 ∧ (d_sc D) ≤ 4 ∧ (d_rot D) < 4 ∧ (d_tl D) ≤ 100 ∧ (d_td D) ≤ 6 := w.2.2.2.2.2.2.2.2.2.2.2.2.2.2.2.2.2.2.2.2
section DK
variable {h0 : og_H} {n0 n : Nat} {h : og_H} {D : q_D}
theorem og_DK.keep (w : og_DK h0 n0 n h D) {n1 : Nat} {h1 : og_H} (hn : n ≤ n1) (hk : ∀ a, a < n → ¬ q_scr a → h1 a = h a) (hs : ∀ a, q_scr a → ∃ f, h1 a = some (rowL f)) : og_DK h0 n0 n1 h1 D := by
  have h124 : 104 ≤ n := Nat.le_trans w.nn.1 w.nn.2
  refine ⟨?_, ?_⟩
  · exact (hk 3 (by omega) (by unfold q_scr; omega)).trans w.d3
  refine ⟨?_, ?_⟩
  · exact w.now.kept fun k k1 k2 => hk k (by omega) (by unfold q_scr; omega)
  refine ⟨?_, ?_⟩
  · exact (hk 14 (by omega) (by unfold q_scr; omega)).trans w.s14
  refine ⟨?_, ?_⟩
  · exact fun j hj => (w.sv j hj).kept fun k k1 k2 => hk k (by omega) (by unfold q_scr; omega)
  refine ⟨?_, ?_⟩
  · exact (hk 55 (by omega) (by unfold q_scr; omega)).trans w.u55
  refine ⟨?_, ?_⟩
  · exact fun o u ho => by
      obtain ⟨a1, a2, a3, a4, a5⟩ := w.un o u ho
      exact ⟨a1, a2, by omega, (hk u (by omega) (by unfold q_scr; omega)).trans a4, (hk (u + 1) (by omega) (by unfold q_scr; omega)).trans a5⟩
  refine ⟨?_, ?_⟩
  · exact (hk 56 (by omega) (by unfold q_scr; omega)).trans w.d56
  refine ⟨?_, ?_⟩
  · exact (hk 64 (by omega) (by unfold q_scr; omega)).trans w.g64
  refine ⟨?_, ?_⟩
  · exact (hk 67 (by omega) (by unfold q_scr; omega)).trans w.g67
  refine ⟨?_, ?_⟩
  · exact (hk 70 (by omega) (by unfold q_scr; omega)).trans w.t70
  refine ⟨?_, ?_⟩
  · exact (hk 71 (by omega) (by unfold q_scr; omega)).trans w.t71
  refine ⟨?_, ?_⟩
  · exact (hk 72 (by omega) (by unfold q_scr; omega)).trans w.c72
  refine ⟨?_, ?_⟩
  · exact (hk 73 (by omega) (by unfold q_scr; omega)).trans w.g73
  refine ⟨?_, ?_⟩
  · exact (hk 81 (by omega) (by unfold q_scr; omega)).trans w.g81
  refine ⟨?_, ?_⟩
  · exact (hk 89 (by omega) (by unfold q_scr; omega)).trans w.g89
  refine ⟨?_, ?_⟩
  · exact hs
  refine ⟨?_, ?_⟩
  · exact (hk 1 (by omega) (by unfold q_scr; omega)).trans w.tr
  refine ⟨?_, ?_⟩
  · exact (hk 2 (by omega) (by unfold q_scr; omega)).trans w.se
  refine ⟨?_, ?_⟩
  · exact fun a ha hn => (hk a (by have := w.nn; omega) (by unfold q_scr; omega)).trans (w.fr a ha hn)
  refine ⟨?_, ?_⟩
  · exact ⟨w.nn.1, Nat.le_trans w.nn.2 hn⟩
  exact w.ok
theorem og_DK.row (w : og_DK h0 n0 n h D) {a : Nat} (f : Nat → Int64) (ha : q_scr a) : og_DK h0 n0 n (og_set h a (rowL f)) D := by
  refine w.keep (Nat.le_refl _) (fun b _ hb => og_set_ne _ _ (fun q => hb (by rw [q]; exact ha))) (fun b hb => ?_)
  by_cases e : b = a
  · exact ⟨f, by rw [e, og_set_eq]⟩
  · rw [og_set_ne _ _ e]
    exact w.scr b hb
theorem og_DK.more (w : og_DK h0 n0 n h D) {n1 : Nat} (hn : n ≤ n1) : og_DK h0 n0 n1 h D := w.keep hn (fun _ _ _ => rfl) w.scr
def q_upR (R : Nat → Nat → Int64) (r : Nat) (f : Nat → Int64) : Nat → Nat → Int64 := fun k => if k = r then f else R k
def d_reg (D : q_D) (r : Nat) (f : Nat → Int64) : q_D := d_wSt D (q_upR (d_st D).1 r f, (d_st D).2)
theorem og_DK.reg (w : og_DK h0 n0 n h D) {r : Nat} (f : Nat → Int64) (hr : r < 8) : og_DK h0 n0 n (og_set h (4 + 2 + r) (rowL f)) (d_reg D r f) := by
  have h124 : 104 ≤ n := Nat.le_trans w.nn.1 w.nn.2
  refine ⟨?_, ?_⟩
  · exact (og_set_ne _ _ (by omega)).trans w.d3
  refine ⟨?_, ?_⟩
  · exact ⟨(og_set_ne _ _ (by omega)).trans w.now.1, (og_set_ne _ _ (by omega)).trans w.now.2.1, fun k hk => by
      show og_set h (4 + 2 + r) (rowL f) (4 + 2 + k) = some (rowL (if k = r then f else (d_st D).1 k))
      by_cases e : k = r
      · rw [e, og_set_eq, if_pos rfl]
      · rw [og_set_ne _ _ (by omega), if_neg e]
        exact w.now.2.2 k hk⟩
  refine ⟨?_, ?_⟩
  · exact (og_set_ne _ _ (by omega)).trans w.s14
  refine ⟨?_, ?_⟩
  · exact fun j hj => (w.sv j hj).kept fun k k1 k2 => og_set_ne _ _ (by omega)
  refine ⟨?_, ?_⟩
  · exact (og_set_ne _ _ (by omega)).trans w.u55
  refine ⟨?_, ?_⟩
  · exact fun o u ho => by
      obtain ⟨a1, a2, a3, a4, a5⟩ := w.un o u ho
      exact ⟨a1, a2, a3, (og_set_ne _ _ (by omega)).trans a4, (og_set_ne _ _ (by omega)).trans a5⟩
  refine ⟨?_, ?_⟩
  · exact (og_set_ne _ _ (by omega)).trans w.d56
  refine ⟨?_, ?_⟩
  · exact (og_set_ne _ _ (by omega)).trans w.g64
  refine ⟨?_, ?_⟩
  · exact (og_set_ne _ _ (by omega)).trans w.g67
  refine ⟨?_, ?_⟩
  · exact (og_set_ne _ _ (by omega)).trans w.t70
  refine ⟨?_, ?_⟩
  · exact (og_set_ne _ _ (by omega)).trans w.t71
  refine ⟨?_, ?_⟩
  · exact (og_set_ne _ _ (by omega)).trans w.c72
  refine ⟨?_, ?_⟩
  · exact (og_set_ne _ _ (by omega)).trans w.g73
  refine ⟨?_, ?_⟩
  · exact (og_set_ne _ _ (by omega)).trans w.g81
  refine ⟨?_, ?_⟩
  · exact (og_set_ne _ _ (by omega)).trans w.g89
  refine ⟨?_, ?_⟩
  · exact fun b hb => by
      rw [og_set_ne _ _ (by unfold q_scr at hb; omega)]
      exact w.scr b hb
  refine ⟨?_, ?_⟩
  · exact (og_set_ne _ _ (by omega)).trans w.tr
  refine ⟨?_, ?_⟩
  · exact (og_set_ne _ _ (by omega)).trans w.se
  refine ⟨?_, ?_⟩
  · exact fun a ha hn => (og_set_ne _ _ (by omega)).trans (w.fr a ha hn)
  refine ⟨?_, ?_⟩
  · exact w.nn
  exact w.ok
theorem og_DK.obj (w : og_DK h0 n0 n h D) (o : Nat) (mu di : Int32) (ho : o < 8) : og_DK h0 n0 n (og_set h 4 (og_so 4 ((d_st D).1, o, mu, di))) (d_wSt D ((d_st D).1, o, mu, di)) := by
  have h124 : 104 ≤ n := Nat.le_trans w.nn.1 w.nn.2
  refine ⟨?_, ?_⟩
  · exact (og_set_ne _ _ (by omega)).trans w.d3
  refine ⟨?_, ?_⟩
  · exact ⟨og_set_eq _ _ _, (og_set_ne _ _ (by omega)).trans w.now.2.1, fun k hk => (og_set_ne _ _ (by omega)).trans (w.now.2.2 k hk)⟩
  refine ⟨?_, ?_⟩
  · exact (og_set_ne _ _ (by omega)).trans w.s14
  refine ⟨?_, ?_⟩
  · exact fun j hj => (w.sv j hj).kept fun k k1 k2 => og_set_ne _ _ (by omega)
  refine ⟨?_, ?_⟩
  · exact (og_set_ne _ _ (by omega)).trans w.u55
  refine ⟨?_, ?_⟩
  · exact fun o u ho => by
      obtain ⟨a1, a2, a3, a4, a5⟩ := w.un o u ho
      exact ⟨a1, a2, a3, (og_set_ne _ _ (by omega)).trans a4, (og_set_ne _ _ (by omega)).trans a5⟩
  refine ⟨?_, ?_⟩
  · exact (og_set_ne _ _ (by omega)).trans w.d56
  refine ⟨?_, ?_⟩
  · exact (og_set_ne _ _ (by omega)).trans w.g64
  refine ⟨?_, ?_⟩
  · exact (og_set_ne _ _ (by omega)).trans w.g67
  refine ⟨?_, ?_⟩
  · exact (og_set_ne _ _ (by omega)).trans w.t70
  refine ⟨?_, ?_⟩
  · exact (og_set_ne _ _ (by omega)).trans w.t71
  refine ⟨?_, ?_⟩
  · exact (og_set_ne _ _ (by omega)).trans w.c72
  refine ⟨?_, ?_⟩
  · exact (og_set_ne _ _ (by omega)).trans w.g73
  refine ⟨?_, ?_⟩
  · exact (og_set_ne _ _ (by omega)).trans w.g81
  refine ⟨?_, ?_⟩
  · exact (og_set_ne _ _ (by omega)).trans w.g89
  refine ⟨?_, ?_⟩
  · exact fun b hb => by
      rw [og_set_ne _ _ (by unfold q_scr at hb; omega)]
      exact w.scr b hb
  refine ⟨?_, ?_⟩
  · exact (og_set_ne _ _ (by omega)).trans w.tr
  refine ⟨?_, ?_⟩
  · exact (og_set_ne _ _ (by omega)).trans w.se
  refine ⟨?_, ?_⟩
  · exact fun a ha hn => (og_set_ne _ _ (by omega)).trans (w.fr a ha hn)
  refine ⟨?_, ?_⟩
  · exact w.nn
  exact ⟨ho, w.ok.2⟩
theorem og_DK.cnt (w : og_DK h0 n0 n h D) (c : Nat) (hc : c ≤ 4) : og_DK h0 n0 n (og_set h 3 (og_dk c)) (d_wSc D c) := by
  have h124 : 104 ≤ n := Nat.le_trans w.nn.1 w.nn.2
  refine ⟨?_, ?_⟩
  · exact og_set_eq _ _ _
  refine ⟨?_, ?_⟩
  · exact w.now.kept fun k k1 k2 => og_set_ne _ _ (by omega)
  refine ⟨?_, ?_⟩
  · exact (og_set_ne _ _ (by omega)).trans w.s14
  refine ⟨?_, ?_⟩
  · exact fun j hj => (w.sv j hj).kept fun k k1 k2 => og_set_ne _ _ (by omega)
  refine ⟨?_, ?_⟩
  · exact (og_set_ne _ _ (by omega)).trans w.u55
  refine ⟨?_, ?_⟩
  · exact fun o u ho => by
      obtain ⟨a1, a2, a3, a4, a5⟩ := w.un o u ho
      exact ⟨a1, a2, a3, (og_set_ne _ _ (by omega)).trans a4, (og_set_ne _ _ (by omega)).trans a5⟩
  refine ⟨?_, ?_⟩
  · exact (og_set_ne _ _ (by omega)).trans w.d56
  refine ⟨?_, ?_⟩
  · exact (og_set_ne _ _ (by omega)).trans w.g64
  refine ⟨?_, ?_⟩
  · exact (og_set_ne _ _ (by omega)).trans w.g67
  refine ⟨?_, ?_⟩
  · exact (og_set_ne _ _ (by omega)).trans w.t70
  refine ⟨?_, ?_⟩
  · exact (og_set_ne _ _ (by omega)).trans w.t71
  refine ⟨?_, ?_⟩
  · exact (og_set_ne _ _ (by omega)).trans w.c72
  refine ⟨?_, ?_⟩
  · exact (og_set_ne _ _ (by omega)).trans w.g73
  refine ⟨?_, ?_⟩
  · exact (og_set_ne _ _ (by omega)).trans w.g81
  refine ⟨?_, ?_⟩
  · exact (og_set_ne _ _ (by omega)).trans w.g89
  refine ⟨?_, ?_⟩
  · exact fun b hb => by
      rw [og_set_ne _ _ (by unfold q_scr at hb; omega)]
      exact w.scr b hb
  refine ⟨?_, ?_⟩
  · exact (og_set_ne _ _ (by omega)).trans w.tr
  refine ⟨?_, ?_⟩
  · exact (og_set_ne _ _ (by omega)).trans w.se
  refine ⟨?_, ?_⟩
  · exact fun a ha hn => (og_set_ne _ _ (by omega)).trans (w.fr a ha hn)
  refine ⟨?_, ?_⟩
  · exact w.nn
  exact ⟨w.ok.1, hc, w.ok.2.2⟩
theorem og_DK.sav (w : og_DK h0 n0 n h D) (t : Nat) (ht : t < 4) : og_DK h0 n0 n (og_set h 14 (og_refs 4 4 (q_sa t))) (d_wRot D t) := by
  have h124 : 104 ≤ n := Nat.le_trans w.nn.1 w.nn.2
  refine ⟨?_, ?_⟩
  · exact (og_set_ne _ _ (by omega)).trans w.d3
  refine ⟨?_, ?_⟩
  · exact w.now.kept fun k k1 k2 => og_set_ne _ _ (by omega)
  refine ⟨?_, ?_⟩
  · exact og_set_eq _ _ _
  refine ⟨?_, ?_⟩
  · exact fun j hj => (w.sv j hj).kept fun k k1 k2 => og_set_ne _ _ (by omega)
  refine ⟨?_, ?_⟩
  · exact (og_set_ne _ _ (by omega)).trans w.u55
  refine ⟨?_, ?_⟩
  · exact fun o u ho => by
      obtain ⟨a1, a2, a3, a4, a5⟩ := w.un o u ho
      exact ⟨a1, a2, a3, (og_set_ne _ _ (by omega)).trans a4, (og_set_ne _ _ (by omega)).trans a5⟩
  refine ⟨?_, ?_⟩
  · exact (og_set_ne _ _ (by omega)).trans w.d56
  refine ⟨?_, ?_⟩
  · exact (og_set_ne _ _ (by omega)).trans w.g64
  refine ⟨?_, ?_⟩
  · exact (og_set_ne _ _ (by omega)).trans w.g67
  refine ⟨?_, ?_⟩
  · exact (og_set_ne _ _ (by omega)).trans w.t70
  refine ⟨?_, ?_⟩
  · exact (og_set_ne _ _ (by omega)).trans w.t71
  refine ⟨?_, ?_⟩
  · exact (og_set_ne _ _ (by omega)).trans w.c72
  refine ⟨?_, ?_⟩
  · exact (og_set_ne _ _ (by omega)).trans w.g73
  refine ⟨?_, ?_⟩
  · exact (og_set_ne _ _ (by omega)).trans w.g81
  refine ⟨?_, ?_⟩
  · exact (og_set_ne _ _ (by omega)).trans w.g89
  refine ⟨?_, ?_⟩
  · exact fun b hb => by
      rw [og_set_ne _ _ (by unfold q_scr at hb; omega)]
      exact w.scr b hb
  refine ⟨?_, ?_⟩
  · exact (og_set_ne _ _ (by omega)).trans w.tr
  refine ⟨?_, ?_⟩
  · exact (og_set_ne _ _ (by omega)).trans w.se
  refine ⟨?_, ?_⟩
  · exact fun a ha hn => (og_set_ne _ _ (by omega)).trans (w.fr a ha hn)
  refine ⟨?_, ?_⟩
  · exact w.nn
  exact ⟨w.ok.1, w.ok.2.1, ht, w.ok.2.2.2⟩
theorem og_DK.txt (w : og_DK h0 n0 n h D) (L dp : Nat) (hL : L ≤ 100) (hd : dp ≤ 6) : og_DK h0 n0 n (og_set h 70 (og_tx L dp)) (d_wTx D L dp) := by
  have h124 : 104 ≤ n := Nat.le_trans w.nn.1 w.nn.2
  refine ⟨?_, ?_⟩
  · exact (og_set_ne _ _ (by omega)).trans w.d3
  refine ⟨?_, ?_⟩
  · exact w.now.kept fun k k1 k2 => og_set_ne _ _ (by omega)
  refine ⟨?_, ?_⟩
  · exact (og_set_ne _ _ (by omega)).trans w.s14
  refine ⟨?_, ?_⟩
  · exact fun j hj => (w.sv j hj).kept fun k k1 k2 => og_set_ne _ _ (by omega)
  refine ⟨?_, ?_⟩
  · exact (og_set_ne _ _ (by omega)).trans w.u55
  refine ⟨?_, ?_⟩
  · exact fun o u ho => by
      obtain ⟨a1, a2, a3, a4, a5⟩ := w.un o u ho
      exact ⟨a1, a2, a3, (og_set_ne _ _ (by omega)).trans a4, (og_set_ne _ _ (by omega)).trans a5⟩
  refine ⟨?_, ?_⟩
  · exact (og_set_ne _ _ (by omega)).trans w.d56
  refine ⟨?_, ?_⟩
  · exact (og_set_ne _ _ (by omega)).trans w.g64
  refine ⟨?_, ?_⟩
  · exact (og_set_ne _ _ (by omega)).trans w.g67
  refine ⟨?_, ?_⟩
  · exact og_set_eq _ _ _
  refine ⟨?_, ?_⟩
  · exact (og_set_ne _ _ (by omega)).trans w.t71
  refine ⟨?_, ?_⟩
  · exact (og_set_ne _ _ (by omega)).trans w.c72
  refine ⟨?_, ?_⟩
  · exact (og_set_ne _ _ (by omega)).trans w.g73
  refine ⟨?_, ?_⟩
  · exact (og_set_ne _ _ (by omega)).trans w.g81
  refine ⟨?_, ?_⟩
  · exact (og_set_ne _ _ (by omega)).trans w.g89
  refine ⟨?_, ?_⟩
  · exact fun b hb => by
      rw [og_set_ne _ _ (by unfold q_scr at hb; omega)]
      exact w.scr b hb
  refine ⟨?_, ?_⟩
  · exact (og_set_ne _ _ (by omega)).trans w.tr
  refine ⟨?_, ?_⟩
  · exact (og_set_ne _ _ (by omega)).trans w.se
  refine ⟨?_, ?_⟩
  · exact fun a ha hn => (og_set_ne _ _ (by omega)).trans (w.fr a ha hn)
  refine ⟨?_, ?_⟩
  · exact w.nn
  exact ⟨w.ok.1, w.ok.2.1, w.ok.2.2.1, hL, hd⟩
theorem og_DK.byt (w : og_DK h0 n0 n h D) (f : Nat → Int32) : og_DK h0 n0 n (og_set h 71 (rowB f)) (d_wTb D f) := by
  have h124 : 104 ≤ n := Nat.le_trans w.nn.1 w.nn.2
  refine ⟨?_, ?_⟩
  · exact (og_set_ne _ _ (by omega)).trans w.d3
  refine ⟨?_, ?_⟩
  · exact w.now.kept fun k k1 k2 => og_set_ne _ _ (by omega)
  refine ⟨?_, ?_⟩
  · exact (og_set_ne _ _ (by omega)).trans w.s14
  refine ⟨?_, ?_⟩
  · exact fun j hj => (w.sv j hj).kept fun k k1 k2 => og_set_ne _ _ (by omega)
  refine ⟨?_, ?_⟩
  · exact (og_set_ne _ _ (by omega)).trans w.u55
  refine ⟨?_, ?_⟩
  · exact fun o u ho => by
      obtain ⟨a1, a2, a3, a4, a5⟩ := w.un o u ho
      exact ⟨a1, a2, a3, (og_set_ne _ _ (by omega)).trans a4, (og_set_ne _ _ (by omega)).trans a5⟩
  refine ⟨?_, ?_⟩
  · exact (og_set_ne _ _ (by omega)).trans w.d56
  refine ⟨?_, ?_⟩
  · exact (og_set_ne _ _ (by omega)).trans w.g64
  refine ⟨?_, ?_⟩
  · exact (og_set_ne _ _ (by omega)).trans w.g67
  refine ⟨?_, ?_⟩
  · exact (og_set_ne _ _ (by omega)).trans w.t70
  refine ⟨?_, ?_⟩
  · exact og_set_eq _ _ _
  refine ⟨?_, ?_⟩
  · exact (og_set_ne _ _ (by omega)).trans w.c72
  refine ⟨?_, ?_⟩
  · exact (og_set_ne _ _ (by omega)).trans w.g73
  refine ⟨?_, ?_⟩
  · exact (og_set_ne _ _ (by omega)).trans w.g81
  refine ⟨?_, ?_⟩
  · exact (og_set_ne _ _ (by omega)).trans w.g89
  refine ⟨?_, ?_⟩
  · exact fun b hb => by
      rw [og_set_ne _ _ (by unfold q_scr at hb; omega)]
      exact w.scr b hb
  refine ⟨?_, ?_⟩
  · exact (og_set_ne _ _ (by omega)).trans w.tr
  refine ⟨?_, ?_⟩
  · exact (og_set_ne _ _ (by omega)).trans w.se
  refine ⟨?_, ?_⟩
  · exact fun a ha hn => (og_set_ne _ _ (by omega)).trans (w.fr a ha hn)
  refine ⟨?_, ?_⟩
  · exact w.nn
  exact w.ok
theorem og_DK.cal (w : og_DK h0 n0 n h D) (cu pr : Int32) : og_DK h0 n0 n (og_set h 72 (og_ca cu pr)) (d_wCa D cu pr) := by
  have h124 : 104 ≤ n := Nat.le_trans w.nn.1 w.nn.2
  refine ⟨?_, ?_⟩
  · exact (og_set_ne _ _ (by omega)).trans w.d3
  refine ⟨?_, ?_⟩
  · exact w.now.kept fun k k1 k2 => og_set_ne _ _ (by omega)
  refine ⟨?_, ?_⟩
  · exact (og_set_ne _ _ (by omega)).trans w.s14
  refine ⟨?_, ?_⟩
  · exact fun j hj => (w.sv j hj).kept fun k k1 k2 => og_set_ne _ _ (by omega)
  refine ⟨?_, ?_⟩
  · exact (og_set_ne _ _ (by omega)).trans w.u55
  refine ⟨?_, ?_⟩
  · exact fun o u ho => by
      obtain ⟨a1, a2, a3, a4, a5⟩ := w.un o u ho
      exact ⟨a1, a2, a3, (og_set_ne _ _ (by omega)).trans a4, (og_set_ne _ _ (by omega)).trans a5⟩
  refine ⟨?_, ?_⟩
  · exact (og_set_ne _ _ (by omega)).trans w.d56
  refine ⟨?_, ?_⟩
  · exact (og_set_ne _ _ (by omega)).trans w.g64
  refine ⟨?_, ?_⟩
  · exact (og_set_ne _ _ (by omega)).trans w.g67
  refine ⟨?_, ?_⟩
  · exact (og_set_ne _ _ (by omega)).trans w.t70
  refine ⟨?_, ?_⟩
  · exact (og_set_ne _ _ (by omega)).trans w.t71
  refine ⟨?_, ?_⟩
  · exact og_set_eq _ _ _
  refine ⟨?_, ?_⟩
  · exact (og_set_ne _ _ (by omega)).trans w.g73
  refine ⟨?_, ?_⟩
  · exact (og_set_ne _ _ (by omega)).trans w.g81
  refine ⟨?_, ?_⟩
  · exact (og_set_ne _ _ (by omega)).trans w.g89
  refine ⟨?_, ?_⟩
  · exact fun b hb => by
      rw [og_set_ne _ _ (by unfold q_scr at hb; omega)]
      exact w.scr b hb
  refine ⟨?_, ?_⟩
  · exact (og_set_ne _ _ (by omega)).trans w.tr
  refine ⟨?_, ?_⟩
  · exact (og_set_ne _ _ (by omega)).trans w.se
  refine ⟨?_, ?_⟩
  · exact fun a ha hn => (og_set_ne _ _ (by omega)).trans (w.fr a ha hn)
  refine ⟨?_, ?_⟩
  · exact w.nn
  exact w.ok
end DK
def q_io : String := "java/lang/IndexOutOfBoundsException"
def q_ia : String := "java/lang/IllegalArgumentException"
def q_ist : String := "java/lang/IllegalStateException"
def q_ae : String := "java/lang/ArithmeticException"
/-- 0 to 7 -/
theorem q_e8_nat {x : Int32} (h1 : ¬ x < 0) (h2 : x < 8) : ∃ r, r < 8 ∧ x = nI r := by
  have h3 := Int32.le_iff_toInt_le.mp (og_nlt h1)
  have h4 := Int32.lt_iff_toInt_lt.mp h2
  rw [show (0 : Int32).toInt = 0 from rfl] at h3
  rw [show (8 : Int32).toInt = 8 from rfl] at h4
  refine ⟨x.toInt.toNat, by omega, ?_⟩
  show x = Int32.ofNat x.toInt.toNat
  apply Int32.toInt_inj.mp
  rw [Int32.toInt_ofNat_of_lt (by omega)]
  omega
def q_in8 (x : Int32) : Prop := ∃ r, r < 8 ∧ x = nI r
theorem c_X7_needRegister (E : og_E) (d n : Nat) (h : og_H) (x : Int32) :
    og_M E yX7_needRegister (.code yX7_needRegister cX7_needRegister 1 none) d [.int x] n h 1 6 (fun v n1 h1 => v = none ∧ n1 = n ∧ h1 = h ∧ q_in8 x) (fun En n1 h1 => En = q_io ∧ n ≤ n1 ∧ h1 = h ∧ ¬ q_in8 x) := by
  refine og_start (lv := [some (.int x)]) (by decide) rfl rfl (Nat.le_of_ble_eq_true rfl) fun X hr hnm htb => ?_
  have bad : (¬ q_in8 x) → og_G E yX7_needRegister.cls cX7_needRegister d 1 6 1 X (og_Q E (fun v n1 h1 => v = none ∧ n1 = n ∧ h1 = h ∧ q_in8 x) (fun En n1 h1 => En = q_io ∧ n ≤ n1 ∧ h1 = h ∧ ¬ q_in8 x) 1 6 X) 0 0 n h 10 [some (.int x)] [] := fun hb =>
    og_throwW (pc := 10) (text := "no such register") T_ioob (by decide +kernel) htb dX7_needRegister_10 dX7_needRegister_13 dX7_needRegister_14 dX7_needRegister_17 dX7_needRegister_20 (by decide) (by omega) (by omega) (fun n1 hn => ⟨rfl, hn, rfl, hb⟩)
  refine og_iload_n (pc := 0) dX7_needRegister_0 rfl ?_
  refine og_if_lt (pc := 1) (tgt := 10) dX7_needRegister_1 (by decide) (fun c => bad ?_) (fun c => ?_)
  · rintro ⟨r, hr8, e⟩
    rw [e] at c
    exact nI_pos (by omega) c
  · refine og_iload_n (pc := 4) dX7_needRegister_4 rfl ?_
    refine og_bipush (pc := 5) (v := 8) dX7_needRegister_5 (by decide) ?_
    refine og_icmp_lt (pc := 7) (tgt := 21) dX7_needRegister_7 (by decide) (fun c2 => ?_) (fun c2 => bad ?_)
    · exact og_vret (pc := 21) hr dX7_needRegister_21 (by omega) (by omega) ⟨rfl, rfl, rfl, q_e8_nat c c2⟩
    · rintro ⟨r, hr8, e⟩
      rw [e] at c2
      exact c2 (nI_lt (a := r) (b := 8) (by omega) (by omega))

theorem c_X7_needIndex (E : og_E) (d n : Nat) (h : og_H) (x : Int32) :
    og_M E yX7_needIndex (.code yX7_needIndex cX7_needIndex 1 none) d [.int x] n h 1 6 (fun v n1 h1 => v = none ∧ n1 = n ∧ h1 = h ∧ q_in8 x) (fun En n1 h1 => En = q_io ∧ n ≤ n1 ∧ h1 = h ∧ ¬ q_in8 x) := by
  refine og_start (lv := [some (.int x)]) (by decide) rfl rfl (Nat.le_of_ble_eq_true rfl) fun X hr hnm htb => ?_
  have bad : (¬ q_in8 x) → og_G E yX7_needIndex.cls cX7_needIndex d 1 6 1 X (og_Q E (fun v n1 h1 => v = none ∧ n1 = n ∧ h1 = h ∧ q_in8 x) (fun En n1 h1 => En = q_io ∧ n ≤ n1 ∧ h1 = h ∧ ¬ q_in8 x) 1 6 X) 0 0 n h 10 [some (.int x)] [] := fun hb =>
    og_throwW (pc := 10) (text := "no such coordinate") T_ioob (by decide +kernel) htb dX7_needIndex_10 dX7_needIndex_13 dX7_needIndex_14 dX7_needIndex_17 dX7_needIndex_20 (by decide) (by omega) (by omega) (fun n1 hn => ⟨rfl, hn, rfl, hb⟩)
  refine og_iload_n (pc := 0) dX7_needIndex_0 rfl ?_
  refine og_if_lt (pc := 1) (tgt := 10) dX7_needIndex_1 (by decide) (fun c => bad ?_) (fun c => ?_)
  · rintro ⟨r, hr8, e⟩
    rw [e] at c
    exact nI_pos (by omega) c
  · refine og_iload_n (pc := 4) dX7_needIndex_4 rfl ?_
    refine og_bipush (pc := 5) (v := 8) dX7_needIndex_5 (by decide) ?_
    refine og_icmp_lt (pc := 7) (tgt := 21) dX7_needIndex_7 (by decide) (fun c2 => ?_) (fun c2 => bad ?_)
    · exact og_vret (pc := 21) hr dX7_needIndex_21 (by omega) (by omega) ⟨rfl, rfl, rfl, q_e8_nat c c2⟩
    · rintro ⟨r, hr8, e⟩
      rw [e] at c2
      exact c2 (nI_lt (a := r) (b := 8) (by omega) (by omega))
def q_hvs (x : Int32) : Prop := -2000 ≤ x ∧ x ≤ 2000
theorem c_X7_needHalves (E : og_E) (d n : Nat) (h : og_H) (x : Int32) :
    og_M E yX7_needHalves (.code yX7_needHalves cX7_needHalves 1 none) d [.int x] n h 1 6 (fun v n1 h1 => v = none ∧ n1 = n ∧ h1 = h ∧ q_hvs x) (fun En n1 h1 => En = q_ia ∧ n ≤ n1 ∧ h1 = h ∧ ¬ q_hvs x) := by
  refine og_start (lv := [some (.int x)]) (by decide) rfl rfl (Nat.le_of_ble_eq_true rfl) fun X hr hnm htb => ?_
  have bad : (¬ q_hvs x) → og_G E yX7_needHalves.cls cX7_needHalves d 1 6 1 X (og_Q E (fun v n1 h1 => v = none ∧ n1 = n ∧ h1 = h ∧ q_hvs x) (fun En n1 h1 => En = q_ia ∧ n ≤ n1 ∧ h1 = h ∧ ¬ q_hvs x) 1 6 X) 0 0 n h 14 [some (.int x)] [] := fun hb =>
    og_throwW (pc := 14) (text := "halves out of range") T_iae (by decide +kernel) htb dX7_needHalves_14 dX7_needHalves_17 dX7_needHalves_18 dX7_needHalves_21 dX7_needHalves_24 (by decide) (by omega) (by omega) (fun n1 hn => ⟨rfl, hn, rfl, hb⟩)
  refine og_iload_n (pc := 0) dX7_needHalves_0 rfl ?_
  refine og_sipush (pc := 1) (v := (-2000)) dX7_needHalves_1 (by decide) ?_
  refine og_icmp_lt (pc := 4) (tgt := 14) dX7_needHalves_4 (by decide) (fun c => bad fun q => og_lel q.1 c) (fun c => ?_)
  refine og_iload_n (pc := 7) dX7_needHalves_7 rfl ?_
  refine og_sipush (pc := 8) (v := 2000) dX7_needHalves_8 (by decide) ?_
  refine og_icmp_le (pc := 11) (tgt := 25) dX7_needHalves_11 (by decide) (fun c2 => ?_) (fun c2 => bad fun q => c2 q.2)
  exact og_vret (pc := 25) hr dX7_needHalves_25 (by omega) (by omega) ⟨rfl, rfl, rfl, og_nlt c, c2⟩
theorem c_X7_needFit (E : og_E) (d n : Nat) (h : og_H) (x : Int32) :
    og_M E yX7_needFit (.code yX7_needFit cX7_needFit 1 none) d [.int x] n h 1 6 (fun v n1 h1 => v = none ∧ n1 = n ∧ h1 = h ∧ x ≠ 0) (fun En n1 h1 => En = q_ae ∧ n ≤ n1 ∧ h1 = h ∧ x = 0) := by
  refine og_start (lv := [some (.int x)]) (by decide) rfl rfl (Nat.le_of_ble_eq_true rfl) fun X hr hnm htb => ?_
  refine og_iload_n (pc := 0) dX7_needFit_0 rfl ?_
  refine og_if_ne (pc := 1) (tgt := 15) dX7_needFit_1 (by decide) (fun c => ?_) (fun c => ?_)
  · exact og_vret (pc := 15) hr dX7_needFit_15 (by omega) (by omega) ⟨rfl, rfl, rfl, c⟩
  · exact og_throwW (pc := 4) (text := "the result cannot be put into a register") T_ae (by decide +kernel) htb dX7_needFit_4 dX7_needFit_7 dX7_needFit_8 dX7_needFit_11 dX7_needFit_14 (by decide) (by omega) (by omega) (fun n1 hn => ⟨rfl, hn, rfl, c⟩)
