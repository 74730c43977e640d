/-! ===== the law: acts: set, setFour, setOrder, load, conjugate ===== -/
abbrev y_la (x : Int32) (v w a b r : Nat) (t : List (Option Value)) : List (Option Value) := some (.ref 3) :: some (.ref 102) :: some (.ref 103) :: some (.ref 101) :: some (.int x) :: some (.int (nI v)) :: some (.int (nI w)) :: some (.int (nI a)) :: some (.int (nI b)) :: some (.int (nI r)) :: t
abbrev y_Qa (E : og_E) (L : Nat) (xs : Nat → Int32) (X : og_X) : State → Prop := og_Q E (fun v n1 h1 => v = some (.int 1) ∧ ∃ D1 R1 g1, y_wl L xs n1 h1 D1 R1 g1) no_x 300 2500 X
theorem y_cp.regs {D : q_D} {R g R1 : Nat → Int32} {r : Nat} {f : Nat → Int64} (w : y_cp D R g) (hR : ∀ i k, i < 8 → k < 8 → i ≠ r → R1 (8 * i + k) = R (8 * i + k)) (hf : ∀ k, k < 8 → R1 (8 * r + k) = (f k).toInt32 ∧ -2000 ≤ (f k).toInt ∧ (f k).toInt ≤ 2000) : y_cp (d_reg (q_save D) r f) R1 g := by
  refine w.put (r := r) (f := f) ?_ ?_ ?_ ?_ hR hf
  · show q_upR (d_st (q_save D)).1 r f = _
    rw [q_save_st]
  · show g 0 = nI (d_st (q_save D)).2.1
    rw [q_save_st]
    exact w.2.1
  · show g 1 = (d_st (q_save D)).2.2.1
    rw [q_save_st]
    exact w.2.2.1
  · show g 2 = (d_st (q_save D)).2.2.2
    rw [q_save_st]
    exact w.2.2.2
theorem y_cp.fits {D : q_D} {R g : Nat → Int32} {r t : Nat} {F G : Nat → Int64} {p : Int64} (w : y_cp D R g) (ht : t < 3) (hp : p.toInt = 2 ^ t) (hr : r < 8) (hFG : zE F G) (hfit : q_fitx (nI t) F) : y_cp (d_reg (q_save D) r (q_fv (nI t) F)) (y_pt R r G p 8) g := by
  refine w.fit (t := t) ht hp hr hFG hfit ?_ ?_ ?_ ?_
  · show q_upR (d_st (q_save D)).1 r _ = _
    rw [q_save_st]
  · show g 0 = nI (d_st (q_save D)).2.1
    rw [q_save_st]
    exact w.2.1
  · show g 1 = (d_st (q_save D)).2.2.1
    rw [q_save_st]
    exact w.2.2.1
  · show g 2 = (d_st (q_save D)).2.2.2
    rw [q_save_st]
    exact w.2.2.2
theorem y_hv1 (m : Nat) (hm : m < 4001) : q_hvs (nI m - 2000) := by
  have e : (nI m - 2000).toInt = (m : Int) - 2000 := by
    rw [Int32.toInt_sub, nI_toInt (by omega), show (2000 : Int32).toInt = 2000 from rfl]
    exact Int.bmod_eq_of_le (by omega) (by omega)
  refine ⟨Int32.le_iff_toInt_le.mpr ?_, Int32.le_iff_toInt_le.mpr ?_⟩
  · rw [e, show (-2000 : Int32).toInt = -2000 from rfl]
    omega
  · rw [e, show (2000 : Int32).toInt = 2000 from rfl]
    omega
theorem y_hv2 : ∀ m, m < 13 → q_hvs (nI m - 6) := by
  unfold q_hvs
  decide +kernel
theorem y_hv3 : ∀ m, m < 16 → q_hvs (nI m - 7) := by
  unfold q_hvs
  decide +kernel
theorem y_and15 (y : Int32) : ∃ m, m < 16 ∧ y &&& 15 = nI m := by
  refine ⟨(y &&& 15).toBitVec.toNat, ?_, ?_⟩
  · rw [Int32.toBitVec_and, BitVec.toNat_and]
    exact Nat.lt_of_le_of_lt Nat.and_le_right (by decide)
  · refine Int32.toBitVec_inj.mp ?_
    rw [nI_bv, BitVec.ofNat_toNat, BitVec.setWidth_eq]
theorem y_hvs64 {y : Int32} (hy : q_hvs y) : y.toInt64.toInt32 = y ∧ -2000 ≤ y.toInt64.toInt ∧ y.toInt64.toInt ≤ 2000 := by
  have h1 := Int32.le_iff_toInt_le.mp hy.1
  have h2 := Int32.le_iff_toInt_le.mp hy.2
  rw [Int32.toInt_toInt64]
  refine ⟨?_, h1, h2⟩
  refine Int32.toInt_inj.mp ?_
  have h3 : (-2000 : Int32).toInt = -2000 := by decide
  have h4 : (2000 : Int32).toInt = 2000 := by decide
  rw [h3] at h1
  rw [h4] at h2
  rw [zt32 (by rw [Int32.toInt_toInt64]; omega) (by rw [Int32.toInt_toInt64]; omega), Int32.toInt_toInt64]
theorem y_ac1 {E : og_E} {X : og_X} {d n L v w a b r : Nat} {xs : Nat → Int32} {x : Int32} {h : og_H} {D : q_D} {R g : Nat → Int32} (hr : og_ret X = some .boolean) (W : y_wl L xs n h D R g) (hv : v < 10000000) (a8 : a < 8) (b8 : b < 8) (r8 : r < 8) : og_G E RL cL_acts (d + 7) 300 2500 15 X (y_Qa E L xs X) 0 0 n h 53 (y_la x v w a b r [none, none, none, none, none]) [] := by
  have hcp := W.2.2.2.2.2
  have r0 := W.2.2.2.1
  have h104 := W.nn
  refine og_aload_n (pc := 53) dL_acts_53 rfl ?_
  refine og_bipush (pc := 54) (v := 8) dL_acts_54 (by decide) ?_
  refine og_iload (pc := 56) dL_acts_56 rfl ?_
  refine og_imul (pc := 58) dL_acts_58 ?_
  refine og_iload (pc := 59) dL_acts_59 rfl ?_
  refine og_iadd (pc := 61) dL_acts_61 ?_
  refine og_ialdN (pc := 62) (j := (8 * a + b)) (og_i8 a b) dL_acts_62 (by repeat (first | exact og_set_eq _ _ _ | assumption | refine (og_set_ne _ _ (by first | assumption | omega)).trans ?_)) (by omega) (by omega) (by first | decide | assumption | omega) ?_
  refine og_istore_10 (pc := 63) dL_acts_63 rfl ?_
  refine og_aload_n (pc := 65) dL_acts_65 rfl ?_
  refine og_bipush (pc := 66) (v := 8) dL_acts_66 (by decide) ?_
  refine og_iload (pc := 68) dL_acts_68 rfl ?_
  refine og_imul (pc := 70) dL_acts_70 ?_
  refine og_iload (pc := 71) dL_acts_71 rfl ?_
  refine og_iadd (pc := 73) dL_acts_73 ?_
  refine og_iload (pc := 74) dL_acts_74 rfl ?_
  refine og_iconst (pc := 76) (v := 5) dL_acts_76 (by decide) ?_
  refine og_irem (pc := 77) dL_acts_77 (by decide) ?_
  have at108 : ∀ y, q_hvs y → og_G E RL cL_acts (d + 7) 300 2500 15 X (y_Qa E L xs X) 0 0 n h 108 (y_la x v w a b r [some (.int (R (8 * a + b))), none, none, none, none]) [.int y, .int (8 * nI a + nI b), .ref 103] := by
    intro y hy
    refine og_iastN (pc := 108) (j := (8 * a + b)) (og_i8 a b) dL_acts_108 (by repeat (first | exact og_set_eq _ _ _ | assumption | refine (og_set_ne _ _ (by first | assumption | omega)).trans ?_)) (by omega) (by omega) (by first | decide | assumption | omega) ?_
    have W2 := W.m.wR (upd R (8 * a + b) y)
    generalize og_set h 103 (rowI 64 (upd R (8 * a + b) y)) = h2 at W2 ⊢
    have r2 := W2.2.2.2.1
    refine og_aload_n (pc := 109) dL_acts_109 rfl ?_
    refine og_iload (pc := 110) dL_acts_110 rfl ?_
    refine og_iload (pc := 112) dL_acts_112 rfl ?_
    refine og_aload_n (pc := 114) dL_acts_114 rfl ?_
    refine og_bipush (pc := 115) (v := 8) dL_acts_115 (by decide) ?_
    refine og_iload (pc := 117) dL_acts_117 rfl ?_
    refine og_imul (pc := 119) dL_acts_119 ?_
    refine og_iload (pc := 120) dL_acts_120 rfl ?_
    refine og_iadd (pc := 122) dL_acts_122 ?_
    refine og_ialdN (pc := 123) (j := (8 * a + b)) (og_i8 a b) dL_acts_123 (by repeat (first | exact og_set_eq _ _ _ | assumption | refine (og_set_ne _ _ (by first | assumption | omega)).trans ?_)) (by omega) (by omega) (by first | decide | assumption | omega) ?_
    rw [show upd R (8 * a + b) y (8 * a + b) = y from if_pos rfl]
    refine og_callSH (pc := 124) (As := [.ref 3, .int (nI a), .int (nI b), .int y]) (rest := []) (l_sets (E := E) (d := d) W2.1 a8 b8 hy) YH_L_sets K_L_108 dL_acts_124 rfl rfl (Nat.le_of_ble_eq_true rfl) (by omega) (by omega) (by omega) (fun v9 n3 h3 z9 => ?_)
    obtain ⟨rfl, w3⟩ := z9
    rw [← (hcp.1 a a8 b b8).1]
    refine og_iload (pc := 127) dL_acts_127 rfl ?_
    refine og_icmp_ne (pc := 129) (tgt := 136) dL_acts_129 (by decide) (fun q => absurd rfl q) (fun _ => ?_)
    refine og_iconst (pc := 132) (v := 1) dL_acts_132 (by decide) ?_
    refine og_goto (pc := 133) (tgt := 137) dL_acts_133 (by decide) ?_
    refine og_zret (pc := 137) hr rfl dL_acts_137 (by omega) (by omega) ⟨rfl, _, _, _, (W2.call w3).l (hcp.regs (fun i k hi hk q => if_neg (by omega)) (fun k hk => ?_))⟩
    obtain ⟨t1, t2, t3⟩ := y_hvs64 hy
    unfold upd vp_updL
    by_cases e : k = b
    · rw [e, if_pos rfl, if_pos rfl, t1]
      exact ⟨rfl, t2, t3⟩
    · rw [if_neg (by omega), if_neg e]
      exact hcp.1 a a8 k hk
  have e64 : nI v / 64 = nI (v / 64) := nI_div (b := 64) (by omega) (by omega) (by omega)
  refine og_if_ne (pc := 78) (tgt := 97) dL_acts_78 (by decide) (fun _ => ?_) (fun _ => ?_)
  · refine og_iload (pc := 97) dL_acts_97 rfl ?_
    refine og_bipush (pc := 99) (v := 64) dL_acts_99 (by decide) ?_
    refine og_idiv (pc := 101) dL_acts_101 (by decide) ?_
    refine og_bipush (pc := 102) (v := 13) dL_acts_102 (by decide) ?_
    refine og_irem (pc := 104) dL_acts_104 (by decide) ?_
    refine og_bipush (pc := 105) (v := 6) dL_acts_105 (by decide) ?_
    rw [e64, show nI (v / 64) - nI (v / 64) / 13 * 13 = nI (v / 64 % 13) from nI_mod (b := 13) (by omega) (by omega) (by omega)]
    refine og_isub (pc := 107) dL_acts_107 ?_
    exact at108 _ (y_hv2 _ (Nat.mod_lt _ (by omega)))
  · refine og_iload (pc := 81) dL_acts_81 rfl ?_
    refine og_bipush (pc := 83) (v := 64) dL_acts_83 (by decide) ?_
    refine og_idiv (pc := 85) dL_acts_85 (by decide) ?_
    refine og_sipush (pc := 86) (v := 4001) dL_acts_86 (by decide) ?_
    refine og_irem (pc := 89) dL_acts_89 (by decide) ?_
    refine og_sipush (pc := 90) (v := 2000) dL_acts_90 (by decide) ?_
    rw [e64, show nI (v / 64) - nI (v / 64) / 4001 * 4001 = nI (v / 64 % 4001) from nI_mod (b := 4001) (by omega) (by omega) (by omega)]
    refine og_isub (pc := 93) dL_acts_93 ?_
    refine og_goto (pc := 94) (tgt := 108) dL_acts_94 (by decide) ?_
    exact at108 _ (y_hv1 _ (Nat.mod_lt _ (by omega)))
def y_y4 (v k : Nat) : Int32 := ((nI v >>> ((nI k + 6) &&& 31)) &&& 15) - 7
theorem y_y4h (v k : Nat) : q_hvs (y_y4 v k) := by
  obtain ⟨m, hm, e⟩ := y_and15 (nI v >>> ((nI k + 6) &&& 31))
  unfold y_y4
  rw [e]
  exact y_hv3 m hm
def y_r4 (R : Nat → Int32) (v p i : Nat) : Nat → Int32 := fun j => if p ≤ j ∧ j < p + i then y_y4 v (j - p) else R j
theorem y_r4_0 (R : Nat → Int32) (v p : Nat) : y_r4 R v p 0 = R := by
  funext j
  exact if_neg (by omega)
theorem y_r4_s (R : Nat → Int32) (v p i : Nat) : upd (y_r4 R v p i) (p + i) (y_y4 v i) = y_r4 R v p (i + 1) := by
  funext j
  unfold upd y_r4
  by_cases e : j = p + i
  · rw [if_pos e, if_pos (by omega), show j - p = i by omega]
  · rw [if_neg e]
    by_cases e2 : p ≤ j ∧ j < p + i
    · rw [if_pos e2, if_pos (by omega)]
    · rw [if_neg e2, if_neg (by omega)]
theorem y_four {D : q_D} {R g : Nat → Int32} {v a s : Nat} (hcp : y_cp D R g) (a8 : a < 8) (hs : s = 0 ∨ s = 4) : ∀ k, k < 8 → y_r4 R v (8 * a + s) 4 (8 * a + k) = (q_four4 (d_R D a) s (y_y4 v 0) (y_y4 v 1) (y_y4 v 2) (y_y4 v 3) k).toInt32 ∧ -2000 ≤ (q_four4 (d_R D a) s (y_y4 v 0) (y_y4 v 1) (y_y4 v 2) (y_y4 v 3) k).toInt ∧ (q_four4 (d_R D a) s (y_y4 v 0) (y_y4 v 1) (y_y4 v 2) (y_y4 v 3) k).toInt ≤ 2000 := fun k hk => by
  unfold y_r4 q_four4 vp_updL
  by_cases e3 : k = s + 3
  · rw [if_pos (by omega), if_pos e3, show 8 * a + k - (8 * a + s) = 3 by omega]
    obtain ⟨t1, t2, t3⟩ := y_hvs64 (y_y4h v 3)
    exact ⟨t1.symm, t2, t3⟩
  rw [if_neg e3]
  by_cases e2 : k = s + 2
  · rw [if_pos (by omega), if_pos e2, show 8 * a + k - (8 * a + s) = 2 by omega]
    obtain ⟨t1, t2, t3⟩ := y_hvs64 (y_y4h v 2)
    exact ⟨t1.symm, t2, t3⟩
  rw [if_neg e2]
  by_cases e1 : k = s + 1
  · rw [if_pos (by omega), if_pos e1, show 8 * a + k - (8 * a + s) = 1 by omega]
    obtain ⟨t1, t2, t3⟩ := y_hvs64 (y_y4h v 1)
    exact ⟨t1.symm, t2, t3⟩
  rw [if_neg e1]
  by_cases e0 : k = s
  · rw [if_pos (by omega), if_pos e0, show 8 * a + k - (8 * a + s) = 0 by omega]
    obtain ⟨t1, t2, t3⟩ := y_hvs64 (y_y4h v 0)
    exact ⟨t1.symm, t2, t3⟩
  rw [if_neg e0, if_neg (by omega)]
  exact hcp.1 a a8 k hk
theorem y_ac2u {E : og_E} {X : og_X} {d n L v w a b r : Nat} {xs : Nat → Int32} {x : Int32} {h : og_H} {D : q_D} {R g : Nat → Int32} {u : Int32} {s : Nat} (hr : og_ret X = some .boolean) (W : y_wl L xs n h D R g) (hv : v < 10000000) (a8 : a < 8) (b8 : b < 8) (r8 : r < 8) (hus : (u = 0 ∧ s = 0) ∨ (u ≠ 0 ∧ s = 4)) : og_G E RL cL_acts (d + 7) 300 2500 15 X (y_Qa E L xs X) 0 0 n h 160 (y_la x v w a b r [some (.int u), none, none, none, none]) [] := by
  have hcp := W.2.2.2.2.2
  have h104 := W.nn
  have hs : s = 0 ∨ s = 4 := hus.imp (fun q => q.2) (fun q => q.2)
  have e4 : (if u = 0 then 0 else 4) = s := by
    rcases hus with ⟨q1, q2⟩ | ⟨q1, q2⟩
    · rw [if_pos q1, q2]
    · rw [if_neg q1, q2]
  have i8 : (8 : Int32) * nI a + nI s = nI (8 * a + s) := og_i8 a s
  refine og_iconst (pc := 160) (v := 0) dL_acts_160 (by decide) ?_
  refine og_istore_11 (pc := 161) dL_acts_161 rfl ?_
  refine og_heq (og_set h 103 (rowI 64 (y_r4 R v (8 * a + s) 0))) (by rw [y_r4_0, og_set_same W.2.2.2.1]) ?_
  refine og_for (i0 := 0) (N := 4) (by decide) (fun i => og_set h 103 (rowI 64 (y_r4 R v (8 * a + s) i))) (fun i => (y_la x v w a b r [some (.int u), some (.int (nI i)), none, none, none])) ?_ (fun i hi1 hi ih => ?_)
  · refine og_iload (pc := 163) dL_acts_163 rfl ?_
    refine og_iconst (pc := 165) (v := 4) dL_acts_165 (by decide) ?_
    refine og_geN (pc := 166) (tgt := 210) (i := 4) (N := 4) dL_acts_166 (by decide) rfl rfl (by omega) (by omega) (fun c_166 => ?_) (fun c_166 => ?_)
    rotate_left
    · omega
    have W2 := W.m.wR (y_r4 R v (8 * a + s) 4)
    generalize og_set h 103 (rowI 64 (y_r4 R v (8 * a + s) 4)) = h2 at W2 ⊢
    have r2 := W2.2.2.2.1
    have at226 : og_G E RL cL_acts (d + 7) 300 2500 15 X (y_Qa E L xs X) 0 0 n h2 226 (y_la x v w a b r [some (.int u), some (.int (nI 4)), none, none, none]) [.int (nI (8 * a + s))] := by
      refine og_istore_11 (pc := 226) dL_acts_226 rfl ?_
      refine og_aload_n (pc := 228) dL_acts_228 rfl ?_
      refine og_iload (pc := 229) dL_acts_229 rfl ?_
      refine og_iload (pc := 231) dL_acts_231 rfl ?_
      refine og_aload_n (pc := 233) dL_acts_233 rfl ?_
      refine og_iload (pc := 234) dL_acts_234 rfl ?_
      refine og_ialdN (pc := 236) (j := (8 * a + s)) rfl dL_acts_236 (by repeat (first | exact og_set_eq _ _ _ | assumption | refine (og_set_ne _ _ (by first | assumption | omega)).trans ?_)) (by omega) (by omega) (by first | decide | assumption | omega) ?_
      refine og_aload_n (pc := 237) dL_acts_237 rfl ?_
      refine og_iload (pc := 238) dL_acts_238 rfl ?_
      refine og_iconst (pc := 240) (v := 1) dL_acts_240 (by decide) ?_
      refine og_iadd (pc := 241) dL_acts_241 ?_
      refine og_ialdN (pc := 242) (j := (8 * a + s + 1)) (nI_1 (8 * a + s)) dL_acts_242 (by repeat (first | exact og_set_eq _ _ _ | assumption | refine (og_set_ne _ _ (by first | assumption | omega)).trans ?_)) (by omega) (by omega) (by first | decide | assumption | omega) ?_
      refine og_aload_n (pc := 243) dL_acts_243 rfl ?_
      refine og_iload (pc := 244) dL_acts_244 rfl ?_
      refine og_iconst (pc := 246) (v := 2) dL_acts_246 (by decide) ?_
      refine og_iadd (pc := 247) dL_acts_247 ?_
      refine og_ialdN (pc := 248) (j := (8 * a + s + 2)) (show nI (8 * a + s) + 2 = nI (8 * a + s + 2) from nI_add _ 2) dL_acts_248 (by repeat (first | exact og_set_eq _ _ _ | assumption | refine (og_set_ne _ _ (by first | assumption | omega)).trans ?_)) (by omega) (by omega) (by first | decide | assumption | omega) ?_
      refine og_aload_n (pc := 249) dL_acts_249 rfl ?_
      refine og_iload (pc := 250) dL_acts_250 rfl ?_
      refine og_iconst (pc := 252) (v := 3) dL_acts_252 (by decide) ?_
      refine og_iadd (pc := 253) dL_acts_253 ?_
      refine og_ialdN (pc := 254) (j := (8 * a + s + 3)) (show nI (8 * a + s) + 3 = nI (8 * a + s + 3) from nI_add _ 3) dL_acts_254 (by repeat (first | exact og_set_eq _ _ _ | assumption | refine (og_set_ne _ _ (by first | assumption | omega)).trans ?_)) (by omega) (by omega) (by first | decide | assumption | omega) ?_
      rw [show y_r4 R v (8 * a + s) 4 (8 * a + s) = y_y4 v 0 from (if_pos (by omega)).trans (by rw [Nat.sub_self])]
      rw [show y_r4 R v (8 * a + s) 4 (8 * a + s + 1) = y_y4 v 1 from (if_pos (by omega)).trans (by rw [show 8 * a + s + 1 - (8 * a + s) = 1 by omega])]
      rw [show y_r4 R v (8 * a + s) 4 (8 * a + s + 2) = y_y4 v 2 from (if_pos (by omega)).trans (by rw [show 8 * a + s + 2 - (8 * a + s) = 2 by omega])]
      rw [show y_r4 R v (8 * a + s) 4 (8 * a + s + 3) = y_y4 v 3 from (if_pos (by omega)).trans (by rw [show 8 * a + s + 3 - (8 * a + s) = 3 by omega])]
      refine og_callSH (pc := 255) (As := [.ref 3, .int (nI a), .int u, .int (y_y4 v 0), .int (y_y4 v 1), .int (y_y4 v 2), .int (y_y4 v 3)]) (rest := []) (l_fours (E := E) (d := d) W2.1 a8 (y_y4h v 0) (y_y4h v 1) (y_y4h v 2) (y_y4h v 3)) YH_L_fours K_L_112 dL_acts_255 rfl rfl (Nat.le_of_ble_eq_true rfl) (by omega) (by omega) (by omega) (fun v9 n3 h3 z9 => ?_)
      obtain ⟨rfl, w3⟩ := z9
      rw [e4] at w3 ⊢
      have W3 := W2.call w3
      have n3n := w3.nn.2
      have c3 := hcp.regs (R1 := y_r4 R v (8 * a + s) 4) (r := a) (f := q_four4 (d_R D a) s (y_y4 v 0) (y_y4 v 1) (y_y4 v 2) (y_y4 v 3)) (fun i k hi hk q => if_neg (by omega)) (y_four hcp a8 hs)
      refine og_aload_n (pc := 258) dL_acts_258 rfl ?_
      refine og_iload (pc := 259) dL_acts_259 rfl ?_
      refine og_callS (pc := 261) (As := [.ref 103, .int (nI a)]) (rest := [.long (q_inner (q_four4 (d_R D a) s (y_y4 v 0) (y_y4 v 1) (y_y4 v 2) (y_y4 v 3)) (q_four4 (d_R D a) s (y_y4 v 0) (y_y4 v 1) (y_y4 v 2) (y_y4 v 3)) 8)]) (l_row (E := E) (d := d) W3 a8) Y_L_row S_L_row K_L_116 dL_acts_261 rfl rfl (Nat.le_of_ble_eq_true rfl) (by omega) (by omega) (by omega) (fun _ _ _ z => z) (fun v9 n4 h4 z9 => ?_)
      obtain ⟨rfl, rfl, W4, k4, c4⟩ := z9
      refine og_callS (pc := 264) (As := [.ref n3]) (rest := [.long (q_inner (q_four4 (d_R D a) s (y_y4 v 0) (y_y4 v 1) (y_y4 v 2) (y_y4 v 3)) (q_four4 (d_R D a) s (y_y4 v 0) (y_y4 v 1) (y_y4 v 2) (y_y4 v 3)) 8)]) (c_L_square E d _ n3 h4 _ c4 (by omega)) Y_L_square S_L_square K_L_43 dL_acts_264 rfl rfl (Nat.le_of_ble_eq_true rfl) (by omega) (by omega) (by omega) (fun _ _ _ z => z) (fun v9 n9 h9 z9 => ?_)
      obtain ⟨rfl, e8, e9⟩ := z9
      rw [e8, e9, q_inn (f := y_row (y_r4 R v (8 * a + s) 4) a) (g := q_four4 (d_R D a) s (y_y4 v 0) (y_y4 v 1) (y_y4 v 2) (y_y4 v 3)) 8 (fun j hj => by
        have t := y_row_e c3 a8 j hj
        rw [t]
        show q_upR (d_st (q_save D)).1 a _ a j = _
        unfold q_upR
        rw [if_pos rfl])]
      refine og_lcmp (pc := 267) dL_acts_267 ?_
      refine og_if_ne (pc := 268) (tgt := 275) dL_acts_268 (by decide) (fun q => absurd ((og_cmp0 _ _).mpr rfl) q) (fun _ => ?_)
      refine og_iconst (pc := 271) (v := 1) dL_acts_271 (by decide) ?_
      refine og_goto (pc := 272) (tgt := 276) dL_acts_272 (by decide) ?_
      exact og_zret (pc := 276) hr rfl dL_acts_276 (by omega) (by omega) ⟨rfl, _, _, _, W4.l c3⟩
    refine og_bipush (pc := 210) (v := 8) dL_acts_210 (by decide) ?_
    refine og_iload (pc := 212) dL_acts_212 rfl ?_
    refine og_imul (pc := 214) dL_acts_214 ?_
    refine og_iload (pc := 215) dL_acts_215 rfl ?_
    rcases hus with ⟨q1, q2⟩ | ⟨q1, q2⟩
    · refine og_if_eq (pc := 217) (tgt := 224) dL_acts_217 (by decide) (fun _ => ?_) (fun q => absurd q1 q)
      refine og_iconst (pc := 224) (v := 0) dL_acts_224 (by decide) ?_
      rw [show (0 : Int32) = nI s by rw [q2]; rfl]
      refine og_iadd (pc := 225) dL_acts_225 ?_
      rw [i8]
      exact at226
    · refine og_if_eq (pc := 217) (tgt := 224) dL_acts_217 (by decide) (fun q => absurd q q1) (fun _ => ?_)
      refine og_iconst (pc := 220) (v := 4) dL_acts_220 (by decide) ?_
      refine og_goto (pc := 221) (tgt := 225) dL_acts_221 (by decide) ?_
      rw [show (4 : Int32) = nI s by rw [q2]; rfl]
      refine og_iadd (pc := 225) dL_acts_225 ?_
      rw [i8]
      exact at226
  · refine og_iload (pc := 163) dL_acts_163 rfl ?_
    refine og_iconst (pc := 165) (v := 4) dL_acts_165 (by decide) ?_
    refine og_geN (pc := 166) (tgt := 210) (i := i) (N := 4) dL_acts_166 (by decide) rfl rfl (by omega) (by omega) (fun c_166 => ?_) (fun c_166 => ?_)
    · omega
    have at185 : og_G E RL cL_acts (d + 7) 300 2500 15 X (y_Qa E L xs X) 0 0 n (og_set h 103 (rowI 64 (y_r4 R v (8 * a + s) i))) 185 (y_la x v w a b r [some (.int u), some (.int (nI i)), none, none, none]) [.int (nI s), .int (8 * nI a), .ref 103] := by
      refine og_iadd (pc := 185) dL_acts_185 ?_
      refine og_iload (pc := 186) dL_acts_186 rfl ?_
      refine og_iadd (pc := 188) dL_acts_188 ?_
      refine og_iload (pc := 189) dL_acts_189 rfl ?_
      refine og_iload (pc := 191) dL_acts_191 rfl ?_
      refine og_bipush (pc := 193) (v := 6) dL_acts_193 (by decide) ?_
      refine og_iadd (pc := 195) dL_acts_195 ?_
      refine og_ishr (pc := 196) dL_acts_196 ?_
      refine og_bipush (pc := 197) (v := 15) dL_acts_197 (by decide) ?_
      refine og_iand (pc := 199) dL_acts_199 ?_
      refine og_bipush (pc := 200) (v := 7) dL_acts_200 (by decide) ?_
      refine og_isub (pc := 202) dL_acts_202 ?_
      refine og_iastN (pc := 203) (j := 8 * a + s + i) (by rw [i8, nI_add]) dL_acts_203 (og_set_eq _ _ _) (by omega) (by omega) (by decide) ?_
      refine og_iinc_11 (pc := 204) dL_acts_204 (og_inc i) rfl ?_
      refine og_goto (pc := 207) (tgt := 163) dL_acts_207 (by decide) ?_
      rw [og_set_set]
      refine og_heq (og_set h 103 (rowI 64 (y_r4 R v (8 * a + s) (i + 1)))) (by rw [← y_r4_s]; rfl) ?_
      exact ih
    refine og_aload_n (pc := 169) dL_acts_169 rfl ?_
    refine og_bipush (pc := 170) (v := 8) dL_acts_170 (by decide) ?_
    refine og_iload (pc := 172) dL_acts_172 rfl ?_
    refine og_imul (pc := 174) dL_acts_174 ?_
    refine og_iload (pc := 175) dL_acts_175 rfl ?_
    rcases hus with ⟨q1, q2⟩ | ⟨q1, q2⟩
    · refine og_if_eq (pc := 177) (tgt := 184) dL_acts_177 (by decide) (fun _ => ?_) (fun q => absurd q1 q)
      refine og_iconst (pc := 184) (v := 0) dL_acts_184 (by decide) ?_
      rw [show (0 : Int32) = nI s by rw [q2]; rfl]
      exact at185
    · refine og_if_eq (pc := 177) (tgt := 184) dL_acts_177 (by decide) (fun q => absurd q q1) (fun _ => ?_)
      refine og_iconst (pc := 180) (v := 4) dL_acts_180 (by decide) ?_
      refine og_goto (pc := 181) (tgt := 185) dL_acts_181 (by decide) ?_
      rw [show (4 : Int32) = nI s by rw [q2]; rfl]
      exact at185
theorem y_ac2 {E : og_E} {X : og_X} {d n L v w a b r : Nat} {xs : Nat → Int32} {x : Int32} {h : og_H} {D : q_D} {R g : Nat → Int32} (hr : og_ret X = some .boolean) (W : y_wl L xs n h D R g) (hv : v < 10000000) (a8 : a < 8) (b8 : b < 8) (r8 : r < 8) : og_G E RL cL_acts (d + 7) 300 2500 15 X (y_Qa E L xs X) 0 0 n h 145 (y_la x v w a b r [none, none, none, none, none]) [] := by
  have e2 : nI b - nI b / 2 * 2 = nI (b % 2) := nI_mod (b := 2) (by omega) (by omega) (by omega)
  refine og_iload (pc := 145) dL_acts_145 rfl ?_
  refine og_iconst (pc := 147) (v := 2) dL_acts_147 (by decide) ?_
  refine og_irem (pc := 148) dL_acts_148 (by decide) ?_
  refine og_iconst (pc := 149) (v := 1) dL_acts_149 (by decide) ?_
  rw [e2]
  refine og_icmp_ne (pc := 150) (tgt := 157) dL_acts_150 (by decide) (fun q => ?_) (fun q => ?_)
  · refine og_iconst (pc := 157) (v := 0) dL_acts_157 (by decide) ?_
    refine og_istore_10 (pc := 158) dL_acts_158 rfl ?_
    exact y_ac2u hr W hv a8 b8 r8 (u := 0) (s := 0) (Or.inl ⟨rfl, rfl⟩)
  · refine og_iconst (pc := 153) (v := 1) dL_acts_153 (by decide) ?_
    refine og_goto (pc := 154) (tgt := 158) dL_acts_154 (by decide) ?_
    refine og_istore_10 (pc := 158) dL_acts_158 rfl ?_
    exact y_ac2u hr W hv a8 b8 r8 (u := 1) (s := 4) (Or.inr ⟨by decide, rfl⟩)
theorem y_ac3 {E : og_E} {X : og_X} {d n L v w a b r : Nat} {xs : Nat → Int32} {x : Int32} {h : og_H} {D : q_D} {R g : Nat → Int32} (hr : og_ret X = some .boolean) (W : y_wl L xs n h D R g) (hv : v < 10000000) (a8 : a < 8) (b8 : b < 8) (r8 : r < 8) : og_G E RL cL_acts (d + 7) 300 2500 15 X (y_Qa E L xs X) 0 0 n h 284 (y_la x v w a b r [none, none, none, none, none]) [] := by
  have hcp := W.2.2.2.2.2
  have f0 := W.2.2.1
  have h104 := W.nn
  refine og_aload_n (pc := 284) dL_acts_284 rfl ?_
  refine og_iconst (pc := 285) (v := 0) dL_acts_285 (by decide) ?_
  refine og_ialdN (pc := 286) (j := 0) rfl dL_acts_286 (by repeat (first | exact og_set_eq _ _ _ | assumption | refine (og_set_ne _ _ (by first | assumption | omega)).trans ?_)) (by omega) (by omega) (by first | decide | assumption | omega) ?_
  refine og_istore_10 (pc := 287) dL_acts_287 rfl ?_
  refine og_aload_n (pc := 289) dL_acts_289 rfl ?_
  refine og_iconst (pc := 290) (v := 0) dL_acts_290 (by decide) ?_
  refine og_iload (pc := 291) dL_acts_291 rfl ?_
  refine og_iastN (pc := 293) (j := 0) rfl dL_acts_293 (by repeat (first | exact og_set_eq _ _ _ | assumption | refine (og_set_ne _ _ (by first | assumption | omega)).trans ?_)) (by omega) (by omega) (by first | decide | assumption | omega) ?_
  have W2 := W.m.wg (upd g 0 (nI a))
  generalize og_set h 102 (rowI 3 (upd g 0 (nI a))) = h2 at W2 ⊢
  refine og_aload_n (pc := 294) dL_acts_294 rfl ?_
  refine og_iload (pc := 295) dL_acts_295 rfl ?_
  refine og_callSH (pc := 297) (As := [.ref 3, .int (nI a)]) (rest := []) (l_ordered (E := E) (d := d) W2.1 a8) YH_L_ordered K_L_120 dL_acts_297 rfl rfl (Nat.le_of_ble_eq_true rfl) (by omega) (by omega) (by omega) (fun v9 n3 h3 z9 => ?_)
  obtain ⟨rfl, w3⟩ := z9
  rw [← hcp.2.1]
  refine og_iload (pc := 300) dL_acts_300 rfl ?_
  refine og_icmp_ne (pc := 302) (tgt := 309) dL_acts_302 (by decide) (fun q => absurd rfl q) (fun _ => ?_)
  refine og_iconst (pc := 305) (v := 1) dL_acts_305 (by decide) ?_
  refine og_goto (pc := 306) (tgt := 310) dL_acts_306 (by decide) ?_
  refine og_zret (pc := 310) hr rfl dL_acts_310 (by omega) (by omega) ⟨rfl, _, _, _, (W2.call w3).l ⟨hcp.1, if_pos rfl, ?_, ?_⟩⟩
  · exact (if_neg (by decide)).trans hcp.2.2.1
  · exact (if_neg (by decide)).trans hcp.2.2.2
def y_ng (R : Nat → Int32) (a i : Nat) : Nat → Int32 := fun j => if 8 * a + 1 ≤ j ∧ j < 8 * a + i then -R j else R j
theorem y_ng_1 (R : Nat → Int32) (a : Nat) : y_ng R a 1 = R := by
  funext j
  exact if_neg (by omega)
theorem y_ng_s (R : Nat → Int32) (a i : Nat) (hi : 1 ≤ i) : upd (y_ng R a i) (8 * a + i) (-y_ng R a i (8 * a + i)) = y_ng R a (i + 1) := by
  funext j
  unfold upd y_ng
  by_cases e : j = 8 * a + i
  · rw [if_pos e, if_neg (by omega), if_pos (by omega), e]
  · rw [if_neg e]
    by_cases e2 : 8 * a + 1 ≤ j ∧ j < 8 * a + i
    · rw [if_pos e2, if_pos (by omega)]
    · rw [if_neg e2, if_neg (by omega)]
theorem y_ac7 {E : og_E} {X : og_X} {d n L v w a b r : Nat} {xs : Nat → Int32} {x : Int32} {h : og_H} {D : q_D} {R g : Nat → Int32} (hr : og_ret X = some .boolean) (W : y_wl L xs n h D R g) (hv : v < 10000000) (a8 : a < 8) (b8 : b < 8) (r8 : r < 8) : og_G E RL cL_acts (d + 7) 300 2500 15 X (y_Qa E L xs X) 0 0 n h 690 (y_la x v w a b r [none, none, none, none, none]) [] := by
  have hcp := W.2.2.2.2.2
  have h104 := W.nn
  refine og_iconst (pc := 690) (v := 1) dL_acts_690 (by decide) ?_
  refine og_istore_10 (pc := 691) dL_acts_691 rfl ?_
  refine og_heq (og_set h 103 (rowI 64 (y_ng R a 1))) (by rw [y_ng_1, og_set_same W.2.2.2.1]) ?_
  refine og_for (i0 := 1) (N := 8) (by decide) (fun i => og_set h 103 (rowI 64 (y_ng R a i))) (fun i => (y_la x v w a b r [some (.int (nI i)), none, none, none, none])) ?_ (fun i hi1 hi ih => ?_)
  · refine og_iload (pc := 693) dL_acts_693 rfl ?_
    refine og_bipush (pc := 695) (v := 8) dL_acts_695 (by decide) ?_
    refine og_geN (pc := 697) (tgt := 727) (i := 8) (N := 8) dL_acts_697 (by decide) rfl rfl (by omega) (by omega) (fun c_697 => ?_) (fun c_697 => ?_)
    rotate_left
    · omega
    have W2 := W.m.wR (y_ng R a 8)
    generalize og_set h 103 (rowI 64 (y_ng R a 8)) = h2 at W2 ⊢
    refine og_aload_n (pc := 727) dL_acts_727 rfl ?_
    refine og_iload (pc := 728) dL_acts_728 rfl ?_
    refine og_callSH (pc := 730) (As := [.ref 3, .int (nI a)]) (rest := []) (l_conjugates (E := E) (d := d) W2.1 a8) YH_L_conjugates K_L_147 dL_acts_730 rfl rfl (Nat.le_of_ble_eq_true rfl) (by omega) (by omega) (by omega) (fun v9 n3 h3 z9 => ?_)
    obtain ⟨rfl, w3⟩ := z9
    have W3 := W2.call w3
    have r3 := W3.2.2.2.1
    refine og_aload_n (pc := 733) dL_acts_733 rfl ?_
    refine og_bipush (pc := 734) (v := 8) dL_acts_734 (by decide) ?_
    refine og_iload (pc := 736) dL_acts_736 rfl ?_
    refine og_imul (pc := 738) dL_acts_738 ?_
    refine og_ialdN (pc := 739) (j := (8 * a)) (nI_mul 8 a) dL_acts_739 (by repeat (first | exact og_set_eq _ _ _ | assumption | refine (og_set_ne _ _ (by first | assumption | omega)).trans ?_)) (by omega) (by omega) (by first | decide | assumption | omega) ?_
    rw [show y_ng R a 8 (8 * a) = R (8 * a + 0) from if_neg (by omega), (hcp.1 a a8 0 (by omega)).1]
    refine og_icmp_ne (pc := 740) (tgt := 747) dL_acts_740 (by decide) (fun q => absurd rfl q) (fun _ => ?_)
    refine og_iconst (pc := 743) (v := 1) dL_acts_743 (by decide) ?_
    refine og_goto (pc := 744) (tgt := 748) dL_acts_744 (by decide) ?_
    refine og_zret (pc := 748) hr rfl dL_acts_748 (by omega) (by omega) ⟨rfl, _, _, _, W3.l (hcp.regs (fun i k hi hk q => if_neg (by omega)) (fun k hk => ?_))⟩
    obtain ⟨t1, t2, t3⟩ := hcp.1 a a8 k hk
    unfold y_ng q_mirror
    by_cases e : k = 0
    · rw [if_neg (by omega), if_pos e]
      exact ⟨t1, t2, t3⟩
    · rw [if_pos (by omega), if_neg e, t1, Int64.toInt32_neg, zneg (by omega)]
      exact ⟨rfl, by omega, by omega⟩
  · refine og_iload (pc := 693) dL_acts_693 rfl ?_
    refine og_bipush (pc := 695) (v := 8) dL_acts_695 (by decide) ?_
    refine og_geN (pc := 697) (tgt := 727) (i := i) (N := 8) dL_acts_697 (by decide) rfl rfl (by omega) (by omega) (fun c_697 => ?_) (fun c_697 => ?_)
    · omega
    refine og_aload_n (pc := 700) dL_acts_700 rfl ?_
    refine og_bipush (pc := 701) (v := 8) dL_acts_701 (by decide) ?_
    refine og_iload (pc := 703) dL_acts_703 rfl ?_
    refine og_imul (pc := 705) dL_acts_705 ?_
    refine og_iload (pc := 706) dL_acts_706 rfl ?_
    refine og_iadd (pc := 708) dL_acts_708 ?_
    refine og_aload_n (pc := 709) dL_acts_709 rfl ?_
    refine og_bipush (pc := 710) (v := 8) dL_acts_710 (by decide) ?_
    refine og_iload (pc := 712) dL_acts_712 rfl ?_
    refine og_imul (pc := 714) dL_acts_714 ?_
    refine og_iload (pc := 715) dL_acts_715 rfl ?_
    refine og_iadd (pc := 717) dL_acts_717 ?_
    refine og_ialdN (pc := 718) (j := (8 * a + i)) (og_i8 a i) dL_acts_718 (by repeat (first | exact og_set_eq _ _ _ | assumption | refine (og_set_ne _ _ (by first | assumption | omega)).trans ?_)) (by omega) (by omega) (by first | decide | assumption | omega) ?_
    refine og_ineg (pc := 719) dL_acts_719 ?_
    refine og_iastN (pc := 720) (j := (8 * a + i)) (og_i8 a i) dL_acts_720 (by repeat (first | exact og_set_eq _ _ _ | assumption | refine (og_set_ne _ _ (by first | assumption | omega)).trans ?_)) (by omega) (by omega) (by first | decide | assumption | omega) ?_
    refine og_iinc_10 (pc := 721) dL_acts_721 (og_inc i) rfl ?_
    refine og_goto (pc := 724) (tgt := 693) dL_acts_724 (by decide) ?_
    rw [og_set_set, y_ng_s R a i hi1]
    exact ih
