/-! ===== the desk: dimension, commuting ===== -/
def q_real (f : Nat → Int64) : Prop := ∀ i, 1 ≤ i → i < 8 → f i = 0
def q_az (f g k : Nat → Int64) : Prop := q_zr (q_asc f g k)
noncomputable def q_dmS (D : q_D) (x : Int32) (r : Nat) : Option Nat → Option Nat → Option (Option Nat × Option Nat)
  | none, b => some (q_if (q_real (d_R D r)) none (some r), b)
  | some i, none => some (some i, q_if (q_par (d_R D i) (d_R D r)) none (some r))
  | some i, some j => q_if (q_az (d_R D i) (d_R D j) (d_R D r)) (some (some i, some j)) none
noncomputable def q_dm (D : q_D) (x : Int32) : Nat → Option (Option Nat × Option Nat)
  | 0 => some (none, none)
  | r + 1 => match q_dm D x r with
    | none => none
    | some q => q_if ((x >>> (nI r &&& 31)) &&& 1 = 0) (some q) (q_dmS D x r q.1 q.2)
def q_dma : Option (Option Nat × Option Nat) → Int32
  | none => 8
  | some (none, _) => 1
  | some (some _, none) => 2
  | some (some _, some _) => 4
def q_oI : Option Nat → Int32
  | none => -1
  | some i => nI i
theorem q_oI_ne {i : Nat} (h : i < 8) : ¬ nI i = -1 := by
  match i, h with
  | 0, _ => decide
  | 1, _ => decide
  | 2, _ => decide
  | 3, _ => decide
  | 4, _ => decide
  | 5, _ => decide
  | 6, _ => decide
  | 7, _ => decide
theorem q_dm_none (D : q_D) (x : Int32) (r k : Nat) (h : q_dm D x r = none) : q_dm D x (r + k) = none := by
  induction k with
  | zero => exact h
  | succ k ih =>
    show (match q_dm D x (r + k) with
      | none => none
      | some q => q_if ((x >>> (nI (r + k) &&& 31)) &&& 1 = 0) (some q) (q_dmS D x (r + k) q.1 q.2)) = none
    rw [ih]
theorem q_dm_s (D : q_D) (x : Int32) (r : Nat) (a b : Option Nat) (h : q_dm D x r = some (a, b)) : q_dm D x (r + 1) = q_if ((x >>> (nI r &&& 31)) &&& 1 = 0) (some (a, b)) (q_dmS D x r a b) := by
  show (match q_dm D x r with
      | none => none
      | some q => q_if ((x >>> (nI r &&& 31)) &&& 1 = 0) (some q) (q_dmS D x r q.1 q.2)) = _
  rw [h]
set_option maxRecDepth 4000 in
theorem c_X7_dimension (E : og_E) (d n : Nat) (h : og_H) (x : Int32) {h0 : og_H} {n0 : Nat} {D : q_D} (w : og_DK h0 n0 n h D) :
    og_M E yX7_dimension (.code yX7_dimension cX7_dimension 5 (some .int)) (d + 3) [.ref 3, .int x] n h 1 6 (fun v n1 h1 => og_DK h0 n0 n1 h1 D ∧ 1 ≤ x ∧ x ≤ 255 ∧ v = some (.int (q_dma (q_dm D x 8)))) (fun En n1 h1 => og_DK h0 n0 n1 h1 D ∧ En = q_ia ∧ ¬ (1 ≤ x ∧ x ≤ 255)) := by
  refine og_start (lv := [some (.ref 3), some (.int x), none, none, none]) (by decide) rfl rfl (Nat.le_of_ble_eq_true rfl) fun X hr hnm htb => ?_
  have bad : ¬ (1 ≤ x ∧ x ≤ 255) → og_G E yX7_dimension.cls cX7_dimension (d + 3) 1 6 5 X (og_Q E (fun v n1 h1 => og_DK h0 n0 n1 h1 D ∧ 1 ≤ x ∧ x ≤ 255 ∧ v = some (.int (q_dma (q_dm D x 8)))) (fun En n1 h1 => og_DK h0 n0 n1 h1 D ∧ En = q_ia ∧ ¬ (1 ≤ x ∧ x ≤ 255)) 1 6 X) 0 0 n h 12 [some (.ref 3), some (.int x), none, none, none] [] := fun hb =>
    og_throw (pc := 12) (text := "no such set of registers") T_iae (by decide +kernel) htb dX7_dimension_12 dX7_dimension_15 dX7_dimension_16 dX7_dimension_18 dX7_dimension_21 (by decide) (by omega) (by omega) (fun n1 hn => ⟨w.more hn, rfl, hb⟩)
  refine og_iload_n (pc := 0) dX7_dimension_0 rfl ?_
  refine og_iconst (pc := 1) (v := 1) dX7_dimension_1 (by decide) ?_
  refine og_icmp_lt (pc := 2) (tgt := 12) dX7_dimension_2 (by decide) (fun c => bad fun q => og_lel q.1 c) (fun c => ?_)
  refine og_iload_n (pc := 5) dX7_dimension_5 rfl ?_
  refine og_sipush (pc := 6) (v := 255) dX7_dimension_6 (by decide) ?_
  refine og_icmp_le (pc := 9) (tgt := 22) dX7_dimension_9 (by decide) (fun c2 => ?_) (fun c2 => bad fun q => c2 q.2)
  have hx1 := og_nlt c
  refine og_iconst (pc := 22) (v := (-1)) dX7_dimension_22 (by decide) ?_
  refine og_istore_n_2 (pc := 23) dX7_dimension_23 rfl ?_
  refine og_iconst (pc := 24) (v := (-1)) dX7_dimension_24 (by decide) ?_
  refine og_istore_n_3 (pc := 25) dX7_dimension_25 rfl ?_
  refine og_iconst (pc := 26) (v := 0) dX7_dimension_26 (by decide) ?_
  refine og_istore_4 (pc := 27) dX7_dimension_27 rfl ?_
  have loop : ∀ k r : Nat, r + k = 8 → ∀ (a b : Option Nat) (h2 : og_H), og_DK h0 n0 n h2 D → q_dm D x r = some (a, b) → (∀ i, a = some i → i < 8) → (∀ j, b = some j → j < 8) → og_G E yX7_dimension.cls cX7_dimension (d + 3) 1 6 5 X (og_Q E (fun v n1 h1 => og_DK h0 n0 n1 h1 D ∧ 1 ≤ x ∧ x ≤ 255 ∧ v = some (.int (q_dma (q_dm D x 8)))) (fun En n1 h1 => og_DK h0 n0 n1 h1 D ∧ En = q_ia ∧ ¬ (1 ≤ x ∧ x ≤ 255)) 1 6 X) 0 0 n h2 29 [some (.ref 3), some (.int x), some (.int (q_oI a)), some (.int (q_oI b)), some (.int (nI r))] [] := by
    intro k
    induction k with
    | zero =>
      intro r hr8 a b h2 w2 hq ha hb
      have e8 : r = 8 := by omega
      subst e8
      refine og_iload (pc := 29) dX7_dimension_29 rfl ?_
      refine og_bipush (pc := 31) (v := 8) dX7_dimension_31 (by decide) ?_
      refine og_geN (pc := 33) (tgt := 139) (i := 8) (N := 8) dX7_dimension_33 (by decide) rfl rfl (by omega) (by omega) (fun c_33 => ?_) (fun c_33 => ?_)
      · refine og_iload_n (pc := 139) dX7_dimension_139 rfl ?_
        refine og_iconst (pc := 140) (v := (-1)) dX7_dimension_140 (by decide) ?_
        match a, ha, hq with
        | none, ha, hq =>
          refine og_icmp_ne (pc := 141) (tgt := 146) dX7_dimension_141 (by decide) (fun c => absurd rfl c) (fun _ => ?_)
          refine og_iconst (pc := 144) (v := 1) dX7_dimension_144 (by decide) ?_
          exact og_iret (pc := 145) hr dX7_dimension_145 (by omega) (by omega) ⟨w2, hx1, c2, by rw [hq]; rfl⟩
        | some i, ha, hq =>
          refine og_icmp_ne (pc := 141) (tgt := 146) dX7_dimension_141 (by decide) (fun _ => ?_) (fun c => absurd c (q_oI_ne (ha i rfl)))
          refine og_iload_n (pc := 146) dX7_dimension_146 rfl ?_
          refine og_iconst (pc := 147) (v := (-1)) dX7_dimension_147 (by decide) ?_
          match b, hb, hq with
          | none, hb, hq =>
            refine og_icmp_ne (pc := 148) (tgt := 155) dX7_dimension_148 (by decide) (fun c => absurd rfl c) (fun _ => ?_)
            refine og_iconst (pc := 151) (v := 2) dX7_dimension_151 (by decide) ?_
            refine og_goto (pc := 152) (tgt := 156) dX7_dimension_152 (by decide) ?_
            exact og_iret (pc := 156) hr dX7_dimension_156 (by omega) (by omega) ⟨w2, hx1, c2, by rw [hq]; rfl⟩
          | some j, hb, hq =>
            refine og_icmp_ne (pc := 148) (tgt := 155) dX7_dimension_148 (by decide) (fun _ => ?_) (fun c => absurd c (q_oI_ne (hb j rfl)))
            refine og_iconst (pc := 155) (v := 4) dX7_dimension_155 (by decide) ?_
            exact og_iret (pc := 156) hr dX7_dimension_156 (by omega) (by omega) ⟨w2, hx1, c2, by rw [hq]; rfl⟩
      · omega
    | succ k ih =>
      intro r hrk a b h2 w2 hq ha hb
      have hr8 : r < 8 := by omega
      have hs := q_dm_s D x r a b hq
      have e3 := w2.d3
      have e4 := w2.e4
      have e5 := w2.e5
      have back : ∀ (a2 b2 : Option Nat) (h3 : og_H), og_DK h0 n0 n h3 D → q_dm D x (r + 1) = some (a2, b2) → (∀ i, a2 = some i → i < 8) → (∀ j, b2 = some j → j < 8) → og_G E yX7_dimension.cls cX7_dimension (d + 3) 1 6 5 X (og_Q E (fun v n1 h1 => og_DK h0 n0 n1 h1 D ∧ 1 ≤ x ∧ x ≤ 255 ∧ v = some (.int (q_dma (q_dm D x 8)))) (fun En n1 h1 => og_DK h0 n0 n1 h1 D ∧ En = q_ia ∧ ¬ (1 ≤ x ∧ x ≤ 255)) 1 6 X) 0 0 n h3 133 [some (.ref 3), some (.int x), some (.int (q_oI a2)), some (.int (q_oI b2)), some (.int (nI r))] [] := by
        intro a2 b2 h3 w3 hq3 ha2 hb2
        refine og_iinc_4 (pc := 133) dX7_dimension_133 (og_inc r) rfl ?_
        refine og_goto (pc := 136) (tgt := 29) dX7_dimension_136 (by decide) ?_
        exact ih (r + 1) (by omega) a2 b2 h3 w3 hq3 ha2 hb2
      refine og_iload (pc := 29) dX7_dimension_29 rfl ?_
      refine og_bipush (pc := 31) (v := 8) dX7_dimension_31 (by decide) ?_
      refine og_geN (pc := 33) (tgt := 139) (i := r) (N := 8) dX7_dimension_33 (by decide) rfl rfl (by omega) (by omega) (fun c_33 => ?_) (fun c_33 => ?_)
      · omega
      refine og_iload_n (pc := 36) dX7_dimension_36 rfl ?_
      refine og_iload (pc := 37) dX7_dimension_37 rfl ?_
      refine og_ishr (pc := 39) dX7_dimension_39 ?_
      refine og_iconst (pc := 40) (v := 1) dX7_dimension_40 (by decide) ?_
      refine og_iand (pc := 41) dX7_dimension_41 ?_
      refine og_if_ne (pc := 42) (tgt := 48) dX7_dimension_42 (by decide) (fun cb => ?_) (fun cb => ?_)
      · rw [q_if_f _ _ cb] at hs
        refine og_iload_n (pc := 48) dX7_dimension_48 rfl ?_
        refine og_iconst (pc := 49) (v := (-1)) dX7_dimension_49 (by decide) ?_
        match a, ha, hs with
        | none, ha, hs =>
          refine og_icmp_ne (pc := 50) (tgt := 79) dX7_dimension_50 (by decide) (fun c => absurd rfl c) (fun _ => ?_)
          refine og_aload_n (pc := 53) dX7_dimension_53 rfl ?_
          refine og_get (pc := 54) F_X7_10 dX7_dimension_54 (by repeat (first | exact og_set_eq _ _ _ | assumption | refine (og_set_ne _ _ (by first | assumption | omega)).trans ?_)) (by omega) rfl ?_
          refine og_get (pc := 57) F_X7_78 dX7_dimension_57 (by repeat (first | exact og_set_eq _ _ _ | assumption | refine (og_set_ne _ _ (by first | assumption | omega)).trans ?_)) (by omega) rfl ?_
          refine og_iload (pc := 60) dX7_dimension_60 rfl ?_
          refine og_aaldN (pc := 62) rfl dX7_dimension_62 (by repeat (first | exact og_set_eq _ _ _ | assumption | refine (og_set_ne _ _ (by first | assumption | omega)).trans ?_)) (by omega) (by decide) (by decide) (by omega) (by first | decide | assumption | omega) (q_g8 hr8) ?_
          refine og_callS (pc := 63) (As := [.ref (4 + 2 + r)]) (rest := []) (c_X3_isReal E d n (4 + 2 + r) h2 _ (w2.r hr8) (by omega)) Y_X3_isReal S_X3_isReal K_X7_197 dX7_dimension_63 rfl rfl (Nat.le_of_ble_eq_true rfl) (by omega) (by omega) (by omega) (fun _ _ _ z => z) (fun v n1 h1 z => ?_)
          obtain ⟨hn, hh, z⟩ := z
          subst hn hh
          rcases z with ⟨rfl, z⟩ | ⟨rfl, i9, z1, z2, z3⟩
          · refine og_if_eq (pc := 66) (tgt := 73) dX7_dimension_66 (by decide) (fun c => absurd c (by decide)) (fun _ => ?_)
            refine og_iconst (pc := 69) (v := (-1)) dX7_dimension_69 (by decide) ?_
            refine og_goto (pc := 70) (tgt := 75) dX7_dimension_70 (by decide) ?_
            refine og_istore_n_2 (pc := 75) dX7_dimension_75 rfl ?_
            refine og_goto (pc := 76) (tgt := 133) dX7_dimension_76 (by decide) ?_
            refine back none b _ w2 ?_ (fun i q => by cases q) hb
            rw [hs, q_dmS, q_if_t _ _ (show q_real (d_R D r) from z)]
          · refine og_if_eq (pc := 66) (tgt := 73) dX7_dimension_66 (by decide) (fun _ => ?_) (fun c => absurd rfl c)
            refine og_iload (pc := 73) dX7_dimension_73 rfl ?_
            refine og_istore_n_2 (pc := 75) dX7_dimension_75 rfl ?_
            refine og_goto (pc := 76) (tgt := 133) dX7_dimension_76 (by decide) ?_
            refine back (some r) b _ w2 ?_ (fun i q => by cases q; exact hr8) hb
            rw [hs, q_dmS, q_if_f _ _ (fun q => z3 (q i9 z1 z2))]
        | some i, ha, hs =>
          have hi8 := ha i rfl
          refine og_icmp_ne (pc := 50) (tgt := 79) dX7_dimension_50 (by decide) (fun _ => ?_) (fun c => absurd c (q_oI_ne hi8))
          refine og_iload_n (pc := 79) dX7_dimension_79 rfl ?_
          refine og_iconst (pc := 80) (v := (-1)) dX7_dimension_80 (by decide) ?_
          match b, hb, hs with
          | none, hb, hs =>
            refine og_icmp_ne (pc := 81) (tgt := 119) dX7_dimension_81 (by decide) (fun c => absurd rfl c) (fun _ => ?_)
            refine og_aload_n (pc := 84) dX7_dimension_84 rfl ?_
            refine og_get (pc := 85) F_X7_10 dX7_dimension_85 (by repeat (first | exact og_set_eq _ _ _ | assumption | refine (og_set_ne _ _ (by first | assumption | omega)).trans ?_)) (by omega) rfl ?_
            refine og_get (pc := 88) F_X7_78 dX7_dimension_88 (by repeat (first | exact og_set_eq _ _ _ | assumption | refine (og_set_ne _ _ (by first | assumption | omega)).trans ?_)) (by omega) rfl ?_
            refine og_iload_n (pc := 91) dX7_dimension_91 rfl ?_
            refine og_aaldN (pc := 92) rfl dX7_dimension_92 (by repeat (first | exact og_set_eq _ _ _ | assumption | refine (og_set_ne _ _ (by first | assumption | omega)).trans ?_)) (by omega) (by decide) (by decide) (by omega) (by first | decide | assumption | omega) (q_g8 hi8) ?_
            refine og_aload_n (pc := 93) dX7_dimension_93 rfl ?_
            refine og_get (pc := 94) F_X7_10 dX7_dimension_94 (by repeat (first | exact og_set_eq _ _ _ | assumption | refine (og_set_ne _ _ (by first | assumption | omega)).trans ?_)) (by omega) rfl ?_
            refine og_get (pc := 97) F_X7_78 dX7_dimension_97 (by repeat (first | exact og_set_eq _ _ _ | assumption | refine (og_set_ne _ _ (by first | assumption | omega)).trans ?_)) (by omega) rfl ?_
            refine og_iload (pc := 100) dX7_dimension_100 rfl ?_
            refine og_aaldN (pc := 102) rfl dX7_dimension_102 (by repeat (first | exact og_set_eq _ _ _ | assumption | refine (og_set_ne _ _ (by first | assumption | omega)).trans ?_)) (by omega) (by decide) (by decide) (by omega) (by first | decide | assumption | omega) (q_g8 hr8) ?_
            refine og_callS (pc := 103) (As := [.ref (4 + 2 + i), .ref (4 + 2 + r)]) (rest := []) (c_X3_parallel E d n (4 + 2 + i) (4 + 2 + r) h2 _ _ (w2.r hi8) (w2.r hr8) (by omega) (by omega)) Y_X3_parallel S_X3_parallel K_X7_201 dX7_dimension_103 rfl rfl (Nat.le_of_ble_eq_true rfl) (by omega) (by omega) (by omega) (fun _ _ _ z => z) (fun v n1 h1 z => ?_)
            obtain ⟨hn, hh, z⟩ := z
            subst hn hh
            rcases z with ⟨rfl, z⟩ | ⟨rfl, i2, j2, z1, z2, z3, z4⟩
            · refine og_if_eq (pc := 106) (tgt := 113) dX7_dimension_106 (by decide) (fun c => absurd c (by decide)) (fun _ => ?_)
              refine og_iconst (pc := 109) (v := (-1)) dX7_dimension_109 (by decide) ?_
              refine og_goto (pc := 110) (tgt := 115) dX7_dimension_110 (by decide) ?_
              refine og_istore_n_3 (pc := 115) dX7_dimension_115 rfl ?_
              refine og_goto (pc := 116) (tgt := 133) dX7_dimension_116 (by decide) ?_
              refine back (some i) none _ w2 ?_ ha (fun i q => by cases q)
              rw [hs, q_dmS, q_if_t _ _ (show q_par (d_R D i) (d_R D r) from z)]
            · refine og_if_eq (pc := 106) (tgt := 113) dX7_dimension_106 (by decide) (fun _ => ?_) (fun c => absurd rfl c)
              refine og_iload (pc := 113) dX7_dimension_113 rfl ?_
              refine og_istore_n_3 (pc := 115) dX7_dimension_115 rfl ?_
              refine og_goto (pc := 116) (tgt := 133) dX7_dimension_116 (by decide) ?_
              refine back (some i) (some r) _ w2 ?_ ha (fun i q => by cases q; exact hr8)
              rw [hs, q_dmS, q_if_f _ _ (fun q => z4 (q i2 j2 z1 z2 z3))]
          | some j, hb, hs =>
            have hj8 := hb j rfl
            refine og_icmp_ne (pc := 81) (tgt := 119) dX7_dimension_81 (by decide) (fun _ => ?_) (fun c => absurd c (q_oI_ne hj8))
            refine og_aload_n (pc := 119) dX7_dimension_119 rfl ?_
            refine og_iload_n (pc := 120) dX7_dimension_120 rfl ?_
            refine og_iload_n (pc := 121) dX7_dimension_121 rfl ?_
            refine og_iload (pc := 122) dX7_dimension_122 rfl ?_
            refine og_callV (pc := 124) (As := [.int (nI i), .int (nI j), .int (nI r)]) (rest := []) (c_X7_associates E d n i j r h2 w2 hi8 hj8 hr8) Y_X7_associates I_X7_associates V_X7_associates e3 (by omega) rfl rfl K_X7_205 dX7_dimension_124 rfl rfl (Nat.le_of_ble_eq_true rfl) (by omega) (by omega) (by omega) (fun _ _ _ z => z) (fun v n1 h1 z => ?_)
            obtain ⟨hn, w3, z⟩ := z
            subst hn
            rcases z with ⟨rfl, z⟩ | ⟨rfl, z⟩
            · refine og_if_ne (pc := 127) (tgt := 133) dX7_dimension_127 (by decide) (fun _ => ?_) (fun c => absurd c (by decide))
              refine back (some i) (some j) _ w3 ?_ ha hb
              rw [hs, q_dmS, q_if_t _ _ (show q_az (d_R D i) (d_R D j) (d_R D r) from z)]
            · refine og_if_ne (pc := 127) (tgt := 133) dX7_dimension_127 (by decide) (fun c => absurd rfl c) (fun _ => ?_)
              refine og_bipush (pc := 130) (v := 8) dX7_dimension_130 (by decide) ?_
              refine og_iret (pc := 132) hr dX7_dimension_132 (by omega) (by omega) ⟨w3, hx1, c2, ?_⟩
              have hnone : q_dm D x (r + 1) = none := by rw [hs, q_dmS, q_if_f _ _ (show ¬ q_az (d_R D i) (d_R D j) (d_R D r) from z)]
              have h8 : q_dm D x 8 = none := by rw [← hrk, show r + (k + 1) = r + 1 + k by omega]; exact q_dm_none D x (r + 1) k hnone
              rw [h8]
              rfl
      · rw [q_if_t _ _ cb] at hs
        refine og_goto (pc := 45) (tgt := 133) dX7_dimension_45 (by decide) ?_
        exact back a b _ w2 hs ha hb
  exact loop 8 0 rfl none none h w rfl (fun i q => by cases q) (fun i q => by cases q)
set_option maxRecDepth 4000 in
theorem c_X7_commuting (E : og_E) (d n : Nat) (h : og_H) (x : Int32) {h0 : og_H} {n0 : Nat} {D : q_D} (w : og_DK h0 n0 n h D) :
    og_M E yX7_commuting (.code yX7_commuting cX7_commuting 6 (some .int)) (d + 5) [.ref 3, .int x] n h 4 256 (fun v n1 h1 => ∃ r f, r < 8 ∧ x = nI r ∧ v = some (.int (nI (q_many (fun k => q_par (q_read (q_uc (d_o D) k)) (d_R D r)) (q_cnt (d_o D))))) ∧ og_DK h0 n0 n1 h1 (d_wUn D f)) (fun En n1 h1 => og_DK h0 n0 n1 h1 D ∧ En = q_io ∧ ¬ q_in8 x) := by
  refine og_start (lv := [some (.ref 3), some (.int x), none, none, none, none]) (by decide) rfl rfl (Nat.le_of_ble_eq_true rfl) fun X hr hnm htb => ?_
  have hc := q_cnt_le (d_o D)
  refine og_iload_n (pc := 0) dX7_commuting_0 rfl ?_
  refine og_callSX (pc := 1) (As := [.int x]) (rest := []) (c_X7_needRegister E d n h x) Y_X7_needRegister S_X7_needRegister K_X7_65 dX7_commuting_1 rfl rfl (Nat.le_of_ble_eq_true rfl) (by omega) (by omega) (by omega) (htb) (by omega) (by omega) (fun En n1 h1 z => ?_) (fun v n1 h1 z => ?_)
  · obtain ⟨rfl, hn, rfl, hb⟩ := z
    exact ⟨w.more hn, rfl, hb⟩
  obtain ⟨rfl, hn, hh, r, hr8, rfl⟩ := z
  subst hn hh
  refine og_aload_n (pc := 4) dX7_commuting_4 rfl ?_
  refine og_callV (pc := 5) (As := []) (rest := []) (c_X7_presentUnits E d n1 h1 w) Y_X7_presentUnits I_X7_presentUnits V_X7_presentUnits w.d3 (by omega) rfl rfl K_X7_105 dX7_commuting_5 rfl rfl (Nat.le_of_ble_eq_true rfl) (by omega) (by omega) (by omega) (fun _ _ _ z => z) (fun v n2 h2 z => ?_)
  obtain ⟨u, f, rfl, hn, w3, hf⟩ := z
  obtain ⟨u1, u2, -, -, -⟩ := w3.un _ _ hf
  have e3 := w3.d3
  have e4 := w3.e4
  refine og_astore_n_2 (pc := 8) dX7_commuting_8 rfl ?_
  refine og_aload_n (pc := 9) dX7_commuting_9 rfl ?_
  refine og_get (pc := 10) F_X7_10 dX7_commuting_10 (by repeat (first | exact og_set_eq _ _ _ | assumption | refine (og_set_ne _ _ (by first | assumption | omega)).trans ?_)) (by omega) rfl ?_
  refine og_get (pc := 13) F_X7_93 dX7_commuting_13 (by repeat (first | exact og_set_eq _ _ _ | assumption | refine (og_set_ne _ _ (by first | assumption | omega)).trans ?_)) (by omega) rfl ?_
  refine og_callS (pc := 16) (As := [.int (nI (d_o D))]) (rest := []) (c_X6_count E d n2 (d_o D) h2 u1) Y_X6_count S_X6_count K_X7_96 dX7_commuting_16 rfl rfl (Nat.le_of_ble_eq_true rfl) (by omega) (by omega) (by omega) (fun _ _ _ z => z) (fun v n3 h3 z => ?_)
  obtain ⟨rfl, hn3, hh⟩ := z
  subst hn3 hh
  refine og_istore_n_3 (pc := 19) dX7_commuting_19 rfl ?_
  refine og_iconst (pc := 20) (v := 0) dX7_commuting_20 (by decide) ?_
  refine og_istore_4 (pc := 21) dX7_commuting_21 rfl ?_
  refine og_iconst (pc := 23) (v := 0) dX7_commuting_23 (by decide) ?_
  refine og_istore_5 (pc := 24) dX7_commuting_24 rfl ?_
  have loop : ∀ k i : Nat, i + k = q_cnt (d_o D) → ∀ (h4 : og_H), og_DK h0 n0 n3 h4 (d_wUn D f) → og_G E yX7_commuting.cls cX7_commuting (d + 5) 4 256 6 X (og_Q E (fun v n9 h9 => ∃ r2 f, r2 < 8 ∧ nI r = nI r2 ∧ v = some (.int (nI (q_many (fun k => q_par (q_read (q_uc (d_o D) k)) (d_R D r2)) (q_cnt (d_o D))))) ∧ og_DK h0 n0 n9 h9 (d_wUn D f)) (fun En n1 h1 => og_DK h0 n0 n1 h1 D ∧ En = q_io ∧ ¬ q_in8 (nI r)) 4 256 X) (0 + 1 + 3 + 0) (0 + 6 + 250 + 0) n3 h4 26 [some (.ref 3), some (.int (nI r)), some (.ref u), some (.int (nI (q_cnt (d_o D)))), some (.int (nI (q_many (fun k => q_par (q_read (q_uc (d_o D) k)) (d_R D r)) i))), some (.int (nI i))] [] := by
    intro k
    induction k with
    | zero =>
      intro i hi h4 w4
      have ei : i = q_cnt (d_o D) := by omega
      rw [ei]
      refine og_iload (pc := 26) dX7_commuting_26 rfl ?_
      refine og_iload_n (pc := 28) dX7_commuting_28 rfl ?_
      refine og_geN (pc := 29) (tgt := 70) (i := (q_cnt (d_o D))) (N := (q_cnt (d_o D))) dX7_commuting_29 (by decide) rfl rfl (by omega) (by omega) (fun c_29 => ?_) (fun c_29 => ?_)
      · refine og_iload (pc := 70) dX7_commuting_70 rfl ?_
        exact og_iret (pc := 72) hr dX7_commuting_72 (by omega) (by omega) ⟨r, f, hr8, rfl, rfl, w4⟩
      · omega
    | succ k ih =>
      intro i hi h4 w4
      obtain ⟨-, -, u3, u4, u5⟩ := w4.un _ _ hf
      have e3 := w4.d3
      obtain ⟨f99, e99⟩ := w4.scr 99 (by unfold q_scr; omega)
      refine og_iload (pc := 26) dX7_commuting_26 rfl ?_
      refine og_iload_n (pc := 28) dX7_commuting_28 rfl ?_
      refine og_geN (pc := 29) (tgt := 70) (i := i) (N := (q_cnt (d_o D))) dX7_commuting_29 (by decide) rfl rfl (by omega) (by omega) (fun c_29 => ?_) (fun c_29 => ?_)
      · omega
      refine og_aload_n (pc := 32) dX7_commuting_32 rfl ?_
      refine og_iload (pc := 33) dX7_commuting_33 rfl ?_
      refine og_aload_n (pc := 35) dX7_commuting_35 rfl ?_
      refine og_get (pc := 36) F_X7_59 dX7_commuting_36 (by repeat (first | exact og_set_eq _ _ _ | assumption | refine (og_set_ne _ _ (by first | assumption | omega)).trans ?_)) (by omega) rfl ?_
      refine og_callV (pc := 39) (As := [.int (nI i), .ref 99]) (rest := []) (c_X6_read E d n3 u (u + 1) (q_cnt (d_o D)) i 99 _ h4 (q_uc (d_o D)) f99 u4 u5 e99 (by omega) (by omega) (by omega) (by omega) (by omega) (by omega) (by omega)) Y_X6_read I_X6_read V_X6_read u4 (by omega) rfl rfl K_X7_109 dX7_commuting_39 rfl rfl (Nat.le_of_ble_eq_true rfl) (by omega) (by omega) (by omega) (fun _ _ _ z => z) (fun v n5 h5 z => ?_)
      obtain ⟨rfl, hn3, hh⟩ := z
      subst hn3 hh
      have w5 := w4.row (q_read (q_uc (d_o D) i)) (show q_scr 99 by unfold q_scr; omega)
      have e3 := w5.d3
      have e4 := w5.e4
      have e5 := w5.e5
      refine og_aload_n (pc := 42) dX7_commuting_42 rfl ?_
      refine og_get (pc := 43) F_X7_59 dX7_commuting_43 (by repeat (first | exact og_set_eq _ _ _ | assumption | refine (og_set_ne _ _ (by first | assumption | omega)).trans ?_)) (by omega) rfl ?_
      refine og_aload_n (pc := 46) dX7_commuting_46 rfl ?_
      refine og_get (pc := 47) F_X7_10 dX7_commuting_47 (by repeat (first | exact og_set_eq _ _ _ | assumption | refine (og_set_ne _ _ (by first | assumption | omega)).trans ?_)) (by omega) rfl ?_
      refine og_get (pc := 50) F_X7_78 dX7_commuting_50 (by repeat (first | exact og_set_eq _ _ _ | assumption | refine (og_set_ne _ _ (by first | assumption | omega)).trans ?_)) (by omega) rfl ?_
      refine og_iload_n (pc := 53) dX7_commuting_53 rfl ?_
      refine og_aaldN (pc := 54) rfl dX7_commuting_54 (by repeat (first | exact og_set_eq _ _ _ | assumption | refine (og_set_ne _ _ (by first | assumption | omega)).trans ?_)) (by omega) (by decide) (by decide) (by omega) (by first | decide | assumption | omega) (q_g8 hr8) ?_
      refine og_callS (pc := 55) (As := [.ref 99, .ref (4 + 2 + r)]) (rest := []) (c_X3_parallel E d n5 99 (4 + 2 + r) _ _ _ (og_set_eq _ _ _) (w5.r hr8) (by omega) (by omega)) Y_X3_parallel S_X3_parallel K_X7_201 dX7_commuting_55 rfl rfl (Nat.le_of_ble_eq_true rfl) (by omega) (by omega) (by omega) (fun _ _ _ z => z) (fun v n6 h6 z => ?_)
      obtain ⟨hn, hh, z⟩ := z
      subst hn hh
      rcases z with ⟨rfl, z⟩ | ⟨rfl, i2, j2, z1, z2, z3, z4⟩
      · refine og_if_eq (pc := 58) (tgt := 64) dX7_commuting_58 (by decide) (fun c => absurd c (by decide)) (fun _ => ?_)
        refine og_iinc_4 (pc := 61) dX7_commuting_61 (og_inc (q_many (fun k => q_par (q_read (q_uc (d_o D) k)) (d_R D r)) i)) rfl ?_
        refine og_iinc_5 (pc := 64) dX7_commuting_64 (og_inc i) rfl ?_
        refine og_goto (pc := 67) (tgt := 26) dX7_commuting_67 (by decide) ?_
        have q := ih (i + 1) (by omega) _ w5
        rw [q_many_t (fun k => q_par (q_read (q_uc (d_o D) k)) (d_R D r)) z] at q
        exact q
      · refine og_if_eq (pc := 58) (tgt := 64) dX7_commuting_58 (by decide) (fun _ => ?_) (fun c => absurd rfl c)
        refine og_iinc_5 (pc := 64) dX7_commuting_64 (og_inc i) rfl ?_
        refine og_goto (pc := 67) (tgt := 26) dX7_commuting_67 (by decide) ?_
        have q := ih (i + 1) (by omega) _ w5
        rw [q_many_f (fun k => q_par (q_read (q_uc (d_o D) k)) (d_R D r)) (fun q => z4 (q i2 j2 z1 z2 z3))] at q
        exact q
  exact loop (q_cnt (d_o D)) 0 (by omega) _ w3
