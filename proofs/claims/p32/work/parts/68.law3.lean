/-! ===== the law: puts, isOne, isIn ===== -/
def y_okp (p x : Int64) : Prop := x - x / p * p = 0 ∧ ¬ 2000 < x / p ∧ ¬ x / p < -2000
def y_pt (R : Nat → Int32) (r : Nat) (f : Nat → Int64) (p : Int64) (i : Nat) : Nat → Int32 := fun j => if 8 * r ≤ j ∧ j < 8 * r + i then (f (j - 8 * r) / p).toInt32 else R j
theorem y_pt_0 (R : Nat → Int32) (r : Nat) (f : Nat → Int64) (p : Int64) : y_pt R r f p 0 = R := by
  funext j
  exact if_neg (by omega)
theorem y_pt_s (R : Nat → Int32) (r : Nat) (f : Nat → Int64) (p : Int64) (i : Nat) : upd (y_pt R r f p i) (8 * r + i) (f i / p).toInt32 = y_pt R r f p (i + 1) := by
  funext j
  unfold upd y_pt
  by_cases e : j = 8 * r + i
  · rw [if_pos e, if_pos (by omega), show j - 8 * r = i by omega]
  · rw [if_neg e]
    by_cases e2 : 8 * r ≤ j ∧ j < 8 * r + i
    · rw [if_pos e2, if_pos (by omega)]
    · rw [if_neg e2, if_neg (by omega)]
theorem c_L_puts (E : og_E) (d n a b r : Nat) (h : og_H) (R : Nat → Int32) (f : Nat → Int64) (p : Int64) (ha : h a = some (rowI 64 R)) (hb : h b = some (rowL f)) (h3a : 3 ≤ a) (h3b : 3 ≤ b) (hab : b ≠ a) (hr8 : r < 8) (hp : ¬ p = 0) :
    og_M E yL_puts (.code yL_puts cL_puts 7 (some .boolean)) d [.ref a, .int (nI r), .ref b, .long p] n h 0 0 (fun v n1 h1 => n1 = n ∧ ((v = some (.int 1) ∧ (∀ j, j < 8 → y_okp p (f j)) ∧ h1 = og_set h a (rowI 64 (y_pt R r f p 8))) ∨ (v = some (.int 0) ∧ ¬ (∀ j, j < 8 → y_okp p (f j)) ∧ h1 = h))) no_x := by
  refine og_start (lv := [some (.ref a), some (.int (nI r)), some (.ref b), some (.long p), none, none, none]) (by decide) rfl rfl (Nat.le_of_ble_eq_true rfl) fun X hr hnm htb => ?_
  refine og_iconst (pc := 0) (v := 1) dL_puts_0 (by decide) ?_
  refine og_istore_5 (pc := 1) dL_puts_1 rfl ?_
  refine og_iconst (pc := 3) (v := 0) dL_puts_3 (by decide) ?_
  refine og_istore_6 (pc := 4) dL_puts_4 rfl ?_
  suffices hh : ∀ k i, i + k = 8 → ∀ b1 : Bool, (b1 = true ↔ ∀ j, j < i → y_okp p (f j)) → og_G E RL cL_puts d 0 0 7 X (og_Q E (fun v n1 h1 => n1 = n ∧ ((v = some (.int 1) ∧ (∀ j, j < 8 → y_okp p (f j)) ∧ h1 = og_set h a (rowI 64 (y_pt R r f p 8))) ∨ (v = some (.int 0) ∧ ¬ (∀ j, j < 8 → y_okp p (f j)) ∧ h1 = h))) no_x 0 0 X) 0 0 n h 6 [some (.ref a), some (.int (nI r)), some (.ref b), some (.long p), none, some (.int (y_z b1)), some (.int (nI i))] [] from
    hh 8 0 (by omega) true ⟨fun _ j hj => absurd hj (by omega), fun _ => rfl⟩
  intro k
  induction k with
  | zero =>
    intro i hi b1 hb1
    obtain rfl : i = 8 := by omega
    refine og_iload (pc := 6) dL_puts_6 rfl ?_
    refine og_bipush (pc := 8) (v := 8) dL_puts_8 (by decide) ?_
    refine og_geN (pc := 10) (tgt := 68) (i := 8) (N := 8) dL_puts_10 (by decide) rfl rfl (by omega) (by omega) (fun c_10 => ?_) (fun c_10 => ?_)
    · refine og_iconst (pc := 68) (v := 0) dL_puts_68 (by decide) ?_
      refine og_istore_6 (pc := 69) dL_puts_69 rfl ?_
      cases b1
      · refine og_iload (pc := 71) dL_puts_71 rfl ?_
        refine og_bipush (pc := 73) (v := 8) dL_puts_73 (by decide) ?_
        refine og_geN (pc := 75) (tgt := 105) (i := 0) (N := 8) dL_puts_75 (by decide) rfl rfl (by omega) (by omega) (fun c_75 => ?_) (fun c_75 => ?_)
        · omega
        refine og_iload (pc := 78) dL_puts_78 rfl ?_
        refine og_if_eq (pc := 80) (tgt := 105) dL_puts_80 (by decide) (fun c => ?_) (fun c => absurd rfl c)
        refine og_iload (pc := 105) dL_puts_105 rfl ?_
        exact og_zret (pc := 107) hr rfl dL_puts_107 (by omega) (by omega) ⟨rfl, Or.inr ⟨rfl, (fun q => (by have := hb1.mpr q; cases this)), rfl⟩⟩
      · have hok := hb1.mp rfl
        refine og_heq (og_set h a (rowI 64 (y_pt R r f p 0))) (by rw [y_pt_0, og_set_same ha]) ?_
        refine og_for (i0 := 0) (N := 8) (by decide) (fun i => og_set h a (rowI 64 (y_pt R r f p i))) (fun i => [some (.ref a), some (.int (nI r)), some (.ref b), some (.long p), none, some (.int 1), some (.int (nI i))]) ?_ (fun i hi1 hi ih => ?_)
        · refine og_iload (pc := 71) dL_puts_71 rfl ?_
          refine og_bipush (pc := 73) (v := 8) dL_puts_73 (by decide) ?_
          refine og_geN (pc := 75) (tgt := 105) (i := 8) (N := 8) dL_puts_75 (by decide) rfl rfl (by omega) (by omega) (fun c_75 => ?_) (fun c_75 => ?_)
          · refine og_iload (pc := 105) dL_puts_105 rfl ?_
            exact og_zret (pc := 107) hr rfl dL_puts_107 (by omega) (by omega) ⟨rfl, Or.inl ⟨rfl, hok, rfl⟩⟩
          · omega
        · refine og_iload (pc := 71) dL_puts_71 rfl ?_
          refine og_bipush (pc := 73) (v := 8) dL_puts_73 (by decide) ?_
          refine og_geN (pc := 75) (tgt := 105) (i := i) (N := 8) dL_puts_75 (by decide) rfl rfl (by omega) (by omega) (fun c_75 => ?_) (fun c_75 => ?_)
          · omega
          refine og_iload (pc := 78) dL_puts_78 rfl ?_
          refine og_if_eq (pc := 80) (tgt := 105) dL_puts_80 (by decide) (fun c => absurd c (by decide)) (fun c => ?_)
          refine og_aload_n (pc := 83) dL_puts_83 rfl ?_
          refine og_bipush (pc := 84) (v := 8) dL_puts_84 (by decide) ?_
          refine og_iload_n (pc := 86) dL_puts_86 rfl ?_
          refine og_imul (pc := 87) dL_puts_87 ?_
          refine og_iload (pc := 88) dL_puts_88 rfl ?_
          refine og_iadd (pc := 90) dL_puts_90 ?_
          refine og_aload_n (pc := 91) dL_puts_91 rfl ?_
          refine og_iload (pc := 92) dL_puts_92 rfl ?_
          refine og_laldN (pc := 94) (j := i) rfl dL_puts_94 (by repeat (first | exact og_set_eq _ _ _ | assumption | refine (og_set_ne _ _ (by first | assumption | omega)).trans ?_)) (by omega) (by omega) (by first | decide | assumption | omega) ?_
          refine og_lload_n (pc := 95) dL_puts_95 rfl ?_
          refine og_ldiv (pc := 96) dL_puts_96 hp ?_
          refine og_l2i (pc := 97) dL_puts_97 rfl ?_
          refine og_iastN (pc := 98) (j := (8 * r + i)) (og_i8 r i) dL_puts_98 (by repeat (first | exact og_set_eq _ _ _ | assumption | refine (og_set_ne _ _ (by first | assumption | omega)).trans ?_)) (by omega) (by omega) (by first | decide | assumption | omega) ?_
          refine og_iinc_6 (pc := 99) dL_puts_99 (og_inc i) rfl ?_
          refine og_goto (pc := 102) (tgt := 71) dL_puts_102 (by decide) ?_
          rw [og_set_set, y_pt_s]
          exact ih
    · omega
  | succ k ih =>
    intro i hi b1 hb1
    have no : (¬ ∀ j, j < i + 1 → y_okp p (f j)) → (false = true ↔ ∀ j, j < i + 1 → y_okp p (f j)) := fun q => ⟨fun z => (by cases z), fun z => absurd z q⟩
    refine og_iload (pc := 6) dL_puts_6 rfl ?_
    refine og_bipush (pc := 8) (v := 8) dL_puts_8 (by decide) ?_
    refine og_geN (pc := 10) (tgt := 68) (i := i) (N := 8) dL_puts_10 (by decide) rfl rfl (by omega) (by omega) (fun c_10 => ?_) (fun c_10 => ?_)
    · omega
    refine og_iload (pc := 13) dL_puts_13 rfl ?_
    refine og_if_eq (pc := 15) (tgt := 59) dL_puts_15 (by decide) (fun c => ?_) (fun c => ?_)
    · have hf := (y_z1 b1).mp c
      subst hf
      refine og_iconst (pc := 59) (v := 0) dL_puts_59 (by decide) ?_
      refine og_istore_5 (pc := 60) dL_puts_60 rfl ?_
      refine og_iinc_6 (pc := 62) dL_puts_62 (og_inc i) rfl ?_
      refine og_goto (pc := 65) (tgt := 6) dL_puts_65 (by decide) ?_
      exact ih (i + 1) (by omega) false (no fun q => (by have := hb1.mpr (fun j hj => q j (by omega)); cases this))
    · have hf : b1 = true := by
        cases b1
        · exact absurd rfl c
        · rfl
      subst hf
      have hpr := hb1.mp rfl
      refine og_aload_n (pc := 18) dL_puts_18 rfl ?_
      refine og_iload (pc := 19) dL_puts_19 rfl ?_
      refine og_laldN (pc := 21) (j := i) rfl dL_puts_21 (by repeat (first | exact og_set_eq _ _ _ | assumption | refine (og_set_ne _ _ (by first | assumption | omega)).trans ?_)) (by omega) (by omega) (by first | decide | assumption | omega) ?_
      refine og_lload_n (pc := 22) dL_puts_22 rfl ?_
      refine og_lrem (pc := 23) dL_puts_23 hp ?_
      refine og_lconst (pc := 24) (v := 0) dL_puts_24 (by decide) ?_
      refine og_lcmp (pc := 25) dL_puts_25 ?_
      refine og_if_ne (pc := 26) (tgt := 59) dL_puts_26 (by decide) (fun c2 => ?_) (fun c2 => ?_)
      · refine og_iconst (pc := 59) (v := 0) dL_puts_59 (by decide) ?_
        refine og_istore_5 (pc := 60) dL_puts_60 rfl ?_
        refine og_iinc_6 (pc := 62) dL_puts_62 (og_inc i) rfl ?_
        refine og_goto (pc := 65) (tgt := 6) dL_puts_65 (by decide) ?_
        exact ih (i + 1) (by omega) false (no fun q => c2 ((og_cmp0 _ _).mpr (q i (by omega)).1))
      · refine og_aload_n (pc := 29) dL_puts_29 rfl ?_
        refine og_iload (pc := 30) dL_puts_30 rfl ?_
        refine og_laldN (pc := 32) (j := i) rfl dL_puts_32 (by repeat (first | exact og_set_eq _ _ _ | assumption | refine (og_set_ne _ _ (by first | assumption | omega)).trans ?_)) (by omega) (by omega) (by first | decide | assumption | omega) ?_
        refine og_lload_n (pc := 33) dL_puts_33 rfl ?_
        refine og_ldiv (pc := 34) dL_puts_34 hp ?_
        refine og_ldc2 (pc := 35) LC_L_11 dL_puts_35 ?_
        refine og_lcmp (pc := 38) dL_puts_38 ?_
        refine og_if_gt (pc := 39) (tgt := 59) dL_puts_39 (by decide) (fun c3 => ?_) (fun c3 => ?_)
        · refine og_iconst (pc := 59) (v := 0) dL_puts_59 (by decide) ?_
          refine og_istore_5 (pc := 60) dL_puts_60 rfl ?_
          refine og_iinc_6 (pc := 62) dL_puts_62 (og_inc i) rfl ?_
          refine og_goto (pc := 65) (tgt := 6) dL_puts_65 (by decide) ?_
          exact ih (i + 1) (by omega) false (no fun q => (q i (by omega)).2.1 ((og_cmpG _ _).mp c3))
        · refine og_aload_n (pc := 42) dL_puts_42 rfl ?_
          refine og_iload (pc := 43) dL_puts_43 rfl ?_
          refine og_laldN (pc := 45) (j := i) rfl dL_puts_45 (by repeat (first | exact og_set_eq _ _ _ | assumption | refine (og_set_ne _ _ (by first | assumption | omega)).trans ?_)) (by omega) (by omega) (by first | decide | assumption | omega) ?_
          refine og_lload_n (pc := 46) dL_puts_46 rfl ?_
          refine og_ldiv (pc := 47) dL_puts_47 hp ?_
          refine og_ldc2 (pc := 48) LC_L_13 dL_puts_48 ?_
          refine og_lcmp (pc := 51) dL_puts_51 ?_
          refine og_if_lt (pc := 52) (tgt := 59) dL_puts_52 (by decide) (fun c4 => ?_) (fun c4 => ?_)
          · refine og_iconst (pc := 59) (v := 0) dL_puts_59 (by decide) ?_
            refine og_istore_5 (pc := 60) dL_puts_60 rfl ?_
            refine og_iinc_6 (pc := 62) dL_puts_62 (og_inc i) rfl ?_
            refine og_goto (pc := 65) (tgt := 6) dL_puts_65 (by decide) ?_
            exact ih (i + 1) (by omega) false (no fun q => (q i (by omega)).2.2 ((og_cmpL _ _).mp c4))
          · refine og_iconst (pc := 55) (v := 1) dL_puts_55 (by decide) ?_
            refine og_goto (pc := 56) (tgt := 60) dL_puts_56 (by decide) ?_
            refine og_istore_5 (pc := 60) dL_puts_60 rfl ?_
            refine og_iinc_6 (pc := 62) dL_puts_62 (og_inc i) rfl ?_
            refine og_goto (pc := 65) (tgt := 6) dL_puts_65 (by decide) ?_
            exact ih (i + 1) (by omega) true ⟨fun _ j hj => by
              by_cases e : j = i
              · rw [e]
                exact ⟨(og_cmp0 _ _).mp c2, fun z => c3 ((og_cmpG _ _).mpr z), fun z => c4 ((og_cmpL _ _).mpr z)⟩
              · exact hpr j (by omega), fun _ => rfl⟩
/-! isOne -/
def y_i1 (w o : Nat) : Int32 := if nI w &&& 1 = (nI w >>> (nI o &&& 31)) &&& 1 then nI w else (nI w ^^^ 1) ^^^ ((1 : Int32) <<< (nI o &&& 31))
def y_i2 (x : Int32) : Int32 := if x &&& 1 = 1 then x else x ^^^ 255
def y_f (i : Nat) : Int32 := ((1 ||| ((1 : Int32) <<< (nI i &&& 31))) ||| ((1 : Int32) <<< ((nI i - nI i / 7 * 7 + 1) &&& 31))) ||| ((1 : Int32) <<< (((nI i + 2) - (nI i + 2) / 7 * 7 + 1) &&& 31))
def y_one (w o : Nat) : Prop := (o = 0 ∧ w = 0) ∨ (o ≠ 0 ∧ (y_i2 (y_i1 w o) = 255 ∨ ∃ j, j < 8 ∧ 1 ≤ j ∧ y_i2 (y_i1 w o) = y_f j))
theorem y_one_k : ∀ o, o < 8 → ∀ w, w < 256 → (((o = 0 ∧ w = 0) ∨ (o ≠ 0 ∧ (y_i2 (y_i1 w o) = 255 ∨ ∃ s, s < 7 ∧ y_i2 (y_i1 w o) = y_f (s + 1)))) ↔ okP o w) := by
  unfold okP
  decide +kernel
theorem y_one_ok (o : Nat) (ho : o < 8) (w : Nat) (hw : w < 256) : y_one w o ↔ okP o w := by
  rw [← y_one_k o ho w hw]
  unfold y_one
  refine or_congr Iff.rfl (and_congr Iff.rfl (or_congr Iff.rfl ⟨fun ⟨j, j1, j2, j3⟩ => ⟨j - 1, by omega, by rw [Nat.sub_add_cancel j2]; exact j3⟩, fun ⟨s, s1, s2⟩ => ⟨s + 1, by omega, by omega, s2⟩⟩))
theorem c_L_isOne (E : og_E) (d n w o : Nat) (h : og_H) (hw : w < 256) (ho : o < 8) :
    og_M E yL_isOne (.code yL_isOne cL_isOne 5 (some .boolean)) d [.int (nI w), .int (nI o)] n h 0 0 (fun v n1 h1 => n1 = n ∧ h1 = h ∧ ((v = some (.int 1) ∧ okP o w) ∨ (v = some (.int 0) ∧ ¬ okP o w))) no_x := by
  refine og_start (lv := [some (.int (nI w)), some (.int (nI o)), none, none, none]) (by decide) rfl rfl (Nat.le_of_ble_eq_true rfl) fun X hr hnm htb => ?_
  rw [← y_one_ok o ho w hw]
  -- the last part, over its := y
  have last : ∀ y : Int32, y = y_i2 (y_i1 w o) → og_G E RL cL_isOne d 0 0 5 X (og_Q E (fun v n1 h1 => n1 = n ∧ h1 = h ∧ ((v = some (.int 1) ∧ y_one w o) ∨ (v = some (.int 0) ∧ ¬ y_one w o))) no_x 0 0 X) 0 0 n h 38 [some (.int (nI w)), some (.int (nI o)), some (.int y), none, none] [] := by
    intro y hy
    have loop : ∀ k i, i + k = 8 → 1 ≤ i → ∀ b1 : Bool, (b1 = true ↔ (y = 255 ∨ ∃ j, j < i ∧ 1 ≤ j ∧ y = y_f j)) → og_G E RL cL_isOne d 0 0 5 X (og_Q E (fun v n1 h1 => n1 = n ∧ h1 = h ∧ ((v = some (.int 1) ∧ y_one w o) ∨ (v = some (.int 0) ∧ ¬ y_one w o))) no_x 0 0 X) 0 0 n h 54 [some (.int (nI w)), some (.int (nI o)), some (.int y), some (.int (y_z b1)), some (.int (nI i))] [] := by
      intro k
      induction k with
      | zero =>
        intro i hi h1 b1 hb1
        obtain rfl : i = 8 := by omega
        refine og_iload (pc := 54) dL_isOne_54 rfl ?_
        refine og_bipush (pc := 56) (v := 8) dL_isOne_56 (by decide) ?_
        refine og_geN (pc := 58) (tgt := 109) (i := 8) (N := 8) dL_isOne_58 (by decide) rfl rfl (by omega) (by omega) (fun c_58 => ?_) (fun c_58 => ?_)
        · refine og_iload_n (pc := 109) dL_isOne_109 rfl ?_
          refine og_if_ne (pc := 110) (tgt := 125) dL_isOne_110 (by decide) (fun c => ?_) (fun c => ?_)
          · have ho0 : o ≠ 0 := fun e => c (by rw [e]; rfl)
            refine og_iload_n (pc := 125) dL_isOne_125 rfl ?_
            cases b1
            · exact og_zret (pc := 126) hr rfl dL_isOne_126 (by omega) (by omega) ⟨rfl, rfl, Or.inr ⟨rfl, fun q => q.elim (fun z => ho0 z.1) (fun z => by
                have := hb1.mpr (by rw [hy]; exact z.2)
                cases this)⟩⟩
            · exact og_zret (pc := 126) hr rfl dL_isOne_126 (by omega) (by omega) ⟨rfl, rfl, Or.inl ⟨rfl, Or.inr ⟨ho0, by
                have := hb1.mp rfl
                rw [hy] at this
                exact this⟩⟩⟩
          · have ho0 : o = 0 := (nI_eq (b := 0) (by omega) (by omega)).mp c
            refine og_iload_n (pc := 113) dL_isOne_113 rfl ?_
            refine og_if_ne (pc := 114) (tgt := 121) dL_isOne_114 (by decide) (fun c2 => ?_) (fun c2 => ?_)
            · refine og_iconst (pc := 121) (v := 0) dL_isOne_121 (by decide) ?_
              refine og_goto (pc := 122) (tgt := 126) dL_isOne_122 (by decide) ?_
              exact og_zret (pc := 126) hr rfl dL_isOne_126 (by omega) (by omega) ⟨rfl, rfl, Or.inr ⟨rfl, fun q => q.elim (fun z => c2 (by rw [z.2]; rfl)) (fun z => z.1 ho0)⟩⟩
            · refine og_iconst (pc := 117) (v := 1) dL_isOne_117 (by decide) ?_
              refine og_goto (pc := 118) (tgt := 126) dL_isOne_118 (by decide) ?_
              exact og_zret (pc := 126) hr rfl dL_isOne_126 (by omega) (by omega) ⟨rfl, rfl, Or.inl ⟨rfl, Or.inl ⟨ho0, (nI_eq (b := 0) (by omega) (by omega)).mp c2⟩⟩⟩
        · omega
      | succ k ih =>
        intro i hi h1 b1 hb1
        refine og_iload (pc := 54) dL_isOne_54 rfl ?_
        refine og_bipush (pc := 56) (v := 8) dL_isOne_56 (by decide) ?_
        refine og_geN (pc := 58) (tgt := 109) (i := i) (N := 8) dL_isOne_58 (by decide) rfl rfl (by omega) (by omega) (fun c_58 => ?_) (fun c_58 => ?_)
        · omega
        refine og_iload_n (pc := 61) dL_isOne_61 rfl ?_
        refine og_if_ne (pc := 62) (tgt := 97) dL_isOne_62 (by decide) (fun c => ?_) (fun c => ?_)
        · have hf : b1 = true := by
            cases b1
            · exact absurd rfl c
            · rfl
          subst hf
          refine og_iconst (pc := 97) (v := 1) dL_isOne_97 (by decide) ?_
          refine og_goto (pc := 98) (tgt := 102) dL_isOne_98 (by decide) ?_
          refine og_istore_n_3 (pc := 102) dL_isOne_102 rfl ?_
          refine og_iinc_4 (pc := 103) dL_isOne_103 (og_inc i) rfl ?_
          refine og_goto (pc := 106) (tgt := 54) dL_isOne_106 (by decide) ?_
          exact ih (i + 1) (by omega) (by omega) true ⟨fun _ => (hb1.mp rfl).imp id (fun ⟨j, j1, j2⟩ => ⟨j, by omega, j2⟩), fun _ => rfl⟩
        · have hf := (y_z1 b1).mp c
          subst hf
          refine og_iload_n (pc := 65) dL_isOne_65 rfl ?_
          refine og_iconst (pc := 66) (v := 1) dL_isOne_66 (by decide) ?_
          refine og_iconst (pc := 67) (v := 1) dL_isOne_67 (by decide) ?_
          refine og_iload (pc := 68) dL_isOne_68 rfl ?_
          refine og_ishl (pc := 70) dL_isOne_70 ?_
          refine og_ior (pc := 71) dL_isOne_71 ?_
          refine og_iconst (pc := 72) (v := 1) dL_isOne_72 (by decide) ?_
          refine og_iload (pc := 73) dL_isOne_73 rfl ?_
          refine og_bipush (pc := 75) (v := 7) dL_isOne_75 (by decide) ?_
          refine og_irem (pc := 77) dL_isOne_77 (by decide) ?_
          refine og_iconst (pc := 78) (v := 1) dL_isOne_78 (by decide) ?_
          refine og_iadd (pc := 79) dL_isOne_79 ?_
          refine og_ishl (pc := 80) dL_isOne_80 ?_
          refine og_ior (pc := 81) dL_isOne_81 ?_
          refine og_iconst (pc := 82) (v := 1) dL_isOne_82 (by decide) ?_
          refine og_iload (pc := 83) dL_isOne_83 rfl ?_
          refine og_iconst (pc := 85) (v := 2) dL_isOne_85 (by decide) ?_
          refine og_iadd (pc := 86) dL_isOne_86 ?_
          refine og_bipush (pc := 87) (v := 7) dL_isOne_87 (by decide) ?_
          refine og_irem (pc := 89) dL_isOne_89 (by decide) ?_
          refine og_iconst (pc := 90) (v := 1) dL_isOne_90 (by decide) ?_
          refine og_iadd (pc := 91) dL_isOne_91 ?_
          refine og_ishl (pc := 92) dL_isOne_92 ?_
          refine og_ior (pc := 93) dL_isOne_93 ?_
          refine og_icmp_ne (pc := 94) (tgt := 101) dL_isOne_94 (by decide) (fun c2 => ?_) (fun c2 => ?_)
          · refine og_iconst (pc := 101) (v := 0) dL_isOne_101 (by decide) ?_
            refine og_istore_n_3 (pc := 102) dL_isOne_102 rfl ?_
            refine og_iinc_4 (pc := 103) dL_isOne_103 (og_inc i) rfl ?_
            refine og_goto (pc := 106) (tgt := 54) dL_isOne_106 (by decide) ?_
            exact ih (i + 1) (by omega) (by omega) false ⟨fun z => (by cases z), fun z => by
              have : false = true := hb1.mpr (z.imp id (fun ⟨j, j1, j2, j3⟩ => ⟨j, by
                by_cases e : j = i
                · subst e
                  exact absurd j3 c2
                · omega, j2, j3⟩))
              cases this⟩
          · refine og_iconst (pc := 97) (v := 1) dL_isOne_97 (by decide) ?_
            refine og_goto (pc := 98) (tgt := 102) dL_isOne_98 (by decide) ?_
            refine og_istore_n_3 (pc := 102) dL_isOne_102 rfl ?_
            refine og_iinc_4 (pc := 103) dL_isOne_103 (og_inc i) rfl ?_
            refine og_goto (pc := 106) (tgt := 54) dL_isOne_106 (by decide) ?_
            exact ih (i + 1) (by omega) (by omega) true ⟨fun _ => Or.inr ⟨i, by omega, h1, c2⟩, fun _ => rfl⟩
    refine og_iload_n (pc := 38) dL_isOne_38 rfl ?_
    refine og_sipush (pc := 39) (v := 255) dL_isOne_39 (by decide) ?_
    refine og_icmp_ne (pc := 42) (tgt := 49) dL_isOne_42 (by decide) (fun c => ?_) (fun c => ?_)
    · refine og_iconst (pc := 49) (v := 0) dL_isOne_49 (by decide) ?_
      refine og_istore_n_3 (pc := 50) dL_isOne_50 rfl ?_
      refine og_iconst (pc := 51) (v := 1) dL_isOne_51 (by decide) ?_
      refine og_istore_4 (pc := 52) dL_isOne_52 rfl ?_
      exact loop 7 1 (by omega) (by omega) false ⟨fun z => (by cases z), fun z => z.elim (fun q => absurd q c) (fun ⟨j, j1, j2, _⟩ => absurd j1 (by omega))⟩
    · refine og_iconst (pc := 45) (v := 1) dL_isOne_45 (by decide) ?_
      refine og_goto (pc := 46) (tgt := 50) dL_isOne_46 (by decide) ?_
      refine og_istore_n_3 (pc := 50) dL_isOne_50 rfl ?_
      refine og_iconst (pc := 51) (v := 1) dL_isOne_51 (by decide) ?_
      refine og_istore_4 (pc := 52) dL_isOne_52 rfl ?_
      exact loop 7 1 (by omega) (by omega) true ⟨fun _ => Or.inl c, fun _ => rfl⟩
  have mid : ∀ y : Int32, y = y_i1 w o → og_G E RL cL_isOne d 0 0 5 X (og_Q E (fun v n1 h1 => n1 = n ∧ h1 = h ∧ ((v = some (.int 1) ∧ y_one w o) ∨ (v = some (.int 0) ∧ ¬ y_one w o))) no_x 0 0 X) 0 0 n h 21 [some (.int (nI w)), some (.int (nI o)), some (.int y), none, none] [] := by
    intro y hy
    refine og_iload_n (pc := 21) dL_isOne_21 rfl ?_
    refine og_iconst (pc := 22) (v := 1) dL_isOne_22 (by decide) ?_
    refine og_iand (pc := 23) dL_isOne_23 ?_
    refine og_iconst (pc := 24) (v := 1) dL_isOne_24 (by decide) ?_
    refine og_icmp_ne (pc := 25) (tgt := 32) dL_isOne_25 (by decide) (fun c => ?_) (fun c => ?_)
    · refine og_iload_n (pc := 32) dL_isOne_32 rfl ?_
      refine og_sipush (pc := 33) (v := 255) dL_isOne_33 (by decide) ?_
      refine og_ixor (pc := 36) dL_isOne_36 ?_
      refine og_istore_n_2 (pc := 37) dL_isOne_37 rfl ?_
      exact last _ (by rw [← hy]; exact (if_neg c).symm)
    · refine og_iload_n (pc := 28) dL_isOne_28 rfl ?_
      refine og_goto (pc := 29) (tgt := 37) dL_isOne_29 (by decide) ?_
      refine og_istore_n_2 (pc := 37) dL_isOne_37 rfl ?_
      exact last _ (by rw [← hy]; exact (if_pos c).symm)
  refine og_iload_n (pc := 0) dL_isOne_0 rfl ?_
  refine og_istore_n_2 (pc := 1) dL_isOne_1 rfl ?_
  refine og_iload_n (pc := 2) dL_isOne_2 rfl ?_
  refine og_iconst (pc := 3) (v := 1) dL_isOne_3 (by decide) ?_
  refine og_iand (pc := 4) dL_isOne_4 ?_
  refine og_iload_n (pc := 5) dL_isOne_5 rfl ?_
  refine og_iload_n (pc := 6) dL_isOne_6 rfl ?_
  refine og_ishr (pc := 7) dL_isOne_7 ?_
  refine og_iconst (pc := 8) (v := 1) dL_isOne_8 (by decide) ?_
  refine og_iand (pc := 9) dL_isOne_9 ?_
  refine og_icmp_eq (pc := 10) (tgt := 21) dL_isOne_10 (by decide) (fun c => ?_) (fun c => ?_)
  · exact mid _ (if_pos c).symm
  · refine og_iload_n (pc := 13) dL_isOne_13 rfl ?_
    refine og_iconst (pc := 14) (v := 1) dL_isOne_14 (by decide) ?_
    refine og_ixor (pc := 15) dL_isOne_15 ?_
    refine og_iconst (pc := 16) (v := 1) dL_isOne_16 (by decide) ?_
    refine og_iload_n (pc := 17) dL_isOne_17 rfl ?_
    refine og_ishl (pc := 18) dL_isOne_18 ?_
    refine og_ixor (pc := 19) dL_isOne_19 ?_
    refine og_istore_n_2 (pc := 20) dL_isOne_20 rfl ?_
    exact mid _ (if_neg c).symm
/-! isIn -/
theorem y_bit1 (x : Int64) : (x &&& 1 = 1 ∧ x.toInt % 2 ≠ 0) ∨ (¬ x &&& 1 = 1 ∧ x.toInt % 2 = 0) := by
  have h := zand1 x
  by_cases e : x &&& 1 = 0
  · exact Or.inr ⟨(fun q => (by rw [e] at q; cases q)), h.mp e⟩
  · refine Or.inl ⟨?_, fun q => e (h.mpr q)⟩
    have e2 : (x &&& 1).toBitVec.toNat = x.toBitVec.toNat % 2 := by
      rw [Int64.toBitVec_and, BitVec.toNat_and]
      exact Nat.and_two_pow_sub_one_eq_mod _ 1
    have e3 : ¬ (x &&& 1).toBitVec.toNat = 0 := fun q => e (by
      refine Int64.toBitVec_inj.mp (BitVec.eq_of_toNat_eq ?_)
      rw [q]
      rfl)
    refine Int64.toBitVec_inj.mp (BitVec.eq_of_toNat_eq ?_)
    rw [e2] at e3 ⊢
    have := Nat.mod_lt x.toBitVec.toNat (show 0 < 2 by decide)
    show _ = 1
    omega
theorem c_L_isIn (E : og_E) (d n a o : Nat) (h : og_H) (f : Nat → Int64) (ha : h a = some (rowL f)) (h3a : 3 ≤ a) (ho : o < 8) :
    og_M E yL_isIn (.code yL_isIn cL_isIn 4 (some .boolean)) (d + 1) [.ref a, .int (nI o)] n h 0 0 (fun v n1 h1 => n1 = n ∧ h1 = h ∧ ((v = some (.int 1) ∧ q_al o f) ∨ (v = some (.int 0) ∧ ¬ q_al o f))) no_x := by
  refine og_start (lv := [some (.ref a), some (.int (nI o)), none, none]) (by decide) rfl rfl (Nat.le_of_ble_eq_true rfl) fun X hr hnm htb => ?_
  refine og_iconst (pc := 0) (v := 0) dL_isIn_0 (by decide) ?_
  refine og_istore_n_2 (pc := 1) dL_isIn_1 rfl ?_
  refine og_iconst (pc := 2) (v := 0) dL_isIn_2 (by decide) ?_
  refine og_istore_n_3 (pc := 3) dL_isIn_3 rfl ?_
  refine og_for (i0 := 0) (N := 8) (by decide) (fun _ => h) (fun i => [some (.ref a), some (.int (nI o)), some (.int (nI (oddN f i))), some (.int (nI i))]) ?_ (fun i hi1 hi ih => ?_)
  · refine og_iload_n (pc := 4) dL_isIn_4 rfl ?_
    refine og_bipush (pc := 5) (v := 8) dL_isIn_5 (by decide) ?_
    refine og_geN (pc := 7) (tgt := 36) (i := 8) (N := 8) dL_isIn_7 (by decide) rfl rfl (by omega) (by omega) (fun c_7 => ?_) (fun c_7 => ?_)
    · refine og_iload_n (pc := 36) dL_isIn_36 rfl ?_
      refine og_iload_n (pc := 37) dL_isIn_37 rfl ?_
      refine og_callS (pc := 38) (As := [.int (nI (oddN f 8)), .int (nI o)]) (rest := []) (c_L_isOne E d n (oddN f 8) o h (oddN_lt f 8) ho) Y_L_isOne S_L_isOne K_L_15 dL_isIn_38 rfl rfl (Nat.le_of_ble_eq_true rfl) (by omega) (by omega) (by omega) (fun _ _ _ z => z) (fun v n1 h1 z => ?_)
      obtain ⟨rfl, rfl, z⟩ := z
      rw [← zal ho] at z
      rcases z with ⟨rfl, z⟩ | ⟨rfl, z⟩
      · exact og_zret (pc := 41) hr rfl dL_isIn_41 (by omega) (by omega) ⟨rfl, rfl, Or.inl ⟨rfl, z⟩⟩
      · exact og_zret (pc := 41) hr rfl dL_isIn_41 (by omega) (by omega) ⟨rfl, rfl, Or.inr ⟨rfl, z⟩⟩
    · omega
  · refine og_iload_n (pc := 4) dL_isIn_4 rfl ?_
    refine og_bipush (pc := 5) (v := 8) dL_isIn_5 (by decide) ?_
    refine og_geN (pc := 7) (tgt := 36) (i := i) (N := 8) dL_isIn_7 (by decide) rfl rfl (by omega) (by omega) (fun c_7 => ?_) (fun c_7 => ?_)
    · omega
    refine og_iload_n (pc := 10) dL_isIn_10 rfl ?_
    refine og_aload_n (pc := 11) dL_isIn_11 rfl ?_
    refine og_iload_n (pc := 12) dL_isIn_12 rfl ?_
    refine og_laldN (pc := 13) (j := i) rfl dL_isIn_13 (by repeat (first | exact og_set_eq _ _ _ | assumption | refine (og_set_ne _ _ (by first | assumption | omega)).trans ?_)) (by omega) (by omega) (by first | decide | assumption | omega) ?_
    refine og_lconst (pc := 14) (v := 1) dL_isIn_14 (by decide) ?_
    refine og_land (pc := 15) dL_isIn_15 ?_
    refine og_lconst (pc := 16) (v := 1) dL_isIn_16 (by decide) ?_
    refine og_lcmp (pc := 17) dL_isIn_17 ?_
    refine og_if_ne (pc := 18) (tgt := 27) dL_isIn_18 (by decide) (fun c => ?_) (fun c => ?_)
    · have hz : (f i).toInt % 2 = 0 := by
        rcases y_bit1 (f i) with ⟨q, _⟩ | ⟨_, q⟩
        · exact absurd ((og_cmp0 _ _).mpr q) c
        · exact q
      have ih2 := ih
      rw [show oddN f (i + 1) = oddN f i by rw [oddN, if_pos hz]] at ih2
      refine og_iconst (pc := 27) (v := 0) dL_isIn_27 (by decide) ?_
      refine og_ior (pc := 28) dL_isIn_28 ?_
      refine og_istore_n_2 (pc := 29) dL_isIn_29 rfl ?_
      refine og_iinc_3 (pc := 30) dL_isIn_30 (og_inc i) rfl ?_
      refine og_goto (pc := 33) (tgt := 4) dL_isIn_33 (by decide) ?_
      rw [Int32.or_zero]
      exact ih2
    · have hz : ¬ (f i).toInt % 2 = 0 := by
        have c1 := (og_cmp0 _ _).mp c
        rcases y_bit1 (f i) with ⟨_, q⟩ | ⟨q, _⟩
        · exact q
        · exact absurd c1 q
      have ih2 := ih
      rw [show oddN f (i + 1) = oddN f i ||| 2 ^ i by rw [oddN, if_neg hz]] at ih2
      refine og_iconst (pc := 21) (v := 1) dL_isIn_21 (by decide) ?_
      refine og_iload_n (pc := 22) dL_isIn_22 rfl ?_
      refine og_ishl (pc := 23) dL_isIn_23 ?_
      refine og_goto (pc := 24) (tgt := 28) dL_isIn_24 (by decide) ?_
      rw [nI_2k i hi]
      refine og_ior (pc := 28) dL_isIn_28 ?_
      refine og_istore_n_2 (pc := 29) dL_isIn_29 rfl ?_
      refine og_iinc_3 (pc := 30) dL_isIn_30 (og_inc i) rfl ?_
      refine og_goto (pc := 33) (tgt := 4) dL_isIn_33 (by decide) ?_
      rw [nI_or]
      exact ih2
