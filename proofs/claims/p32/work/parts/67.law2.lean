/-! ===== the law: table, product ===== -/
def y_t1 : Nat → (Nat → Int32)
  | 0 => fun _ => 0
  | i + 1 => upd (upd (y_t1 i) i (nI i + 1)) (8 * i) (nI i + 1)
def y_sp (i j k : Nat) (f : Nat → Int32) : Nat → Int32 :=
  upd (upd (upd (upd (upd (upd (upd f (9 * i) (-1)) (8 * i + j) (nI k + 1)) (8 * j + k) (nI i + 1)) (8 * k + i) (nI j + 1)) (8 * j + i) (-nI k - 1)) (8 * k + j) (-nI i - 1)) (8 * i + k) (-nI j - 1)
def y_st (i : Nat) (f : Nat → Int32) : Nat → Int32 := y_sp i (i % 7 + 1) ((i + 2) % 7 + 1) f
def y_t2 : Nat → (Nat → Int32)
  | 0 => y_t1 8
  | i + 1 => if i = 0 then y_t1 8 else y_st i (y_t2 i)
def y_T : Nat → Int32 := y_t2 8
set_option maxRecDepth 4000 in
theorem c_L_table (E : og_E) (d n : Nat) (h : og_H) (h3n : 3 ≤ n) :
    og_M E yL_table (.code yL_table cL_table 4 (some (.array .int))) d [] n h 1 64 (fun v n1 h1 => v = some (.ref n) ∧ n1 = n + 1 ∧ h1 = og_set h n (rowI 64 y_T)) no_x := by
  refine og_start (lv := [none, none, none, none]) (by decide) rfl rfl (Nat.le_of_ble_eq_true rfl) fun X hr hnm htb => ?_
  refine og_bipush (pc := 0) (v := 64) dL_table_0 (by decide) ?_
  refine og_newa (pc := 2) (k := 1) (N := 64) (x := (64, .inl (fun _ => 0))) (atype := .int) AC_int rfl (by decide) dL_table_2 (fun _ => rfl) (by decide) (by decide) (by decide) (by omega) (by omega) ?_
  refine og_astore_n_0 (pc := 4) dL_table_4 ?_
  refine og_iconst (pc := 5) (v := 0) dL_table_5 (by decide) ?_
  refine og_istore_n_1 (pc := 6) dL_table_6 rfl ?_
  refine og_for (i0 := 0) (N := 8) (by decide) (fun i => og_set h n (rowI 64 (y_t1 i))) (fun i => [some (.ref n), some (.int (nI i)), none, none]) ?_ (fun i hi1 hi ih => ?_)
  · refine og_iload_n (pc := 7) dL_table_7 rfl ?_
    refine og_bipush (pc := 8) (v := 8) dL_table_8 (by decide) ?_
    refine og_geN (pc := 10) (tgt := 34) (i := 8) (N := 8) dL_table_10 (by decide) rfl rfl (by omega) (by omega) (fun c_10 => ?_) (fun c_10 => ?_)
    · refine og_iconst (pc := 34) (v := 1) dL_table_34 (by decide) ?_
      refine og_istore_n_1 (pc := 35) dL_table_35 rfl ?_
      refine og_for (i0 := 1) (N := 8) (by decide) (fun i => og_set h n (rowI 64 (y_t2 i))) (fun i => [some (.ref n), some (.int (nI i)), none, none]) ?_ (fun i hi1 hi ih => ?_)
      · refine og_iload_n (pc := 36) dL_table_36 rfl ?_
        refine og_bipush (pc := 37) (v := 8) dL_table_37 (by decide) ?_
        refine og_geN (pc := 39) (tgt := 140) (i := 8) (N := 8) dL_table_39 (by decide) rfl rfl (by omega) (by omega) (fun c_39 => ?_) (fun c_39 => ?_)
        · refine og_aload_n (pc := 140) dL_table_140 rfl ?_
          exact og_aretA (pc := 141) hr dL_table_141 (by omega) (by omega) ⟨rfl, rfl, rfl⟩
        · omega
      · refine og_iload_n (pc := 36) dL_table_36 rfl ?_
        refine og_bipush (pc := 37) (v := 8) dL_table_37 (by decide) ?_
        refine og_geN (pc := 39) (tgt := 140) (i := i) (N := 8) dL_table_39 (by decide) rfl rfl (by omega) (by omega) (fun c_39 => ?_) (fun c_39 => ?_)
        · omega
        have e2 : nI i - nI i / 7 * 7 + 1 = nI (i % 7 + 1) := by
          rw [show (7 : Int32) = nI 7 from rfl, nI_mod (by omega) (by omega) (by omega), nI_1]
        have e3 : (nI i + 2) - (nI i + 2) / 7 * 7 + 1 = nI ((i + 2) % 7 + 1) := by
          rw [show (7 : Int32) = nI 7 from rfl, show (2 : Int32) = nI 2 from rfl, nI_add, nI_mod (by omega) (by omega) (by omega), nI_1]
        have b2 : i % 7 + 1 < 8 := by omega
        have b3 : (i + 2) % 7 + 1 < 8 := by omega
        refine og_iload_n (pc := 42) dL_table_42 rfl ?_
        refine og_bipush (pc := 43) (v := 7) dL_table_43 (by decide) ?_
        refine og_irem (pc := 45) dL_table_45 (by decide) ?_
        refine og_iconst (pc := 46) (v := 1) dL_table_46 (by decide) ?_
        refine og_iadd (pc := 47) dL_table_47 ?_
        rw [e2]
        refine og_istore_n_2 (pc := 48) dL_table_48 rfl ?_
        refine og_iload_n (pc := 49) dL_table_49 rfl ?_
        refine og_iconst (pc := 50) (v := 2) dL_table_50 (by decide) ?_
        refine og_iadd (pc := 51) dL_table_51 ?_
        refine og_bipush (pc := 52) (v := 7) dL_table_52 (by decide) ?_
        refine og_irem (pc := 54) dL_table_54 (by decide) ?_
        refine og_iconst (pc := 55) (v := 1) dL_table_55 (by decide) ?_
        refine og_iadd (pc := 56) dL_table_56 ?_
        rw [e3]
        refine og_istore_n_3 (pc := 57) dL_table_57 rfl ?_
        have ih2 := ih
        rw [show y_t2 (i + 1) = y_sp i (i % 7 + 1) ((i + 2) % 7 + 1) (y_t2 i) from if_neg (by omega)] at ih2
        generalize i % 7 + 1 = j at b2 ih2 ⊢
        generalize (i + 2) % 7 + 1 = k at b3 ih2 ⊢
        refine og_aload_n (pc := 58) dL_table_58 rfl ?_
        refine og_bipush (pc := 59) (v := 9) dL_table_59 (by decide) ?_
        refine og_iload_n (pc := 61) dL_table_61 rfl ?_
        refine og_imul (pc := 62) dL_table_62 ?_
        refine og_iconst (pc := 63) (v := (-1)) dL_table_63 (by decide) ?_
        refine og_iastN (pc := 64) (j := (9 * i)) (nI_mul 9 i) dL_table_64 (by repeat (first | exact og_set_eq _ _ _ | assumption | refine (og_set_ne _ _ (by first | assumption | omega)).trans ?_)) (by omega) (by omega) (by first | decide | assumption | omega) ?_
        refine og_aload_n (pc := 65) dL_table_65 rfl ?_
        refine og_bipush (pc := 66) (v := 8) dL_table_66 (by decide) ?_
        refine og_iload_n (pc := 68) dL_table_68 rfl ?_
        refine og_imul (pc := 69) dL_table_69 ?_
        refine og_iload_n (pc := 70) dL_table_70 rfl ?_
        refine og_iadd (pc := 71) dL_table_71 ?_
        refine og_iload_n (pc := 72) dL_table_72 rfl ?_
        refine og_iconst (pc := 73) (v := 1) dL_table_73 (by decide) ?_
        refine og_iadd (pc := 74) dL_table_74 ?_
        refine og_iastN (pc := 75) (j := (8 * i + j)) (og_i8 i j) dL_table_75 (by repeat (first | exact og_set_eq _ _ _ | assumption | refine (og_set_ne _ _ (by first | assumption | omega)).trans ?_)) (by omega) (by omega) (by first | decide | assumption | omega) ?_
        refine og_aload_n (pc := 76) dL_table_76 rfl ?_
        refine og_bipush (pc := 77) (v := 8) dL_table_77 (by decide) ?_
        refine og_iload_n (pc := 79) dL_table_79 rfl ?_
        refine og_imul (pc := 80) dL_table_80 ?_
        refine og_iload_n (pc := 81) dL_table_81 rfl ?_
        refine og_iadd (pc := 82) dL_table_82 ?_
        refine og_iload_n (pc := 83) dL_table_83 rfl ?_
        refine og_iconst (pc := 84) (v := 1) dL_table_84 (by decide) ?_
        refine og_iadd (pc := 85) dL_table_85 ?_
        refine og_iastN (pc := 86) (j := (8 * j + k)) (og_i8 j k) dL_table_86 (by repeat (first | exact og_set_eq _ _ _ | assumption | refine (og_set_ne _ _ (by first | assumption | omega)).trans ?_)) (by omega) (by omega) (by first | decide | assumption | omega) ?_
        refine og_aload_n (pc := 87) dL_table_87 rfl ?_
        refine og_bipush (pc := 88) (v := 8) dL_table_88 (by decide) ?_
        refine og_iload_n (pc := 90) dL_table_90 rfl ?_
        refine og_imul (pc := 91) dL_table_91 ?_
        refine og_iload_n (pc := 92) dL_table_92 rfl ?_
        refine og_iadd (pc := 93) dL_table_93 ?_
        refine og_iload_n (pc := 94) dL_table_94 rfl ?_
        refine og_iconst (pc := 95) (v := 1) dL_table_95 (by decide) ?_
        refine og_iadd (pc := 96) dL_table_96 ?_
        refine og_iastN (pc := 97) (j := (8 * k + i)) (og_i8 k i) dL_table_97 (by repeat (first | exact og_set_eq _ _ _ | assumption | refine (og_set_ne _ _ (by first | assumption | omega)).trans ?_)) (by omega) (by omega) (by first | decide | assumption | omega) ?_
        refine og_aload_n (pc := 98) dL_table_98 rfl ?_
        refine og_bipush (pc := 99) (v := 8) dL_table_99 (by decide) ?_
        refine og_iload_n (pc := 101) dL_table_101 rfl ?_
        refine og_imul (pc := 102) dL_table_102 ?_
        refine og_iload_n (pc := 103) dL_table_103 rfl ?_
        refine og_iadd (pc := 104) dL_table_104 ?_
        refine og_iload_n (pc := 105) dL_table_105 rfl ?_
        refine og_ineg (pc := 106) dL_table_106 ?_
        refine og_iconst (pc := 107) (v := 1) dL_table_107 (by decide) ?_
        refine og_isub (pc := 108) dL_table_108 ?_
        refine og_iastN (pc := 109) (j := (8 * j + i)) (og_i8 j i) dL_table_109 (by repeat (first | exact og_set_eq _ _ _ | assumption | refine (og_set_ne _ _ (by first | assumption | omega)).trans ?_)) (by omega) (by omega) (by first | decide | assumption | omega) ?_
        refine og_aload_n (pc := 110) dL_table_110 rfl ?_
        refine og_bipush (pc := 111) (v := 8) dL_table_111 (by decide) ?_
        refine og_iload_n (pc := 113) dL_table_113 rfl ?_
        refine og_imul (pc := 114) dL_table_114 ?_
        refine og_iload_n (pc := 115) dL_table_115 rfl ?_
        refine og_iadd (pc := 116) dL_table_116 ?_
        refine og_iload_n (pc := 117) dL_table_117 rfl ?_
        refine og_ineg (pc := 118) dL_table_118 ?_
        refine og_iconst (pc := 119) (v := 1) dL_table_119 (by decide) ?_
        refine og_isub (pc := 120) dL_table_120 ?_
        refine og_iastN (pc := 121) (j := (8 * k + j)) (og_i8 k j) dL_table_121 (by repeat (first | exact og_set_eq _ _ _ | assumption | refine (og_set_ne _ _ (by first | assumption | omega)).trans ?_)) (by omega) (by omega) (by first | decide | assumption | omega) ?_
        refine og_aload_n (pc := 122) dL_table_122 rfl ?_
        refine og_bipush (pc := 123) (v := 8) dL_table_123 (by decide) ?_
        refine og_iload_n (pc := 125) dL_table_125 rfl ?_
        refine og_imul (pc := 126) dL_table_126 ?_
        refine og_iload_n (pc := 127) dL_table_127 rfl ?_
        refine og_iadd (pc := 128) dL_table_128 ?_
        refine og_iload_n (pc := 129) dL_table_129 rfl ?_
        refine og_ineg (pc := 130) dL_table_130 ?_
        refine og_iconst (pc := 131) (v := 1) dL_table_131 (by decide) ?_
        refine og_isub (pc := 132) dL_table_132 ?_
        refine og_iastN (pc := 133) (j := (8 * i + k)) (og_i8 i k) dL_table_133 (by repeat (first | exact og_set_eq _ _ _ | assumption | refine (og_set_ne _ _ (by first | assumption | omega)).trans ?_)) (by omega) (by omega) (by first | decide | assumption | omega) ?_
        refine og_iinc_1 (pc := 134) dL_table_134 (og_inc i) rfl ?_
        refine og_goto (pc := 137) (tgt := 36) dL_table_137 (by decide) ?_
        simp only [og_set_set]
        refine og_forget_2 (og_forget_3 ?_)
        exact ih2
    · omega
  · refine og_iload_n (pc := 7) dL_table_7 rfl ?_
    refine og_bipush (pc := 8) (v := 8) dL_table_8 (by decide) ?_
    refine og_geN (pc := 10) (tgt := 34) (i := i) (N := 8) dL_table_10 (by decide) rfl rfl (by omega) (by omega) (fun c_10 => ?_) (fun c_10 => ?_)
    · omega
    refine og_aload_n (pc := 13) dL_table_13 rfl ?_
    refine og_iload_n (pc := 14) dL_table_14 rfl ?_
    refine og_iload_n (pc := 15) dL_table_15 rfl ?_
    refine og_iconst (pc := 16) (v := 1) dL_table_16 (by decide) ?_
    refine og_iadd (pc := 17) dL_table_17 ?_
    refine og_iastN (pc := 18) (j := i) rfl dL_table_18 (by repeat (first | exact og_set_eq _ _ _ | assumption | refine (og_set_ne _ _ (by first | assumption | omega)).trans ?_)) (by omega) (by omega) (by first | decide | assumption | omega) ?_
    refine og_aload_n (pc := 19) dL_table_19 rfl ?_
    refine og_bipush (pc := 20) (v := 8) dL_table_20 (by decide) ?_
    refine og_iload_n (pc := 22) dL_table_22 rfl ?_
    refine og_imul (pc := 23) dL_table_23 ?_
    refine og_iload_n (pc := 24) dL_table_24 rfl ?_
    refine og_iconst (pc := 25) (v := 1) dL_table_25 (by decide) ?_
    refine og_iadd (pc := 26) dL_table_26 ?_
    refine og_iastN (pc := 27) (j := (8 * i)) (nI_mul 8 i) dL_table_27 (by repeat (first | exact og_set_eq _ _ _ | assumption | refine (og_set_ne _ _ (by first | assumption | omega)).trans ?_)) (by omega) (by omega) (by first | decide | assumption | omega) ?_
    refine og_iinc_1 (pc := 28) dL_table_28 (og_inc i) rfl ?_
    refine og_goto (pc := 31) (tgt := 7) dL_table_31 (by decide) ?_
    rw [og_set_set, og_set_set]
    exact ih
/-- where the product of ei and ej goes, k being 8 i + j, and its sign -/
def y_tl : List Nat := [0, 1, 2, 3, 4, 5, 6, 7, 1, 0, 4, 7, 2, 6, 5, 3, 2, 4, 0, 5, 1, 3, 7, 6, 3, 7, 5, 0, 6, 2, 4, 1, 4, 2, 1, 6, 0, 7, 3, 5, 5, 6, 3, 2, 7, 0, 1, 4, 6, 5, 7, 4, 3, 1, 0, 2, 7, 3, 6, 1, 5, 4, 2, 0]
def y_to (k : Nat) : Nat := y_tl.getD k 0
def y_neg (k : Nat) : Bool := y_T k ≤ 0
theorem y_t_ok : ∀ k, k < 64 → (y_T k ≤ 0 → -y_T k - 1 = nI (y_to k)) ∧ (¬ y_T k ≤ 0 → y_T k - 1 = nI (y_to k)) ∧ y_to k < 8 := by decide +kernel
def y_pr (f g : Nat → Int64) : Nat → (Nat → Int64)
  | 0 => fun _ => 0
  | k + 1 => vp_updL (y_pr f g k) (y_to k) (y_pr f g k (y_to k) + (if y_T k ≤ 0 then (-1) else 1) * f (k / 8) * g (k % 8))
def y_sl : List Int64 := [1, 1, 1, 1, 1, 1, 1, 1, 1, -1, 1, 1, -1, 1, -1, -1, 1, -1, -1, 1, 1, -1, 1, -1, 1, -1, -1, -1, 1, 1, -1, 1, 1, 1, -1, -1, -1, 1, 1, -1, 1, -1, 1, -1, -1, -1, 1, 1, 1, 1, -1, 1, -1, -1, -1, 1, 1, 1, 1, -1, 1, -1, -1, -1]
theorem y_sgn : ∀ k, k < 64 → (if y_T k ≤ 0 then (-1 : Int64) else 1) = y_sl.getD k 0 := by decide +kernel
def y_sm (f g : Nat → Int64) (j : Nat) : Nat → Int64
  | 0 => 0
  | k + 1 => y_sm f g j k + (if y_to k = j then y_sl.getD k 0 * f (k / 8) * g (k % 8) else 0)
theorem y_pr_sm (f g : Nat → Int64) : ∀ k, k ≤ 64 → ∀ j, y_pr f g k j = y_sm f g j k
  | 0, _, _ => rfl
  | k + 1, hk, j => by
    have ih := y_pr_sm f g k (by omega)
    rw [y_pr, y_sm, y_sgn k (by omega)]
    unfold vp_updL
    by_cases e : j = y_to k
    · rw [if_pos e, if_pos e.symm, ih, ← e]
    · rw [if_neg e, if_neg (fun q => e q.symm), ih, Int64.add_zero]
set_option maxRecDepth 10000 in
set_option maxHeartbeats 2000000 in
theorem y_sm_prod (f g : Nat → Int64) : ∀ j, j < 8 → y_sm f g j 64 = q_prod f g j
  | 0, _ => by simp [y_sm, y_to, y_tl, y_sl, q_prod]; grind
  | 1, _ => by simp [y_sm, y_to, y_tl, y_sl, q_prod]; grind
  | 2, _ => by simp [y_sm, y_to, y_tl, y_sl, q_prod]; grind
  | 3, _ => by simp [y_sm, y_to, y_tl, y_sl, q_prod]; grind
  | 4, _ => by simp [y_sm, y_to, y_tl, y_sl, q_prod]; grind
  | 5, _ => by simp [y_sm, y_to, y_tl, y_sl, q_prod]; grind
  | 6, _ => by simp [y_sm, y_to, y_tl, y_sl, q_prod]; grind
  | 7, _ => by simp [y_sm, y_to, y_tl, y_sl, q_prod]; grind
  | j + 8, h => absurd h (by omega)
set_option maxRecDepth 4000 in
theorem c_L_product (E : og_E) (d n t a b : Nat) (h : og_H) (f g : Nat → Int64) (ht : h t = some (rowI 64 y_T)) (ha : h a = some (rowL f)) (hb : h b = some (rowL g)) (h3t : 3 ≤ t) (h3a : 3 ≤ a) (h3b : 3 ≤ b) (htn : t < n) (han : a < n) (hbn : b < n) :
    og_M E yL_product (.code yL_product cL_product 6 (some (.array .long))) d [.ref t, .ref a, .ref b] n h 1 8 (fun v n1 h1 => v = some (.ref n) ∧ n1 = n + 1 ∧ h1 = og_set h n (rowL (q_prod f g))) no_x := by
  refine og_start (lv := [some (.ref t), some (.ref a), some (.ref b), none, none, none]) (by decide) rfl rfl (Nat.le_of_ble_eq_true rfl) fun X hr hnm htb => ?_
  have h3n : 3 ≤ n := by omega
  refine og_bipush (pc := 0) (v := 8) dL_product_0 (by decide) ?_
  refine og_newa (pc := 2) (k := 2) (N := 8) (x := (8, .inr (.inl (fun _ => 0)))) (atype := .long) AC_long rfl (by decide) dL_product_2 (fun _ => rfl) (by decide) (by decide) (by decide) (by omega) (by omega) ?_
  refine og_astore_n_3 (pc := 4) dL_product_4 rfl ?_
  refine og_iconst (pc := 5) (v := 0) dL_product_5 (by decide) ?_
  refine og_istore_4 (pc := 6) dL_product_6 rfl ?_
  refine og_for (i0 := 0) (N := 64) (by decide) (fun i => og_set h n (rowL (y_pr f g i))) (fun i => [some (.ref t), some (.ref a), some (.ref b), some (.ref n), some (.int (nI i)), none]) ?_ (fun i hi1 hi ih => ?_)
  · refine og_iload (pc := 8) dL_product_8 rfl ?_
    refine og_bipush (pc := 10) (v := 64) dL_product_10 (by decide) ?_
    refine og_geN (pc := 12) (tgt := 83) (i := 64) (N := 64) dL_product_12 (by decide) rfl rfl (by omega) (by omega) (fun c_12 => ?_) (fun c_12 => ?_)
    · refine og_congL (q_prod f g) (og_set_eq _ _ _) h3n (fun j hj => by rw [y_pr_sm f g 64 (by omega) j, y_sm_prod f g j hj]) ?_
      rw [og_set_set]
      refine og_aload_n (pc := 83) dL_product_83 rfl ?_
      exact og_aretA (pc := 84) hr dL_product_84 (by omega) (by omega) ⟨rfl, rfl, rfl⟩
    · omega
  · refine og_iload (pc := 8) dL_product_8 rfl ?_
    refine og_bipush (pc := 10) (v := 64) dL_product_10 (by decide) ?_
    refine og_geN (pc := 12) (tgt := 83) (i := i) (N := 64) dL_product_12 (by decide) rfl rfl (by omega) (by omega) (fun c_12 => ?_) (fun c_12 => ?_)
    · omega
    obtain ⟨t1, t2, t3⟩ := y_t_ok i hi
    have e8 : nI i / 8 = nI (i / 8) := nI_div (b := 8) (by omega) (by omega) (by omega)
    have m8 : nI i - nI i / 8 * 8 = nI (i % 8) := nI_mod (b := 8) (by omega) (by omega) (by omega)
    refine og_aload_n (pc := 15) dL_product_15 rfl ?_
    refine og_iload (pc := 16) dL_product_16 rfl ?_
    refine og_ialdN (pc := 18) (j := i) rfl dL_product_18 (by repeat (first | exact og_set_eq _ _ _ | assumption | refine (og_set_ne _ _ (by first | assumption | omega)).trans ?_)) (by omega) (by omega) (by first | decide | assumption | omega) ?_
    refine og_if_le (pc := 19) (tgt := 31) dL_product_19 (by decide) (fun c => ?_) (fun c => ?_)
    · have ih2 := ih
      rw [show y_pr f g (i + 1) = vp_updL (y_pr f g i) (y_to i) (y_pr f g i (y_to i) + (-1) * f (i / 8) * g (i % 8)) by rw [y_pr, if_pos c]] at ih2
      refine og_aload_n (pc := 31) dL_product_31 rfl ?_
      refine og_iload (pc := 32) dL_product_32 rfl ?_
      refine og_ialdN (pc := 34) (j := i) rfl dL_product_34 (by repeat (first | exact og_set_eq _ _ _ | assumption | refine (og_set_ne _ _ (by first | assumption | omega)).trans ?_)) (by omega) (by omega) (by first | decide | assumption | omega) ?_
      refine og_ineg (pc := 35) dL_product_35 ?_
      refine og_iconst (pc := 36) (v := 1) dL_product_36 (by decide) ?_
      refine og_isub (pc := 37) dL_product_37 ?_
      rw [t1 c]
      refine og_istore_5 (pc := 38) dL_product_38 rfl ?_
      refine og_aload_n (pc := 40) dL_product_40 rfl ?_
      refine og_iload (pc := 41) dL_product_41 rfl ?_
      refine og_dup2 (pc := 43) dL_product_43 rfl rfl ?_
      refine og_laldN (pc := 44) (j := (y_to i)) rfl dL_product_44 (by repeat (first | exact og_set_eq _ _ _ | assumption | refine (og_set_ne _ _ (by first | assumption | omega)).trans ?_)) (by omega) (by omega) (by first | decide | assumption | omega) ?_
      refine og_aload_n (pc := 45) dL_product_45 rfl ?_
      refine og_iload (pc := 46) dL_product_46 rfl ?_
      refine og_ialdN (pc := 48) (j := i) rfl dL_product_48 (by repeat (first | exact og_set_eq _ _ _ | assumption | refine (og_set_ne _ _ (by first | assumption | omega)).trans ?_)) (by omega) (by omega) (by first | decide | assumption | omega) ?_
      refine og_if_le (pc := 49) (tgt := 56) dL_product_49 (by decide) (fun c2 => ?_) (fun c2 => absurd c c2)
      refine og_ldc2 (pc := 56) LC_L_9 dL_product_56 ?_
      refine og_aload_n (pc := 59) dL_product_59 rfl ?_
      refine og_iload (pc := 60) dL_product_60 rfl ?_
      refine og_bipush (pc := 62) (v := 8) dL_product_62 (by decide) ?_
      refine og_idiv (pc := 64) dL_product_64 (by decide) ?_
      refine og_laldN (pc := 65) (j := (i / 8)) e8 dL_product_65 (by repeat (first | exact og_set_eq _ _ _ | assumption | refine (og_set_ne _ _ (by first | assumption | omega)).trans ?_)) (by omega) (by omega) (by first | decide | assumption | omega) ?_
      refine og_lmul (pc := 66) dL_product_66 ?_
      refine og_aload_n (pc := 67) dL_product_67 rfl ?_
      refine og_iload (pc := 68) dL_product_68 rfl ?_
      refine og_bipush (pc := 70) (v := 8) dL_product_70 (by decide) ?_
      refine og_irem (pc := 72) dL_product_72 (by decide) ?_
      refine og_laldN (pc := 73) (j := (i % 8)) m8 dL_product_73 (by repeat (first | exact og_set_eq _ _ _ | assumption | refine (og_set_ne _ _ (by first | assumption | omega)).trans ?_)) (by omega) (by omega) (by first | decide | assumption | omega) ?_
      refine og_lmul (pc := 74) dL_product_74 ?_
      refine og_ladd (pc := 75) dL_product_75 ?_
      refine og_lastN (pc := 76) (j := (y_to i)) rfl dL_product_76 (by repeat (first | exact og_set_eq _ _ _ | assumption | refine (og_set_ne _ _ (by first | assumption | omega)).trans ?_)) (by omega) (by omega) (by first | decide | assumption | omega) ?_
      refine og_iinc_4 (pc := 77) dL_product_77 (og_inc i) rfl ?_
      refine og_goto (pc := 80) (tgt := 8) dL_product_80 (by decide) ?_
      refine og_forget_5 ?_
      rw [og_set_set]
      exact ih2
    · have ih2 := ih
      rw [show y_pr f g (i + 1) = vp_updL (y_pr f g i) (y_to i) (y_pr f g i (y_to i) + 1 * f (i / 8) * g (i % 8)) by rw [y_pr, if_neg c]] at ih2
      refine og_aload_n (pc := 22) dL_product_22 rfl ?_
      refine og_iload (pc := 23) dL_product_23 rfl ?_
      refine og_ialdN (pc := 25) (j := i) rfl dL_product_25 (by repeat (first | exact og_set_eq _ _ _ | assumption | refine (og_set_ne _ _ (by first | assumption | omega)).trans ?_)) (by omega) (by omega) (by first | decide | assumption | omega) ?_
      refine og_iconst (pc := 26) (v := 1) dL_product_26 (by decide) ?_
      refine og_isub (pc := 27) dL_product_27 ?_
      refine og_goto (pc := 28) (tgt := 38) dL_product_28 (by decide) ?_
      rw [t2 c]
      refine og_istore_5 (pc := 38) dL_product_38 rfl ?_
      refine og_aload_n (pc := 40) dL_product_40 rfl ?_
      refine og_iload (pc := 41) dL_product_41 rfl ?_
      refine og_dup2 (pc := 43) dL_product_43 rfl rfl ?_
      refine og_laldN (pc := 44) (j := (y_to i)) rfl dL_product_44 (by repeat (first | exact og_set_eq _ _ _ | assumption | refine (og_set_ne _ _ (by first | assumption | omega)).trans ?_)) (by omega) (by omega) (by first | decide | assumption | omega) ?_
      refine og_aload_n (pc := 45) dL_product_45 rfl ?_
      refine og_iload (pc := 46) dL_product_46 rfl ?_
      refine og_ialdN (pc := 48) (j := i) rfl dL_product_48 (by repeat (first | exact og_set_eq _ _ _ | assumption | refine (og_set_ne _ _ (by first | assumption | omega)).trans ?_)) (by omega) (by omega) (by first | decide | assumption | omega) ?_
      refine og_if_le (pc := 49) (tgt := 56) dL_product_49 (by decide) (fun c2 => absurd c2 c) (fun c2 => ?_)
      refine og_lconst (pc := 52) (v := 1) dL_product_52 (by decide) ?_
      refine og_goto (pc := 53) (tgt := 59) dL_product_53 (by decide) ?_
      refine og_aload_n (pc := 59) dL_product_59 rfl ?_
      refine og_iload (pc := 60) dL_product_60 rfl ?_
      refine og_bipush (pc := 62) (v := 8) dL_product_62 (by decide) ?_
      refine og_idiv (pc := 64) dL_product_64 (by decide) ?_
      refine og_laldN (pc := 65) (j := (i / 8)) e8 dL_product_65 (by repeat (first | exact og_set_eq _ _ _ | assumption | refine (og_set_ne _ _ (by first | assumption | omega)).trans ?_)) (by omega) (by omega) (by first | decide | assumption | omega) ?_
      refine og_lmul (pc := 66) dL_product_66 ?_
      refine og_aload_n (pc := 67) dL_product_67 rfl ?_
      refine og_iload (pc := 68) dL_product_68 rfl ?_
      refine og_bipush (pc := 70) (v := 8) dL_product_70 (by decide) ?_
      refine og_irem (pc := 72) dL_product_72 (by decide) ?_
      refine og_laldN (pc := 73) (j := (i % 8)) m8 dL_product_73 (by repeat (first | exact og_set_eq _ _ _ | assumption | refine (og_set_ne _ _ (by first | assumption | omega)).trans ?_)) (by omega) (by omega) (by first | decide | assumption | omega) ?_
      refine og_lmul (pc := 74) dL_product_74 ?_
      refine og_ladd (pc := 75) dL_product_75 ?_
      refine og_lastN (pc := 76) (j := (y_to i)) rfl dL_product_76 (by repeat (first | exact og_set_eq _ _ _ | assumption | refine (og_set_ne _ _ (by first | assumption | omega)).trans ?_)) (by omega) (by omega) (by first | decide | assumption | omega) ?_
      refine og_iinc_4 (pc := 77) dL_product_77 (og_inc i) rfl ?_
      refine og_goto (pc := 80) (tgt := 8) dL_product_80 (by decide) ?_
      refine og_forget_5 ?_
      rw [og_set_set]
      exact ih2
