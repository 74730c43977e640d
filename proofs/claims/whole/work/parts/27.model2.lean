/-! ===== OctavianDeskModel: times, lays, isSet, isIn, saves ===== -/
def q_to : Nat → Nat := fun m => [0, 1, 2, 3, 4, 5, 6, 7, 1, 0, 4, 7, 2, 6, 5, 3, 2, 4, 0, 5, 1, 3, 7, 6, 3, 7, 5, 0, 6, 2, 4, 1, 4, 2, 1, 6, 0, 7, 3, 5, 5, 6, 3, 2, 7, 0, 1, 4, 6, 5, 7, 4, 3, 1, 0, 2, 7, 3, 6, 1, 5, 4, 2, 0].getD m 0
def q_sg : Nat → Int32 := fun m => [1, 1, 1, 1, 1, 1, 1, 1, 1, (-1), 1, 1, (-1), 1, (-1), (-1), 1, (-1), (-1), 1, 1, (-1), 1, (-1), 1, (-1), (-1), (-1), 1, 1, (-1), 1, 1, 1, (-1), (-1), (-1), 1, 1, (-1), 1, (-1), 1, (-1), (-1), (-1), 1, 1, 1, 1, (-1), 1, (-1), (-1), (-1), 1, 1, 1, 1, (-1), 1, (-1), (-1), (-1)].getD m 0
theorem q_to_lt : ∀ m, m < 64 → q_to m < 8 := by decide
def og_TO : og_N := rowI 64 (fun m => nI (q_to m))
def og_SG : og_N := rowI 64 q_sg
def q_tj (f g : Nat → Int64) (i : Nat) (w : Nat → Int64) : Nat → (Nat → Int64)
  | 0 => w
  | j + 1 => vp_updL (q_tj f g i w j) (q_to (8 * i + j)) (q_tj f g i w j (q_to (8 * i + j)) + (q_sg (8 * i + j)).toInt64 * f i * g j)
def q_ti (f g : Nat → Int64) : Nat → (Nat → Int64)
  | 0 => fun _ => 0
  | i + 1 => q_tj f g i (q_ti f g i) 8

set_option maxRecDepth 8000 in
theorem q_ti_0 (f g : Nat → Int64) : q_ti f g 8 0 = q_prod f g 0 := by
  have e : q_ti f g 8 0 = ((((((((0 + (1 : Int32).toInt64 * f 0 * g 0) + (-1 : Int32).toInt64 * f 1 * g 1) + (-1 : Int32).toInt64 * f 2 * g 2) + (-1 : Int32).toInt64 * f 3 * g 3) + (-1 : Int32).toInt64 * f 4 * g 4) + (-1 : Int32).toInt64 * f 5 * g 5) + (-1 : Int32).toInt64 * f 6 * g 6) + (-1 : Int32).toInt64 * f 7 * g 7) := rfl
  rw [e, q_prod, show ((1 : Int32).toInt64) = 1 from rfl, show ((-1 : Int32).toInt64) = -1 from rfl]
  grind
set_option maxRecDepth 8000 in
theorem q_ti_1 (f g : Nat → Int64) : q_ti f g 8 1 = q_prod f g 1 := by
  have e : q_ti f g 8 1 = ((((((((0 + (1 : Int32).toInt64 * f 0 * g 1) + (1 : Int32).toInt64 * f 1 * g 0) + (1 : Int32).toInt64 * f 2 * g 4) + (1 : Int32).toInt64 * f 3 * g 7) + (-1 : Int32).toInt64 * f 4 * g 2) + (1 : Int32).toInt64 * f 5 * g 6) + (-1 : Int32).toInt64 * f 6 * g 5) + (-1 : Int32).toInt64 * f 7 * g 3) := rfl
  rw [e, q_prod, show ((1 : Int32).toInt64) = 1 from rfl, show ((-1 : Int32).toInt64) = -1 from rfl]
  grind
set_option maxRecDepth 8000 in
theorem q_ti_2 (f g : Nat → Int64) : q_ti f g 8 2 = q_prod f g 2 := by
  have e : q_ti f g 8 2 = ((((((((0 + (1 : Int32).toInt64 * f 0 * g 2) + (-1 : Int32).toInt64 * f 1 * g 4) + (1 : Int32).toInt64 * f 2 * g 0) + (1 : Int32).toInt64 * f 3 * g 5) + (1 : Int32).toInt64 * f 4 * g 1) + (-1 : Int32).toInt64 * f 5 * g 3) + (1 : Int32).toInt64 * f 6 * g 7) + (-1 : Int32).toInt64 * f 7 * g 6) := rfl
  rw [e, q_prod, show ((1 : Int32).toInt64) = 1 from rfl, show ((-1 : Int32).toInt64) = -1 from rfl]
  grind
set_option maxRecDepth 8000 in
theorem q_ti_3 (f g : Nat → Int64) : q_ti f g 8 3 = q_prod f g 3 := by
  have e : q_ti f g 8 3 = ((((((((0 + (1 : Int32).toInt64 * f 0 * g 3) + (-1 : Int32).toInt64 * f 1 * g 7) + (-1 : Int32).toInt64 * f 2 * g 5) + (1 : Int32).toInt64 * f 3 * g 0) + (1 : Int32).toInt64 * f 4 * g 6) + (1 : Int32).toInt64 * f 5 * g 2) + (-1 : Int32).toInt64 * f 6 * g 4) + (1 : Int32).toInt64 * f 7 * g 1) := rfl
  rw [e, q_prod, show ((1 : Int32).toInt64) = 1 from rfl, show ((-1 : Int32).toInt64) = -1 from rfl]
  grind
set_option maxRecDepth 8000 in
theorem q_ti_4 (f g : Nat → Int64) : q_ti f g 8 4 = q_prod f g 4 := by
  have e : q_ti f g 8 4 = ((((((((0 + (1 : Int32).toInt64 * f 0 * g 4) + (1 : Int32).toInt64 * f 1 * g 2) + (-1 : Int32).toInt64 * f 2 * g 1) + (-1 : Int32).toInt64 * f 3 * g 6) + (1 : Int32).toInt64 * f 4 * g 0) + (1 : Int32).toInt64 * f 5 * g 7) + (1 : Int32).toInt64 * f 6 * g 3) + (-1 : Int32).toInt64 * f 7 * g 5) := rfl
  rw [e, q_prod, show ((1 : Int32).toInt64) = 1 from rfl, show ((-1 : Int32).toInt64) = -1 from rfl]
  grind
set_option maxRecDepth 8000 in
theorem q_ti_5 (f g : Nat → Int64) : q_ti f g 8 5 = q_prod f g 5 := by
  have e : q_ti f g 8 5 = ((((((((0 + (1 : Int32).toInt64 * f 0 * g 5) + (-1 : Int32).toInt64 * f 1 * g 6) + (1 : Int32).toInt64 * f 2 * g 3) + (-1 : Int32).toInt64 * f 3 * g 2) + (-1 : Int32).toInt64 * f 4 * g 7) + (1 : Int32).toInt64 * f 5 * g 0) + (1 : Int32).toInt64 * f 6 * g 1) + (1 : Int32).toInt64 * f 7 * g 4) := rfl
  rw [e, q_prod, show ((1 : Int32).toInt64) = 1 from rfl, show ((-1 : Int32).toInt64) = -1 from rfl]
  grind
set_option maxRecDepth 8000 in
theorem q_ti_6 (f g : Nat → Int64) : q_ti f g 8 6 = q_prod f g 6 := by
  have e : q_ti f g 8 6 = ((((((((0 + (1 : Int32).toInt64 * f 0 * g 6) + (1 : Int32).toInt64 * f 1 * g 5) + (-1 : Int32).toInt64 * f 2 * g 7) + (1 : Int32).toInt64 * f 3 * g 4) + (-1 : Int32).toInt64 * f 4 * g 3) + (-1 : Int32).toInt64 * f 5 * g 1) + (1 : Int32).toInt64 * f 6 * g 0) + (1 : Int32).toInt64 * f 7 * g 2) := rfl
  rw [e, q_prod, show ((1 : Int32).toInt64) = 1 from rfl, show ((-1 : Int32).toInt64) = -1 from rfl]
  grind
set_option maxRecDepth 8000 in
theorem q_ti_7 (f g : Nat → Int64) : q_ti f g 8 7 = q_prod f g 7 := by
  have e : q_ti f g 8 7 = ((((((((0 + (1 : Int32).toInt64 * f 0 * g 7) + (1 : Int32).toInt64 * f 1 * g 3) + (1 : Int32).toInt64 * f 2 * g 6) + (-1 : Int32).toInt64 * f 3 * g 1) + (1 : Int32).toInt64 * f 4 * g 5) + (-1 : Int32).toInt64 * f 5 * g 4) + (-1 : Int32).toInt64 * f 6 * g 2) + (1 : Int32).toInt64 * f 7 * g 0) := rfl
  rw [e, q_prod, show ((1 : Int32).toInt64) = 1 from rfl, show ((-1 : Int32).toInt64) = -1 from rfl]
  grind
theorem q_ti_prod (f g : Nat → Int64) : ∀ k, k < 8 → q_ti f g 8 k = q_prod f g k
  | 0, _ => q_ti_0 f g
  | 1, _ => q_ti_1 f g
  | 2, _ => q_ti_2 f g
  | 3, _ => q_ti_3 f g
  | 4, _ => q_ti_4 f g
  | 5, _ => q_ti_5 f g
  | 6, _ => q_ti_6 f g
  | 7, _ => q_ti_7 f g
  | k + 8, h => absurd h (by omega)
set_option maxRecDepth 4000 in
theorem c_X8_times (E : og_E) (d n a b c : Nat) (h : og_H) (f g k w : Nat → Int64) {ps ty rf la un : Int32} {ls : Int64} {dp wl ct : Int32} (h0 : h 101 = some (og_mo ps ty rf la un ls dp wl ct)) (hto : h 105 = some og_TO) (hsg : h 106 = some og_SG) (hw : h 111 = some (rowL w)) (ha : h a = some (rowL f)) (hb : h b = some (rowL g)) (hc : h c = some (rowL k)) (h3a : 106 < a) (h3b : 106 < b) (h3c : 106 < c) (a1 : a ≠ 111) (b1 : b ≠ 111) (c1 : c ≠ 111) :
    og_M E yX8_times (.code yX8_times cX8_times 6 none) d [.ref 101, .ref a, .ref b, .ref c] n h 0 0 (fun v n1 h1 => v = none ∧ n1 = n ∧ h1 = og_set (og_set h 111 (rowL (q_ti f g 8))) c (rowL (q_prod f g))) no_x := by
  refine og_start (lv := [some (.ref 101), some (.ref a), some (.ref b), some (.ref c), none, none]) (by decide) rfl rfl (Nat.le_of_ble_eq_true rfl) fun X hr hnm htb => ?_
  refine og_iconst (pc := 0) (v := 0) dX8_times_0 (by decide) ?_
  refine og_istore_4 (pc := 1) dX8_times_1 rfl ?_
  refine og_congL (fun j => if j < 0 then (fun _ => 0) j else w j) hw (by omega) (fun j _ => by simp) ?_
  refine og_for (i0 := 0) (N := 8) (by decide) (fun i => og_set h 111 (rowL (fun j => if j < i then (fun _ => 0) j else w j))) (fun i => [some (.ref 101), some (.ref a), some (.ref b), some (.ref c), some (.int (nI i)), none]) ?_ (fun i _ hi ih => ?_)
  · refine og_iload (pc := 3) dX8_times_3 rfl ?_
    refine og_bipush (pc := 5) (v := 8) dX8_times_5 (by decide) ?_
    refine og_geN (pc := 7) (tgt := 24) (i := 8) (N := 8) dX8_times_7 (by decide) rfl rfl (by omega) (by omega) (fun c_7 => ?_) (fun c_7 => ?_)
    · refine og_iconst (pc := 24) (v := 0) dX8_times_24 (by decide) ?_
      refine og_istore_4 (pc := 25) dX8_times_25 rfl ?_
      refine og_congL (q_ti f g 0) (og_set_eq _ _ _) (by omega) (fun j hj => by rw [if_pos (by omega)]; rfl) ?_
      rw [og_set_set]
      refine og_for (i0 := 0) (N := 8) (by decide) (fun i => og_set h 111 (rowL (q_ti f g i))) (fun i => [some (.ref 101), some (.ref a), some (.ref b), some (.ref c), some (.int (nI i)), none]) ?_ (fun i _ hi ih => ?_)
      · refine og_iload (pc := 27) dX8_times_27 rfl ?_
        refine og_bipush (pc := 29) (v := 8) dX8_times_29 (by decide) ?_
        refine og_geN (pc := 31) (tgt := 101) (i := 8) (N := 8) dX8_times_31 (by decide) rfl rfl (by omega) (by omega) (fun c_31 => ?_) (fun c_31 => ?_)
        · refine og_iconst (pc := 101) (v := 0) dX8_times_101 (by decide) ?_
          refine og_istore_4 (pc := 102) dX8_times_102 rfl ?_
          have ec : og_set h 111 (rowL (q_ti f g 8)) c = some (rowL k) := (og_set_ne _ _ c1).trans hc
          refine og_congL (fun j => if j < 0 then q_ti f g 8 j else k j) ec (by omega) (fun j _ => by simp) ?_
          have c2 : 111 ≠ c := fun q => c1 q.symm
          have c3 : 101 ≠ c := by omega
          refine og_for (i0 := 0) (N := 8) (by decide) (fun i => og_set (og_set h 111 (rowL (q_ti f g 8))) c (rowL (fun j => if j < i then q_ti f g 8 j else k j))) (fun i => [some (.ref 101), some (.ref a), some (.ref b), some (.ref c), some (.int (nI i)), none]) ?_ (fun i _ hi ih => ?_)
          · refine og_iload (pc := 104) dX8_times_104 rfl ?_
            refine og_bipush (pc := 106) (v := 8) dX8_times_106 (by decide) ?_
            refine og_geN (pc := 108) (tgt := 128) (i := 8) (N := 8) dX8_times_108 (by decide) rfl rfl (by omega) (by omega) (fun c_108 => ?_) (fun c_108 => ?_)
            · refine og_congL (q_prod f g) (og_set_eq _ _ _) (by omega) (fun j hj => by rw [if_pos (by omega)]; exact q_ti_prod f g j hj) ?_
              rw [og_set_set]
              exact og_vret (pc := 128) hr dX8_times_128 (by omega) (by omega) ⟨rfl, rfl, rfl⟩
            · omega
          · refine og_iload (pc := 104) dX8_times_104 rfl ?_
            refine og_bipush (pc := 106) (v := 8) dX8_times_106 (by decide) ?_
            refine og_geN (pc := 108) (tgt := 128) (i := i) (N := 8) dX8_times_108 (by decide) rfl rfl (by omega) (by omega) (fun c_108 => ?_) (fun c_108 => ?_)
            · omega
            refine og_aload_n (pc := 111) dX8_times_111 rfl ?_
            refine og_iload (pc := 112) dX8_times_112 rfl ?_
            refine og_aload_n (pc := 114) dX8_times_114 rfl ?_
            refine og_get (pc := 115) F_X8_38 dX8_times_115 (by repeat (first | exact og_set_eq _ _ _ | assumption | refine (og_set_ne _ _ (by first | assumption | omega)).trans ?_)) (by omega) rfl ?_
            refine og_iload (pc := 118) dX8_times_118 rfl ?_
            refine og_laldN (pc := 120) rfl dX8_times_120 (by repeat (first | exact og_set_eq _ _ _ | assumption | refine (og_set_ne _ _ (by first | assumption | omega)).trans ?_)) (by omega) (by omega) (by first | decide | assumption | omega) ?_
            refine og_lastN (pc := 121) rfl dX8_times_121 (by repeat (first | exact og_set_eq _ _ _ | assumption | refine (og_set_ne _ _ (by first | assumption | omega)).trans ?_)) (by omega) (by omega) (by first | decide | assumption | omega) ?_
            refine og_iinc_4 (pc := 122) dX8_times_122 (og_inc i) rfl ?_
            refine og_goto (pc := 125) (tgt := 104) dX8_times_125 (by decide) ?_
            rw [og_set_set, og_fill (by rfl)]
            exact ih
        · omega
      · refine og_iload (pc := 27) dX8_times_27 rfl ?_
        refine og_bipush (pc := 29) (v := 8) dX8_times_29 (by decide) ?_
        refine og_geN (pc := 31) (tgt := 101) (i := i) (N := 8) dX8_times_31 (by decide) rfl rfl (by omega) (by omega) (fun c_31 => ?_) (fun c_31 => ?_)
        · omega
        refine og_iconst (pc := 34) (v := 0) dX8_times_34 (by decide) ?_
        refine og_istore_5 (pc := 35) dX8_times_35 rfl ?_
        refine og_for (i0 := 0) (N := 8) (by decide) (fun j => og_set h 111 (rowL (q_tj f g i (q_ti f g i) j))) (fun j => [some (.ref 101), some (.ref a), some (.ref b), some (.ref c), some (.int (nI i)), some (.int (nI j))]) ?_ (fun j _ hj ih2 => ?_)
        · refine og_iload (pc := 37) dX8_times_37 rfl ?_
          refine og_bipush (pc := 39) (v := 8) dX8_times_39 (by decide) ?_
          refine og_geN (pc := 41) (tgt := 95) (i := 8) (N := 8) dX8_times_41 (by decide) rfl rfl (by omega) (by omega) (fun c_41 => ?_) (fun c_41 => ?_)
          · refine og_forget_5 ?_
            refine og_iinc_4 (pc := 95) dX8_times_95 (og_inc i) rfl ?_
            refine og_goto (pc := 98) (tgt := 27) dX8_times_98 (by decide) ?_
            exact ih
          · omega
        · have hm := q_to_lt (8 * i + j) (by omega)
          have e5 : og_set h 111 (rowL (q_tj f g i (q_ti f g i) j)) 105 = some og_TO := (og_set_ne _ _ (by omega)).trans hto
          have e6 : og_set h 111 (rowL (q_tj f g i (q_ti f g i) j)) 106 = some og_SG := (og_set_ne _ _ (by omega)).trans hsg
          refine og_iload (pc := 37) dX8_times_37 rfl ?_
          refine og_bipush (pc := 39) (v := 8) dX8_times_39 (by decide) ?_
          refine og_geN (pc := 41) (tgt := 95) (i := j) (N := 8) dX8_times_41 (by decide) rfl rfl (by omega) (by omega) (fun c_41 => ?_) (fun c_41 => ?_)
          · omega
          refine og_aload_n (pc := 44) dX8_times_44 rfl ?_
          refine og_get (pc := 45) F_X8_38 dX8_times_45 (by repeat (first | exact og_set_eq _ _ _ | assumption | refine (og_set_ne _ _ (by first | assumption | omega)).trans ?_)) (by omega) rfl ?_
          refine og_aload_n (pc := 48) dX8_times_48 rfl ?_
          refine og_get (pc := 49) F_X8_19 dX8_times_49 (by repeat (first | exact og_set_eq _ _ _ | assumption | refine (og_set_ne _ _ (by first | assumption | omega)).trans ?_)) (by omega) rfl ?_
          refine og_bipush (pc := 52) (v := 8) dX8_times_52 (by decide) ?_
          refine og_iload (pc := 54) dX8_times_54 rfl ?_
          refine og_imul (pc := 56) dX8_times_56 ?_
          refine og_iload (pc := 57) dX8_times_57 rfl ?_
          refine og_iadd (pc := 59) dX8_times_59 ?_
          refine og_ialdN (pc := 60) (og_i8 i j) dX8_times_60 e5 (by omega) (by omega) (by first | decide | assumption | omega) ?_
          refine og_dup2 (pc := 61) dX8_times_61 rfl rfl ?_
          refine og_laldN (pc := 62) rfl dX8_times_62 (by repeat (first | exact og_set_eq _ _ _ | assumption | refine (og_set_ne _ _ (by first | assumption | omega)).trans ?_)) (by omega) (by omega) (by first | decide | assumption | omega) ?_
          refine og_aload_n (pc := 63) dX8_times_63 rfl ?_
          refine og_get (pc := 64) F_X8_22 dX8_times_64 (by repeat (first | exact og_set_eq _ _ _ | assumption | refine (og_set_ne _ _ (by first | assumption | omega)).trans ?_)) (by omega) rfl ?_
          refine og_bipush (pc := 67) (v := 8) dX8_times_67 (by decide) ?_
          refine og_iload (pc := 69) dX8_times_69 rfl ?_
          refine og_imul (pc := 71) dX8_times_71 ?_
          refine og_iload (pc := 72) dX8_times_72 rfl ?_
          refine og_iadd (pc := 74) dX8_times_74 ?_
          refine og_ialdN (pc := 75) (og_i8 i j) dX8_times_75 e6 (by omega) (by omega) (by first | decide | assumption | omega) ?_
          refine og_i2l (pc := 76) dX8_times_76 rfl ?_
          refine og_aload_n (pc := 77) dX8_times_77 rfl ?_
          refine og_iload (pc := 78) dX8_times_78 rfl ?_
          refine og_laldN (pc := 80) rfl dX8_times_80 (by repeat (first | exact og_set_eq _ _ _ | assumption | refine (og_set_ne _ _ (by first | assumption | omega)).trans ?_)) (by omega) (by omega) (by first | decide | assumption | omega) ?_
          refine og_lmul (pc := 81) dX8_times_81 ?_
          refine og_aload_n (pc := 82) dX8_times_82 rfl ?_
          refine og_iload (pc := 83) dX8_times_83 rfl ?_
          refine og_laldN (pc := 85) rfl dX8_times_85 (by repeat (first | exact og_set_eq _ _ _ | assumption | refine (og_set_ne _ _ (by first | assumption | omega)).trans ?_)) (by omega) (by omega) (by first | decide | assumption | omega) ?_
          refine og_lmul (pc := 86) dX8_times_86 ?_
          refine og_ladd (pc := 87) dX8_times_87 ?_
          refine og_lastN (pc := 88) rfl dX8_times_88 (by repeat (first | exact og_set_eq _ _ _ | assumption | refine (og_set_ne _ _ (by first | assumption | omega)).trans ?_)) (by omega) (by omega) (by first | decide | assumption | omega) ?_
          refine og_iinc_5 (pc := 89) dX8_times_89 (og_inc j) rfl ?_
          refine og_goto (pc := 92) (tgt := 37) dX8_times_92 (by decide) ?_
          rw [og_set_set]
          exact ih2
    · omega
  · refine og_iload (pc := 3) dX8_times_3 rfl ?_
    refine og_bipush (pc := 5) (v := 8) dX8_times_5 (by decide) ?_
    refine og_geN (pc := 7) (tgt := 24) (i := i) (N := 8) dX8_times_7 (by decide) rfl rfl (by omega) (by omega) (fun c_7 => ?_) (fun c_7 => ?_)
    · omega
    refine og_aload_n (pc := 10) dX8_times_10 rfl ?_
    refine og_get (pc := 11) F_X8_38 dX8_times_11 (by repeat (first | exact og_set_eq _ _ _ | assumption | refine (og_set_ne _ _ (by first | assumption | omega)).trans ?_)) (by omega) rfl ?_
    refine og_iload (pc := 14) dX8_times_14 rfl ?_
    refine og_lconst (pc := 16) (v := 0) dX8_times_16 (by decide) ?_
    refine og_lastN (pc := 17) rfl dX8_times_17 (by repeat (first | exact og_set_eq _ _ _ | assumption | refine (og_set_ne _ _ (by first | assumption | omega)).trans ?_)) (by omega) (by omega) (by first | decide | assumption | omega) ?_
    refine og_iinc_4 (pc := 18) dX8_times_18 (og_inc i) rfl ?_
    refine og_goto (pc := 21) (tgt := 3) dX8_times_21 (by decide) ?_
    rw [og_set_set, og_fill (by rfl)]
    exact ih
set_option maxRecDepth 4000 in
theorem c_X8_lays (E : og_E) (d n i j k : Nat) (h : og_H) (t s : Nat → Int32) {ps ty rf la un : Int32} {ls : Int64} {dp wl ct : Int32} (h0 : h 101 = some (og_mo ps ty rf la un ls dp wl ct)) (ht : h 105 = some (rowI 64 t)) (hs : h 106 = some (rowI 64 s)) (hi : i < 8) (hj : j < 8) :
    og_M E yX8_lays (.code yX8_lays cX8_lays 4 none) d [.ref 101, .int (nI i), .int (nI j), .int (nI k)] n h 0 0 (fun v n1 h1 => v = none ∧ n1 = n ∧ h1 = og_set (og_set h 105 (rowI 64 (upd (upd t (8 * i + j) (nI k)) (8 * j + i) (nI k)))) 106 (rowI 64 (upd (upd s (8 * i + j) 1) (8 * j + i) (-1)))) no_x := by
  refine og_start (lv := [some (.ref 101), some (.int (nI i)), some (.int (nI j)), some (.int (nI k))]) (by decide) rfl rfl (Nat.le_of_ble_eq_true rfl) fun X hr hnm htb => ?_
  refine og_aload_n (pc := 0) dX8_lays_0 rfl ?_
  refine og_get (pc := 1) F_X8_19 dX8_lays_1 (by repeat (first | exact og_set_eq _ _ _ | assumption | refine (og_set_ne _ _ (by first | assumption | omega)).trans ?_)) (by omega) rfl ?_
  refine og_bipush (pc := 4) (v := 8) dX8_lays_4 (by decide) ?_
  refine og_iload_n (pc := 6) dX8_lays_6 rfl ?_
  refine og_imul (pc := 7) dX8_lays_7 ?_
  refine og_iload_n (pc := 8) dX8_lays_8 rfl ?_
  refine og_iadd (pc := 9) dX8_lays_9 ?_
  refine og_iload_n (pc := 10) dX8_lays_10 rfl ?_
  refine og_iastN (pc := 11) (og_i8 i j) dX8_lays_11 (by repeat (first | exact og_set_eq _ _ _ | assumption | refine (og_set_ne _ _ (by first | assumption | omega)).trans ?_)) (by omega) (by omega) (by first | decide | assumption | omega) ?_
  refine og_aload_n (pc := 12) dX8_lays_12 rfl ?_
  refine og_get (pc := 13) F_X8_22 dX8_lays_13 (by repeat (first | exact og_set_eq _ _ _ | assumption | refine (og_set_ne _ _ (by first | assumption | omega)).trans ?_)) (by omega) rfl ?_
  refine og_bipush (pc := 16) (v := 8) dX8_lays_16 (by decide) ?_
  refine og_iload_n (pc := 18) dX8_lays_18 rfl ?_
  refine og_imul (pc := 19) dX8_lays_19 ?_
  refine og_iload_n (pc := 20) dX8_lays_20 rfl ?_
  refine og_iadd (pc := 21) dX8_lays_21 ?_
  refine og_iconst (pc := 22) (v := 1) dX8_lays_22 (by decide) ?_
  refine og_iastN (pc := 23) (og_i8 i j) dX8_lays_23 (by repeat (first | exact og_set_eq _ _ _ | assumption | refine (og_set_ne _ _ (by first | assumption | omega)).trans ?_)) (by omega) (by omega) (by first | decide | assumption | omega) ?_
  refine og_aload_n (pc := 24) dX8_lays_24 rfl ?_
  refine og_get (pc := 25) F_X8_19 dX8_lays_25 (by repeat (first | exact og_set_eq _ _ _ | assumption | refine (og_set_ne _ _ (by first | assumption | omega)).trans ?_)) (by omega) rfl ?_
  refine og_bipush (pc := 28) (v := 8) dX8_lays_28 (by decide) ?_
  refine og_iload_n (pc := 30) dX8_lays_30 rfl ?_
  refine og_imul (pc := 31) dX8_lays_31 ?_
  refine og_iload_n (pc := 32) dX8_lays_32 rfl ?_
  refine og_iadd (pc := 33) dX8_lays_33 ?_
  refine og_iload_n (pc := 34) dX8_lays_34 rfl ?_
  refine og_iastN (pc := 35) (og_i8 j i) dX8_lays_35 (by repeat (first | exact og_set_eq _ _ _ | assumption | refine (og_set_ne _ _ (by first | assumption | omega)).trans ?_)) (by omega) (by omega) (by first | decide | assumption | omega) ?_
  refine og_aload_n (pc := 36) dX8_lays_36 rfl ?_
  refine og_get (pc := 37) F_X8_22 dX8_lays_37 (by repeat (first | exact og_set_eq _ _ _ | assumption | refine (og_set_ne _ _ (by first | assumption | omega)).trans ?_)) (by omega) rfl ?_
  refine og_bipush (pc := 40) (v := 8) dX8_lays_40 (by decide) ?_
  refine og_iload_n (pc := 42) dX8_lays_42 rfl ?_
  refine og_imul (pc := 43) dX8_lays_43 ?_
  refine og_iload_n (pc := 44) dX8_lays_44 rfl ?_
  refine og_iadd (pc := 45) dX8_lays_45 ?_
  refine og_iconst (pc := 46) (v := (-1)) dX8_lays_46 (by decide) ?_
  refine og_iastN (pc := 47) (og_i8 j i) dX8_lays_47 (by repeat (first | exact og_set_eq _ _ _ | assumption | refine (og_set_ne _ _ (by first | assumption | omega)).trans ?_)) (by omega) (by omega) (by first | decide | assumption | omega) ?_
  exact og_vret (pc := 48) hr dX8_lays_48 (by omega) (by omega) ⟨rfl, rfl, by rw [og_set_comm (og_set h 105 _) _ _ (show 106 ≠ 105 by omega), og_set_set, og_set_set]⟩
def q_both (o : Nat) : Int32 := 1 ||| ((1 : Int32) <<< (nI o &&& 31))
noncomputable def q_its (x : Int32) (o : Nat) : Int32 := q_if (x &&& q_both o = 0 ∨ x &&& q_both o = q_both o) x (x ^^^ q_both o)
def q_four (t : Nat) : Int32 := ((1 ||| ((1 : Int32) <<< (nI (t + 1) &&& 31))) ||| ((1 : Int32) <<< (nI ((t + 1) % 7 + 1) &&& 31))) ||| ((1 : Int32) <<< (nI ((t + 3) % 7 + 1) &&& 31))
def q_isQ (y : Int32) (t : Nat) : Prop := y = 0 ∨ y = 255 ∨ ∃ s, s < t ∧ (y = q_four s ∨ y = q_four s ^^^ 255)
set_option maxRecDepth 4000 in
theorem c_X8_isSet (E : og_E) (d n o : Nat) (h : og_H) (x : Int32) (ho : o < 8) :
    og_M E yX8_isSet (.code yX8_isSet cX8_isSet 8 (some .boolean)) d [.ref 101, .int x, .int (nI o)] n h 0 0 (fun v n1 h1 => n1 = n ∧ h1 = h ∧ ((v = some (.int 1) ∧ q_isQ (q_its x o) 7) ∨ (v = some (.int 0) ∧ ¬ q_isQ (q_its x o) 7))) no_x := by
  refine og_start (lv := [some (.ref 101), some (.int x), some (.int (nI o)), none, none, none, none, none]) (by decide) rfl rfl (Nat.le_of_ble_eq_true rfl) fun X hr hnm htb => ?_
  have rest : ∀ y, y = q_its x o → og_G E yX8_isSet.cls cX8_isSet d 0 0 8 X (og_Q E (fun v n1 h1 => n1 = n ∧ h1 = h ∧ ((v = some (.int 1) ∧ q_isQ (q_its x o) 7) ∨ (v = some (.int 0) ∧ ¬ q_isQ (q_its x o) 7))) no_x 0 0 X) 0 0 n h 26 [some (.ref 101), some (.int x), some (.int (nI o)), some (.int (q_both o)), none, none, none, none] [.int y] := by
    intro y hy
    subst hy
    refine og_istore_4 (pc := 26) dX8_isSet_26 rfl ?_
    refine og_iload (pc := 28) dX8_isSet_28 rfl ?_
    have key : og_G E yX8_isSet.cls cX8_isSet d 0 0 8 X (og_Q E (fun v n1 h1 => n1 = n ∧ h1 = h ∧ ((v = some (.int 1) ∧ q_isQ (q_its x o) 7) ∨ (v = some (.int 0) ∧ ¬ q_isQ (q_its x o) 7))) no_x 0 0 X) 0 0 n h 46 [some (.ref 101), some (.int x), some (.int (nI o)), some (.int (q_both o)), some (.int (q_its x o)), none, none, none] [.int (q_if (q_isQ (q_its x o) 0) 1 0)] := by
      refine og_istore_5 (pc := 46) dX8_isSet_46 rfl ?_
      refine og_iconst (pc := 48) (v := 0) dX8_isSet_48 (by decide) ?_
      refine og_istore_6 (pc := 49) dX8_isSet_49 rfl ?_
      refine og_for (i0 := 0) (N := 7) (by decide) (fun _ => h) (fun t => [some (.ref 101), some (.int x), some (.int (nI o)), some (.int (q_both o)), some (.int (q_its x o)), some (.int (q_if (q_isQ (q_its x o) t) 1 0)), some (.int (nI t)), none]) ?_ (fun t _ ht ih => ?_)
      · refine og_iload (pc := 51) dX8_isSet_51 rfl ?_
        refine og_bipush (pc := 53) (v := 7) dX8_isSet_53 (by decide) ?_
        refine og_geN (pc := 55) (tgt := 128) (i := 7) (N := 7) dX8_isSet_55 (by decide) rfl rfl (by omega) (by omega) (fun c_55 => ?_) (fun c_55 => ?_)
        · refine og_iload (pc := 128) dX8_isSet_128 rfl ?_
          by_cases hq : q_isQ (q_its x o) 7
          · rw [q_if_pos hq]
            exact og_zret (pc := 130) hr rfl dX8_isSet_130 (by omega) (by omega) ⟨rfl, rfl, Or.inl ⟨rfl, hq⟩⟩
          · rw [q_if_neg hq]
            exact og_zret (pc := 130) hr rfl dX8_isSet_130 (by omega) (by omega) ⟨rfl, rfl, Or.inr ⟨rfl, hq⟩⟩
        · omega
      · have i1 : ∀ z : Nat, nI z + 1 = nI (z + 1) := nI_1
        have i3 : nI t + 3 = nI (t + 3) := by rw [show (3 : Int32) = nI 3 from rfl, nI_add]
        have m1 : nI (t + 1) - nI (t + 1) / 7 * 7 = nI ((t + 1) % 7) := by rw [show (7 : Int32) = nI 7 from rfl]; exact pk_rem (by omega) (by omega) (by omega)
        have m3 : nI (t + 3) - nI (t + 3) / 7 * 7 = nI ((t + 3) % 7) := by rw [show (7 : Int32) = nI 7 from rfl]; exact pk_rem (by omega) (by omega) (by omega)
        refine og_iload (pc := 51) dX8_isSet_51 rfl ?_
        refine og_bipush (pc := 53) (v := 7) dX8_isSet_53 (by decide) ?_
        refine og_geN (pc := 55) (tgt := 128) (i := t) (N := 7) dX8_isSet_55 (by decide) rfl rfl (by omega) (by omega) (fun c_55 => ?_) (fun c_55 => ?_)
        · omega
        refine og_iconst (pc := 58) (v := 1) dX8_isSet_58 (by decide) ?_
        refine og_iconst (pc := 59) (v := 1) dX8_isSet_59 (by decide) ?_
        refine og_iload (pc := 60) dX8_isSet_60 rfl ?_
        refine og_iconst (pc := 62) (v := 1) dX8_isSet_62 (by decide) ?_
        refine og_iadd (pc := 63) dX8_isSet_63 ?_
        refine og_ishl (pc := 64) dX8_isSet_64 ?_
        refine og_ior (pc := 65) dX8_isSet_65 ?_
        refine og_iconst (pc := 66) (v := 1) dX8_isSet_66 (by decide) ?_
        refine og_iload (pc := 67) dX8_isSet_67 rfl ?_
        refine og_iconst (pc := 69) (v := 1) dX8_isSet_69 (by decide) ?_
        refine og_iadd (pc := 70) dX8_isSet_70 ?_
        refine og_bipush (pc := 71) (v := 7) dX8_isSet_71 (by decide) ?_
        refine og_irem (pc := 73) dX8_isSet_73 (by decide) ?_
        refine og_iconst (pc := 74) (v := 1) dX8_isSet_74 (by decide) ?_
        refine og_iadd (pc := 75) dX8_isSet_75 ?_
        refine og_ishl (pc := 76) dX8_isSet_76 ?_
        refine og_ior (pc := 77) dX8_isSet_77 ?_
        refine og_iconst (pc := 78) (v := 1) dX8_isSet_78 (by decide) ?_
        refine og_iload (pc := 79) dX8_isSet_79 rfl ?_
        refine og_iconst (pc := 81) (v := 3) dX8_isSet_81 (by decide) ?_
        refine og_iadd (pc := 82) dX8_isSet_82 ?_
        refine og_bipush (pc := 83) (v := 7) dX8_isSet_83 (by decide) ?_
        refine og_irem (pc := 85) dX8_isSet_85 (by decide) ?_
        refine og_iconst (pc := 86) (v := 1) dX8_isSet_86 (by decide) ?_
        refine og_iadd (pc := 87) dX8_isSet_87 ?_
        refine og_ishl (pc := 88) dX8_isSet_88 ?_
        refine og_ior (pc := 89) dX8_isSet_89 ?_
        rw [i3, i1 t, m1, m3, i1, i1]
        refine og_istore_7 (pc := 90) dX8_isSet_90 rfl ?_
        refine og_iload (pc := 92) dX8_isSet_92 rfl ?_
        have yes : q_isQ (q_its x o) (t + 1) → og_G E yX8_isSet.cls cX8_isSet d 0 0 8 X (og_Q E (fun v n1 h1 => n1 = n ∧ h1 = h ∧ ((v = some (.int 1) ∧ q_isQ (q_its x o) 7) ∨ (v = some (.int 0) ∧ ¬ q_isQ (q_its x o) 7))) no_x 0 0 X) 0 0 n h 115 [some (.ref 101), some (.int x), some (.int (nI o)), some (.int (q_both o)), some (.int (q_its x o)), some (.int (q_if (q_isQ (q_its x o) t) 1 0)), some (.int (nI t)), some (.int (q_four t))] [] := by
          intro hq
          rw [q_if_pos hq] at ih
          refine og_iconst (pc := 115) (v := 1) dX8_isSet_115 (by decide) ?_
          refine og_goto (pc := 116) (tgt := 120) dX8_isSet_116 (by decide) ?_
          refine og_istore_5 (pc := 120) dX8_isSet_120 rfl ?_
          refine og_iinc_6 (pc := 122) dX8_isSet_122 (og_inc t) rfl ?_
          refine og_goto (pc := 125) (tgt := 51) dX8_isSet_125 (by decide) ?_
          exact og_forget_7 ih
        by_cases hq : q_isQ (q_its x o) t
        · have hq1 : q_isQ (q_its x o) (t + 1) := by
            rcases hq with q | q | ⟨s, q1, q2⟩
            · exact Or.inl q
            · exact Or.inr (Or.inl q)
            · exact Or.inr (Or.inr ⟨s, by omega, q2⟩)
          have yes2 := yes hq1
          rw [q_if_pos hq] at yes2 ⊢
          exact og_if_ne (pc := 94) (tgt := 115) dX8_isSet_94 (by decide) (fun _ => yes2) (fun c => absurd c (by decide))
        · rw [q_if_neg hq] at yes ⊢
          refine og_if_ne (pc := 94) (tgt := 115) dX8_isSet_94 (by decide) (fun c => absurd rfl c) (fun _ => ?_)
          refine og_iload (pc := 97) dX8_isSet_97 rfl ?_
          refine og_iload (pc := 99) dX8_isSet_99 rfl ?_
          refine og_icmp_eq (pc := 101) (tgt := 115) dX8_isSet_101 (by decide) (fun c => yes (Or.inr (Or.inr ⟨t, by omega, Or.inl c⟩))) (fun c1 => ?_)
          refine og_iload (pc := 104) dX8_isSet_104 rfl ?_
          refine og_iload (pc := 106) dX8_isSet_106 rfl ?_
          refine og_sipush (pc := 108) (v := 255) dX8_isSet_108 (by decide) ?_
          refine og_ixor (pc := 111) dX8_isSet_111 ?_
          refine og_icmp_ne (pc := 112) (tgt := 119) dX8_isSet_112 (by decide) (fun c2 => ?_) (fun c => yes (Or.inr (Or.inr ⟨t, by omega, Or.inr c⟩)))
          have hq1 : ¬ q_isQ (q_its x o) (t + 1) := by
            intro z
            rcases z with q | q | ⟨s, q1, q2⟩
            · exact hq (Or.inl q)
            · exact hq (Or.inr (Or.inl q))
            · by_cases hs : s = t
              · subst hs
                exact q2.elim c1 c2
              · exact hq (Or.inr (Or.inr ⟨s, by omega, q2⟩))
          rw [q_if_neg hq1] at ih
          refine og_iconst (pc := 119) (v := 0) dX8_isSet_119 (by decide) ?_
          refine og_istore_5 (pc := 120) dX8_isSet_120 rfl ?_
          refine og_iinc_6 (pc := 122) dX8_isSet_122 (og_inc t) rfl ?_
          refine og_goto (pc := 125) (tgt := 51) dX8_isSet_125 (by decide) ?_
          exact og_forget_7 ih
    refine og_if_eq (pc := 30) (tgt := 41) dX8_isSet_30 (by decide) (fun c => ?_) (fun c1 => ?_)
    · have hq : q_isQ (q_its x o) 0 := Or.inl c
      rw [q_if_pos hq] at key
      refine og_iconst (pc := 41) (v := 1) dX8_isSet_41 (by decide) ?_
      refine og_goto (pc := 42) (tgt := 46) dX8_isSet_42 (by decide) ?_
      exact key
    · refine og_iload (pc := 33) dX8_isSet_33 rfl ?_
      refine og_sipush (pc := 35) (v := 255) dX8_isSet_35 (by decide) ?_
      refine og_icmp_ne (pc := 38) (tgt := 45) dX8_isSet_38 (by decide) (fun c2 => ?_) (fun c2 => ?_)
      · have hq : ¬ q_isQ (q_its x o) 0 := by
          intro z
          rcases z with q | q | ⟨s, q1, q2⟩
          · exact c1 q
          · exact c2 q
          · omega
        rw [q_if_neg hq] at key
        refine og_iconst (pc := 45) (v := 0) dX8_isSet_45 (by decide) ?_
        exact key
      · have hq : q_isQ (q_its x o) 0 := Or.inr (Or.inl c2)
        rw [q_if_pos hq] at key
        refine og_iconst (pc := 41) (v := 1) dX8_isSet_41 (by decide) ?_
        refine og_goto (pc := 42) (tgt := 46) dX8_isSet_42 (by decide) ?_
        exact key
  refine og_iconst (pc := 0) (v := 1) dX8_isSet_0 (by decide) ?_
  refine og_iconst (pc := 1) (v := 1) dX8_isSet_1 (by decide) ?_
  refine og_iload_n (pc := 2) dX8_isSet_2 rfl ?_
  refine og_ishl (pc := 3) dX8_isSet_3 ?_
  refine og_ior (pc := 4) dX8_isSet_4 ?_
  refine og_istore_n_3 (pc := 5) dX8_isSet_5 rfl ?_
  refine og_iload_n (pc := 6) dX8_isSet_6 rfl ?_
  refine og_iload_n (pc := 7) dX8_isSet_7 rfl ?_
  refine og_iand (pc := 8) dX8_isSet_8 ?_
  refine og_if_eq (pc := 9) (tgt := 19) dX8_isSet_9 (by decide) (fun c => ?_) (fun c1 => ?_)
  · have c : x &&& q_both o = 0 := c
    refine og_iload_n (pc := 19) dX8_isSet_19 rfl ?_
    refine og_goto (pc := 20) (tgt := 26) dX8_isSet_20 (by decide) ?_
    exact rest x (by rw [q_its, q_if_pos (Or.inl c)])
  · refine og_iload_n (pc := 12) dX8_isSet_12 rfl ?_
    refine og_iload_n (pc := 13) dX8_isSet_13 rfl ?_
    refine og_iand (pc := 14) dX8_isSet_14 ?_
    refine og_iload_n (pc := 15) dX8_isSet_15 rfl ?_
    refine og_icmp_ne (pc := 16) (tgt := 23) dX8_isSet_16 (by decide) (fun c2 => ?_) (fun c2 => ?_)
    · refine og_iload_n (pc := 23) dX8_isSet_23 rfl ?_
      refine og_iload_n (pc := 24) dX8_isSet_24 rfl ?_
      refine og_ixor (pc := 25) dX8_isSet_25 ?_
      exact rest _ (by rw [q_its, q_if_neg (fun z => z.elim c1 c2)]; rfl)
    · have c2 : x &&& q_both o = q_both o := c2
      refine og_iload_n (pc := 19) dX8_isSet_19 rfl ?_
      refine og_goto (pc := 20) (tgt := 26) dX8_isSet_20 (by decide) ?_
      exact rest x (by rw [q_its, q_if_pos (Or.inr c2)])
noncomputable def q_od2 (f : Nat → Int64) : Nat → Int32
  | 0 => 0
  | k + 1 => q_od2 f k ||| q_if (f k - f k / 2 * 2 = 0) 0 ((1 : Int32) <<< (nI k &&& 31))
def q_inP (f : Nat → Int64) (o : Nat) : Prop := (o = 0 ∧ q_od2 f 8 = 0) ∨ (o ≠ 0 ∧ q_isQ (q_its (q_od2 f 8) o) 7)
set_option maxRecDepth 4000 in
theorem c_X8_isIn (E : og_E) (d n a o : Nat) (h : og_H) (f : Nat → Int64) {ps ty rf la un : Int32} {ls : Int64} {dp wl ct : Int32} (h0 : h 101 = some (og_mo ps ty rf la un ls dp wl ct)) (ha : h a = some (rowL f)) (h3a : 3 ≤ a) (ho : o < 8) :
    og_M E yX8_isIn (.code yX8_isIn cX8_isIn 5 (some .boolean)) (d + 1) [.ref 101, .ref a, .int (nI o)] n h 0 0 (fun v n1 h1 => n1 = n ∧ h1 = h ∧ ((v = some (.int 1) ∧ q_inP f o) ∨ (v = some (.int 0) ∧ ¬ q_inP f o))) no_x := by
  refine og_start (lv := [some (.ref 101), some (.ref a), some (.int (nI o)), none, none]) (by decide) rfl rfl (Nat.le_of_ble_eq_true rfl) fun X hr hnm htb => ?_
  refine og_iconst (pc := 0) (v := 0) dX8_isIn_0 (by decide) ?_
  refine og_istore_n_3 (pc := 1) dX8_isIn_1 rfl ?_
  refine og_iconst (pc := 2) (v := 0) dX8_isIn_2 (by decide) ?_
  refine og_istore_4 (pc := 3) dX8_isIn_3 rfl ?_
  refine og_for (i0 := 0) (N := 8) (by decide) (fun _ => h) (fun i => [some (.ref 101), some (.ref a), some (.int (nI o)), some (.int (q_od2 f i)), some (.int (nI i))]) ?_ (fun i _ hi ih => ?_)
  · refine og_iload (pc := 5) dX8_isIn_5 rfl ?_
    refine og_bipush (pc := 7) (v := 8) dX8_isIn_7 (by decide) ?_
    refine og_geN (pc := 9) (tgt := 42) (i := 8) (N := 8) dX8_isIn_9 (by decide) rfl rfl (by omega) (by omega) (fun c_9 => ?_) (fun c_9 => ?_)
    · refine og_iload_n (pc := 42) dX8_isIn_42 rfl ?_
      refine og_if_ne (pc := 43) (tgt := 58) dX8_isIn_43 (by decide) (fun c => ?_) (fun c => ?_)
      · have o0 : o ≠ 0 := fun q => c (by rw [q]; rfl)
        refine og_aload_n (pc := 58) dX8_isIn_58 rfl ?_
        refine og_iload_n (pc := 59) dX8_isIn_59 rfl ?_
        refine og_iload_n (pc := 60) dX8_isIn_60 rfl ?_
        refine og_callV (pc := 61) (As := [.int (q_od2 f 8), .int (nI o)]) (rest := []) (c_X8_isSet E d n o h _ ho) Y_X8_isSet I_X8_isSet V_X8_isSet h0 (by omega) rfl rfl K_X8_103 dX8_isIn_61 rfl rfl (Nat.le_of_ble_eq_true rfl) (by omega) (by omega) (by omega) (fun _ _ _ z => z) (fun v n1 h1 z => ?_)
        obtain ⟨rfl, rfl, z⟩ := z
        rcases z with ⟨rfl, z⟩ | ⟨rfl, z⟩
        · exact og_zret (pc := 64) hr rfl dX8_isIn_64 (by omega) (by omega) ⟨rfl, rfl, Or.inl ⟨rfl, Or.inr ⟨o0, z⟩⟩⟩
        · exact og_zret (pc := 64) hr rfl dX8_isIn_64 (by omega) (by omega) ⟨rfl, rfl, Or.inr ⟨rfl, fun q => q.elim (fun q => o0 q.1) (fun q => z q.2)⟩⟩
      · have o0 : o = 0 := by
          rcases Nat.eq_zero_or_pos o with q | q
          · exact q
          · exact absurd c (nI_ne0 q (by omega))
        refine og_iload_n (pc := 46) dX8_isIn_46 rfl ?_
        refine og_if_ne (pc := 47) (tgt := 54) dX8_isIn_47 (by decide) (fun c2 => ?_) (fun c2 => ?_)
        · refine og_iconst (pc := 54) (v := 0) dX8_isIn_54 (by decide) ?_
          refine og_goto (pc := 55) (tgt := 64) dX8_isIn_55 (by decide) ?_
          exact og_zret (pc := 64) hr rfl dX8_isIn_64 (by omega) (by omega) ⟨rfl, rfl, Or.inr ⟨rfl, fun q => q.elim (fun q => c2 q.2) (fun q => q.1 o0)⟩⟩
        · refine og_iconst (pc := 50) (v := 1) dX8_isIn_50 (by decide) ?_
          refine og_goto (pc := 51) (tgt := 64) dX8_isIn_51 (by decide) ?_
          exact og_zret (pc := 64) hr rfl dX8_isIn_64 (by omega) (by omega) ⟨rfl, rfl, Or.inl ⟨rfl, Or.inl ⟨o0, c2⟩⟩⟩
    · omega
  · refine og_iload (pc := 5) dX8_isIn_5 rfl ?_
    refine og_bipush (pc := 7) (v := 8) dX8_isIn_7 (by decide) ?_
    refine og_geN (pc := 9) (tgt := 42) (i := i) (N := 8) dX8_isIn_9 (by decide) rfl rfl (by omega) (by omega) (fun c_9 => ?_) (fun c_9 => ?_)
    · omega
    refine og_iload_n (pc := 12) dX8_isIn_12 rfl ?_
    refine og_aload_n (pc := 13) dX8_isIn_13 rfl ?_
    refine og_iload (pc := 14) dX8_isIn_14 rfl ?_
    refine og_laldN (pc := 16) rfl dX8_isIn_16 (by repeat (first | exact og_set_eq _ _ _ | assumption | refine (og_set_ne _ _ (by first | assumption | omega)).trans ?_)) (by omega) (by omega) (by first | decide | assumption | omega) ?_
    refine og_ldc2 (pc := 17) LC_X8_101 dX8_isIn_17 ?_
    refine og_lrem (pc := 20) dX8_isIn_20 (by decide) ?_
    refine og_lconst (pc := 21) (v := 0) dX8_isIn_21 (by decide) ?_
    refine og_lcmp (pc := 22) dX8_isIn_22 ?_
    refine og_if_ne (pc := 23) (tgt := 30) dX8_isIn_23 (by decide) (fun c => ?_) (fun c => ?_)
    · have e : q_od2 f (i + 1) = q_od2 f i ||| ((1 : Int32) <<< (nI i &&& 31)) := by rw [q_od2, q_if_neg (fun q => c ((og_cmp0 _ _).mpr q))]
      rw [e] at ih
      refine og_iconst (pc := 30) (v := 1) dX8_isIn_30 (by decide) ?_
      refine og_iload (pc := 31) dX8_isIn_31 rfl ?_
      refine og_ishl (pc := 33) dX8_isIn_33 ?_
      refine og_ior (pc := 34) dX8_isIn_34 ?_
      refine og_istore_n_3 (pc := 35) dX8_isIn_35 rfl ?_
      refine og_iinc_4 (pc := 36) dX8_isIn_36 (og_inc i) rfl ?_
      refine og_goto (pc := 39) (tgt := 5) dX8_isIn_39 (by decide) ?_
      exact ih
    · have e : q_od2 f (i + 1) = q_od2 f i ||| 0 := by rw [q_od2, q_if_pos ((og_cmp0 _ _).mp c)]
      rw [e] at ih
      refine og_iconst (pc := 26) (v := 0) dX8_isIn_26 (by decide) ?_
      refine og_goto (pc := 27) (tgt := 34) dX8_isIn_27 (by decide) ?_
      refine og_ior (pc := 34) dX8_isIn_34 ?_
      refine og_istore_n_3 (pc := 35) dX8_isIn_35 rfl ?_
      refine og_iinc_4 (pc := 36) dX8_isIn_36 (og_inc i) rfl ?_
      refine og_goto (pc := 39) (tgt := 5) dX8_isIn_39 (by decide) ?_
      exact ih
def q_sv (p s : Nat → Int32) (c : Nat) : Nat → Int32 := fun j => if 67 * c ≤ j ∧ j < 67 * c + 67 then s (j - 67 * c) else p j
def q_svi (p s : Nat → Int32) (c i : Nat) : Nat → Int32 := fun j => if 67 * c ≤ j ∧ j < 67 * c + i then s (j - 67 * c) else p j
theorem q_svi_next (p s : Nat → Int32) (c i : Nat) : upd (q_svi p s c i) (67 * c + i) (s i) = q_svi p s c (i + 1) := by
  funext j
  unfold upd q_svi
  by_cases h : j = 67 * c + i
  · subst h
    rw [if_pos rfl, if_pos (by omega)]
    congr 1
    omega
  · rw [if_neg h]
    by_cases h2 : 67 * c ≤ j ∧ j < 67 * c + i
    · rw [if_pos h2, if_pos (by omega)]
    · rw [if_neg h2, if_neg (by omega)]
def q_dr (p : Nat → Int32) : Nat → Int32 := fun j => if j < 201 then p (j + 67) else p j
def q_dri (p : Nat → Int32) (i : Nat) : Nat → Int32 := fun j => if j < i then p (j + 67) else p j
theorem q_dri_next (p : Nat → Int32) (i : Nat) : upd (q_dri p i) i (q_dri p i (i + 67)) = q_dri p (i + 1) := by
  funext j
  unfold upd q_dri
  by_cases h : j = i
  · subst h
    rw [if_pos rfl, if_neg (by omega), if_pos (by omega)]
  · rw [if_neg h]
    by_cases h2 : j < i
    · rw [if_pos h2, if_pos (by omega)]
    · rw [if_neg h2, if_neg (by omega)]
theorem og_i67 (r k : Nat) : (67 : Int32) * nI r + nI k = nI (67 * r + k) := by
  rw [show (67 : Int32) = nI 67 from rfl, pk_mul, nI_add]
set_option maxRecDepth 4000 in
theorem c_X8_saves (E : og_E) (d n c : Nat) (h : og_H) (p s : Nat → Int32) {ty rf la un : Int32} {ls : Int64} {dp wl ct : Int32} (h0 : h 101 = some (og_mo (nI c) ty rf la un ls dp wl ct)) (hs : h 102 = some (rowI 67 s)) (hp : h 103 = some (rowI 268 p)) (hc : c ≤ 4) :
    og_M E yX8_saves (.code yX8_saves cX8_saves 2 none) d [.ref 101] n h 0 0 (fun v n1 h1 => v = none ∧ n1 = n ∧ ((c < 4 ∧ h1 = og_set (og_set h 103 (rowI 268 (q_sv p s c))) 101 (og_mo (nI (c + 1)) ty rf la un ls dp wl ct)) ∨ (c = 4 ∧ h1 = og_set (og_set h 103 (rowI 268 (q_sv (q_dr p) s 3))) 101 (og_mo (nI 4) ty rf la un ls dp wl ct)))) no_x := by
  refine og_start (lv := [some (.ref 101), none]) (by decide) rfl rfl (Nat.le_of_ble_eq_true rfl) fun X hr hnm htb => ?_
  have tail : ∀ (p2 : Nat → Int32) (c2 : Nat) (hx : og_H), c2 < 4 → hx 101 = some (og_mo (nI c2) ty rf la un ls dp wl ct) → hx 102 = some (rowI 67 s) → hx 103 = some (rowI 268 p2) → ((c < 4 ∧ og_set (og_set hx 103 (rowI 268 (q_sv p2 s c2))) 101 (og_mo (nI (c2 + 1)) ty rf la un ls dp wl ct) = og_set (og_set h 103 (rowI 268 (q_sv p s c))) 101 (og_mo (nI (c + 1)) ty rf la un ls dp wl ct)) ∨ (c = 4 ∧ og_set (og_set hx 103 (rowI 268 (q_sv p2 s c2))) 101 (og_mo (nI (c2 + 1)) ty rf la un ls dp wl ct) = og_set (og_set h 103 (rowI 268 (q_sv (q_dr p) s 3))) 101 (og_mo (nI 4) ty rf la un ls dp wl ct))) → ∀ a1 : Option Value, og_c1 (some (.ref 101)) = true → og_G E yX8_saves.cls cX8_saves d 0 0 2 X (og_Q E (fun v n1 h1 => v = none ∧ n1 = n ∧ ((c < 4 ∧ h1 = og_set (og_set h 103 (rowI 268 (q_sv p s c))) 101 (og_mo (nI (c + 1)) ty rf la un ls dp wl ct)) ∨ (c = 4 ∧ h1 = og_set (og_set h 103 (rowI 268 (q_sv (q_dr p) s 3))) 101 (og_mo (nI 4) ty rf la un ls dp wl ct)))) no_x 0 0 X) 0 0 n hx 48 [some (.ref 101), a1] [] := by
    intro p2 c2 hx hc2 e1 e2 e3 he a1 _
    refine og_iconst (pc := 48) (v := 0) dX8_saves_48 (by decide) ?_
    refine og_istore_n_1 (pc := 49) dX8_saves_49 rfl ?_
    refine og_congI (q_svi p2 s c2 0) e3 (by omega) (fun j _ => by unfold q_svi; rw [if_neg (by omega)]) ?_
    refine og_for (i0 := 0) (N := 67) (by decide) (fun i => og_set hx 103 (rowI 268 (q_svi p2 s c2 i))) (fun i => [some (.ref 101), some (.int (nI i))]) ?_ (fun i _ hi ih => ?_)
    · refine og_iload_n (pc := 50) dX8_saves_50 rfl ?_
      refine og_bipush (pc := 51) (v := 67) dX8_saves_51 (by decide) ?_
      refine og_geN (pc := 53) (tgt := 82) (i := 67) (N := 67) dX8_saves_53 (by decide) rfl rfl (by omega) (by omega) (fun c_53 => ?_) (fun c_53 => ?_)
      · refine og_aload_n (pc := 82) dX8_saves_82 rfl ?_
        refine og_dup (pc := 83) dX8_saves_83 rfl ?_
        refine og_get (pc := 84) F_X8_90 dX8_saves_84 (by repeat (first | exact og_set_eq _ _ _ | assumption | refine (og_set_ne _ _ (by first | assumption | omega)).trans ?_)) (by omega) rfl ?_
        refine og_iconst (pc := 87) (v := 1) dX8_saves_87 (by decide) ?_
        refine og_iadd (pc := 88) dX8_saves_88 ?_
        refine og_put (pc := 89) P_X8_90 dX8_saves_89 (by repeat (first | exact og_set_eq _ _ _ | assumption | refine (og_set_ne _ _ (by first | assumption | omega)).trans ?_)) (by omega) rfl rfl (Nat.le_of_ble_eq_true rfl) ?_
        rw [nI_1]
        exact og_vret (pc := 92) hr dX8_saves_92 (by omega) (by omega) ⟨rfl, rfl, he.elim (fun q => Or.inl ⟨q.1, q.2⟩) (fun q => Or.inr ⟨q.1, q.2⟩)⟩
      · omega
    · refine og_iload_n (pc := 50) dX8_saves_50 rfl ?_
      refine og_bipush (pc := 51) (v := 67) dX8_saves_51 (by decide) ?_
      refine og_geN (pc := 53) (tgt := 82) (i := i) (N := 67) dX8_saves_53 (by decide) rfl rfl (by omega) (by omega) (fun c_53 => ?_) (fun c_53 => ?_)
      · omega
      refine og_aload_n (pc := 56) dX8_saves_56 rfl ?_
      refine og_get (pc := 57) F_X8_13 dX8_saves_57 (by repeat (first | exact og_set_eq _ _ _ | assumption | refine (og_set_ne _ _ (by first | assumption | omega)).trans ?_)) (by omega) rfl ?_
      refine og_bipush (pc := 60) (v := 67) dX8_saves_60 (by decide) ?_
      refine og_aload_n (pc := 62) dX8_saves_62 rfl ?_
      refine og_get (pc := 63) F_X8_90 dX8_saves_63 (by repeat (first | exact og_set_eq _ _ _ | assumption | refine (og_set_ne _ _ (by first | assumption | omega)).trans ?_)) (by omega) rfl ?_
      refine og_imul (pc := 66) dX8_saves_66 ?_
      refine og_iload_n (pc := 67) dX8_saves_67 rfl ?_
      refine og_iadd (pc := 68) dX8_saves_68 ?_
      refine og_aload_n (pc := 69) dX8_saves_69 rfl ?_
      refine og_get (pc := 70) F_X8_7 dX8_saves_70 (by repeat (first | exact og_set_eq _ _ _ | assumption | refine (og_set_ne _ _ (by first | assumption | omega)).trans ?_)) (by omega) rfl ?_
      refine og_iload_n (pc := 73) dX8_saves_73 rfl ?_
      refine og_ialdN (pc := 74) rfl dX8_saves_74 (by repeat (first | exact og_set_eq _ _ _ | assumption | refine (og_set_ne _ _ (by first | assumption | omega)).trans ?_)) (by omega) (by omega) (by first | decide | assumption | omega) ?_
      refine og_iastN (pc := 75) (og_i67 c2 i) dX8_saves_75 (by repeat (first | exact og_set_eq _ _ _ | assumption | refine (og_set_ne _ _ (by first | assumption | omega)).trans ?_)) (by omega) (by omega) (by first | decide | assumption | omega) ?_
      refine og_iinc_1 (pc := 76) dX8_saves_76 (og_inc i) rfl ?_
      refine og_goto (pc := 79) (tgt := 50) dX8_saves_79 (by decide) ?_
      rw [og_set_set, q_svi_next]
      exact ih
  refine og_aload_n (pc := 0) dX8_saves_0 rfl ?_
  refine og_get (pc := 1) F_X8_90 dX8_saves_1 (by repeat (first | exact og_set_eq _ _ _ | assumption | refine (og_set_ne _ _ (by first | assumption | omega)).trans ?_)) (by omega) rfl ?_
  refine og_iconst (pc := 4) (v := 4) dX8_saves_4 (by decide) ?_
  refine og_icmp_ne (pc := 5) (tgt := 48) dX8_saves_5 (by decide) (fun c1 => ?_) (fun c1 => ?_)
  · have hc4 : c < 4 := by
      rcases Nat.lt_or_ge c 4 with q | q
      · exact q
      · exact absurd (by rw [show c = 4 by omega]; rfl) c1
    exact tail p c h hc4 h0 hs hp (Or.inl ⟨hc4, rfl⟩) none rfl
  · have hc4 : c = 4 := by
      have := (nI_eq (a := c) (b := 4) (by omega) (by omega)).mp c1
      exact this
    subst hc4
    refine og_iconst (pc := 8) (v := 0) dX8_saves_8 (by decide) ?_
    refine og_istore_n_1 (pc := 9) dX8_saves_9 rfl ?_
    refine og_congI (q_dri p 0) hp (by omega) (fun j _ => by unfold q_dri; rw [if_neg (by omega)]) ?_
    refine og_for (i0 := 0) (N := 201) (by decide) (fun i => og_set h 103 (rowI 268 (q_dri p i))) (fun i => [some (.ref 101), some (.int (nI i))]) ?_ (fun i _ hi ih => ?_)
    · refine og_iload_n (pc := 10) dX8_saves_10 rfl ?_
      refine og_sipush (pc := 11) (v := 201) dX8_saves_11 (by decide) ?_
      refine og_geN (pc := 14) (tgt := 38) (i := 201) (N := 201) dX8_saves_14 (by decide) rfl rfl (by omega) (by omega) (fun c_14 => ?_) (fun c_14 => ?_)
      · refine og_aload_n (pc := 38) dX8_saves_38 rfl ?_
        refine og_dup (pc := 39) dX8_saves_39 rfl ?_
        refine og_get (pc := 40) F_X8_90 dX8_saves_40 (by repeat (first | exact og_set_eq _ _ _ | assumption | refine (og_set_ne _ _ (by first | assumption | omega)).trans ?_)) (by omega) rfl ?_
        refine og_iconst (pc := 43) (v := 1) dX8_saves_43 (by decide) ?_
        refine og_isub (pc := 44) dX8_saves_44 ?_
        refine og_put (pc := 45) P_X8_90 dX8_saves_45 (by repeat (first | exact og_set_eq _ _ _ | assumption | refine (og_set_ne _ _ (by first | assumption | omega)).trans ?_)) (by omega) rfl rfl (Nat.le_of_ble_eq_true rfl) ?_
        have e3 : nI 4 - 1 = nI 3 := rfl
        rw [e3]
        refine tail (q_dr p) 3 _ (by omega) (og_set_eq _ _ _) ((og_set_ne _ _ (by omega)).trans ((og_set_ne _ _ (by omega)).trans hs)) ((og_set_ne _ _ (by omega)).trans (og_set_eq _ _ _)) (Or.inr ⟨rfl, ?_⟩) _ rfl
        show og_set (og_set (og_set (og_set h 103 _) 101 _) 103 _) 101 _ = _
        rw [og_set_comm (og_set h 103 _) _ _ (show 101 ≠ 103 by omega), og_set_set, og_set_set]
      · omega
    · have i67 : nI i + 67 = nI (i + 67) := by rw [show (67 : Int32) = nI 67 from rfl, nI_add]
      refine og_iload_n (pc := 10) dX8_saves_10 rfl ?_
      refine og_sipush (pc := 11) (v := 201) dX8_saves_11 (by decide) ?_
      refine og_geN (pc := 14) (tgt := 38) (i := i) (N := 201) dX8_saves_14 (by decide) rfl rfl (by omega) (by omega) (fun c_14 => ?_) (fun c_14 => ?_)
      · omega
      refine og_aload_n (pc := 17) dX8_saves_17 rfl ?_
      refine og_get (pc := 18) F_X8_13 dX8_saves_18 (by repeat (first | exact og_set_eq _ _ _ | assumption | refine (og_set_ne _ _ (by first | assumption | omega)).trans ?_)) (by omega) rfl ?_
      refine og_iload_n (pc := 21) dX8_saves_21 rfl ?_
      refine og_aload_n (pc := 22) dX8_saves_22 rfl ?_
      refine og_get (pc := 23) F_X8_13 dX8_saves_23 (by repeat (first | exact og_set_eq _ _ _ | assumption | refine (og_set_ne _ _ (by first | assumption | omega)).trans ?_)) (by omega) rfl ?_
      refine og_iload_n (pc := 26) dX8_saves_26 rfl ?_
      refine og_bipush (pc := 27) (v := 67) dX8_saves_27 (by decide) ?_
      refine og_iadd (pc := 29) dX8_saves_29 ?_
      refine og_ialdN (pc := 30) i67 dX8_saves_30 (by repeat (first | exact og_set_eq _ _ _ | assumption | refine (og_set_ne _ _ (by first | assumption | omega)).trans ?_)) (by omega) (by omega) (by first | decide | assumption | omega) ?_
      refine og_iastN (pc := 31) rfl dX8_saves_31 (by repeat (first | exact og_set_eq _ _ _ | assumption | refine (og_set_ne _ _ (by first | assumption | omega)).trans ?_)) (by omega) (by omega) (by first | decide | assumption | omega) ?_
      refine og_iinc_1 (pc := 32) dX8_saves_32 (og_inc i) rfl ?_
      refine og_goto (pc := 35) (tgt := 10) dX8_saves_35 (by decide) ?_
      rw [og_set_set, q_dri_next]
      exact ih
