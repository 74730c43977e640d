/-! ===== Integer.bitCount; Units: count, code, spread, insert, read, numberOf ===== -/
def q_us (x y : Int32) : Int32 := (x.toUInt32 >>> (y.toUInt32 &&& Int32.toUInt32 31)).toInt32
def q_b1 (x : Int32) : Int32 := x - (q_us x 1 &&& 1431655765)
def q_b2 (x : Int32) : Int32 := (x &&& 858993459) + (q_us x 2 &&& 858993459)
def q_b3 (x : Int32) : Int32 := (x + q_us x 4) &&& 252645135
def q_b4 (x : Int32) : Int32 := x + q_us x 8
def q_b5 (x : Int32) : Int32 := x + q_us x 16
def q_bc (x : Int32) : Int32 := q_b5 (q_b4 (q_b3 (q_b2 (q_b1 x)))) &&& 63
set_option maxRecDepth 4000 in
theorem c_J6_bitCount (E : og_E) (d n : Nat) (h : og_H) (x : Int32) :
    og_M E yJ6_bitCount_0f7a4 (.code yJ6_bitCount_0f7a4 cJ6_bitCount_0f7a4 1 (some .int)) d [.int x] n h 0 0 (fun v n1 h1 => v = some (.int (q_bc x)) ∧ n1 = n ∧ h1 = h) no_x := by
  refine og_start (lv := [some (.int x)]) (by decide) rfl rfl (Nat.le_of_ble_eq_true rfl) fun X hr hnm htb => ?_
  refine og_iload_n (pc := 0) dJ6_bitCount_0f7a4_0 rfl ?_
  refine og_iload_n (pc := 1) dJ6_bitCount_0f7a4_1 rfl ?_
  refine og_iconst (pc := 2) (v := 1) dJ6_bitCount_0f7a4_2 (by decide) ?_
  refine og_iushr (pc := 3) dJ6_bitCount_0f7a4_3 rfl ?_
  refine og_ldcw (pc := 4) IC_J6_265 dJ6_bitCount_0f7a4_4 ?_
  refine og_iand (pc := 7) dJ6_bitCount_0f7a4_7 ?_
  refine og_isub (pc := 8) dJ6_bitCount_0f7a4_8 ?_
  refine og_istore_n_0 (pc := 9) dJ6_bitCount_0f7a4_9 ?_
  refine og_iload_n (pc := 10) dJ6_bitCount_0f7a4_10 rfl ?_
  refine og_ldcw (pc := 11) IC_J6_266 dJ6_bitCount_0f7a4_11 ?_
  refine og_iand (pc := 14) dJ6_bitCount_0f7a4_14 ?_
  refine og_iload_n (pc := 15) dJ6_bitCount_0f7a4_15 rfl ?_
  refine og_iconst (pc := 16) (v := 2) dJ6_bitCount_0f7a4_16 (by decide) ?_
  refine og_iushr (pc := 17) dJ6_bitCount_0f7a4_17 rfl ?_
  refine og_ldcw (pc := 18) IC_J6_266 dJ6_bitCount_0f7a4_18 ?_
  refine og_iand (pc := 21) dJ6_bitCount_0f7a4_21 ?_
  refine og_iadd (pc := 22) dJ6_bitCount_0f7a4_22 ?_
  refine og_istore_n_0 (pc := 23) dJ6_bitCount_0f7a4_23 ?_
  refine og_iload_n (pc := 24) dJ6_bitCount_0f7a4_24 rfl ?_
  refine og_iload_n (pc := 25) dJ6_bitCount_0f7a4_25 rfl ?_
  refine og_iconst (pc := 26) (v := 4) dJ6_bitCount_0f7a4_26 (by decide) ?_
  refine og_iushr (pc := 27) dJ6_bitCount_0f7a4_27 rfl ?_
  refine og_iadd (pc := 28) dJ6_bitCount_0f7a4_28 ?_
  refine og_ldcw (pc := 29) IC_J6_267 dJ6_bitCount_0f7a4_29 ?_
  refine og_iand (pc := 32) dJ6_bitCount_0f7a4_32 ?_
  refine og_istore_n_0 (pc := 33) dJ6_bitCount_0f7a4_33 ?_
  refine og_iload_n (pc := 34) dJ6_bitCount_0f7a4_34 rfl ?_
  refine og_iload_n (pc := 35) dJ6_bitCount_0f7a4_35 rfl ?_
  refine og_bipush (pc := 36) (v := 8) dJ6_bitCount_0f7a4_36 (by decide) ?_
  refine og_iushr (pc := 38) dJ6_bitCount_0f7a4_38 rfl ?_
  refine og_iadd (pc := 39) dJ6_bitCount_0f7a4_39 ?_
  refine og_istore_n_0 (pc := 40) dJ6_bitCount_0f7a4_40 ?_
  refine og_iload_n (pc := 41) dJ6_bitCount_0f7a4_41 rfl ?_
  refine og_iload_n (pc := 42) dJ6_bitCount_0f7a4_42 rfl ?_
  refine og_bipush (pc := 43) (v := 16) dJ6_bitCount_0f7a4_43 (by decide) ?_
  refine og_iushr (pc := 45) dJ6_bitCount_0f7a4_45 rfl ?_
  refine og_iadd (pc := 46) dJ6_bitCount_0f7a4_46 ?_
  refine og_istore_n_0 (pc := 47) dJ6_bitCount_0f7a4_47 ?_
  refine og_iload_n (pc := 48) dJ6_bitCount_0f7a4_48 rfl ?_
  refine og_bipush (pc := 49) (v := 63) dJ6_bitCount_0f7a4_49 (by decide) ?_
  refine og_iand (pc := 51) dJ6_bitCount_0f7a4_51 ?_
  exact og_iret (pc := 52) hr dJ6_bitCount_0f7a4_52 (by omega) (by omega) ⟨rfl, rfl, rfl⟩
theorem c_X6_count (E : og_E) (d n o : Nat) (h : og_H) (ho : o < 8) :
    og_M E yX6_count (.code yX6_count cX6_count 1 (some .int)) d [.int (nI o)] n h 0 0 (fun v n1 h1 => v = some (.int (nI (q_cnt o))) ∧ n1 = n ∧ h1 = h) no_x := by
  refine og_start (lv := [some (.int (nI o))]) (by decide) rfl rfl (Nat.le_of_ble_eq_true rfl) fun X hr hnm htb => ?_
  refine og_iload_n (pc := 0) dX6_count_0 rfl ?_
  refine og_if_ne (pc := 1) (tgt := 9) dX6_count_1 (by decide) (fun c_1 => ?_) (fun c_1 => ?_)
  · have ho0 : o ≠ 0 := fun q => c_1 (by rw [q]; rfl)
    refine og_sipush (pc := 9) (v := 240) dX6_count_9 (by decide) ?_
    refine og_iret (pc := 12) hr dX6_count_12 (by omega) (by omega) ⟨?_, rfl, rfl⟩
    rw [q_cnt, if_neg ho0]
    rfl
  · have ho0 : o = 0 := by
      rcases Nat.eq_zero_or_pos o with q | q
      · exact q
      · exact absurd c_1 (nI_ne0 q (by omega))
    refine og_bipush (pc := 4) (v := 16) dX6_count_4 (by decide) ?_
    refine og_goto (pc := 6) (tgt := 12) dX6_count_6 (by decide) ?_
    refine og_iret (pc := 12) hr dX6_count_12 (by omega) (by omega) ⟨?_, rfl, rfl⟩
    rw [q_cnt, if_pos ho0]
    rfl
def q_code (f : Nat → Int64) : Nat → Int32
  | 0 => 0
  | k + 1 => (q_code f k <<< ((3 : Int32) &&& 31)) ||| ((f k).toInt32 + 2)
set_option maxRecDepth 4000 in
theorem c_X6_code (E : og_E) (d n a : Nat) (h : og_H) (f : Nat → Int64) (ha : h a = some (rowL f)) (h3a : 3 ≤ a) :
    og_M E yX6_code (.code yX6_code cX6_code 3 (some .int)) d [.ref a] n h 0 0 (fun v n1 h1 => v = some (.int (q_code f 8)) ∧ n1 = n ∧ h1 = h) no_x := by
  refine og_start (lv := [some (.ref a), none, none]) (by decide) rfl rfl (Nat.le_of_ble_eq_true rfl) fun X hr hnm htb => ?_
  refine og_iconst (pc := 0) (v := 0) dX6_code_0 (by decide) ?_
  refine og_istore_n_1 (pc := 1) dX6_code_1 rfl ?_
  refine og_iconst (pc := 2) (v := 0) dX6_code_2 (by decide) ?_
  refine og_istore_n_2 (pc := 3) dX6_code_3 rfl ?_
  refine og_for (i0 := 0) (N := 8) (by decide) (fun _ => h) (fun i => [some (.ref a), some (.int (q_code f i)), some (.int (nI i))]) ?_ (fun i hi1 hi ih => ?_)
  · refine og_iload_n (pc := 4) dX6_code_4 rfl ?_
    refine og_bipush (pc := 5) (v := 8) dX6_code_5 (by decide) ?_
    refine og_geN (pc := 7) (tgt := 27) (i := 8) (N := 8) dX6_code_7 (by decide) rfl rfl (by omega) (by omega) (fun c_7 => ?_) (fun c_7 => ?_)
    · refine og_iload_n (pc := 27) dX6_code_27 rfl ?_
      exact og_iret (pc := 28) hr dX6_code_28 (by omega) (by omega) ⟨rfl, rfl, rfl⟩
    · omega
  · refine og_iload_n (pc := 4) dX6_code_4 rfl ?_
    refine og_bipush (pc := 5) (v := 8) dX6_code_5 (by decide) ?_
    refine og_geN (pc := 7) (tgt := 27) (i := i) (N := 8) dX6_code_7 (by decide) rfl rfl (by omega) (by omega) (fun c_7 => ?_) (fun c_7 => ?_)
    · omega
    refine og_iload_n (pc := 10) dX6_code_10 rfl ?_
    refine og_iconst (pc := 11) (v := 3) dX6_code_11 (by decide) ?_
    refine og_ishl (pc := 12) dX6_code_12 ?_
    refine og_aload_n (pc := 13) dX6_code_13 rfl ?_
    refine og_iload_n (pc := 14) dX6_code_14 rfl ?_
    refine og_laldN (pc := 15) rfl dX6_code_15 (by repeat (first | exact og_set_eq _ _ _ | assumption | refine (og_set_ne _ _ (by first | assumption | omega)).trans ?_)) (by omega) (by omega) (by first | decide | assumption | omega) ?_
    refine og_l2i (pc := 16) dX6_code_16 rfl ?_
    refine og_iconst (pc := 17) (v := 2) dX6_code_17 (by decide) ?_
    refine og_iadd (pc := 18) dX6_code_18 ?_
    refine og_ior (pc := 19) dX6_code_19 ?_
    refine og_istore_n_1 (pc := 20) dX6_code_20 rfl ?_
    refine og_iinc_2 (pc := 21) dX6_code_21 (og_inc i) rfl ?_
    refine og_goto (pc := 24) (tgt := 4) dX6_code_24 (by decide) ?_
    exact ih
def q_bit (odd : Int32) (k : Nat) : Int32 := (odd >>> (nI k &&& 31)) &&& 1
def q_rest (odd s : Int32) : Nat → Int32
  | 0 => s
  | k + 1 => if q_bit odd k = 0 then q_rest odd s k else q_rest odd s k >>> ((1 : Int32) &&& 31)
def q_spr (odd s : Int32) (k : Nat) : Int64 := if q_bit odd k = 0 then 0 else if q_rest odd s k &&& 1 = 0 then 1 else -1
set_option maxRecDepth 4000 in
theorem c_X6_spread (E : og_E) (d n a : Nat) (h : og_H) (f : Nat → Int64) (odd s : Int32) (ha : h a = some (rowL f)) (h3a : 3 ≤ a) :
    og_M E yX6_spread (.code yX6_spread cX6_spread 5 none) d [.int odd, .int s, .ref a] n h 0 0 (fun v n1 h1 => v = none ∧ n1 = n ∧ h1 = og_set h a (rowL (q_spr odd s))) no_x := by
  refine og_start (lv := [some (.int odd), some (.int s), some (.ref a), none, none]) (by decide) rfl rfl (Nat.le_of_ble_eq_true rfl) fun X hr hnm htb => ?_
  refine og_iload_n (pc := 0) dX6_spread_0 rfl ?_
  refine og_istore_n_3 (pc := 1) dX6_spread_1 rfl ?_
  refine og_iconst (pc := 2) (v := 0) dX6_spread_2 (by decide) ?_
  refine og_istore_4 (pc := 3) dX6_spread_3 rfl ?_
  refine og_congL (fun j => if j < 0 then q_spr odd s j else f j) ha h3a (fun j _ => by simp) ?_
  refine og_for (i0 := 0) (N := 8) (by decide) (fun i => og_set h a (rowL (fun j => if j < i then q_spr odd s j else f j))) (fun i => [some (.int odd), some (.int s), some (.ref a), some (.int (q_rest odd s i)), some (.int (nI i))]) ?_ (fun i hi1 hi ih => ?_)
  · refine og_iload (pc := 5) dX6_spread_5 rfl ?_
    refine og_bipush (pc := 7) (v := 8) dX6_spread_7 (by decide) ?_
    refine og_geN (pc := 9) (tgt := 53) (i := 8) (N := 8) dX6_spread_9 (by decide) rfl rfl (by omega) (by omega) (fun c_9 => ?_) (fun c_9 => ?_)
    · refine og_congL (q_spr odd s) (og_set_eq _ _ _) h3a (fun j hj => by rw [if_pos (by omega)]) ?_
      rw [og_set_set]
      exact og_vret (pc := 53) hr dX6_spread_53 (by omega) (by omega) ⟨rfl, rfl, rfl⟩
    · omega
  · refine og_iload (pc := 5) dX6_spread_5 rfl ?_
    refine og_bipush (pc := 7) (v := 8) dX6_spread_7 (by decide) ?_
    refine og_geN (pc := 9) (tgt := 53) (i := i) (N := 8) dX6_spread_9 (by decide) rfl rfl (by omega) (by omega) (fun c_9 => ?_) (fun c_9 => ?_)
    · omega
    refine og_aload_n (pc := 12) dX6_spread_12 rfl ?_
    refine og_iload (pc := 13) dX6_spread_13 rfl ?_
    refine og_lconst (pc := 15) (v := 0) dX6_spread_15 (by decide) ?_
    refine og_lastN (pc := 16) rfl dX6_spread_16 (by repeat (first | exact og_set_eq _ _ _ | assumption | refine (og_set_ne _ _ (by first | assumption | omega)).trans ?_)) (by omega) (by omega) (by first | decide | assumption | omega) ?_
    refine og_iload_n (pc := 17) dX6_spread_17 rfl ?_
    refine og_iload (pc := 18) dX6_spread_18 rfl ?_
    refine og_ishr (pc := 20) dX6_spread_20 ?_
    refine og_iconst (pc := 21) (v := 1) dX6_spread_21 (by decide) ?_
    refine og_iand (pc := 22) dX6_spread_22 ?_
    refine og_if_eq (pc := 23) (tgt := 47) dX6_spread_23 (by decide) (fun c_23 => ?_) (fun c_23 => ?_)
    · have hb : q_bit odd i = 0 := c_23
      rw [og_set_set, og_fill (by rw [q_spr, if_pos hb])]
      refine og_iinc_4 (pc := 47) dX6_spread_47 (og_inc i) rfl ?_
      refine og_goto (pc := 50) (tgt := 5) dX6_spread_50 (by decide) ?_
      have e : q_rest odd s (i + 1) = q_rest odd s i := by rw [q_rest, if_pos hb]
      rw [e] at ih
      exact ih
    · have hb : ¬ q_bit odd i = 0 := c_23
      have e : q_rest odd s (i + 1) = q_rest odd s i >>> ((1 : Int32) &&& 31) := by rw [q_rest, if_neg hb]
      rw [e] at ih
      have two : ∀ (x : Int64), vp_updL (fun j => if j < i then q_spr odd s j else f j) i 0 = vp_updL (fun j => if j < i then q_spr odd s j else f j) i 0 ∧ vp_updL (vp_updL (fun j => if j < i then q_spr odd s j else f j) i 0) i x = vp_updL (fun j => if j < i then q_spr odd s j else f j) i x := fun x => ⟨rfl, by
        funext j
        unfold vp_updL
        by_cases hj : j = i
        · rw [if_pos hj, if_pos hj]
        · rw [if_neg hj, if_neg hj, if_neg hj]⟩
      refine og_aload_n (pc := 26) dX6_spread_26 rfl ?_
      refine og_iload (pc := 27) dX6_spread_27 rfl ?_
      refine og_iload_n (pc := 29) dX6_spread_29 rfl ?_
      refine og_iconst (pc := 30) (v := 1) dX6_spread_30 (by decide) ?_
      refine og_iand (pc := 31) dX6_spread_31 ?_
      refine og_if_ne (pc := 32) (tgt := 39) dX6_spread_32 (by decide) (fun c_32 => ?_) (fun c_32 => ?_)
      · refine og_ldc2 (pc := 39) LC_X6_61 dX6_spread_39 ?_
        refine og_lastN (pc := 42) rfl dX6_spread_42 (by repeat (first | exact og_set_eq _ _ _ | assumption | refine (og_set_ne _ _ (by first | assumption | omega)).trans ?_)) (by omega) (by omega) (by first | decide | assumption | omega) ?_
        rw [og_set_set, og_set_set, (two _).2, og_fill (by rw [q_spr, if_neg hb, if_neg c_32])]
        refine og_iload_n (pc := 43) dX6_spread_43 rfl ?_
        refine og_iconst (pc := 44) (v := 1) dX6_spread_44 (by decide) ?_
        refine og_ishr (pc := 45) dX6_spread_45 ?_
        refine og_istore_n_3 (pc := 46) dX6_spread_46 rfl ?_
        refine og_iinc_4 (pc := 47) dX6_spread_47 (og_inc i) rfl ?_
        refine og_goto (pc := 50) (tgt := 5) dX6_spread_50 (by decide) ?_
        exact ih
      · refine og_lconst (pc := 35) (v := 1) dX6_spread_35 (by decide) ?_
        refine og_goto (pc := 36) (tgt := 42) dX6_spread_36 (by decide) ?_
        refine og_lastN (pc := 42) rfl dX6_spread_42 (by repeat (first | exact og_set_eq _ _ _ | assumption | refine (og_set_ne _ _ (by first | assumption | omega)).trans ?_)) (by omega) (by omega) (by first | decide | assumption | omega) ?_
        have c32 : q_rest odd s i &&& 1 = 0 := by first | exact c_32 | exact Decidable.not_not.mp c_32
        rw [og_set_set, og_set_set, (two _).2, og_fill (by rw [q_spr, if_neg hb, if_pos c32])]
        refine og_iload_n (pc := 43) dX6_spread_43 rfl ?_
        refine og_iconst (pc := 44) (v := 1) dX6_spread_44 (by decide) ?_
        refine og_ishr (pc := 45) dX6_spread_45 ?_
        refine og_istore_n_3 (pc := 46) dX6_spread_46 rfl ?_
        refine og_iinc_4 (pc := 47) dX6_spread_47 (og_inc i) rfl ?_
        refine og_goto (pc := 50) (tgt := 5) dX6_spread_50 (by decide) ?_
        exact ih
abbrev rowI (N : Nat) (f : Nat → Int32) : og_N := .inl (1, N, .inl f)
def q_ins (x : Int32) : Nat → (Nat → Int32) → (Nat → Int32)
  | 0, c => upd c 0 x
  | k + 1, c => if x < c k then q_ins x k (upd c (k + 1) (c k)) else upd c (k + 1) x
set_option maxRecDepth 4000 in
theorem c_X6_insert (E : og_E) (d n u c N k : Nat) (h : og_H) (cs : Nat → Int32) (x : Int32) (hu : h u = some (.inr (4, [.ref c, .int (nI k)]))) (hc : h c = some (rowI N cs)) (huc : u ≠ c) (h3u : 3 ≤ u) (h3c : 3 ≤ c) (hk : k ≤ N) (hN : N < 2147483648) :
    og_M E yX6_insert (.code yX6_insert cX6_insert 3 none) d [.ref u, .int x] n h 0 0 (fun v n1 h1 => v = none ∧ n1 = n ∧ ((k < N ∧ h1 = og_set (og_set h c (rowI N (q_ins x k cs))) u (.inr (4, [.ref c, .int (nI (k + 1))]))) ∨ (N ≤ k ∧ h1 = h))) no_x := by
  refine og_start (lv := [some (.ref u), some (.int x), none]) (by decide) rfl rfl (Nat.le_of_ble_eq_true rfl) fun X hr hnm htb => ?_
  refine og_aload_n (pc := 0) dX6_insert_0 rfl ?_
  refine og_get (pc := 1) F_X6_19 dX6_insert_1 (by repeat (first | exact og_set_eq _ _ _ | assumption | refine (og_set_ne _ _ (by first | assumption | omega)).trans ?_)) (by omega) rfl ?_
  refine og_if_lt (pc := 4) (tgt := 19) dX6_insert_4 (by decide) (fun c_4 => absurd c_4 (nI_pos (by omega))) (fun _ => ?_)
  refine og_aload_n (pc := 7) dX6_insert_7 rfl ?_
  refine og_get (pc := 8) F_X6_19 dX6_insert_8 (by repeat (first | exact og_set_eq _ _ _ | assumption | refine (og_set_ne _ _ (by first | assumption | omega)).trans ?_)) (by omega) rfl ?_
  refine og_aload_n (pc := 11) dX6_insert_11 rfl ?_
  refine og_get (pc := 12) F_X6_15 dX6_insert_12 (by repeat (first | exact og_set_eq _ _ _ | assumption | refine (og_set_ne _ _ (by first | assumption | omega)).trans ?_)) (by omega) rfl ?_
  refine og_alen (pc := 15) dX6_insert_15 (by repeat (first | exact og_set_eq _ _ _ | assumption | refine (og_set_ne _ _ (by first | assumption | omega)).trans ?_)) (by omega) (by decide) rfl ?_
  refine og_icmp_lt (pc := 16) (tgt := 20) dX6_insert_16 (by decide) (fun c_16 => ?_) (fun c_16 => ?_)
  · have hkN : k < N := (nI_ltI (by omega) hN).mp c_16
    refine og_aload_n (pc := 20) dX6_insert_20 rfl ?_
    refine og_get (pc := 21) F_X6_19 dX6_insert_21 (by repeat (first | exact og_set_eq _ _ _ | assumption | refine (og_set_ne _ _ (by first | assumption | omega)).trans ?_)) (by omega) rfl ?_
    refine og_istore_n_2 (pc := 24) dX6_insert_24 rfl ?_
    have fin : ∀ (a : Nat) (c2 : Nat → Int32), a < N → q_ins x k cs = upd c2 a x → og_G E yX6_insert.cls cX6_insert d 0 0 3 X (og_Q E (fun v n1 h1 => v = none ∧ n1 = n ∧ ((k < N ∧ h1 = og_set (og_set h c (rowI N (q_ins x k cs))) u (.inr (4, [.ref c, .int (nI (k + 1))]))) ∨ (N ≤ k ∧ h1 = h))) no_x 0 0 X) 0 0 n (og_set h c (rowI N c2)) 61 [some (.ref u), some (.int x), some (.int (nI a))] [] := by
      intro a c2 haN he
      have huc2 : c ≠ u := fun q => huc q.symm
      refine og_aload_n (pc := 61) dX6_insert_61 rfl ?_
      refine og_get (pc := 62) F_X6_15 dX6_insert_62 (by repeat (first | exact og_set_eq _ _ _ | assumption | refine (og_set_ne _ _ (by first | assumption | omega)).trans ?_)) (by omega) rfl ?_
      refine og_iload_n (pc := 65) dX6_insert_65 rfl ?_
      refine og_iload_n (pc := 66) dX6_insert_66 rfl ?_
      refine og_iastN (pc := 67) rfl dX6_insert_67 (by repeat (first | exact og_set_eq _ _ _ | assumption | refine (og_set_ne _ _ (by first | assumption | omega)).trans ?_)) (by omega) (by omega) (by first | decide | assumption | omega) ?_
      refine og_aload_n (pc := 68) dX6_insert_68 rfl ?_
      refine og_dup (pc := 69) dX6_insert_69 rfl ?_
      refine og_get (pc := 70) F_X6_19 dX6_insert_70 (by repeat (first | exact og_set_eq _ _ _ | assumption | refine (og_set_ne _ _ (by first | assumption | omega)).trans ?_)) (by omega) rfl ?_
      refine og_iconst (pc := 73) (v := 1) dX6_insert_73 (by decide) ?_
      refine og_iadd (pc := 74) dX6_insert_74 ?_
      refine og_put (pc := 75) P_X6_19 dX6_insert_75 (by repeat (first | exact og_set_eq _ _ _ | assumption | refine (og_set_ne _ _ (by first | assumption | omega)).trans ?_)) (by omega) rfl rfl (Nat.le_of_ble_eq_true rfl) ?_
      rw [og_set_set, nI_1]
      exact og_vret (pc := 78) hr dX6_insert_78 (by omega) (by omega) ⟨rfl, rfl, Or.inl ⟨hkN, by rw [he]; rfl⟩⟩
    have loop : ∀ (a : Nat) (c2 : Nat → Int32), a < N → q_ins x k cs = q_ins x a c2 → og_G E yX6_insert.cls cX6_insert d 0 0 3 X (og_Q E (fun v n1 h1 => v = none ∧ n1 = n ∧ ((k < N ∧ h1 = og_set (og_set h c (rowI N (q_ins x k cs))) u (.inr (4, [.ref c, .int (nI (k + 1))]))) ∨ (N ≤ k ∧ h1 = h))) no_x 0 0 X) 0 0 n (og_set h c (rowI N c2)) 25 [some (.ref u), some (.int x), some (.int (nI a))] [] := by
      intro a
      induction a with
      | zero =>
        intro c2 haN he
        refine og_iload_n (pc := 25) dX6_insert_25 rfl ?_
        refine og_if_le (pc := 26) (tgt := 61) dX6_insert_26 (by decide) (fun _ => fin 0 c2 haN he) (fun c_26 => absurd (by rw [nI_0]; exact Int32.le_refl 0) c_26)
      | succ a ih =>
        intro c2 haN he
        have hcu : u ≠ c := huc
        refine og_iload_n (pc := 25) dX6_insert_25 rfl ?_
        refine og_if_le (pc := 26) (tgt := 61) dX6_insert_26 (by decide) (fun c_26 => absurd c_26 (nI_nle (by omega) (by omega))) (fun _ => ?_)
        refine og_aload_n (pc := 29) dX6_insert_29 rfl ?_
        refine og_get (pc := 30) F_X6_15 dX6_insert_30 (by repeat (first | exact og_set_eq _ _ _ | assumption | refine (og_set_ne _ _ (by first | assumption | omega)).trans ?_)) (by omega) rfl ?_
        refine og_iload_n (pc := 33) dX6_insert_33 rfl ?_
        refine og_iconst (pc := 34) (v := 1) dX6_insert_34 (by decide) ?_
        refine og_isub (pc := 35) dX6_insert_35 ?_
        refine og_ialdN (pc := 36) (j := a) (nI_pred a) dX6_insert_36 (by repeat (first | exact og_set_eq _ _ _ | assumption | refine (og_set_ne _ _ (by first | assumption | omega)).trans ?_)) (by omega) (by omega) (by first | decide | assumption | omega) ?_
        refine og_iload_n (pc := 37) dX6_insert_37 rfl ?_
        refine og_icmp_le (pc := 38) (tgt := 61) dX6_insert_38 (by decide) (fun c_38 => ?_) (fun c_38 => ?_)
        · refine fin (a + 1) c2 haN ?_
          rw [he, q_ins, if_neg (fun q => og_lel c_38 q)]
        · refine og_aload_n (pc := 41) dX6_insert_41 rfl ?_
          refine og_get (pc := 42) F_X6_15 dX6_insert_42 (by repeat (first | exact og_set_eq _ _ _ | assumption | refine (og_set_ne _ _ (by first | assumption | omega)).trans ?_)) (by omega) rfl ?_
          refine og_iload_n (pc := 45) dX6_insert_45 rfl ?_
          refine og_aload_n (pc := 46) dX6_insert_46 rfl ?_
          refine og_get (pc := 47) F_X6_15 dX6_insert_47 (by repeat (first | exact og_set_eq _ _ _ | assumption | refine (og_set_ne _ _ (by first | assumption | omega)).trans ?_)) (by omega) rfl ?_
          refine og_iload_n (pc := 50) dX6_insert_50 rfl ?_
          refine og_iconst (pc := 51) (v := 1) dX6_insert_51 (by decide) ?_
          refine og_isub (pc := 52) dX6_insert_52 ?_
          refine og_ialdN (pc := 53) (j := a) (nI_pred a) dX6_insert_53 (by repeat (first | exact og_set_eq _ _ _ | assumption | refine (og_set_ne _ _ (by first | assumption | omega)).trans ?_)) (by omega) (by omega) (by first | decide | assumption | omega) ?_
          refine og_iastN (pc := 54) rfl dX6_insert_54 (by repeat (first | exact og_set_eq _ _ _ | assumption | refine (og_set_ne _ _ (by first | assumption | omega)).trans ?_)) (by omega) (by omega) (by first | decide | assumption | omega) ?_
          rw [og_set_set]
          refine og_iinc_2 (pc := 55) (z := nI a) dX6_insert_55 (pk_m1 a) rfl ?_
          refine og_goto (pc := 58) (tgt := 25) dX6_insert_58 (by decide) ?_
          refine ih (upd c2 (a + 1) (c2 a)) (by omega) ?_
          rw [he, q_ins, if_pos (og_nle c_38)]
    refine og_congI cs hc h3c (fun _ _ => rfl) ?_
    exact loop k cs hkN rfl
  · have hkN : N ≤ k := Nat.le_of_not_lt fun q => c_16 ((nI_ltI (by omega) hN).mpr q)
    exact og_vret (pc := 19) hr dX6_insert_19 (by omega) (by omega) ⟨rfl, rfl, Or.inr ⟨hkN, rfl⟩⟩
def q_read (x : Int32) (k : Nat) : Int64 := (((x >>> (((3 : Int32) * ((7 : Int32) - nI k)) &&& 31)) &&& 7) - 2).toInt64
set_option maxRecDepth 4000 in
theorem c_X6_read (E : og_E) (d n u c N k a : Nat) (fl : Int32) (h : og_H) (cs : Nat → Int32) (f : Nat → Int64) (hu : h u = some (.inr (4, [.ref c, .int fl]))) (hc : h c = some (rowI N cs)) (ha : h a = some (rowL f)) (hua : u ≠ a) (hca : c ≠ a) (h3u : 3 ≤ u) (h3c : 3 ≤ c) (h3a : 3 ≤ a) (hk : k < N) (hN : N < 2147483648) :
    og_M E yX6_read (.code yX6_read cX6_read 4 none) d [.ref u, .int (nI k), .ref a] n h 0 0 (fun v n1 h1 => v = none ∧ n1 = n ∧ h1 = og_set h a (rowL (q_read (cs k)))) no_x := by
  refine og_start (lv := [some (.ref u), some (.int (nI k)), some (.ref a), none]) (by decide) rfl rfl (Nat.le_of_ble_eq_true rfl) fun X hr hnm htb => ?_
  refine og_iload_n (pc := 0) dX6_read_0 rfl ?_
  refine og_if_lt (pc := 1) (tgt := 13) dX6_read_1 (by decide) (fun c_4 => absurd c_4 (nI_pos (by omega))) (fun _ => ?_)
  refine og_iload_n (pc := 4) dX6_read_4 rfl ?_
  refine og_aload_n (pc := 5) dX6_read_5 rfl ?_
  refine og_get (pc := 6) F_X6_15 dX6_read_6 (by repeat (first | exact og_set_eq _ _ _ | assumption | refine (og_set_ne _ _ (by first | assumption | omega)).trans ?_)) (by omega) rfl ?_
  refine og_alen (pc := 9) dX6_read_9 (by repeat (first | exact og_set_eq _ _ _ | assumption | refine (og_set_ne _ _ (by first | assumption | omega)).trans ?_)) (by omega) (by decide) rfl ?_
  refine og_icmp_lt (pc := 10) (tgt := 14) dX6_read_10 (by decide) (fun c_16 => ?_) (fun c_16 => absurd ((nI_ltI (by omega) hN).mpr hk) c_16)
  refine og_iconst (pc := 14) (v := 0) dX6_read_14 (by decide) ?_
  refine og_istore_n_3 (pc := 15) dX6_read_15 rfl ?_
  refine og_congL (fun j => if j < 0 then q_read (cs k) j else f j) ha h3a (fun j _ => by simp) ?_
  refine og_for (i0 := 0) (N := 8) (by decide) (fun i => og_set h a (rowL (fun j => if j < i then q_read (cs k) j else f j))) (fun i => [some (.ref u), some (.int (nI k)), some (.ref a), some (.int (nI i))]) ?_ (fun i hi1 hi ih => ?_)
  · refine og_iload_n (pc := 16) dX6_read_16 rfl ?_
    refine og_bipush (pc := 17) (v := 8) dX6_read_17 (by decide) ?_
    refine og_geN (pc := 19) (tgt := 50) (i := 8) (N := 8) dX6_read_19 (by decide) rfl rfl (by omega) (by omega) (fun c_19 => ?_) (fun c_19 => ?_)
    · refine og_congL (q_read (cs k)) (og_set_eq _ _ _) h3a (fun j hj => by rw [if_pos (by omega)]) ?_
      rw [og_set_set]
      exact og_vret (pc := 50) hr dX6_read_50 (by omega) (by omega) ⟨rfl, rfl, rfl⟩
    · omega
  · refine og_iload_n (pc := 16) dX6_read_16 rfl ?_
    refine og_bipush (pc := 17) (v := 8) dX6_read_17 (by decide) ?_
    refine og_geN (pc := 19) (tgt := 50) (i := i) (N := 8) dX6_read_19 (by decide) rfl rfl (by omega) (by omega) (fun c_19 => ?_) (fun c_19 => ?_)
    · omega
    refine og_aload_n (pc := 22) dX6_read_22 rfl ?_
    refine og_iload_n (pc := 23) dX6_read_23 rfl ?_
    refine og_aload_n (pc := 24) dX6_read_24 rfl ?_
    refine og_get (pc := 25) F_X6_15 dX6_read_25 (by repeat (first | exact og_set_eq _ _ _ | assumption | refine (og_set_ne _ _ (by first | assumption | omega)).trans ?_)) (by omega) rfl ?_
    refine og_iload_n (pc := 28) dX6_read_28 rfl ?_
    refine og_ialdN (pc := 29) rfl dX6_read_29 (by repeat (first | exact og_set_eq _ _ _ | assumption | refine (og_set_ne _ _ (by first | assumption | omega)).trans ?_)) (by omega) (by omega) hN ?_
    refine og_iconst (pc := 30) (v := 3) dX6_read_30 (by decide) ?_
    refine og_bipush (pc := 31) (v := 7) dX6_read_31 (by decide) ?_
    refine og_iload_n (pc := 33) dX6_read_33 rfl ?_
    refine og_isub (pc := 34) dX6_read_34 ?_
    refine og_imul (pc := 35) dX6_read_35 ?_
    refine og_ishr (pc := 36) dX6_read_36 ?_
    refine og_bipush (pc := 37) (v := 7) dX6_read_37 (by decide) ?_
    refine og_iand (pc := 39) dX6_read_39 ?_
    refine og_iconst (pc := 40) (v := 2) dX6_read_40 (by decide) ?_
    refine og_isub (pc := 41) dX6_read_41 ?_
    refine og_i2l (pc := 42) dX6_read_42 rfl ?_
    refine og_lastN (pc := 43) rfl dX6_read_43 (by repeat (first | exact og_set_eq _ _ _ | assumption | refine (og_set_ne _ _ (by first | assumption | omega)).trans ?_)) (by omega) (by omega) (by first | decide | assumption | omega) ?_
    refine og_iinc_3 (pc := 44) dX6_read_44 (og_inc i) rfl ?_
    refine og_goto (pc := 47) (tgt := 16) dX6_read_47 (by decide) ?_
    rw [og_set_set, og_fill (by rfl)]
    exact ih
set_option maxRecDepth 4000 in
theorem c_X6_numberOf (E : og_E) (d n u c N a : Nat) (fl : Int32) (h : og_H) (cs : Nat → Int32) (f : Nat → Int64) (hu : h u = some (.inr (4, [.ref c, .int fl]))) (hc : h c = some (rowI N cs)) (ha : h a = some (rowL f)) (h3u : 3 ≤ u) (h3c : 3 ≤ c) (h3a : 3 ≤ a) (hN : N < 2147483648) :
    og_M E yX6_numberOf (.code yX6_numberOf cX6_numberOf 4 (some .int)) (d + 2) [.ref u, .ref a] n h 0 0 (fun v n1 h1 => n1 = n ∧ h1 = h ∧ ((q_inner f f 8 = 4 ∧ ∃ k, k < N ∧ cs k = q_code f 8 ∧ (∀ j, j < k → cs j ≠ q_code f 8) ∧ v = some (.int (nI k))) ∨ ((q_inner f f 8 ≠ 4 ∨ ∀ j, j < N → cs j ≠ q_code f 8) ∧ v = some (.int (-1))))) no_x := by
  refine og_start (lv := [some (.ref u), some (.ref a), none, none]) (by decide) rfl rfl (Nat.le_of_ble_eq_true rfl) fun X hr hnm htb => ?_
  refine og_aload_n (pc := 0) dX6_numberOf_0 rfl ?_
  refine og_callS (pc := 1) (As := [.ref a]) (rest := []) (c_X3_quarters E d n a h f ha h3a) Y_X3_quarters S_X3_quarters K_X6_55 dX6_numberOf_1 rfl rfl (Nat.le_of_ble_eq_true rfl) (by omega) (by omega) (by omega) (fun _ _ _ z => z) (fun v n1 h1 z => ?_)
  obtain ⟨rfl, rfl, rfl⟩ := z
  refine og_ldc2 (pc := 4) LC_X6_59 dX6_numberOf_4 ?_
  refine og_lcmp (pc := 7) dX6_numberOf_7 ?_
  refine og_if_eq (pc := 8) (tgt := 13) dX6_numberOf_8 (by decide) (fun c_8 => ?_) (fun c_8 => ?_)
  · have h4 := (og_cmp0 _ _).mp c_8
    refine og_aload_n (pc := 13) dX6_numberOf_13 rfl ?_
    refine og_callS (pc := 14) (As := [.ref a]) (rest := []) (c_X6_code E d n1 a h1 f ha h3a) Y_X6_code S_X6_code K_X6_27 dX6_numberOf_14 rfl rfl (Nat.le_of_ble_eq_true rfl) (by omega) (by omega) (by omega) (fun _ _ _ z => z) (fun v n1 h1 z => ?_)
    obtain ⟨rfl, rfl, rfl⟩ := z
    refine og_istore_n_2 (pc := 17) dX6_numberOf_17 rfl ?_
    refine og_iconst (pc := 18) (v := 0) dX6_numberOf_18 (by decide) ?_
    refine og_istore_n_3 (pc := 19) dX6_numberOf_19 rfl ?_
    refine og_forP (i0 := 0) (N := N) (by omega) (fun _ => h1) (fun i => [some (.ref u), some (.ref a), some (.int (q_code f 8)), some (.int (nI i))]) (fun i => ∀ j, j < i → cs j ≠ q_code f 8) (fun j hj => absurd hj (by omega)) (fun hP => ?_) (fun i hi1 hi hP ih => ?_)
    · refine og_iload_n (pc := 20) dX6_numberOf_20 rfl ?_
      refine og_aload_n (pc := 21) dX6_numberOf_21 rfl ?_
      refine og_get (pc := 22) F_X6_15 dX6_numberOf_22 (by repeat (first | exact og_set_eq _ _ _ | assumption | refine (og_set_ne _ _ (by first | assumption | omega)).trans ?_)) (by omega) rfl ?_
      refine og_alen (pc := 25) dX6_numberOf_25 (by repeat (first | exact og_set_eq _ _ _ | assumption | refine (og_set_ne _ _ (by first | assumption | omega)).trans ?_)) (by omega) (by decide) rfl ?_
      refine og_geN (pc := 26) (tgt := 47) (i := N) (N := N) dX6_numberOf_26 (by decide) rfl rfl (by omega) (by omega) (fun c_9 => ?_) (fun c_9 => ?_)
      · refine og_iconst (pc := 47) (v := (-1)) dX6_numberOf_47 (by decide) ?_
        exact og_iret (pc := 48) hr dX6_numberOf_48 (by omega) (by omega) ⟨rfl, rfl, Or.inr ⟨Or.inr hP, rfl⟩⟩
      · omega
    · refine og_iload_n (pc := 20) dX6_numberOf_20 rfl ?_
      refine og_aload_n (pc := 21) dX6_numberOf_21 rfl ?_
      refine og_get (pc := 22) F_X6_15 dX6_numberOf_22 (by repeat (first | exact og_set_eq _ _ _ | assumption | refine (og_set_ne _ _ (by first | assumption | omega)).trans ?_)) (by omega) rfl ?_
      refine og_alen (pc := 25) dX6_numberOf_25 (by repeat (first | exact og_set_eq _ _ _ | assumption | refine (og_set_ne _ _ (by first | assumption | omega)).trans ?_)) (by omega) (by decide) rfl ?_
      refine og_geN (pc := 26) (tgt := 47) (i := i) (N := N) dX6_numberOf_26 (by decide) rfl rfl (by omega) (by omega) (fun c_9 => ?_) (fun c_9 => ?_)
      · omega
      refine og_aload_n (pc := 29) dX6_numberOf_29 rfl ?_
      refine og_get (pc := 30) F_X6_15 dX6_numberOf_30 (by repeat (first | exact og_set_eq _ _ _ | assumption | refine (og_set_ne _ _ (by first | assumption | omega)).trans ?_)) (by omega) rfl ?_
      refine og_iload_n (pc := 33) dX6_numberOf_33 rfl ?_
      refine og_ialdN (pc := 34) rfl dX6_numberOf_34 (by repeat (first | exact og_set_eq _ _ _ | assumption | refine (og_set_ne _ _ (by first | assumption | omega)).trans ?_)) (by omega) (by omega) hN ?_
      refine og_iload_n (pc := 35) dX6_numberOf_35 rfl ?_
      refine og_icmp_ne (pc := 36) (tgt := 41) dX6_numberOf_36 (by decide) (fun c_36 => ?_) (fun c_36 => ?_)
      · refine og_iinc_3 (pc := 41) dX6_numberOf_41 (og_inc i) rfl ?_
        refine og_goto (pc := 44) (tgt := 20) dX6_numberOf_44 (by decide) ?_
        refine ih (fun m hm => ?_)
        by_cases hmi : m = i
        · subst hmi
          exact c_36
        · exact hP m (by omega)
      · refine og_iload_n (pc := 39) dX6_numberOf_39 rfl ?_
        exact og_iret (pc := 40) hr dX6_numberOf_40 (by omega) (by omega) ⟨rfl, rfl, Or.inl ⟨h4, i, hi, by first | exact c_36 | exact Decidable.not_not.mp c_36, hP, rfl⟩⟩
  · refine og_iconst (pc := 11) (v := (-1)) dX6_numberOf_11 (by decide) ?_
    exact og_iret (pc := 12) hr dX6_numberOf_12 (by omega) (by omega) ⟨rfl, rfl, Or.inr ⟨Or.inl (fun q => c_8 ((og_cmp0 _ _).mpr q)), rfl⟩⟩
