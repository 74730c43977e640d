/-! ===== the law: cell, low, many, row, less, square, isNought ===== -/
section OAA
variable {E : og_E} {own : String} {cc : ByteArray} {d mc ms nL : Nat} {X : og_X} {Q : State → Prop} {cells slots n : Nat} {h : og_H} {pc : Nat} {lv : List (Option Value)} {st : List Value}
theorem og_aretA {Po : Option Value → Nat → og_H → Prop} {Px : String → Nat → og_H → Prop} {a : Nat} {ct : FieldType} (hr : og_ret X = some (.array ct)) (hd : decode cc pc = .ok (.areturn, 1)) (hc : cells ≤ mc) (hs : slots ≤ ms) (hp : Po (some (.ref a)) n h) : og_G E own cc d mc ms nL X (og_Q E Po Px mc ms X) cells slots n h pc lv [.ref a] := by
  obtain ⟨p, l, e, R, s, m, args, below, meth, c⟩ := X
  intro C H locs ls hW hS hL
  refine vx_ret (W.widen hc hs ?_)
  exact W.aret C.1 C.2.1 hr (Or.inr ⟨_, rfl⟩) (Or.inr ⟨_, rfl⟩) (fun t ht hW2 => ⟨⟨(some (.ref a)), n, h, rfl, hp, by rw [ht]; exact hW.moved hW2.alike⟩, hS.F ht⟩) hS.2.2 hd C.2.2.2.2.2.1
end OAA
theorem nI_mul (a b : Nat) : nI a * nI b = nI (a * b) := (Int32.ofNat_mul a b).symm
theorem og_i8 (r k : Nat) : (8 : Int32) * nI r + nI k = nI (8 * r + k) := by
  rw [show (8 : Int32) = nI 8 from rfl, nI_mul, nI_add]
theorem nI_sub {a b : Nat} (h : b ≤ a) : nI a - nI b = nI (a - b) := by
  have e : nI a = nI (a - b) + nI b := by rw [nI_add, Nat.sub_add_cancel h]
  rw [e, Int32.add_sub_cancel]
theorem nI_div {a b : Nat} (ha : a < 2147483648) (h0 : 0 < b) (hb : b < 2147483648) : nI a / nI b = nI (a / b) := by
  refine Int32.toInt_inj.mp ?_
  have hm := Nat.div_le_self a b
  rw [Int32.toInt_div_of_ne_right _ _ (fun e => by
    have e2 : (nI b).toInt = (-1 : Int32).toInt := congrArg Int32.toInt e
    rw [nI_toInt (by omega), show (-1 : Int32).toInt = -1 from rfl] at e2
    omega), nI_toInt (by omega), nI_toInt (by omega), nI_toInt (by omega)]
  exact Int.ofNat_tdiv a b
theorem nI_mod {a b : Nat} (ha : a < 2147483648) (h0 : 0 < b) (hb : b < 2147483648) : nI a - nI a / nI b * nI b = nI (a % b) := by
  rw [nI_div ha h0 hb, nI_mul, nI_sub (Nat.div_mul_le_self a b)]
  have := Nat.div_add_mod a b
  rw [Nat.mul_comm] at this
  congr 1
  omega
theorem y_low (v : Int32) {N : Nat} (h0 : 0 < N) (h1 : N < 2147483648) : ∃ m, m < N ∧ (v &&& 2147483647) - (v &&& 2147483647) / nI N * nI N = nI m := by
  have e1 : (v &&& 2147483647).toBitVec.toNat < 2147483648 := by
    rw [Int32.toBitVec_and, BitVec.toNat_and]
    exact Nat.lt_of_le_of_lt Nat.and_le_right (by decide)
  generalize hx : v &&& 2147483647 = x at e1
  have e2 : x = nI x.toBitVec.toNat := by
    refine Int32.toBitVec_inj.mp ?_
    rw [nI_bv, BitVec.ofNat_toNat, BitVec.setWidth_eq]
  generalize x.toBitVec.toNat = k at e1 e2
  subst e2
  exact ⟨k % N, Nat.mod_lt _ h0, nI_mod e1 h0 h1⟩
theorem c_L_cell (E : og_E) (d n k L : Nat) (h : og_H) (xs : Nat → Int32) (h0 : h 0 = some (rowI L xs)) (hL : L ≤ 260) (hk : k < 1000) :
    og_M E yL_cell (.code yL_cell cL_cell 2 (some .int)) d [.ref 0, .int (nI k)] n h 0 0 (fun v n1 h1 => n1 = n ∧ h1 = h ∧ ∃ x, v = some (.int x)) no_x := by
  refine og_start (lv := [some (.ref 0), some (.int (nI k))]) (by decide) rfl rfl (Nat.le_of_ble_eq_true rfl) fun X hr hnm htb => ?_
  refine og_iload_n (pc := 0) dL_cell_0 rfl ?_
  refine og_aload_n (pc := 1) dL_cell_1 rfl ?_
  refine og_slen (pc := 2) dL_cell_2 (by repeat (first | exact og_set_eq _ _ _ | assumption | refine (og_set_ne _ _ (by first | assumption | omega)).trans ?_)) (by omega) ?_
  refine og_geN (pc := 3) (tgt := 12) (i := k) (N := L) dL_cell_3 (by decide) rfl rfl (by omega) (by omega) (fun c_3 => ?_) (fun c_3 => ?_)
  · refine og_ldc (pc := 12) IC_L_7 dL_cell_12 ?_
    refine og_iload_n (pc := 14) dL_cell_14 rfl ?_
    refine og_iconst (pc := 15) (v := 3) dL_cell_15 (by decide) ?_
    refine og_iadd (pc := 16) dL_cell_16 ?_
    refine og_imul (pc := 17) dL_cell_17 ?_
    exact og_iret (pc := 18) hr dL_cell_18 (by omega) (by omega) ⟨rfl, rfl, _, rfl⟩
  · refine og_aload_n (pc := 6) dL_cell_6 rfl ?_
    refine og_iload_n (pc := 7) dL_cell_7 rfl ?_
    refine og_saldN (pc := 8) (j := k) rfl dL_cell_8 h0 (by omega) c_3 (by omega) ?_
    refine og_goto (pc := 9) (tgt := 18) dL_cell_9 (by decide) ?_
    exact og_iret (pc := 18) hr dL_cell_18 (by omega) (by omega) ⟨rfl, rfl, _, rfl⟩
theorem c_L_low (E : og_E) (d n N : Nat) (h : og_H) (x : Int32) (h0 : 0 < N) (hN : N < 2147483648) :
    og_M E yL_low (.code yL_low cL_low 2 (some .int)) d [.int x, .int (nI N)] n h 0 0 (fun v n1 h1 => n1 = n ∧ h1 = h ∧ ∃ m, m < N ∧ v = some (.int (nI m))) no_x := by
  refine og_start (lv := [some (.int x), some (.int (nI N))]) (by decide) rfl rfl (Nat.le_of_ble_eq_true rfl) fun X hr hnm htb => ?_
  refine og_iload_n (pc := 0) dL_low_0 rfl ?_
  refine og_ldc (pc := 1) IC_L_8 dL_low_1 ?_
  refine og_iand (pc := 3) dL_low_3 ?_
  refine og_iload_n (pc := 4) dL_low_4 rfl ?_
  refine og_irem (pc := 5) dL_low_5 (nI_ne0 h0 hN) ?_
  obtain ⟨m, hm, e⟩ := y_low x h0 hN
  exact og_iret (pc := 6) hr dL_low_6 (by omega) (by omega) ⟨rfl, rfl, m, hm, by rw [← e]⟩
theorem c_L_many (E : og_E) (d n o : Nat) (h : og_H) (ho : o < 8) :
    og_M E yL_many (.code yL_many cL_many 1 (some .int)) d [.int (nI o)] n h 0 0 (fun v n1 h1 => n1 = n ∧ h1 = h ∧ v = some (.int (nI (q_cnt o)))) no_x := by
  refine og_start (lv := [some (.int (nI o))]) (by decide) rfl rfl (Nat.le_of_ble_eq_true rfl) fun X hr hnm htb => ?_
  refine og_iload_n (pc := 0) dL_many_0 rfl ?_
  refine og_if_ne (pc := 1) (tgt := 9) dL_many_1 (by decide) (fun c => ?_) (fun c => ?_)
  · refine og_sipush (pc := 9) (v := 240) dL_many_9 (by decide) ?_
    refine og_iret (pc := 12) hr dL_many_12 (by omega) (by omega) ⟨rfl, rfl, ?_⟩
    unfold q_cnt
    rw [if_neg (fun e => c (by rw [e]; rfl))]
    rfl
  · refine og_bipush (pc := 4) (v := 16) dL_many_4 (by decide) ?_
    refine og_goto (pc := 6) (tgt := 12) dL_many_6 (by decide) ?_
    refine og_iret (pc := 12) hr dL_many_12 (by omega) (by omega) ⟨rfl, rfl, ?_⟩
    unfold q_cnt
    rw [if_pos ((nI_eq (b := 0) (by omega) (by omega)).mp c)]
    rfl
def y_row (R : Nat → Int32) (r : Nat) : Nat → Int64 := fun k => (R (8 * r + k)).toInt64
def y_less (f g : Nat → Int64) : Nat → Int64 := fun k => f k - g k
set_option maxRecDepth 4000 in
theorem c_L_row (E : og_E) (d n a r : Nat) (h : og_H) (R : Nat → Int32) (ha : h a = some (rowI 64 R)) (h3a : 3 ≤ a) (han : a < n) (hr8 : r < 8) :
    og_M E yL_row (.code yL_row cL_row 4 (some (.array .long))) d [.ref a, .int (nI r)] n h 1 8 (fun v n1 h1 => v = some (.ref n) ∧ n1 = n + 1 ∧ h1 = og_set h n (rowL (y_row R r))) no_x := by
  refine og_start (lv := [some (.ref a), some (.int (nI r)), none, none]) (by decide) rfl rfl (Nat.le_of_ble_eq_true rfl) fun X hr hnm htb => ?_
  have h3n : 3 ≤ n := by omega
  refine og_bipush (pc := 0) (v := 8) dL_row_0 (by decide) ?_
  refine og_newa (pc := 2) (k := 2) (N := 8) (x := (8, .inr (.inl (fun _ => 0)))) (atype := .long) AC_long rfl (by decide) dL_row_2 (fun _ => rfl) (by decide) (by decide) (by decide) (by omega) (by omega) ?_
  refine og_astore_n_2 (pc := 4) dL_row_4 rfl ?_
  refine og_iconst (pc := 5) (v := 0) dL_row_5 (by decide) ?_
  refine og_istore_n_3 (pc := 6) dL_row_6 rfl ?_
  refine og_congL (fun j => if j < 0 then y_row R r j else 0) (og_set_eq _ _ _) h3n (fun j _ => by simp) ?_
  rw [og_set_set]
  refine og_for (i0 := 0) (N := 8) (by decide) (fun i => og_set h n (rowL (fun j => if j < i then y_row R r j else 0))) (fun i => [some (.ref a), some (.int (nI r)), some (.ref n), some (.int (nI i))]) ?_ (fun i hi1 hi ih => ?_)
  · refine og_iload_n (pc := 7) dL_row_7 rfl ?_
    refine og_bipush (pc := 8) (v := 8) dL_row_8 (by decide) ?_
    refine og_geN (pc := 10) (tgt := 31) (i := 8) (N := 8) dL_row_10 (by decide) rfl rfl (by omega) (by omega) (fun c_10 => ?_) (fun c_10 => ?_)
    · refine og_congL (y_row R r) (og_set_eq _ _ _) h3n (fun j hj => by rw [if_pos (by omega)]) ?_
      rw [og_set_set]
      refine og_aload_n (pc := 31) dL_row_31 rfl ?_
      exact og_aretA (pc := 32) hr dL_row_32 (by omega) (by omega) ⟨rfl, rfl, rfl⟩
    · omega
  · refine og_iload_n (pc := 7) dL_row_7 rfl ?_
    refine og_bipush (pc := 8) (v := 8) dL_row_8 (by decide) ?_
    refine og_geN (pc := 10) (tgt := 31) (i := i) (N := 8) dL_row_10 (by decide) rfl rfl (by omega) (by omega) (fun c_10 => ?_) (fun c_10 => ?_)
    · omega
    refine og_aload_n (pc := 13) dL_row_13 rfl ?_
    refine og_iload_n (pc := 14) dL_row_14 rfl ?_
    refine og_aload_n (pc := 15) dL_row_15 rfl ?_
    refine og_bipush (pc := 16) (v := 8) dL_row_16 (by decide) ?_
    refine og_iload_n (pc := 18) dL_row_18 rfl ?_
    refine og_imul (pc := 19) dL_row_19 ?_
    refine og_iload_n (pc := 20) dL_row_20 rfl ?_
    refine og_iadd (pc := 21) dL_row_21 ?_
    refine og_ialdN (pc := 22) (og_i8 r i) dL_row_22 (by repeat (first | exact og_set_eq _ _ _ | assumption | refine (og_set_ne _ _ (by first | assumption | omega)).trans ?_)) (by omega) (by omega) (by first | decide | assumption | omega) ?_
    refine og_i2l (pc := 23) dL_row_23 rfl ?_
    refine og_lastN (pc := 24) rfl dL_row_24 (by repeat (first | exact og_set_eq _ _ _ | assumption | refine (og_set_ne _ _ (by first | assumption | omega)).trans ?_)) (by omega) (by omega) (by first | decide | assumption | omega) ?_
    refine og_iinc_3 (pc := 25) dL_row_25 (og_inc i) rfl ?_
    refine og_goto (pc := 28) (tgt := 7) dL_row_28 (by decide) ?_
    rw [og_set_set, og_fill (by rfl)]
    exact ih
set_option maxRecDepth 4000 in
theorem c_L_less (E : og_E) (d n a b : Nat) (h : og_H) (f g : Nat → Int64) (ha : h a = some (rowL f)) (hb : h b = some (rowL g)) (h3a : 3 ≤ a) (h3b : 3 ≤ b) (han : a < n) (hbn : b < n) :
    og_M E yL_less (.code yL_less cL_less 4 (some (.array .long))) d [.ref a, .ref b] n h 1 8 (fun v n1 h1 => v = some (.ref n) ∧ n1 = n + 1 ∧ h1 = og_set h n (rowL (y_less f g))) no_x := by
  refine og_start (lv := [some (.ref a), some (.ref b), none, none]) (by decide) rfl rfl (Nat.le_of_ble_eq_true rfl) fun X hr hnm htb => ?_
  have h3n : 3 ≤ n := by omega
  refine og_bipush (pc := 0) (v := 8) dL_less_0 (by decide) ?_
  refine og_newa (pc := 2) (k := 2) (N := 8) (x := (8, .inr (.inl (fun _ => 0)))) (atype := .long) AC_long rfl (by decide) dL_less_2 (fun _ => rfl) (by decide) (by decide) (by decide) (by omega) (by omega) ?_
  refine og_astore_n_2 (pc := 4) dL_less_4 rfl ?_
  refine og_iconst (pc := 5) (v := 0) dL_less_5 (by decide) ?_
  refine og_istore_n_3 (pc := 6) dL_less_6 rfl ?_
  refine og_congL (fun j => if j < 0 then y_less f g j else 0) (og_set_eq _ _ _) h3n (fun j _ => by simp) ?_
  rw [og_set_set]
  refine og_for (i0 := 0) (N := 8) (by decide) (fun i => og_set h n (rowL (fun j => if j < i then y_less f g j else 0))) (fun i => [some (.ref a), some (.ref b), some (.ref n), some (.int (nI i))]) ?_ (fun i hi1 hi ih => ?_)
  · refine og_iload_n (pc := 7) dL_less_7 rfl ?_
    refine og_bipush (pc := 8) (v := 8) dL_less_8 (by decide) ?_
    refine og_geN (pc := 10) (tgt := 29) (i := 8) (N := 8) dL_less_10 (by decide) rfl rfl (by omega) (by omega) (fun c_10 => ?_) (fun c_10 => ?_)
    · refine og_congL (y_less f g) (og_set_eq _ _ _) h3n (fun j hj => by rw [if_pos (by omega)]) ?_
      rw [og_set_set]
      refine og_aload_n (pc := 29) dL_less_29 rfl ?_
      exact og_aretA (pc := 30) hr dL_less_30 (by omega) (by omega) ⟨rfl, rfl, rfl⟩
    · omega
  · refine og_iload_n (pc := 7) dL_less_7 rfl ?_
    refine og_bipush (pc := 8) (v := 8) dL_less_8 (by decide) ?_
    refine og_geN (pc := 10) (tgt := 29) (i := i) (N := 8) dL_less_10 (by decide) rfl rfl (by omega) (by omega) (fun c_10 => ?_) (fun c_10 => ?_)
    · omega
    refine og_aload_n (pc := 13) dL_less_13 rfl ?_
    refine og_iload_n (pc := 14) dL_less_14 rfl ?_
    refine og_aload_n (pc := 15) dL_less_15 rfl ?_
    refine og_iload_n (pc := 16) dL_less_16 rfl ?_
    refine og_laldN (pc := 17) rfl dL_less_17 (by repeat (first | exact og_set_eq _ _ _ | assumption | refine (og_set_ne _ _ (by first | assumption | omega)).trans ?_)) (by omega) (by omega) (by first | decide | assumption | omega) ?_
    refine og_aload_n (pc := 18) dL_less_18 rfl ?_
    refine og_iload_n (pc := 19) dL_less_19 rfl ?_
    refine og_laldN (pc := 20) rfl dL_less_20 (by repeat (first | exact og_set_eq _ _ _ | assumption | refine (og_set_ne _ _ (by first | assumption | omega)).trans ?_)) (by omega) (by omega) (by first | decide | assumption | omega) ?_
    refine og_lsub (pc := 21) dL_less_21 ?_
    refine og_lastN (pc := 22) rfl dL_less_22 (by repeat (first | exact og_set_eq _ _ _ | assumption | refine (og_set_ne _ _ (by first | assumption | omega)).trans ?_)) (by omega) (by omega) (by first | decide | assumption | omega) ?_
    refine og_iinc_3 (pc := 23) dL_less_23 (og_inc i) rfl ?_
    refine og_goto (pc := 26) (tgt := 7) dL_less_26 (by decide) ?_
    rw [og_set_set, og_fill (by rfl)]
    exact ih
theorem c_L_square (E : og_E) (d n a : Nat) (h : og_H) (f : Nat → Int64) (ha : h a = some (rowL f)) (h3a : 3 ≤ a) :
    og_M E yL_square (.code yL_square cL_square 4 (some .long)) d [.ref a] n h 0 0 (fun v n1 h1 => v = some (.long (q_inner f f 8)) ∧ n1 = n ∧ h1 = h) no_x := by
  refine og_start (lv := [some (.ref a), none, none, none]) (by decide) rfl rfl (Nat.le_of_ble_eq_true rfl) fun X hr hnm htb => ?_
  refine og_lconst (pc := 0) (v := 0) dL_square_0 (by decide) ?_
  refine og_lstore_n_1 (pc := 1) dL_square_1 rfl ?_
  refine og_iconst (pc := 2) (v := 0) dL_square_2 (by decide) ?_
  refine og_istore_n_3 (pc := 3) dL_square_3 rfl ?_
  refine og_for (i0 := 0) (N := 8) (by decide) (fun _ => h) (fun i => [some (.ref a), some (.long (q_inner f f i)), none, some (.int (nI i))]) ?_ (fun i hi1 hi ih => ?_)
  · refine og_iload_n (pc := 4) dL_square_4 rfl ?_
    refine og_bipush (pc := 5) (v := 8) dL_square_5 (by decide) ?_
    refine og_geN (pc := 7) (tgt := 26) (i := 8) (N := 8) dL_square_7 (by decide) rfl rfl (by omega) (by omega) (fun c_7 => ?_) (fun c_7 => ?_)
    · refine og_lload_n (pc := 26) dL_square_26 rfl ?_
      exact og_lret (pc := 27) hr dL_square_27 (by omega) (by omega) ⟨rfl, rfl, rfl⟩
    · omega
  · refine og_iload_n (pc := 4) dL_square_4 rfl ?_
    refine og_bipush (pc := 5) (v := 8) dL_square_5 (by decide) ?_
    refine og_geN (pc := 7) (tgt := 26) (i := i) (N := 8) dL_square_7 (by decide) rfl rfl (by omega) (by omega) (fun c_7 => ?_) (fun c_7 => ?_)
    · omega
    refine og_lload_n (pc := 10) dL_square_10 rfl ?_
    refine og_aload_n (pc := 11) dL_square_11 rfl ?_
    refine og_iload_n (pc := 12) dL_square_12 rfl ?_
    refine og_laldN (pc := 13) rfl dL_square_13 (by repeat (first | exact og_set_eq _ _ _ | assumption | refine (og_set_ne _ _ (by first | assumption | omega)).trans ?_)) (by omega) (by omega) (by first | decide | assumption | omega) ?_
    refine og_aload_n (pc := 14) dL_square_14 rfl ?_
    refine og_iload_n (pc := 15) dL_square_15 rfl ?_
    refine og_laldN (pc := 16) rfl dL_square_16 (by repeat (first | exact og_set_eq _ _ _ | assumption | refine (og_set_ne _ _ (by first | assumption | omega)).trans ?_)) (by omega) (by omega) (by first | decide | assumption | omega) ?_
    refine og_lmul (pc := 17) dL_square_17 ?_
    refine og_ladd (pc := 18) dL_square_18 ?_
    refine og_lstore_n_1 (pc := 19) dL_square_19 rfl ?_
    refine og_iinc_3 (pc := 20) dL_square_20 (og_inc i) rfl ?_
    refine og_goto (pc := 23) (tgt := 4) dL_square_23 (by decide) ?_
    exact ih
def y_z (b : Bool) : Int32 := if b then 1 else 0
theorem y_z1 (b : Bool) : y_z b = 0 ↔ b = false := by cases b <;> decide
theorem c_L_isNought (E : og_E) (d n a : Nat) (h : og_H) (f : Nat → Int64) (ha : h a = some (rowL f)) (h3a : 3 ≤ a) :
    og_M E yL_isNought (.code yL_isNought cL_isNought 3 (some .boolean)) d [.ref a] n h 0 0 (fun v n1 h1 => n1 = n ∧ h1 = h ∧ ((v = some (.int 1) ∧ q_zr f) ∨ (v = some (.int 0) ∧ ¬ q_zr f))) no_x := by
  refine og_start (lv := [some (.ref a), none, none]) (by decide) rfl rfl (Nat.le_of_ble_eq_true rfl) fun X hr hnm htb => ?_
  refine og_iconst (pc := 0) (v := 1) dL_isNought_0 (by decide) ?_
  refine og_istore_n_1 (pc := 1) dL_isNought_1 rfl ?_
  refine og_iconst (pc := 2) (v := 0) dL_isNought_2 (by decide) ?_
  refine og_istore_n_2 (pc := 3) dL_isNought_3 rfl ?_
  -- the loop's flag b: 1 while all so far are 0
  suffices hh : ∀ i, i ≤ 8 → ∀ b : Bool, (b = true ↔ ∀ j, j < i → f j = 0) → og_G E RL cL_isNought d 0 0 3 X (og_Q E (fun v n1 h1 => n1 = n ∧ h1 = h ∧ ((v = some (.int 1) ∧ q_zr f) ∨ (v = some (.int 0) ∧ ¬ q_zr f))) no_x 0 0 X) 0 0 n h 4 [some (.ref a), some (.int (y_z b)), some (.int (nI i))] [] from
    hh 0 (by omega) true ⟨fun _ j hj => absurd hj (by omega), fun _ => rfl⟩
  intro i hi
  obtain ⟨k, hk⟩ : ∃ k, i + k = 8 := ⟨8 - i, by omega⟩
  clear hi
  induction k generalizing i with
  | zero =>
    intro b hb
    obtain rfl : i = 8 := by omega
    refine og_iload_n (pc := 4) dL_isNought_4 rfl ?_
    refine og_bipush (pc := 5) (v := 8) dL_isNought_5 (by decide) ?_
    refine og_geN (pc := 7) (tgt := 34) (i := 8) (N := 8) dL_isNought_7 (by decide) rfl rfl (by omega) (by omega) (fun c_7 => ?_) (fun c_7 => ?_)
    · refine og_iload_n (pc := 34) dL_isNought_34 rfl ?_
      cases b
      · exact og_zret (pc := 35) hr rfl dL_isNought_35 (by omega) (by omega) ⟨rfl, rfl, Or.inr ⟨rfl, fun q => by cases hb.mpr q⟩⟩
      · exact og_zret (pc := 35) hr rfl dL_isNought_35 (by omega) (by omega) ⟨rfl, rfl, Or.inl ⟨rfl, hb.mp rfl⟩⟩
    · omega
  | succ k ih =>
    intro b hb
    refine og_iload_n (pc := 4) dL_isNought_4 rfl ?_
    refine og_bipush (pc := 5) (v := 8) dL_isNought_5 (by decide) ?_
    refine og_geN (pc := 7) (tgt := 34) (i := i) (N := 8) dL_isNought_7 (by decide) rfl rfl (by omega) (by omega) (fun c_7 => ?_) (fun c_7 => ?_)
    · omega
    refine og_iload_n (pc := 10) dL_isNought_10 rfl ?_
    refine og_if_eq (pc := 11) (tgt := 26) dL_isNought_11 (by decide) (fun c => ?_) (fun c => ?_)
    · have hf := (y_z1 b).mp c
      subst hf
      refine og_iconst (pc := 26) (v := 0) dL_isNought_26 (by decide) ?_
      refine og_istore_n_1 (pc := 27) dL_isNought_27 rfl ?_
      refine og_iinc_2 (pc := 28) dL_isNought_28 (og_inc i) rfl ?_
      refine og_goto (pc := 31) (tgt := 4) dL_isNought_31 (by decide) ?_
      exact ih (i + 1) (by omega) false ⟨fun q => (by cases q), fun q => (by have := hb.mpr (fun j hj => q j (by omega)); cases this)⟩
    · have hf : b = true := by
        cases b
        · exact absurd rfl c
        · rfl
      subst hf
      have hp := hb.mp rfl
      refine og_aload_n (pc := 14) dL_isNought_14 rfl ?_
      refine og_iload_n (pc := 15) dL_isNought_15 rfl ?_
      refine og_laldN (pc := 16) rfl dL_isNought_16 (by repeat (first | exact og_set_eq _ _ _ | assumption | refine (og_set_ne _ _ (by first | assumption | omega)).trans ?_)) (by omega) (by omega) (by first | decide | assumption | omega) ?_
      refine og_lconst (pc := 17) (v := 0) dL_isNought_17 (by decide) ?_
      refine og_lcmp (pc := 18) dL_isNought_18 ?_
      refine og_if_ne (pc := 19) (tgt := 26) dL_isNought_19 (by decide) (fun c2 => ?_) (fun c2 => ?_)
      · refine og_iconst (pc := 26) (v := 0) dL_isNought_26 (by decide) ?_
        refine og_istore_n_1 (pc := 27) dL_isNought_27 rfl ?_
        refine og_iinc_2 (pc := 28) dL_isNought_28 (og_inc i) rfl ?_
        refine og_goto (pc := 31) (tgt := 4) dL_isNought_31 (by decide) ?_
        exact ih (i + 1) (by omega) false ⟨fun q => by (cases q), fun q => absurd ((og_cmp0 _ _).mpr (q i (by omega))) c2⟩
      · have hz := (og_cmp0 _ _).mp c2
        refine og_iconst (pc := 22) (v := 1) dL_isNought_22 (by decide) ?_
        refine og_goto (pc := 23) (tgt := 27) dL_isNought_23 (by decide) ?_
        refine og_istore_n_1 (pc := 27) dL_isNought_27 rfl ?_
        refine og_iinc_2 (pc := 28) dL_isNought_28 (og_inc i) rfl ?_
        refine og_goto (pc := 31) (tgt := 4) dL_isNought_31 (by decide) ?_
        exact ih (i + 1) (by omega) true ⟨fun _ j hj => by
          by_cases e : j = i
          · rw [e]; exact hz
          · exact hp j (by omega), fun _ => rfl⟩
