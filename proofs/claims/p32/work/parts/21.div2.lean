/-! ===== Division: chooseQuotient, work, euclid ===== -/
noncomputable def q_if {α : Type} (P : Prop) (a b : α) : α := @ite α P (Classical.propDecidable P) a b
theorem q_if_pos {α : Type} {P : Prop} {a b : α} (h : P) : q_if P a b = a := by unfold q_if; exact if_pos h
theorem q_if_neg {α : Type} {P : Prop} {a b : α} (h : ¬ P) : q_if P a b = b := by unfold q_if; exact if_neg h
def q_w (odd : Int32) (i : Nat) : Nat := if q_bit odd i = 0 then 0 else 1
theorem q_w_lt (odd : Int32) (i : Nat) : q_w odd i < 2 := by unfold q_w; split <;> omega
theorem q_w_eq (odd : Int32) (i : Nat) : q_bit odd i = nI (q_w odd i) := by
  obtain ⟨j, hj, he⟩ := pk_andE (odd >>> (nI i &&& 31)) (m := 1) 1 rfl
  have hb : q_bit odd i = nI j := he
  unfold q_w
  rw [hb]
  match j, hj with
  | 0, _ => rw [if_pos (by decide)]
  | 1, _ => rw [if_neg (by decide)]
def q_far (ds : Nat → Nat → Int64) (odd : Int32) : Nat → Int64
  | 0 => 0
  | i + 1 => q_far ds odd i + ds (q_w odd i) i
def q_tv (nv : Nat → Nat → Int64) (odd : Int32) : Nat → Int64 := fun i => nv (q_w odd i) i
def q_first (f g : Nat → Int64) : Prop := ∃ i, i < 8 ∧ (∀ j, j < i → f j = g j) ∧ f i < g i
noncomputable def q_cq (nv ds : Nat → Nat → Int64) (o : Nat) (q0 : Nat → Int64) : Nat → Int64 × (Nat → Int64)
  | 0 => (0, q0)
  | m + 1 => q_if (m = 0 ∨ q_far ds (q_os o m) 8 < (q_cq nv ds o q0 m).1 ∨ (q_far ds (q_os o m) 8 = (q_cq nv ds o q0 m).1 ∧ q_first (q_tv nv (q_os o m)) (q_cq nv ds o q0 m).2)) (q_far ds (q_os o m) 8, q_tv nv (q_os o m)) (q_cq nv ds o q0 m)
theorem q_cq_any (nv ds : Nat → Nat → Int64) (o : Nat) (q0 q1 : Nat → Int64) (m : Nat) : q_cq nv ds o q0 (m + 1) = q_cq nv ds o q1 (m + 1) := by
  induction m with
  | zero =>
    have a : ∀ q, q_cq nv ds o q (0 + 1) = (q_far ds (q_os o 0) 8, q_tv nv (q_os o 0)) := fun q => by rw [q_cq, q_if_pos (Or.inl rfl)]
    rw [a q0, a q1]
  | succ m ih => rw [q_cq, ih]; conv => rhs; rw [q_cq]
def q_tm (nv : Nat → Nat → Int64) (o : Nat) (t0 : Nat → Int64) : Nat → (Nat → Int64)
  | 0 => t0
  | m + 1 => q_tv nv (q_os o m)
theorem q_sets_pos (o : Nat) : 0 < q_sets o := by unfold q_sets; split <;> omega
set_option maxRecDepth 4000 in
theorem c_X1_chooseQuotient (E : og_E) (d n o : Nat) (h : og_H) (nv ds : Nat → Nat → Int64) (q0 t0 : Nat → Int64) (hE : h 2 = some q_SE) (ho : o < 8) (hD : h 56 = some og_DV) (hq : h 57 = some (rowL q0)) (ht : h 63 = some (rowL t0)) (hn : h 64 = some (og_grid 64 2)) (hd : h 67 = some (og_grid 67 2)) (hnv : ∀ w, w < 2 → h (65 + w) = some (rowL (nv w))) (hds : ∀ w, w < 2 → h (68 + w) = some (rowL (ds w))) :
    og_M E yX1_chooseQuotient (.code yX1_chooseQuotient cX1_chooseQuotient 11 none) (d + 3) [.ref 56, .int (nI o)] n h 0 0 (fun v n1 h1 => v = none ∧ n1 = n ∧ ∃ t, h1 = og_set (og_set h 57 (rowL (q_cq nv ds o (fun _ => 0) (q_sets o)).2)) 63 (rowL t)) no_x := by
  refine og_start (lv := [some (.ref 56), some (.int (nI o)), none, none, none, none, none, none, none, none, none]) (by decide) rfl rfl (Nat.le_of_ble_eq_true rfl) fun X hr hnm htb => ?_
  have hs := q_sets_le o
  have hsp := q_sets_pos o
  refine og_iload_n (pc := 0) dX1_chooseQuotient_0 rfl ?_
  refine og_callS (pc := 1) (As := [.int (nI o)]) (rest := []) (c_X2_sets E d n o h hE ho) Y_X2_sets S_X2_sets K_X1_74 dX1_chooseQuotient_1 rfl rfl (Nat.le_of_ble_eq_true rfl) (by omega) (by omega) (by omega) (fun _ _ _ z => z) (fun v n1 h1 z => ?_)
  obtain ⟨rfl, rfl, rfl⟩ := z
  refine og_istore_n_2 (pc := 4) dX1_chooseQuotient_4 rfl ?_
  refine og_lconst (pc := 5) (v := 0) dX1_chooseQuotient_5 (by decide) ?_
  refine og_lstore_n_3 (pc := 6) dX1_chooseQuotient_6 rfl ?_
  refine og_iconst (pc := 7) (v := 0) dX1_chooseQuotient_7 (by decide) ?_
  refine og_istore_5 (pc := 8) dX1_chooseQuotient_8 rfl ?_
  refine og_congL q0 hq (by omega) (fun _ _ => rfl) ?_
  refine og_congL t0 ((og_set_ne _ _ (by omega)).trans ht) (by omega) (fun _ _ => rfl) ?_
  refine og_for (i0 := 0) (N := q_sets o) (by omega) (fun m => og_set (og_set h1 57 (rowL (q_cq nv ds o q0 m).2)) 63 (rowL (q_tm nv o t0 m))) (fun m => [some (.ref 56), some (.int (nI o)), some (.int (nI (q_sets o))), some (.long (q_cq nv ds o q0 m).1), none, some (.int (nI m)), none, none, none, none, none]) ?_ (fun m hm1 hm ih => ?_)
  · refine og_iload (pc := 10) dX1_chooseQuotient_10 rfl ?_
    refine og_iload_n (pc := 12) dX1_chooseQuotient_12 rfl ?_
    refine og_geN (pc := 13) (tgt := 137) (i := q_sets o) (N := q_sets o) dX1_chooseQuotient_13 (by decide) rfl rfl (by omega) (by omega) (fun c_13 => ?_) (fun c_13 => ?_)
    · refine og_vret (pc := 137) hr dX1_chooseQuotient_137 (by omega) (by omega) ⟨rfl, rfl, q_tm nv o t0 (q_sets o), ?_⟩
      obtain ⟨k, hk⟩ : ∃ k, q_sets o = k + 1 := ⟨q_sets o - 1, by omega⟩
      rw [hk, q_cq_any nv ds o q0 (fun _ => 0) k]
    · omega
  · have g2 : og_set (og_set h1 57 (rowL (q_cq nv ds o q0 m).2)) 63 (rowL (q_tm nv o t0 m)) 2 = some q_SE := (og_set_ne _ _ (by omega)).trans ((og_set_ne _ _ (by omega)).trans hE)
    refine og_iload (pc := 10) dX1_chooseQuotient_10 rfl ?_
    refine og_iload_n (pc := 12) dX1_chooseQuotient_12 rfl ?_
    refine og_geN (pc := 13) (tgt := 137) (i := m) (N := q_sets o) dX1_chooseQuotient_13 (by decide) rfl rfl (by omega) (by omega) (fun c_13 => ?_) (fun c_13 => ?_)
    · omega
    refine og_iload_n (pc := 16) dX1_chooseQuotient_16 rfl ?_
    refine og_iload (pc := 17) dX1_chooseQuotient_17 rfl ?_
    refine og_callS (pc := 19) (As := [.int (nI o), .int (nI m)]) (rest := []) (c_X2_oddSet E (d + 1) n1 o m _ g2 ho (by omega)) Y_X2_oddSet S_X2_oddSet K_X1_80 dX1_chooseQuotient_19 rfl rfl (Nat.le_of_ble_eq_true rfl) (by omega) (by omega) (by omega) (fun _ _ _ z => z) (fun v n1 h1 z => ?_)
    obtain ⟨rfl, rfl, rfl⟩ := z
    refine og_istore_6 (pc := 22) dX1_chooseQuotient_22 rfl ?_
    refine og_lconst (pc := 24) (v := 0) dX1_chooseQuotient_24 (by decide) ?_
    refine og_lstore_7 (pc := 25) dX1_chooseQuotient_25 rfl ?_
    refine og_iconst (pc := 27) (v := 0) dX1_chooseQuotient_27 (by decide) ?_
    refine og_istore_9 (pc := 28) dX1_chooseQuotient_28 rfl ?_
    refine og_congL (fun j => if j < 0 then q_tv nv (q_os o m) j else q_tm nv o t0 m j) (og_set_eq _ _ _) (by omega) (fun j _ => by simp) ?_
    rw [og_set_set]
    refine og_for (i0 := 0) (N := 8) (by omega) (fun i => og_set (og_set h1 57 (rowL (q_cq nv ds o q0 m).2)) 63 (rowL (fun j => if j < i then q_tv nv (q_os o m) j else q_tm nv o t0 m j))) (fun i => [some (.ref 56), some (.int (nI o)), some (.int (nI (q_sets o))), some (.long (q_cq nv ds o q0 m).1), none, some (.int (nI m)), some (.int (q_os o m)), some (.long (q_far ds (q_os o m) i)), none, some (.int (nI i)), none]) ?_ (fun i hi1 hi ih2 => ?_)
    · refine og_iload (pc := 30) dX1_chooseQuotient_30 rfl ?_
      refine og_bipush (pc := 32) (v := 8) dX1_chooseQuotient_32 (by decide) ?_
      refine og_geN (pc := 34) (tgt := 84) (i := 8) (N := 8) dX1_chooseQuotient_34 (by decide) rfl rfl (by omega) (by omega) (fun c_34 => ?_) (fun c_34 => ?_)
      · refine og_congL (q_tv nv (q_os o m)) (og_set_eq _ _ _) (by omega) (fun j hj => by rw [if_pos (by omega)]) ?_
        rw [og_set_set]
        have take : (m = 0 ∨ q_far ds (q_os o m) 8 < (q_cq nv ds o q0 m).1 ∨ (q_far ds (q_os o m) 8 = (q_cq nv ds o q0 m).1 ∧ q_first (q_tv nv (q_os o m)) (q_cq nv ds o q0 m).2)) → og_G E yX1_chooseQuotient.cls cX1_chooseQuotient (d + 3) 0 0 11 X (og_Q E (fun v n1_1 h1_1 => v = none ∧ n1_1 = n1 ∧ ∃ t, h1_1 = og_set (og_set h1 57 (rowL (q_cq nv ds o (fun _ => 0) (q_sets o)).2)) 63 (rowL t)) no_x 0 0 X) 0 0 n1 (og_set (og_set h1 57 (rowL (q_cq nv ds o q0 m).2)) 63 (rowL (q_tv nv (q_os o m)))) 117 [some (.ref 56), some (.int (nI o)), some (.int (nI (q_sets o))), some (.long (q_cq nv ds o q0 m).1), none, some (.int (nI m)), some (.int (q_os o m)), some (.long (q_far ds (q_os o m) 8)), none, some (.int (nI 8)), none] [] := by
          intro hc
          have e : q_cq nv ds o q0 (m + 1) = (q_far ds (q_os o m) 8, q_tv nv (q_os o m)) := by rw [q_cq, q_if_pos hc]
          rw [e] at ih
          refine og_lload (pc := 117) dX1_chooseQuotient_117 rfl ?_
          refine og_lstore_n_3 (pc := 119) dX1_chooseQuotient_119 rfl ?_
          refine og_aload_n (pc := 120) dX1_chooseQuotient_120 rfl ?_
          refine og_get (pc := 121) F_X1_32 dX1_chooseQuotient_121 (by repeat (first | exact og_set_eq _ _ _ | assumption | refine (og_set_ne _ _ (by first | assumption | omega)).trans ?_)) (by omega) rfl ?_
          refine og_aload_n (pc := 124) dX1_chooseQuotient_124 rfl ?_
          refine og_get (pc := 125) F_X1_11 dX1_chooseQuotient_125 (by repeat (first | exact og_set_eq _ _ _ | assumption | refine (og_set_ne _ _ (by first | assumption | omega)).trans ?_)) (by omega) rfl ?_
          refine og_callS (pc := 128) (As := [.ref 63, .ref 57]) (rest := []) (c_X3_copy E (d + 2) n1 63 57 _ _ _ (og_set_eq _ _ _) ((og_set_ne _ _ (by omega)).trans (og_set_eq _ _ _)) (by omega) (by omega) (by omega)) Y_X3_copy S_X3_copy K_X1_43 dX1_chooseQuotient_128 rfl rfl (Nat.le_of_ble_eq_true rfl) (by omega) (by omega) (by omega) (fun _ _ _ z => z) (fun v n1 h1 z => ?_)
          obtain ⟨rfl, rfl, rfl⟩ := z
          rw [og_set_comm (og_set h1 57 _) _ _ (by omega), og_set_set]
          refine og_iinc_5 (pc := 131) dX1_chooseQuotient_131 (og_inc m) rfl ?_
          refine og_goto (pc := 134) (tgt := 10) dX1_chooseQuotient_134 (by decide) ?_
          exact og_forget_6 (og_forget_7 (og_forget_9 (og_forget_10 ih)))
        have leave : ¬ (m = 0 ∨ q_far ds (q_os o m) 8 < (q_cq nv ds o q0 m).1 ∨ (q_far ds (q_os o m) 8 = (q_cq nv ds o q0 m).1 ∧ q_first (q_tv nv (q_os o m)) (q_cq nv ds o q0 m).2)) → og_G E yX1_chooseQuotient.cls cX1_chooseQuotient (d + 3) 0 0 11 X (og_Q E (fun v n1_1 h1_1 => v = none ∧ n1_1 = n1 ∧ ∃ t, h1_1 = og_set (og_set h1 57 (rowL (q_cq nv ds o (fun _ => 0) (q_sets o)).2)) 63 (rowL t)) no_x 0 0 X) 0 0 n1 (og_set (og_set h1 57 (rowL (q_cq nv ds o q0 m).2)) 63 (rowL (q_tv nv (q_os o m)))) 131 [some (.ref 56), some (.int (nI o)), some (.int (nI (q_sets o))), some (.long (q_cq nv ds o q0 m).1), none, some (.int (nI m)), some (.int (q_os o m)), some (.long (q_far ds (q_os o m) 8)), none, some (.int (nI 8)), none] [] := by
          intro hc
          have e : q_cq nv ds o q0 (m + 1) = q_cq nv ds o q0 m := by rw [q_cq, q_if_neg hc]
          rw [e] at ih
          refine og_iinc_5 (pc := 131) dX1_chooseQuotient_131 (og_inc m) rfl ?_
          refine og_goto (pc := 134) (tgt := 10) dX1_chooseQuotient_134 (by decide) ?_
          exact og_forget_6 (og_forget_7 (og_forget_9 (og_forget_10 ih)))
        refine og_iload (pc := 84) dX1_chooseQuotient_84 rfl ?_
        refine og_if_eq (pc := 86) (tgt := 117) dX1_chooseQuotient_86 (by decide) (fun c_86 => ?_) (fun c_86 => ?_)
        · refine take (Or.inl ?_)
          rcases Nat.eq_zero_or_pos m with q | q
          · exact q
          · exact absurd c_86 (nI_ne0 q (by omega))
        · have hm0 : m ≠ 0 := fun q => c_86 (by rw [q]; rfl)
          refine og_lload (pc := 89) dX1_chooseQuotient_89 rfl ?_
          refine og_lload_n (pc := 91) dX1_chooseQuotient_91 rfl ?_
          refine og_lcmp (pc := 92) dX1_chooseQuotient_92 ?_
          refine og_if_lt (pc := 93) (tgt := 117) dX1_chooseQuotient_93 (by decide) (fun c_93 => ?_) (fun c_93 => ?_)
          · exact take (Or.inr (Or.inl ((og_cmpL _ _).mp c_93)))
          · have hlt : ¬ q_far ds (q_os o m) 8 < (q_cq nv ds o q0 m).1 := fun q => c_93 ((og_cmpL _ _).mpr q)
            refine og_lload (pc := 96) dX1_chooseQuotient_96 rfl ?_
            refine og_lload_n (pc := 98) dX1_chooseQuotient_98 rfl ?_
            refine og_lcmp (pc := 99) dX1_chooseQuotient_99 ?_
            refine og_if_ne (pc := 100) (tgt := 131) dX1_chooseQuotient_100 (by decide) (fun c_100 => ?_) (fun c_100 => ?_)
            · refine leave (fun q => ?_)
              rcases q with q | q | q
              · exact hm0 q
              · exact hlt q
              · exact c_100 ((og_cmp0 _ _).mpr q.1)
            · have heq : q_far ds (q_os o m) 8 = (q_cq nv ds o q0 m).1 := (og_cmp0 _ _).mp (by first | exact c_100 | exact Decidable.not_not.mp c_100)
              refine og_aload_n (pc := 103) dX1_chooseQuotient_103 rfl ?_
              refine og_get (pc := 104) F_X1_32 dX1_chooseQuotient_104 (by repeat (first | exact og_set_eq _ _ _ | assumption | refine (og_set_ne _ _ (by first | assumption | omega)).trans ?_)) (by omega) rfl ?_
              refine og_aload_n (pc := 107) dX1_chooseQuotient_107 rfl ?_
              refine og_get (pc := 108) F_X1_11 dX1_chooseQuotient_108 (by repeat (first | exact og_set_eq _ _ _ | assumption | refine (og_set_ne _ _ (by first | assumption | omega)).trans ?_)) (by omega) rfl ?_
              refine og_callS (pc := 111) (As := [.ref 63, .ref 57]) (rest := []) (c_X1_comesFirst E (d + 2) n1 63 57 _ _ _ (og_set_eq _ _ _) ((og_set_ne _ _ (by omega)).trans (og_set_eq _ _ _)) (by omega) (by omega)) Y_X1_comesFirst S_X1_comesFirst K_X1_84 dX1_chooseQuotient_111 rfl rfl (by decide) (by omega) (by omega) (by omega) (fun _ _ _ z => z) (fun v n2 h2 z => ?_)
              obtain ⟨rfl, rfl, z⟩ := z
              rcases z with ⟨rfl, z⟩ | ⟨rfl, z⟩
              · refine og_if_eq (pc := 114) (tgt := 131) dX1_chooseQuotient_114 (by decide) (fun c => absurd c (by decide)) (fun _ => take (Or.inr (Or.inr ⟨heq, z⟩)))
              · refine og_if_eq (pc := 114) (tgt := 131) dX1_chooseQuotient_114 (by decide) (fun _ => leave (fun q => ?_)) (fun c => absurd rfl c)
                rcases q with q | q | q
                · exact hm0 q
                · exact hlt q
                · obtain ⟨-, i, hi, hp, hl⟩ := q
                  rcases z with z | ⟨j, hj, hp2, hn2, hl2⟩
                  · rw [z i hi] at hl
                    exact absurd hl (fun z => by rw [Int64.lt_iff_toInt_lt] at z; omega)
                  · rcases Nat.lt_trichotomy i j with q | q | q
                    · rw [hp2 i q] at hl
                      exact absurd hl (fun z => by rw [Int64.lt_iff_toInt_lt] at z; omega)
                    · subst q
                      exact hl2 hl
                    · exact hn2 (hp j q)
      · omega
    · have hw := q_w_lt (q_os o m) i
      have g65 := hnv (q_w (q_os o m) i) hw
      have g68 := hds (q_w (q_os o m) i) hw
      have bw := q_w_eq (q_os o m) i
      have iw : (if q_w (q_os o m) i < 2 then some (64 + 1 + q_w (q_os o m) i) else none) = some (65 + q_w (q_os o m) i) := by rw [if_pos hw]
      have iv : (if q_w (q_os o m) i < 2 then some (67 + 1 + q_w (q_os o m) i) else none) = some (68 + q_w (q_os o m) i) := by rw [if_pos hw]
      refine og_iload (pc := 30) dX1_chooseQuotient_30 rfl ?_
      refine og_bipush (pc := 32) (v := 8) dX1_chooseQuotient_32 (by decide) ?_
      refine og_geN (pc := 34) (tgt := 84) (i := i) (N := 8) dX1_chooseQuotient_34 (by decide) rfl rfl (by omega) (by omega) (fun c_34 => ?_) (fun c_34 => ?_)
      · omega
      refine og_iload (pc := 37) dX1_chooseQuotient_37 rfl ?_
      refine og_iload (pc := 39) dX1_chooseQuotient_39 rfl ?_
      refine og_ishr (pc := 41) dX1_chooseQuotient_41 ?_
      refine og_iconst (pc := 42) (v := 1) dX1_chooseQuotient_42 (by decide) ?_
      refine og_iand (pc := 43) dX1_chooseQuotient_43 ?_
      refine og_istore_10 (pc := 44) dX1_chooseQuotient_44 rfl ?_
      refine og_aload_n (pc := 46) dX1_chooseQuotient_46 rfl ?_
      refine og_get (pc := 47) F_X1_32 dX1_chooseQuotient_47 (by repeat (first | exact og_set_eq _ _ _ | assumption | refine (og_set_ne _ _ (by first | assumption | omega)).trans ?_)) (by omega) rfl ?_
      refine og_iload (pc := 50) dX1_chooseQuotient_50 rfl ?_
      refine og_aload_n (pc := 52) dX1_chooseQuotient_52 rfl ?_
      refine og_get (pc := 53) F_X1_37 dX1_chooseQuotient_53 (by repeat (first | exact og_set_eq _ _ _ | assumption | refine (og_set_ne _ _ (by first | assumption | omega)).trans ?_)) (by omega) rfl ?_
      refine og_iload (pc := 56) dX1_chooseQuotient_56 rfl ?_
      refine og_aaldN (pc := 58) bw dX1_chooseQuotient_58 ((og_set_ne _ _ (by omega)).trans ((og_set_ne _ _ (by omega)).trans hn)) (by omega) (by decide) (by decide) (by omega) (by first | decide | assumption | omega) iw ?_
      refine og_iload (pc := 59) dX1_chooseQuotient_59 rfl ?_
      refine og_laldN (pc := 61) rfl dX1_chooseQuotient_61 ((og_set_ne _ _ (by omega)).trans ((og_set_ne _ _ (by omega)).trans g65)) (by omega) (by omega) (by first | decide | assumption | omega) ?_
      refine og_lastN (pc := 62) rfl dX1_chooseQuotient_62 (by repeat (first | exact og_set_eq _ _ _ | assumption | refine (og_set_ne _ _ (by first | assumption | omega)).trans ?_)) (by omega) (by omega) (by first | decide | assumption | omega) ?_
      rw [og_set_set, og_fill (by rfl)]
      refine og_lload (pc := 63) dX1_chooseQuotient_63 rfl ?_
      refine og_aload_n (pc := 65) dX1_chooseQuotient_65 rfl ?_
      refine og_get (pc := 66) F_X1_40 dX1_chooseQuotient_66 (by repeat (first | exact og_set_eq _ _ _ | assumption | refine (og_set_ne _ _ (by first | assumption | omega)).trans ?_)) (by omega) rfl ?_
      refine og_iload (pc := 69) dX1_chooseQuotient_69 rfl ?_
      refine og_aaldN (pc := 71) bw dX1_chooseQuotient_71 ((og_set_ne _ _ (by omega)).trans ((og_set_ne _ _ (by omega)).trans hd)) (by omega) (by decide) (by decide) (by omega) (by first | decide | assumption | omega) iv ?_
      refine og_iload (pc := 72) dX1_chooseQuotient_72 rfl ?_
      refine og_laldN (pc := 74) rfl dX1_chooseQuotient_74 ((og_set_ne _ _ (by omega)).trans ((og_set_ne _ _ (by omega)).trans g68)) (by omega) (by omega) (by first | decide | assumption | omega) ?_
      refine og_ladd (pc := 75) dX1_chooseQuotient_75 ?_
      refine og_lstore_7 (pc := 76) dX1_chooseQuotient_76 rfl ?_
      refine og_iinc_9 (pc := 78) dX1_chooseQuotient_78 (og_inc i) rfl ?_
      refine og_goto (pc := 81) (tgt := 30) dX1_chooseQuotient_81 (by decide) ?_
      exact og_forget_10 ih2
