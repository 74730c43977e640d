/-! ===== Division: work, euclid ===== -/
noncomputable def q_quo (f g : Nat → Int64) (o : Nat) : Nat → Int64 := (q_cq (q_hv (q_inner g g 8) (q_prod f (q_mirror g))) (q_ds (q_inner g g 8) (q_prod f (q_mirror g))) o (fun _ => 0) (q_sets o)).2
noncomputable def q_rem (f g : Nat → Int64) (o : Nat) : Nat → Int64 := fun i => f i - (q_prod (q_quo f g o) g i >>> ((1 : Int32).toInt64 &&& 63))
theorem q_FN_at (h : og_H) (N : Int64) (p : Nat → Int64) : ∀ w, w < 2 → q_FN h N p 2 (65 + w) = some (rowL (q_hv N p w)) ∧ q_FN h N p 2 (68 + w) = some (rowL (q_ds N p w))
  | 0, _ => ⟨rfl, rfl⟩
  | 1, _ => ⟨rfl, rfl⟩
  | w + 2, h => absurd h (by omega)
theorem q_pos2 {N : Int64} (h : 0 < N) : ¬ (2 : Int64) * N = 0 := by
  intro q
  have h1 := Int64.lt_iff_toInt_lt.mp h
  have h0 : (0 : Int64).toInt = 0 := by decide
  rw [h0] at h1
  have h2 : (2 * N).toBitVec.toNat = 0 := by rw [q]; rfl
  have h3 : (2 * N).toBitVec.toNat = (2 * N.toBitVec.toNat) % 2 ^ 64 := by
    rw [Int64.toBitVec_mul, BitVec.toNat_mul]
    rfl
  have h4 : N.toInt = N.toBitVec.toInt := rfl
  rw [h4, BitVec.toInt_eq_toNat_cond] at h1
  have h5 := N.toBitVec.isLt
  split at h1 <;> omega
set_option maxRecDepth 4000 in
theorem c_X1_work (E : og_E) (d n a b o : Nat) (h : og_H) (f g : Nat → Int64) (hT : h 1 = some q_TR) (hE : h 2 = some q_SE) (ho : o < 8) (ha : h a = some (rowL f)) (hb : h b = some (rowL g)) (h3a : 3 ≤ a) (h3b : 3 ≤ b) (hA : a < 57 ∨ a = 59) (hB : b < 57 ∨ b = 60) (hD : h 56 = some og_DV) (hn : h 64 = some (og_grid 64 2)) (hd : h 67 = some (og_grid 67 2)) (hS : ∀ k, (57 ≤ k ∧ k < 59) ∨ (61 ≤ k ∧ k < 64) ∨ (65 ≤ k ∧ k < 67) ∨ (68 ≤ k ∧ k < 70) → ∃ f, h k = some (rowL f)) (hN : 0 < q_inner g g 8) :
    og_M E yX1_work (.code yX1_work cX1_work 5 none) (d + 4) [.ref 56, .ref a, .ref b, .int (nI o)] n h 0 0 (fun v n1 h1 => v = none ∧ n1 = n ∧ h1 57 = some (rowL (q_quo f g o)) ∧ h1 58 = some (rowL (q_rem f g o)) ∧ (∀ k, (57 ≤ k ∧ k < 59) ∨ (61 ≤ k ∧ k < 64) ∨ (65 ≤ k ∧ k < 67) ∨ (68 ≤ k ∧ k < 70) → ∃ f, h1 k = some (rowL f)) ∧ (∀ k, ¬ ((57 ≤ k ∧ k < 59) ∨ (61 ≤ k ∧ k < 64) ∨ (65 ≤ k ∧ k < 67) ∨ (68 ≤ k ∧ k < 70)) → h1 k = h k)) no_x := by
  refine og_start (lv := [some (.ref 56), some (.ref a), some (.ref b), some (.int (nI o)), none]) (by decide) rfl rfl (Nat.le_of_ble_eq_true rfl) fun X hr hnm htb => ?_
  obtain ⟨f57, h57⟩ := hS 57 (by omega)
  obtain ⟨f58, h58⟩ := hS 58 (by omega)
  obtain ⟨f61, h61⟩ := hS 61 (by omega)
  obtain ⟨f62, h62⟩ := hS 62 (by omega)
  obtain ⟨f63, h63⟩ := hS 63 (by omega)
  refine og_aload_n (pc := 0) dX1_work_0 rfl ?_
  refine og_aload_n (pc := 1) dX1_work_1 rfl ?_
  refine og_get (pc := 2) F_X1_29 dX1_work_2 (by repeat (first | exact og_set_eq _ _ _ | assumption | refine (og_set_ne _ _ (by first | assumption | omega)).trans ?_)) (by omega) rfl ?_
  refine og_callS (pc := 5) (As := [.ref b, .ref 62]) (rest := []) (c_X3_copy E d n b 62 h g f62 hb h62 (by omega) (by omega) (by omega)) Y_X3_copy S_X3_copy K_X1_43 dX1_work_5 rfl rfl (by decide) (by omega) (by omega) (by omega) (fun _ _ _ z => z) (fun v n2 h2 z => ?_)
  obtain ⟨rfl, rfl, rfl⟩ := z
  refine og_aload_n (pc := 8) dX1_work_8 rfl ?_
  refine og_get (pc := 9) F_X1_29 dX1_work_9 (by repeat (first | exact og_set_eq _ _ _ | assumption | refine (og_set_ne _ _ (by first | assumption | omega)).trans ?_)) (by omega) rfl ?_
  refine og_callS (pc := 12) (As := [.ref 62]) (rest := []) (c_X3_mirror E d n2 62 _ g (og_set_eq _ _ _) (by omega)) Y_X3_mirror S_X3_mirror K_X1_47 dX1_work_12 rfl rfl (by decide) (by omega) (by omega) (by omega) (fun _ _ _ z => z) (fun v n3 h3 z => ?_)
  obtain ⟨rfl, rfl, rfl⟩ := z
  rw [og_set_set]
  refine og_aload_n (pc := 15) dX1_work_15 rfl ?_
  refine og_aload_n (pc := 16) dX1_work_16 rfl ?_
  refine og_get (pc := 17) F_X1_29 dX1_work_17 (by repeat (first | exact og_set_eq _ _ _ | assumption | refine (og_set_ne _ _ (by first | assumption | omega)).trans ?_)) (by omega) rfl ?_
  refine og_aload_n (pc := 20) dX1_work_20 rfl ?_
  refine og_get (pc := 21) F_X1_26 dX1_work_21 (by repeat (first | exact og_set_eq _ _ _ | assumption | refine (og_set_ne _ _ (by first | assumption | omega)).trans ?_)) (by omega) rfl ?_
  refine og_callS (pc := 24) (As := [.ref a, .ref 62, .ref 61]) (rest := []) (c_X3_product E d n3 a 62 61 _ f (q_mirror g) f61 ((og_set_ne _ _ (by omega)).trans hT) ((og_set_ne _ _ (by omega)).trans ha) (og_set_eq _ _ _) ((og_set_ne _ _ (by omega)).trans h61) (by omega) (by omega) (by omega) (by omega) (by omega)) Y_X3_product S_X3_product K_X1_51 dX1_work_24 rfl rfl (by decide) (by omega) (by omega) (by omega) (fun _ _ _ z => z) (fun v n4 h4 z => ?_)
  obtain ⟨rfl, rfl, rfl⟩ := z
  refine og_aload_n (pc := 27) dX1_work_27 rfl ?_
  refine og_aload_n (pc := 28) dX1_work_28 rfl ?_
  refine og_callS (pc := 29) (As := [.ref b]) (rest := [.ref 56]) (c_X3_quarters E d n4 b _ g ((og_set_ne _ _ (by omega)).trans ((og_set_ne _ _ (by omega)).trans hb)) (by omega)) Y_X3_quarters S_X3_quarters K_X1_54 dX1_work_29 rfl rfl (by decide) (by omega) (by omega) (by omega) (fun _ _ _ z => z) (fun v n5 h5 z => ?_)
  obtain ⟨rfl, rfl, rfl⟩ := z
  generalize hh : og_set (og_set h 62 (rowL (q_mirror g))) 61 (rowL (q_prod f (q_mirror g))) = hp
  have pne : ∀ k, k ≠ 61 → k ≠ 62 → hp k = h k := fun k k1 k2 => by rw [← hh, og_set_ne _ _ k1, og_set_ne _ _ k2]
  have p61 : hp 61 = some (rowL (q_prod f (q_mirror g))) := by rw [← hh, og_set_eq]
  have p62 : hp 62 = some (rowL (q_mirror g)) := by rw [← hh, og_set_ne _ _ (by omega), og_set_eq]
  refine og_callV (pc := 32) (As := [.long (q_inner g g 8)]) (rest := []) (c_X1_findNearest E d n5 hp (q_inner g g 8) (q_prod f (q_mirror g)) ((pne _ (by omega) (by omega)).trans hD) p61 ((pne _ (by omega) (by omega)).trans hn) ((pne _ (by omega) (by omega)).trans hd) (fun k hk => by obtain ⟨x, hx⟩ := hS k (by omega); exact ⟨x, (pne _ (by omega) (by omega)).trans hx⟩) hN (q_pos2 hN)) Y_X1_findNearest I_X1_findNearest V_X1_findNearest ((pne 56 (by omega) (by omega)).trans hD) (by omega) rfl rfl K_X1_58 dX1_work_32 rfl rfl (by decide) (by omega) (by omega) (by omega) (fun _ _ _ z => z) (fun v n6 h6 z => ?_)
  obtain ⟨rfl, rfl, rfl⟩ := z
  have qat := q_FN_at hp (q_inner g g 8) (q_prod f (q_mirror g))
  have qne : ∀ k, ¬ ((65 ≤ k ∧ k < 67) ∨ (68 ≤ k ∧ k < 70)) → q_FN hp (q_inner g g 8) (q_prod f (q_mirror g)) 2 k = hp k := fun k hk => q_FN_ne _ _ _ _ _ (by omega)
  generalize q_FN hp (q_inner g g 8) (q_prod f (q_mirror g)) 2 = hq at qat qne
  have fne : ∀ k, k ≠ 61 → k ≠ 62 → ¬ ((65 ≤ k ∧ k < 67) ∨ (68 ≤ k ∧ k < 70)) → hq k = h k := fun k k1 k2 k3 => (qne k k3).trans (pne k k1 k2)
  have g56 : hq 56 = some og_DV := (fne _ (by omega) (by omega) (by omega)).trans hD
  refine og_aload_n (pc := 35) dX1_work_35 rfl ?_
  refine og_iload_n (pc := 36) dX1_work_36 rfl ?_
  refine og_callV (pc := 37) (As := [.int (nI o)]) (rest := []) (c_X1_chooseQuotient E d n6 o hq _ _ f57 f63 ((fne _ (by omega) (by omega) (by omega)).trans hE) ho g56 ((fne _ (by omega) (by omega) (by omega)).trans h57) ((fne _ (by omega) (by omega) (by omega)).trans h63) ((fne _ (by omega) (by omega) (by omega)).trans hn) ((fne _ (by omega) (by omega) (by omega)).trans hd) (fun w hw => (qat w hw).1) (fun w hw => (qat w hw).2)) Y_X1_chooseQuotient I_X1_chooseQuotient V_X1_chooseQuotient g56 (by omega) rfl rfl K_X1_62 dX1_work_37 rfl rfl (by decide) (by omega) (by omega) (by omega) (fun _ _ _ z => z) (fun v n7 h7 z => ?_)
  obtain ⟨rfl, rfl, t, rfl⟩ := z
  have eq57 : (q_cq (q_hv (q_inner g g 8) (q_prod f (q_mirror g))) (q_ds (q_inner g g 8) (q_prod f (q_mirror g))) o (fun _ => 0) (q_sets o)).2 = q_quo f g o := rfl
  rw [eq57]
  have q61 : hq 61 = some (rowL (q_prod f (q_mirror g))) := (qne _ (by omega)).trans p61
  have qb : hq b = some (rowL g) := (fne _ (by omega) (by omega) (by omega)).trans hb
  have qa : hq a = some (rowL f) := (fne _ (by omega) (by omega) (by omega)).trans ha
  have q1 : hq 1 = some q_TR := (fne _ (by omega) (by omega) (by omega)).trans hT
  have q58 : hq 58 = some (rowL f58) := (fne _ (by omega) (by omega) (by omega)).trans h58
  refine og_aload_n (pc := 40) dX1_work_40 rfl ?_
  refine og_get (pc := 41) F_X1_11 dX1_work_41 (by repeat (first | exact og_set_eq _ _ _ | assumption | refine (og_set_ne _ _ (by first | assumption | omega)).trans ?_)) (by omega) rfl ?_
  refine og_aload_n (pc := 44) dX1_work_44 rfl ?_
  refine og_aload_n (pc := 45) dX1_work_45 rfl ?_
  refine og_get (pc := 46) F_X1_26 dX1_work_46 (by repeat (first | exact og_set_eq _ _ _ | assumption | refine (og_set_ne _ _ (by first | assumption | omega)).trans ?_)) (by omega) rfl ?_
  refine og_callS (pc := 49) (As := [.ref 57, .ref b, .ref 61]) (rest := []) (c_X3_product E d n7 57 b 61 _ (q_quo f g o) g _ ((og_set_ne _ _ (by omega)).trans ((og_set_ne _ _ (by omega)).trans q1)) ((og_set_ne _ _ (by omega)).trans (og_set_eq _ _ _)) ((og_set_ne _ _ (by omega)).trans ((og_set_ne _ _ (by omega)).trans qb)) ((og_set_ne _ _ (by omega)).trans ((og_set_ne _ _ (by omega)).trans q61)) (by omega) (by omega) (by omega) (by omega) (by omega)) Y_X3_product S_X3_product K_X1_51 dX1_work_49 rfl rfl (by decide) (by omega) (by omega) (by omega) (fun _ _ _ z => z) (fun v n8 h8 z => ?_)
  obtain ⟨rfl, rfl, rfl⟩ := z
  generalize hh2 : og_set (og_set (og_set hq 57 (rowL (q_quo f g o))) 63 (rowL t)) 61 (rowL (q_prod (q_quo f g o) g)) = hr2
  have rne : ∀ k, k ≠ 57 → k ≠ 61 → k ≠ 63 → hr2 k = hq k := fun k k1 k2 k3 => by rw [← hh2, og_set_ne _ _ k2, og_set_ne _ _ k3, og_set_ne _ _ k1]
  have r61 : hr2 61 = some (rowL (q_prod (q_quo f g o) g)) := by rw [← hh2, og_set_eq]
  have r63 : hr2 63 = some (rowL t) := by rw [← hh2, og_set_ne _ _ (by omega), og_set_eq]
  have r57 : hr2 57 = some (rowL (q_quo f g o)) := by rw [← hh2, og_set_ne _ _ (by omega), og_set_ne _ _ (by omega), og_set_eq]
  have r56 : hr2 56 = some og_DV := (rne _ (by omega) (by omega) (by omega)).trans g56
  have ra : hr2 a = some (rowL f) := (rne _ (by omega) (by omega) (by omega)).trans qa
  have r58 : hr2 58 = some (rowL f58) := (rne _ (by omega) (by omega) (by omega)).trans q58
  have a58 : a ≠ 58 := by omega
  refine og_iconst (pc := 52) (v := 0) dX1_work_52 (by decide) ?_
  refine og_istore_4 (pc := 53) dX1_work_53 rfl ?_
  refine og_congL (fun j => if j < 0 then q_rem f g o j else f58 j) r58 (by omega) (fun j _ => by simp) ?_
  refine og_for (i0 := 0) (N := 8) (by decide) (fun i => og_set hr2 58 (rowL (fun j => if j < i then q_rem f g o j else f58 j))) (fun i => [some (.ref 56), some (.ref a), some (.ref b), some (.int (nI o)), some (.int (nI i))]) ?_ (fun i _ hi ih => ?_)
  · refine og_iload (pc := 55) dX1_work_55 rfl ?_
    refine og_bipush (pc := 57) (v := 8) dX1_work_57 (by decide) ?_
    refine og_geN (pc := 59) (tgt := 89) (i := 8) (N := 8) dX1_work_59 (by decide) rfl rfl (by omega) (by omega) (fun c_59 => ?_) (fun c_59 => ?_)
    · refine og_congL (q_rem f g o) (og_set_eq _ _ _) (by omega) (fun j hj => by rw [if_pos (by omega)]) ?_
      rw [og_set_set]
      refine og_vret (pc := 89) hr dX1_work_89 (by omega) (by omega) ⟨rfl, rfl, (og_set_ne _ _ (by omega)).trans r57, og_set_eq _ _ _, fun k hk => ?_, fun k hk => ?_⟩
      · by_cases k58 : k = 58
        · exact ⟨_, by rw [k58, og_set_eq]⟩
        rw [og_set_ne _ _ k58]
        by_cases k57 : k = 57
        · exact ⟨_, by rw [k57]; exact r57⟩
        by_cases k61 : k = 61
        · exact ⟨_, by rw [k61]; exact r61⟩
        by_cases k63 : k = 63
        · exact ⟨_, by rw [k63]; exact r63⟩
        rw [rne k k57 k61 k63]
        by_cases k62 : k = 62
        · exact ⟨_, by rw [k62]; exact (qne _ (by omega)).trans p62⟩
        by_cases k65 : k < 67
        · obtain ⟨w, rfl⟩ : ∃ w, k = 65 + w := ⟨k - 65, by omega⟩
          exact ⟨_, (qat w (by omega)).1⟩
        · obtain ⟨w, rfl⟩ : ∃ w, k = 68 + w := ⟨k - 68, by omega⟩
          exact ⟨_, (qat w (by omega)).2⟩
      · rw [og_set_ne _ _ (by omega), rne k (by omega) (by omega) (by omega), fne k (by omega) (by omega) (by omega)]
    · omega
  · refine og_iload (pc := 55) dX1_work_55 rfl ?_
    refine og_bipush (pc := 57) (v := 8) dX1_work_57 (by decide) ?_
    refine og_geN (pc := 59) (tgt := 89) (i := i) (N := 8) dX1_work_59 (by decide) rfl rfl (by omega) (by omega) (fun c_59 => ?_) (fun c_59 => ?_)
    · omega
    refine og_aload_n (pc := 62) dX1_work_62 rfl ?_
    refine og_get (pc := 63) F_X1_17 dX1_work_63 (by repeat (first | exact og_set_eq _ _ _ | assumption | refine (og_set_ne _ _ (by first | assumption | omega)).trans ?_)) (by omega) rfl ?_
    refine og_iload (pc := 66) dX1_work_66 rfl ?_
    refine og_aload_n (pc := 68) dX1_work_68 rfl ?_
    refine og_iload (pc := 69) dX1_work_69 rfl ?_
    refine og_laldN (pc := 71) rfl dX1_work_71 (by repeat (first | exact og_set_eq _ _ _ | assumption | refine (og_set_ne _ _ (by first | assumption | omega)).trans ?_)) (by omega) (by omega) (by first | decide | assumption | omega) ?_
    refine og_aload_n (pc := 72) dX1_work_72 rfl ?_
    refine og_get (pc := 73) F_X1_26 dX1_work_73 (by repeat (first | exact og_set_eq _ _ _ | assumption | refine (og_set_ne _ _ (by first | assumption | omega)).trans ?_)) (by omega) rfl ?_
    refine og_iload (pc := 76) dX1_work_76 rfl ?_
    refine og_laldN (pc := 78) rfl dX1_work_78 (by repeat (first | exact og_set_eq _ _ _ | assumption | refine (og_set_ne _ _ (by first | assumption | omega)).trans ?_)) (by omega) (by omega) (by first | decide | assumption | omega) ?_
    refine og_iconst (pc := 79) (v := 1) dX1_work_79 (by decide) ?_
    refine og_lshr (pc := 80) dX1_work_80 rfl ?_
    refine og_lsub (pc := 81) dX1_work_81 ?_
    refine og_lastN (pc := 82) rfl dX1_work_82 (by repeat (first | exact og_set_eq _ _ _ | assumption | refine (og_set_ne _ _ (by first | assumption | omega)).trans ?_)) (by omega) (by omega) (by first | decide | assumption | omega) ?_
    refine og_iinc_4 (pc := 83) dX1_work_83 (og_inc i) rfl ?_
    refine og_goto (pc := 86) (tgt := 55) dX1_work_86 (by decide) ?_
    rw [og_set_set, og_fill (by rfl)]
    exact ih
noncomputable def q_eu (f g : Nat → Int64) (o : Nat) : Nat → (Nat → Int64) × (Nat → Int64)
  | 0 => (f, g)
  | k + 1 => ((q_eu f g o k).2, q_rem (q_eu f g o k).1 (q_eu f g o k).2 o)
/-- the remainder of the division number k, from 0 -/
noncomputable def q_er (f g : Nat → Int64) (o k : Nat) : Nat → Int64 := q_rem (q_eu f g o k).1 (q_eu f g o k).2 o