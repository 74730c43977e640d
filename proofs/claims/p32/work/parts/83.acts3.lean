/-! ===== the law: acts: multiply, commutator, associator ===== -/
set_option maxHeartbeats 1000000 in
theorem y_ac6 {E : og_E} {X : og_X} {d n L v w a b r : Nat} {xs : Nat → Int32} {x : Int32} {h : og_H} {D : q_D} {R g : Nat → Int32} (hr : og_ret X = some .boolean) (W : y_wl L xs n h D R g) (hv : v < 10000000) (a8 : a < 8) (b8 : b < 8) (r8 : r < 8) : og_G E RL cL_acts (d + 7) 300 2500 15 X (y_Qa E L xs X) 0 0 n h 558 (y_la x v w a b r [none, none, none, none, none]) [] := by
  have hcp := W.2.2.2.2.2
  have h104 := W.nn
  have ra := y_row_e hcp a8
  have rb := y_row_e hcp b8
  refine og_aload_n (pc := 558) dL_acts_558 rfl ?_
  refine og_iload (pc := 559) dL_acts_559 rfl ?_
  refine og_callS (pc := 561) (As := [.ref 103, .int (nI a)]) (rest := []) (l_row (E := E) (d := d) W.m a8) Y_L_row S_L_row K_L_116 dL_acts_561 rfl rfl (Nat.le_of_ble_eq_true rfl) (by omega) (by omega) (by omega) (fun _ _ _ z => z) (fun v9 n1 h1 z9 => ?_)
  obtain ⟨rfl, rfl, W1, k1, ct1⟩ := z9
  refine og_callS (pc := 564) (As := [.ref n]) (rest := []) (c_L_square E d _ n h1 (y_row R a) ct1 (by omega)) Y_L_square S_L_square K_L_43 dL_acts_564 rfl rfl (Nat.le_of_ble_eq_true rfl) (by omega) (by omega) (by omega) (fun _ _ _ z => z) (fun v9 n9 h9 z9 => ?_)
  obtain ⟨rfl, e8, e9⟩ := z9
  rw [e8, e9]
  refine og_aload_n (pc := 567) dL_acts_567 rfl ?_
  refine og_iload (pc := 568) dL_acts_568 rfl ?_
  refine og_callS (pc := 570) (As := [.ref 103, .int (nI b)]) (rest := [.long (q_inner (y_row R a) (y_row R a) 8)]) (l_row (E := E) (d := d) W1 b8) Y_L_row S_L_row K_L_116 dL_acts_570 rfl rfl (Nat.le_of_ble_eq_true rfl) (by omega) (by omega) (by omega) (fun _ _ _ z => z) (fun v9 n2 h2 z9 => ?_)
  obtain ⟨rfl, rfl, W2, k2, ct2⟩ := z9
  have f2_p := (k2 n (by omega)).trans ct1
  refine og_callS (pc := 573) (As := [.ref (n + 1)]) (rest := [.long (q_inner (y_row R a) (y_row R a) 8)]) (c_L_square E d _ (n + 1) h2 (y_row R b) ct2 (by omega)) Y_L_square S_L_square K_L_43 dL_acts_573 rfl rfl (Nat.le_of_ble_eq_true rfl) (by omega) (by omega) (by omega) (fun _ _ _ z => z) (fun v9 n9 h9 z9 => ?_)
  obtain ⟨rfl, e8, e9⟩ := z9
  rw [e8, e9]
  refine og_lmul (pc := 576) dL_acts_576 ?_
  refine og_lstore_10 (pc := 577) dL_acts_577 rfl ?_
  refine og_aload_n (pc := 579) dL_acts_579 rfl ?_
  refine og_iload (pc := 580) dL_acts_580 rfl ?_
  refine og_aload_n (pc := 582) dL_acts_582 rfl ?_
  refine og_aload_n (pc := 583) dL_acts_583 rfl ?_
  refine og_iload (pc := 584) dL_acts_584 rfl ?_
  refine og_callS (pc := 586) (As := [.ref 103, .int (nI a)]) (rest := [.ref 101, .int (nI r), .ref 103]) (l_row (E := E) (d := d) W2 a8) Y_L_row S_L_row K_L_116 dL_acts_586 rfl rfl (Nat.le_of_ble_eq_true rfl) (by omega) (by omega) (by omega) (fun _ _ _ z => z) (fun v9 n3 h3 z9 => ?_)
  obtain ⟨rfl, rfl, W3, k3, ct3⟩ := z9
  have f3_p := (k3 n (by omega)).trans f2_p
  have f3_q := (k3 (n + 1) (by omega)).trans ct2
  refine og_aload_n (pc := 589) dL_acts_589 rfl ?_
  refine og_iload (pc := 590) dL_acts_590 rfl ?_
  refine og_callS (pc := 592) (As := [.ref 103, .int (nI b)]) (rest := [.ref (n + 1 + 1), .ref 101, .int (nI r), .ref 103]) (l_row (E := E) (d := d) W3 b8) Y_L_row S_L_row K_L_116 dL_acts_592 rfl rfl (Nat.le_of_ble_eq_true rfl) (by omega) (by omega) (by omega) (fun _ _ _ z => z) (fun v9 n4 h4 z9 => ?_)
  obtain ⟨rfl, rfl, W4, k4, ct4⟩ := z9
  have f4_p := (k4 n (by omega)).trans f3_p
  have f4_q := (k4 (n + 1) (by omega)).trans f3_q
  have f4_p2 := (k4 (n + 1 + 1) (by omega)).trans ct3
  refine og_callS (pc := 595) (As := [.ref 101, .ref (n + 1 + 1), .ref (n + 1 + 1 + 1)]) (rest := [.int (nI r), .ref 103]) (l_product (E := E) (d := d) W4 f4_p2 ct4 (by omega) (by omega) (by omega) (by omega)) Y_L_product S_L_product K_L_39 dL_acts_595 rfl rfl (Nat.le_of_ble_eq_true rfl) (by omega) (by omega) (by omega) (fun _ _ _ z => z) (fun v9 n5 h5 z9 => ?_)
  obtain ⟨rfl, rfl, W5, k5, ct5⟩ := z9
  have f5_p := (k5 n (by omega)).trans f4_p
  have f5_q := (k5 (n + 1) (by omega)).trans f4_q
  have f5_p2 := (k5 (n + 1 + 1) (by omega)).trans f4_p2
  have f5_q2 := (k5 (n + 1 + 1 + 1) (by omega)).trans ct4
  have hE : zE (q_prod (d_R D a) (d_R D b)) (q_prod (y_row R a) (y_row R b)) := zprodE (fun j hj => (ra j hj).symm) (fun j hj => (rb j hj).symm)
  obtain ⟨z1, z2⟩ := zfit 1 (by omega) 2 (by decide) hE
  have en : q_inner (y_row R a) (y_row R a) 8 = q_inner (d_R D a) (d_R D a) 8 := q_inn 8 ra
  have em : q_inner (y_row R b) (y_row R b) 8 = q_inner (d_R D b) (d_R D b) 8 := q_inn 8 rb
  refine og_ldc2 (pc := 598) LC_L_23 dL_acts_598 ?_
  refine og_callS (pc := 601) (As := [.ref 103, .int (nI r), .ref (n + 1 + 1 + 1 + 1), .long 2]) (rest := []) (l_puts (E := E) (d := d) W5 r8 ct5 (by omega) (by decide)) Y_L_puts S_L_puts K_L_135 dL_acts_601 rfl rfl (Nat.le_of_ble_eq_true rfl) (by omega) (by omega) (by omega) (fun _ _ _ z => z) (fun v9 n20 h20 z9 => ?_)
  obtain ⟨e8, k20, z9⟩ := z9
  rw [e8]
  rcases z9 with ⟨rfl, can, W20⟩ | ⟨rfl, can, e3⟩
  · have fit : q_fitx 1 (q_prod (d_R D a) (d_R D b)) := z1.mpr can
    have f0 := W20.2.2.1
    refine og_istore_12 (pc := 604) dL_acts_604 rfl ?_
    refine og_aload_n (pc := 606) dL_acts_606 rfl ?_
    refine og_iconst (pc := 607) (v := 1) dL_acts_607 (by decide) ?_
    refine og_dup2 (pc := 608) dL_acts_608 rfl rfl ?_
    refine og_ialdN (pc := 609) (j := 1) rfl dL_acts_609 (by repeat (first | exact og_set_eq _ _ _ | assumption | refine (og_set_ne _ _ (by first | assumption | omega)).trans ?_)) (by omega) (by omega) (by first | decide | assumption | omega) ?_
    refine og_iload (pc := 610) dL_acts_610 rfl ?_
    refine og_if_eq (pc := 612) (tgt := 619) dL_acts_612 (by decide) (fun q => absurd q (by decide)) (fun _ => ?_)
    refine og_iconst (pc := 615) (v := 1) dL_acts_615 (by decide) ?_
    refine og_goto (pc := 616) (tgt := 620) dL_acts_616 (by decide) ?_
    refine og_iadd (pc := 620) dL_acts_620 ?_
    refine og_iastN (pc := 621) (j := 1) rfl dL_acts_621 (by repeat (first | exact og_set_eq _ _ _ | assumption | refine (og_set_ne _ _ (by first | assumption | omega)).trans ?_)) (by omega) (by omega) (by first | decide | assumption | omega) ?_
    have W21 := W20.wg (upd g 1 (g 1 + 1))
    generalize og_set h20 102 (rowI 3 (upd g 1 (g 1 + 1))) = h21 at W21 ⊢
    refine og_aload_n (pc := 622) dL_acts_622 rfl ?_
    refine og_iload (pc := 623) dL_acts_623 rfl ?_
    refine og_iload (pc := 625) dL_acts_625 rfl ?_
    refine og_iload (pc := 627) dL_acts_627 rfl ?_
    refine og_callSH (pc := 629) (As := [.ref 3, .int (nI a), .int (nI b), .int (nI r)]) (rest := []) (l_multiplies (E := E) (d := d) W21.1 a8 b8 r8) YH_L_multiplies K_L_143 dL_acts_629 rfl rfl (Nat.le_of_ble_eq_true rfl) (by omega) (by omega) (by omega) (fun v9 n22 h22 z9 => ?_)
    rcases z9 with ⟨_, rfl, w22⟩ | ⟨nofit, _⟩
    rotate_left
    · exact absurd fit nofit
    have W22 := W21.call w22
    have hP := y_cp.fit (D1 := d_reg (d_wSt (q_save D) ((d_st D).1, (d_st D).2.1, (d_st D).2.2.1 + 1, (d_st D).2.2.2)) r (q_fv 1 (q_prod (d_R D a) (d_R D b)))) (g1 := upd g 1 (g 1 + 1)) (r := r) (t := 1) (p := 2) hcp (by omega) (by decide) r8 hE fit rfl ((if_neg (by decide)).trans hcp.2.1) ((if_pos rfl).trans (by rw [hcp.2.2.1]; rfl)) ((if_neg (by decide)).trans hcp.2.2.2)
    rw [y_norm (hcp.ok a8) (hcp.ok b8) fit, en, em]
    refine og_iload (pc := 632) dL_acts_632 rfl ?_
    refine og_if_eq (pc := 634) (tgt := 646) dL_acts_634 (by decide) (fun q => absurd q (by decide)) (fun _ => ?_)
    refine og_lload (pc := 637) dL_acts_637 rfl ?_
    refine og_ldc2 (pc := 639) LC_L_25 dL_acts_639 ?_
    refine og_ldiv (pc := 642) dL_acts_642 (by decide) ?_
    refine og_goto (pc := 643) (tgt := 649) dL_acts_643 (by decide) ?_
    refine og_lcmp (pc := 649) dL_acts_649 ?_
    refine og_if_ne (pc := 650) (tgt := 681) dL_acts_650 (by decide) (fun q => absurd ((og_cmp0 _ _).mpr rfl) q) (fun _ => ?_)
    refine og_iload (pc := 653) dL_acts_653 rfl ?_
    refine og_if_eq (pc := 655) (tgt := 677) dL_acts_655 (by decide) (fun q => absurd q (by decide)) (fun _ => ?_)
    refine og_aload_n (pc := 658) dL_acts_658 rfl ?_
    refine og_iload (pc := 659) dL_acts_659 rfl ?_
    refine og_callS (pc := 661) (As := [.ref 103, .int (nI r)]) (rest := []) (l_row (E := E) (d := d) W22 r8) Y_L_row S_L_row K_L_116 dL_acts_661 rfl rfl (Nat.le_of_ble_eq_true rfl) (by omega) (by omega) (by omega) (fun _ _ _ z => z) (fun v9 n23 h23 z9 => ?_)
    obtain ⟨rfl, rfl, W23, k23, c23⟩ := z9
    refine og_callS (pc := 664) (As := [.ref n22]) (rest := []) (c_L_square E d _ n22 h23 _ c23 (by have := W22.nn; omega)) Y_L_square S_L_square K_L_43 dL_acts_664 rfl rfl (Nat.le_of_ble_eq_true rfl) (by omega) (by omega) (by omega) (fun _ _ _ z => z) (fun v9 n9 h9 z9 => ?_)
    obtain ⟨rfl, e8, e9⟩ := z9
    rw [e8, e9]
    rw [show q_inner (y_row (y_pt R r (q_prod (y_row R a) (y_row R b)) 2 8) r) (y_row (y_pt R r (q_prod (y_row R a) (y_row R b)) 2 8) r) 8 = q_inner (d_R D a) (d_R D a) 8 * q_inner (d_R D b) (d_R D b) 8 / 4 from (q_inn 8 (y_row_pt (R := R) (r := r) (t := 1) (p := 2) (by omega) (by decide) hE fit)).trans (y_norm (hcp.ok a8) (hcp.ok b8) fit)]
    refine og_lload (pc := 667) dL_acts_667 rfl ?_
    refine og_ldc2 (pc := 669) LC_L_25 dL_acts_669 ?_
    refine og_ldiv (pc := 672) dL_acts_672 (by decide) ?_
    refine og_lcmp (pc := 673) dL_acts_673 ?_
    refine og_if_ne (pc := 674) (tgt := 681) dL_acts_674 (by decide) (fun q => absurd ((og_cmp0 _ _).mpr rfl) q) (fun _ => ?_)
    refine og_iconst (pc := 677) (v := 1) dL_acts_677 (by decide) ?_
    refine og_goto (pc := 678) (tgt := 682) dL_acts_678 (by decide) ?_
    exact og_zret (pc := 682) hr rfl dL_acts_682 (by omega) (by omega) ⟨rfl, _, _, _, W23.l hP⟩
  · rw [e3]
    have f0 := W5.2.2.1
    refine og_istore_12 (pc := 604) dL_acts_604 rfl ?_
    refine og_aload_n (pc := 606) dL_acts_606 rfl ?_
    refine og_iconst (pc := 607) (v := 1) dL_acts_607 (by decide) ?_
    refine og_dup2 (pc := 608) dL_acts_608 rfl rfl ?_
    refine og_ialdN (pc := 609) (j := 1) rfl dL_acts_609 (by repeat (first | exact og_set_eq _ _ _ | assumption | refine (og_set_ne _ _ (by first | assumption | omega)).trans ?_)) (by omega) (by omega) (by first | decide | assumption | omega) ?_
    refine og_iload (pc := 610) dL_acts_610 rfl ?_
    refine og_if_eq (pc := 612) (tgt := 619) dL_acts_612 (by decide) (fun _ => ?_) (fun q => absurd rfl q)
    refine og_iconst (pc := 619) (v := 0) dL_acts_619 (by decide) ?_
    refine og_iadd (pc := 620) dL_acts_620 ?_
    refine og_iastN (pc := 621) (j := 1) rfl dL_acts_621 (by repeat (first | exact og_set_eq _ _ _ | assumption | refine (og_set_ne _ _ (by first | assumption | omega)).trans ?_)) (by omega) (by omega) (by first | decide | assumption | omega) ?_
    have W21 := W5.wg (upd g 1 (g 1 + 0))
    generalize og_set h5 102 (rowI 3 (upd g 1 (g 1 + 0))) = h21 at W21 ⊢
    refine og_aload_n (pc := 622) dL_acts_622 rfl ?_
    refine og_iload (pc := 623) dL_acts_623 rfl ?_
    refine og_iload (pc := 625) dL_acts_625 rfl ?_
    refine og_iload (pc := 627) dL_acts_627 rfl ?_
    refine og_callSH (pc := 629) (As := [.ref 3, .int (nI a), .int (nI b), .int (nI r)]) (rest := []) (l_multiplies (E := E) (d := d) W21.1 a8 b8 r8) YH_L_multiplies K_L_143 dL_acts_629 rfl rfl (Nat.le_of_ble_eq_true rfl) (by omega) (by omega) (by omega) (fun v9 n22 h22 z9 => ?_)
    rcases z9 with ⟨fit, _⟩ | ⟨nofit, rfl, w22⟩
    · exact absurd (z1.mp fit) can
    have W22 := W21.call w22
    have hP : y_cp D R (upd g 1 (g 1 + 0)) := ⟨hcp.1, (if_neg (by decide)).trans hcp.2.1, (if_pos rfl).trans (by rw [Int32.add_zero]; exact hcp.2.2.1), (if_neg (by decide)).trans hcp.2.2.2⟩
    refine og_iload (pc := 632) dL_acts_632 rfl ?_
    refine og_if_eq (pc := 634) (tgt := 646) dL_acts_634 (by decide) (fun _ => ?_) (fun q => absurd rfl q)
    refine og_ldc2 (pc := 646) LC_L_81 dL_acts_646 ?_
    refine og_lcmp (pc := 649) dL_acts_649 ?_
    refine og_if_ne (pc := 650) (tgt := 681) dL_acts_650 (by decide) (fun q => absurd ((og_cmp0 _ _).mpr rfl) q) (fun _ => ?_)
    refine og_iload (pc := 653) dL_acts_653 rfl ?_
    refine og_if_eq (pc := 655) (tgt := 677) dL_acts_655 (by decide) (fun _ => ?_) (fun q => absurd rfl q)
    refine og_iconst (pc := 677) (v := 1) dL_acts_677 (by decide) ?_
    refine og_goto (pc := 678) (tgt := 682) dL_acts_678 (by decide) ?_
    exact og_zret (pc := 682) hr rfl dL_acts_682 (by omega) (by omega) ⟨rfl, _, _, _, W22.l hP⟩
set_option maxHeartbeats 1000000 in
theorem y_ac8 {E : og_E} {X : og_X} {d n L v w a b r : Nat} {xs : Nat → Int32} {x : Int32} {h : og_H} {D : q_D} {R g : Nat → Int32} (hr : og_ret X = some .boolean) (W : y_wl L xs n h D R g) (hv : v < 10000000) (a8 : a < 8) (b8 : b < 8) (r8 : r < 8) : og_G E RL cL_acts (d + 7) 300 2500 15 X (y_Qa E L xs X) 0 0 n h 756 (y_la x v w a b r [none, none, none, none, none]) [] := by
  have hcp := W.2.2.2.2.2
  have h104 := W.nn
  have ra := y_row_e hcp a8
  have rb := y_row_e hcp b8
  refine og_aload_n (pc := 756) dL_acts_756 rfl ?_
  refine og_iload (pc := 757) dL_acts_757 rfl ?_
  refine og_aload_n (pc := 759) dL_acts_759 rfl ?_
  refine og_aload_n (pc := 760) dL_acts_760 rfl ?_
  refine og_iload (pc := 761) dL_acts_761 rfl ?_
  refine og_callS (pc := 763) (As := [.ref 103, .int (nI a)]) (rest := [.ref 101, .int (nI r), .ref 103]) (l_row (E := E) (d := d) W.m a8) Y_L_row S_L_row K_L_116 dL_acts_763 rfl rfl (Nat.le_of_ble_eq_true rfl) (by omega) (by omega) (by omega) (fun _ _ _ z => z) (fun v9 n1 h1 z9 => ?_)
  obtain ⟨rfl, rfl, W1, k1, ct1⟩ := z9
  refine og_aload_n (pc := 766) dL_acts_766 rfl ?_
  refine og_iload (pc := 767) dL_acts_767 rfl ?_
  refine og_callS (pc := 769) (As := [.ref 103, .int (nI b)]) (rest := [.ref n, .ref 101, .int (nI r), .ref 103]) (l_row (E := E) (d := d) W1 b8) Y_L_row S_L_row K_L_116 dL_acts_769 rfl rfl (Nat.le_of_ble_eq_true rfl) (by omega) (by omega) (by omega) (fun _ _ _ z => z) (fun v9 n2 h2 z9 => ?_)
  obtain ⟨rfl, rfl, W2, k2, ct2⟩ := z9
  have f2_p := (k2 n (by omega)).trans ct1
  refine og_callS (pc := 772) (As := [.ref 101, .ref n, .ref (n + 1)]) (rest := [.int (nI r), .ref 103]) (l_product (E := E) (d := d) W2 f2_p ct2 (by omega) (by omega) (by omega) (by omega)) Y_L_product S_L_product K_L_39 dL_acts_772 rfl rfl (Nat.le_of_ble_eq_true rfl) (by omega) (by omega) (by omega) (fun _ _ _ z => z) (fun v9 n3 h3 z9 => ?_)
  obtain ⟨rfl, rfl, W3, k3, ct3⟩ := z9
  have f3_p := (k3 n (by omega)).trans f2_p
  have f3_q := (k3 (n + 1) (by omega)).trans ct2
  refine og_aload_n (pc := 775) dL_acts_775 rfl ?_
  refine og_aload_n (pc := 776) dL_acts_776 rfl ?_
  refine og_iload (pc := 777) dL_acts_777 rfl ?_
  refine og_callS (pc := 779) (As := [.ref 103, .int (nI b)]) (rest := [.ref 101, .ref (n + 1 + 1), .int (nI r), .ref 103]) (l_row (E := E) (d := d) W3 b8) Y_L_row S_L_row K_L_116 dL_acts_779 rfl rfl (Nat.le_of_ble_eq_true rfl) (by omega) (by omega) (by omega) (fun _ _ _ z => z) (fun v9 n4 h4 z9 => ?_)
  obtain ⟨rfl, rfl, W4, k4, ct4⟩ := z9
  have f4_p := (k4 n (by omega)).trans f3_p
  have f4_q := (k4 (n + 1) (by omega)).trans f3_q
  have f4_pq := (k4 (n + 1 + 1) (by omega)).trans ct3
  refine og_aload_n (pc := 782) dL_acts_782 rfl ?_
  refine og_iload (pc := 783) dL_acts_783 rfl ?_
  refine og_callS (pc := 785) (As := [.ref 103, .int (nI a)]) (rest := [.ref (n + 1 + 1 + 1), .ref 101, .ref (n + 1 + 1), .int (nI r), .ref 103]) (l_row (E := E) (d := d) W4 a8) Y_L_row S_L_row K_L_116 dL_acts_785 rfl rfl (Nat.le_of_ble_eq_true rfl) (by omega) (by omega) (by omega) (fun _ _ _ z => z) (fun v9 n5 h5 z9 => ?_)
  obtain ⟨rfl, rfl, W5, k5, ct5⟩ := z9
  have f5_p := (k5 n (by omega)).trans f4_p
  have f5_q := (k5 (n + 1) (by omega)).trans f4_q
  have f5_pq := (k5 (n + 1 + 1) (by omega)).trans f4_pq
  have f5_q2 := (k5 (n + 1 + 1 + 1) (by omega)).trans ct4
  refine og_callS (pc := 788) (As := [.ref 101, .ref (n + 1 + 1 + 1), .ref (n + 1 + 1 + 1 + 1)]) (rest := [.ref (n + 1 + 1), .int (nI r), .ref 103]) (l_product (E := E) (d := d) W5 f5_q2 ct5 (by omega) (by omega) (by omega) (by omega)) Y_L_product S_L_product K_L_39 dL_acts_788 rfl rfl (Nat.le_of_ble_eq_true rfl) (by omega) (by omega) (by omega) (fun _ _ _ z => z) (fun v9 n6 h6 z9 => ?_)
  obtain ⟨rfl, rfl, W6, k6, ct6⟩ := z9
  have f6_p := (k6 n (by omega)).trans f5_p
  have f6_q := (k6 (n + 1) (by omega)).trans f5_q
  have f6_pq := (k6 (n + 1 + 1) (by omega)).trans f5_pq
  have f6_q2 := (k6 (n + 1 + 1 + 1) (by omega)).trans f5_q2
  have f6_p2 := (k6 (n + 1 + 1 + 1 + 1) (by omega)).trans ct5
  refine og_callS (pc := 791) (As := [.ref (n + 1 + 1), .ref (n + 1 + 1 + 1 + 1 + 1)]) (rest := [.int (nI r), .ref 103]) (l_less (E := E) (d := d) W6 f6_pq ct6 (by omega) (by omega) (by omega) (by omega)) Y_L_less S_L_less K_L_31 dL_acts_791 rfl rfl (Nat.le_of_ble_eq_true rfl) (by omega) (by omega) (by omega) (fun _ _ _ z => z) (fun v9 n7 h7 z9 => ?_)
  obtain ⟨rfl, rfl, W7, k7, ct7⟩ := z9
  have f7_p := (k7 n (by omega)).trans f6_p
  have f7_q := (k7 (n + 1) (by omega)).trans f6_q
  have f7_pq := (k7 (n + 1 + 1) (by omega)).trans f6_pq
  have f7_q2 := (k7 (n + 1 + 1 + 1) (by omega)).trans f6_q2
  have f7_p2 := (k7 (n + 1 + 1 + 1 + 1) (by omega)).trans f6_p2
  have f7_qp := (k7 (n + 1 + 1 + 1 + 1 + 1) (by omega)).trans ct6
  have hE : zE (q_total (q_prod (d_R D a) (d_R D b)) (q_prod (d_R D b) (d_R D a)) 1) (y_less (q_prod (y_row R a) (y_row R b)) (q_prod (y_row R b) (y_row R a))) := fun j hj => by
    have e1 := zprodE (fun j hj => (ra j hj).symm) (fun j hj => (rb j hj).symm) j hj
    have e2 := zprodE (fun j hj => (rb j hj).symm) (fun j hj => (ra j hj).symm) j hj
    show q_prod (d_R D a) (d_R D b) j - q_prod (d_R D b) (d_R D a) j = q_prod (y_row R a) (y_row R b) j - q_prod (y_row R b) (y_row R a) j
    rw [e1, e2]
  refine og_ldc2 (pc := 794) LC_L_23 dL_acts_794 ?_
  refine og_callS (pc := 797) (As := [.ref 103, .int (nI r), .ref (n + 1 + 1 + 1 + 1 + 1 + 1), .long 2]) (rest := []) (l_puts (E := E) (d := d) W7 r8 ct7 (by omega) (by decide)) Y_L_puts S_L_puts K_L_135 dL_acts_797 rfl rfl (Nat.le_of_ble_eq_true rfl) (by omega) (by omega) (by omega) (fun _ _ _ z => z) (fun v9 n20 h20 z9 => ?_)
  obtain ⟨e8, k20, z9⟩ := z9
  rw [e8]
  obtain ⟨z1, z2⟩ := zfit 1 (by omega) 2 (by decide) hE
  rcases z9 with ⟨rfl, can, W20⟩ | ⟨rfl, can, e3⟩
  · have fit : q_fitx 1 (q_total (q_prod (d_R D a) (d_R D b)) (q_prod (d_R D b) (d_R D a)) 1) := z1.mpr can
    refine og_istore_10 (pc := 800) dL_acts_800 rfl ?_
    refine og_aload_n (pc := 802) dL_acts_802 rfl ?_
    refine og_iload (pc := 803) dL_acts_803 rfl ?_
    refine og_iload (pc := 805) dL_acts_805 rfl ?_
    refine og_iload (pc := 807) dL_acts_807 rfl ?_
    refine og_callSH (pc := 809) (As := [.ref 3, .int (nI a), .int (nI b), .int (nI r)]) (rest := []) (l_commutes (E := E) (d := d) W20.1 a8 b8 r8) YH_L_commutes K_L_150 dL_acts_809 rfl rfl (Nat.le_of_ble_eq_true rfl) (by omega) (by omega) (by omega) (fun v9 n22 h22 z9 => ?_)
    rcases z9 with ⟨_, rfl, w22⟩ | ⟨nofit, _⟩
    rotate_left
    · exact absurd fit nofit
    have W22 := W20.call w22
    have hP := hcp.fits (r := r) (t := 1) (p := 2) (by omega) (by decide) r8 hE fit
    refine og_iload (pc := 812) dL_acts_812 rfl ?_
    refine og_if_eq (pc := 814) (tgt := 829) dL_acts_814 (by decide) (fun q => absurd q (by decide)) (fun _ => ?_)
    refine og_aload_n (pc := 817) dL_acts_817 rfl ?_
    refine og_iload (pc := 818) dL_acts_818 rfl ?_
    refine og_callS (pc := 820) (As := [.ref 103, .int (nI r)]) (rest := [.long (q_inner (q_fv 1 (q_total (q_prod (d_R D a) (d_R D b)) (q_prod (d_R D b) (d_R D a)) 1)) (q_fv 1 (q_total (q_prod (d_R D a) (d_R D b)) (q_prod (d_R D b) (d_R D a)) 1)) 8)]) (l_row (E := E) (d := d) W22 r8) Y_L_row S_L_row K_L_116 dL_acts_820 rfl rfl (Nat.le_of_ble_eq_true rfl) (by omega) (by omega) (by omega) (fun _ _ _ z => z) (fun v9 n23 h23 z9 => ?_)
    obtain ⟨rfl, rfl, W23, k23, c23⟩ := z9
    refine og_callS (pc := 823) (As := [.ref n22]) (rest := [.long (q_inner (q_fv 1 (q_total (q_prod (d_R D a) (d_R D b)) (q_prod (d_R D b) (d_R D a)) 1)) (q_fv 1 (q_total (q_prod (d_R D a) (d_R D b)) (q_prod (d_R D b) (d_R D a)) 1)) 8)]) (c_L_square E d _ n22 h23 _ c23 (by have := W22.nn; omega)) Y_L_square S_L_square K_L_43 dL_acts_823 rfl rfl (Nat.le_of_ble_eq_true rfl) (by omega) (by omega) (by omega) (fun _ _ _ z => z) (fun v9 n9 h9 z9 => ?_)
    obtain ⟨rfl, e8, e9⟩ := z9
    rw [e8, e9]
    rw [show q_inner (y_row (y_pt R r (y_less (q_prod (y_row R a) (y_row R b)) (q_prod (y_row R b) (y_row R a))) 2 8) r) (y_row (y_pt R r (y_less (q_prod (y_row R a) (y_row R b)) (q_prod (y_row R b) (y_row R a))) 2 8) r) 8 = q_inner (q_fv 1 (q_total (q_prod (d_R D a) (d_R D b)) (q_prod (d_R D b) (d_R D a)) 1)) (q_fv 1 (q_total (q_prod (d_R D a) (d_R D b)) (q_prod (d_R D b) (d_R D a)) 1)) 8 from q_inn 8 (y_row_pt (R := R) (r := r) (t := 1) (p := 2) (by omega) (by decide) hE fit)]
    refine og_goto (pc := 826) (tgt := 832) dL_acts_826 (by decide) ?_
    refine og_lcmp (pc := 832) dL_acts_832 ?_
    refine og_if_ne (pc := 833) (tgt := 840) dL_acts_833 (by decide) (fun q => absurd ((og_cmp0 _ _).mpr rfl) q) (fun _ => ?_)
    refine og_iconst (pc := 836) (v := 1) dL_acts_836 (by decide) ?_
    refine og_goto (pc := 837) (tgt := 841) dL_acts_837 (by decide) ?_
    exact og_zret (pc := 841) hr rfl dL_acts_841 (by omega) (by omega) ⟨rfl, _, _, _, W23.l hP⟩
  · rw [e3]
    refine og_istore_10 (pc := 800) dL_acts_800 rfl ?_
    refine og_aload_n (pc := 802) dL_acts_802 rfl ?_
    refine og_iload (pc := 803) dL_acts_803 rfl ?_
    refine og_iload (pc := 805) dL_acts_805 rfl ?_
    refine og_iload (pc := 807) dL_acts_807 rfl ?_
    refine og_callSH (pc := 809) (As := [.ref 3, .int (nI a), .int (nI b), .int (nI r)]) (rest := []) (l_commutes (E := E) (d := d) W7.1 a8 b8 r8) YH_L_commutes K_L_150 dL_acts_809 rfl rfl (Nat.le_of_ble_eq_true rfl) (by omega) (by omega) (by omega) (fun v9 n22 h22 z9 => ?_)
    rcases z9 with ⟨fit, _⟩ | ⟨nofit, rfl, w22⟩
    · exact absurd (z1.mp fit) can
    have W22 := W7.call w22
    refine og_iload (pc := 812) dL_acts_812 rfl ?_
    refine og_if_eq (pc := 814) (tgt := 829) dL_acts_814 (by decide) (fun _ => ?_) (fun q => absurd rfl q)
    refine og_ldc2 (pc := 829) LC_L_81 dL_acts_829 ?_
    refine og_lcmp (pc := 832) dL_acts_832 ?_
    refine og_if_ne (pc := 833) (tgt := 840) dL_acts_833 (by decide) (fun q => absurd ((og_cmp0 _ _).mpr rfl) q) (fun _ => ?_)
    refine og_iconst (pc := 836) (v := 1) dL_acts_836 (by decide) ?_
    refine og_goto (pc := 837) (tgt := 841) dL_acts_837 (by decide) ?_
    exact og_zret (pc := 841) hr rfl dL_acts_841 (by omega) (by omega) ⟨rfl, _, _, _, W22.l hcp⟩
set_option maxHeartbeats 1000000 in
theorem y_ac9 {E : og_E} {X : og_X} {d n L v w a b r : Nat} {xs : Nat → Int32} {x : Int32} {h : og_H} {D : q_D} {R g : Nat → Int32} (hr : og_ret X = some .boolean) (W : y_wl L xs n h D R g) (hv : v < 10000000) (a8 : a < 8) (b8 : b < 8) (r8 : r < 8) : og_G E RL cL_acts (d + 7) 300 2500 15 X (y_Qa E L xs X) 0 0 n h 849 (y_la x v w a b r [none, none, none, none, none]) [] := by
  have hcp := W.2.2.2.2.2
  have h104 := W.nn
  have ra := y_row_e hcp a8
  have rb := y_row_e hcp b8
  have ec : nI v / 512 - nI v / 512 / 8 * 8 = nI (v / 512 % 8) := by
    rw [show nI v / 512 = nI (v / 512) from nI_div (b := 512) (by omega) (by omega) (by omega)]
    exact nI_mod (b := 8) (by omega) (by omega) (by omega)
  have c8 : v / 512 % 8 < 8 := Nat.mod_lt _ (by omega)
  refine og_iload (pc := 849) dL_acts_849 rfl ?_
  refine og_sipush (pc := 851) (v := 512) dL_acts_851 (by decide) ?_
  refine og_idiv (pc := 854) dL_acts_854 (by decide) ?_
  refine og_bipush (pc := 855) (v := 8) dL_acts_855 (by decide) ?_
  refine og_irem (pc := 857) dL_acts_857 (by decide) ?_
  rw [ec]
  generalize v / 512 % 8 = c at c8 ⊢
  have rc := y_row_e hcp c8
  refine og_istore_10 (pc := 858) dL_acts_858 rfl ?_
  refine og_aload_n (pc := 860) dL_acts_860 rfl ?_
  refine og_aload_n (pc := 861) dL_acts_861 rfl ?_
  refine og_aload_n (pc := 862) dL_acts_862 rfl ?_
  refine og_iload (pc := 863) dL_acts_863 rfl ?_
  refine og_callS (pc := 865) (As := [.ref 103, .int (nI a)]) (rest := [.ref 101, .ref 101]) (l_row (E := E) (d := d) W.m a8) Y_L_row S_L_row K_L_116 dL_acts_865 rfl rfl (Nat.le_of_ble_eq_true rfl) (by omega) (by omega) (by omega) (fun _ _ _ z => z) (fun v9 n1 h1 z9 => ?_)
  obtain ⟨rfl, rfl, W1, k1, ct1⟩ := z9
  refine og_aload_n (pc := 868) dL_acts_868 rfl ?_
  refine og_iload (pc := 869) dL_acts_869 rfl ?_
  refine og_callS (pc := 871) (As := [.ref 103, .int (nI b)]) (rest := [.ref n, .ref 101, .ref 101]) (l_row (E := E) (d := d) W1 b8) Y_L_row S_L_row K_L_116 dL_acts_871 rfl rfl (Nat.le_of_ble_eq_true rfl) (by omega) (by omega) (by omega) (fun _ _ _ z => z) (fun v9 n2 h2 z9 => ?_)
  obtain ⟨rfl, rfl, W2, k2, ct2⟩ := z9
  have f2_p := (k2 n (by omega)).trans ct1
  refine og_callS (pc := 874) (As := [.ref 101, .ref n, .ref (n + 1)]) (rest := [.ref 101]) (l_product (E := E) (d := d) W2 f2_p ct2 (by omega) (by omega) (by omega) (by omega)) Y_L_product S_L_product K_L_39 dL_acts_874 rfl rfl (Nat.le_of_ble_eq_true rfl) (by omega) (by omega) (by omega) (fun _ _ _ z => z) (fun v9 n3 h3 z9 => ?_)
  obtain ⟨rfl, rfl, W3, k3, ct3⟩ := z9
  have f3_p := (k3 n (by omega)).trans f2_p
  have f3_q := (k3 (n + 1) (by omega)).trans ct2
  refine og_aload_n (pc := 877) dL_acts_877 rfl ?_
  refine og_iload (pc := 878) dL_acts_878 rfl ?_
  refine og_callS (pc := 880) (As := [.ref 103, .int (nI c)]) (rest := [.ref (n + 1 + 1), .ref 101]) (l_row (E := E) (d := d) W3 c8) Y_L_row S_L_row K_L_116 dL_acts_880 rfl rfl (Nat.le_of_ble_eq_true rfl) (by omega) (by omega) (by omega) (fun _ _ _ z => z) (fun v9 n4 h4 z9 => ?_)
  obtain ⟨rfl, rfl, W4, k4, ct4⟩ := z9
  have f4_p := (k4 n (by omega)).trans f3_p
  have f4_q := (k4 (n + 1) (by omega)).trans f3_q
  have f4_pq := (k4 (n + 1 + 1) (by omega)).trans ct3
  refine og_callS (pc := 883) (As := [.ref 101, .ref (n + 1 + 1), .ref (n + 1 + 1 + 1)]) (rest := []) (l_product (E := E) (d := d) W4 f4_pq ct4 (by omega) (by omega) (by omega) (by omega)) Y_L_product S_L_product K_L_39 dL_acts_883 rfl rfl (Nat.le_of_ble_eq_true rfl) (by omega) (by omega) (by omega) (fun _ _ _ z => z) (fun v9 n5 h5 z9 => ?_)
  obtain ⟨rfl, rfl, W5, k5, ct5⟩ := z9
  have f5_p := (k5 n (by omega)).trans f4_p
  have f5_q := (k5 (n + 1) (by omega)).trans f4_q
  have f5_pq := (k5 (n + 1 + 1) (by omega)).trans f4_pq
  have f5_s := (k5 (n + 1 + 1 + 1) (by omega)).trans ct4
  refine og_astore_11 (pc := 886) dL_acts_886 rfl ?_
  refine og_aload_n (pc := 888) dL_acts_888 rfl ?_
  refine og_iload (pc := 889) dL_acts_889 rfl ?_
  refine og_aload (pc := 891) dL_acts_891 rfl ?_
  refine og_aload_n (pc := 893) dL_acts_893 rfl ?_
  refine og_aload_n (pc := 894) dL_acts_894 rfl ?_
  refine og_iload (pc := 895) dL_acts_895 rfl ?_
  refine og_callS (pc := 897) (As := [.ref 103, .int (nI a)]) (rest := [.ref 101, .ref (n + 1 + 1 + 1 + 1), .int (nI r), .ref 103]) (l_row (E := E) (d := d) W5 a8) Y_L_row S_L_row K_L_116 dL_acts_897 rfl rfl (Nat.le_of_ble_eq_true rfl) (by omega) (by omega) (by omega) (fun _ _ _ z => z) (fun v9 n6 h6 z9 => ?_)
  obtain ⟨rfl, rfl, W6, k6, ct6⟩ := z9
  have f6_p := (k6 n (by omega)).trans f5_p
  have f6_q := (k6 (n + 1) (by omega)).trans f5_q
  have f6_pq := (k6 (n + 1 + 1) (by omega)).trans f5_pq
  have f6_s := (k6 (n + 1 + 1 + 1) (by omega)).trans f5_s
  have f6_one := (k6 (n + 1 + 1 + 1 + 1) (by omega)).trans ct5
  refine og_aload_n (pc := 900) dL_acts_900 rfl ?_
  refine og_aload_n (pc := 901) dL_acts_901 rfl ?_
  refine og_iload (pc := 902) dL_acts_902 rfl ?_
  refine og_callS (pc := 904) (As := [.ref 103, .int (nI b)]) (rest := [.ref 101, .ref (n + 1 + 1 + 1 + 1 + 1), .ref 101, .ref (n + 1 + 1 + 1 + 1), .int (nI r), .ref 103]) (l_row (E := E) (d := d) W6 b8) Y_L_row S_L_row K_L_116 dL_acts_904 rfl rfl (Nat.le_of_ble_eq_true rfl) (by omega) (by omega) (by omega) (fun _ _ _ z => z) (fun v9 n7 h7 z9 => ?_)
  obtain ⟨rfl, rfl, W7, k7, ct7⟩ := z9
  have f7_p := (k7 n (by omega)).trans f6_p
  have f7_q := (k7 (n + 1) (by omega)).trans f6_q
  have f7_pq := (k7 (n + 1 + 1) (by omega)).trans f6_pq
  have f7_s := (k7 (n + 1 + 1 + 1) (by omega)).trans f6_s
  have f7_one := (k7 (n + 1 + 1 + 1 + 1) (by omega)).trans f6_one
  have f7_p2 := (k7 (n + 1 + 1 + 1 + 1 + 1) (by omega)).trans ct6
  refine og_aload_n (pc := 907) dL_acts_907 rfl ?_
  refine og_iload (pc := 908) dL_acts_908 rfl ?_
  refine og_callS (pc := 910) (As := [.ref 103, .int (nI c)]) (rest := [.ref (n + 1 + 1 + 1 + 1 + 1 + 1), .ref 101, .ref (n + 1 + 1 + 1 + 1 + 1), .ref 101, .ref (n + 1 + 1 + 1 + 1), .int (nI r), .ref 103]) (l_row (E := E) (d := d) W7 c8) Y_L_row S_L_row K_L_116 dL_acts_910 rfl rfl (Nat.le_of_ble_eq_true rfl) (by omega) (by omega) (by omega) (fun _ _ _ z => z) (fun v9 n8 h8 z9 => ?_)
  obtain ⟨rfl, rfl, W8, k8, ct8⟩ := z9
  have f8_p := (k8 n (by omega)).trans f7_p
  have f8_q := (k8 (n + 1) (by omega)).trans f7_q
  have f8_pq := (k8 (n + 1 + 1) (by omega)).trans f7_pq
  have f8_s := (k8 (n + 1 + 1 + 1) (by omega)).trans f7_s
  have f8_one := (k8 (n + 1 + 1 + 1 + 1) (by omega)).trans f7_one
  have f8_p2 := (k8 (n + 1 + 1 + 1 + 1 + 1) (by omega)).trans f7_p2
  have f8_q2 := (k8 (n + 1 + 1 + 1 + 1 + 1 + 1) (by omega)).trans ct7
  refine og_callS (pc := 913) (As := [.ref 101, .ref (n + 1 + 1 + 1 + 1 + 1 + 1), .ref (n + 1 + 1 + 1 + 1 + 1 + 1 + 1)]) (rest := [.ref (n + 1 + 1 + 1 + 1 + 1), .ref 101, .ref (n + 1 + 1 + 1 + 1), .int (nI r), .ref 103]) (l_product (E := E) (d := d) W8 f8_q2 ct8 (by omega) (by omega) (by omega) (by omega)) Y_L_product S_L_product K_L_39 dL_acts_913 rfl rfl (Nat.le_of_ble_eq_true rfl) (by omega) (by omega) (by omega) (fun _ _ _ z => z) (fun v9 n9 h9 z9 => ?_)
  obtain ⟨rfl, rfl, W9, k9, ct9⟩ := z9
  have f9_p := (k9 n (by omega)).trans f8_p
  have f9_q := (k9 (n + 1) (by omega)).trans f8_q
  have f9_pq := (k9 (n + 1 + 1) (by omega)).trans f8_pq
  have f9_s := (k9 (n + 1 + 1 + 1) (by omega)).trans f8_s
  have f9_one := (k9 (n + 1 + 1 + 1 + 1) (by omega)).trans f8_one
  have f9_p2 := (k9 (n + 1 + 1 + 1 + 1 + 1) (by omega)).trans f8_p2
  have f9_q2 := (k9 (n + 1 + 1 + 1 + 1 + 1 + 1) (by omega)).trans f8_q2
  have f9_s2 := (k9 (n + 1 + 1 + 1 + 1 + 1 + 1 + 1) (by omega)).trans ct8
  refine og_callS (pc := 916) (As := [.ref 101, .ref (n + 1 + 1 + 1 + 1 + 1), .ref (n + 1 + 1 + 1 + 1 + 1 + 1 + 1 + 1)]) (rest := [.ref (n + 1 + 1 + 1 + 1), .int (nI r), .ref 103]) (l_product (E := E) (d := d) W9 f9_p2 ct9 (by omega) (by omega) (by omega) (by omega)) Y_L_product S_L_product K_L_39 dL_acts_916 rfl rfl (Nat.le_of_ble_eq_true rfl) (by omega) (by omega) (by omega) (fun _ _ _ z => z) (fun v9 n10 h10 z9 => ?_)
  obtain ⟨rfl, rfl, W10, k10, ct10⟩ := z9
  have f10_p := (k10 n (by omega)).trans f9_p
  have f10_q := (k10 (n + 1) (by omega)).trans f9_q
  have f10_pq := (k10 (n + 1 + 1) (by omega)).trans f9_pq
  have f10_s := (k10 (n + 1 + 1 + 1) (by omega)).trans f9_s
  have f10_one := (k10 (n + 1 + 1 + 1 + 1) (by omega)).trans f9_one
  have f10_p2 := (k10 (n + 1 + 1 + 1 + 1 + 1) (by omega)).trans f9_p2
  have f10_q2 := (k10 (n + 1 + 1 + 1 + 1 + 1 + 1) (by omega)).trans f9_q2
  have f10_s2 := (k10 (n + 1 + 1 + 1 + 1 + 1 + 1 + 1) (by omega)).trans f9_s2
  have f10_qs := (k10 (n + 1 + 1 + 1 + 1 + 1 + 1 + 1 + 1) (by omega)).trans ct9
  refine og_callS (pc := 919) (As := [.ref (n + 1 + 1 + 1 + 1), .ref (n + 1 + 1 + 1 + 1 + 1 + 1 + 1 + 1 + 1)]) (rest := [.int (nI r), .ref 103]) (l_less (E := E) (d := d) W10 f10_one ct10 (by omega) (by omega) (by omega) (by omega)) Y_L_less S_L_less K_L_31 dL_acts_919 rfl rfl (Nat.le_of_ble_eq_true rfl) (by omega) (by omega) (by omega) (fun _ _ _ z => z) (fun v9 n11 h11 z9 => ?_)
  obtain ⟨rfl, rfl, W11, k11, ct11⟩ := z9
  have f11_p := (k11 n (by omega)).trans f10_p
  have f11_q := (k11 (n + 1) (by omega)).trans f10_q
  have f11_pq := (k11 (n + 1 + 1) (by omega)).trans f10_pq
  have f11_s := (k11 (n + 1 + 1 + 1) (by omega)).trans f10_s
  have f11_one := (k11 (n + 1 + 1 + 1 + 1) (by omega)).trans f10_one
  have f11_p2 := (k11 (n + 1 + 1 + 1 + 1 + 1) (by omega)).trans f10_p2
  have f11_q2 := (k11 (n + 1 + 1 + 1 + 1 + 1 + 1) (by omega)).trans f10_q2
  have f11_s2 := (k11 (n + 1 + 1 + 1 + 1 + 1 + 1 + 1) (by omega)).trans f10_s2
  have f11_qs := (k11 (n + 1 + 1 + 1 + 1 + 1 + 1 + 1 + 1) (by omega)).trans f10_qs
  have f11_two := (k11 (n + 1 + 1 + 1 + 1 + 1 + 1 + 1 + 1 + 1) (by omega)).trans ct10
  have hE : zE (q_asc (d_R D a) (d_R D b) (d_R D c)) (y_less (q_prod (q_prod (y_row R a) (y_row R b)) (y_row R c)) (q_prod (y_row R a) (q_prod (y_row R b) (y_row R c)))) := fun j hj => by
    have e1 := zprodE (zprodE (fun j hj => (ra j hj).symm) (fun j hj => (rb j hj).symm)) (fun j hj => (rc j hj).symm) j hj
    have e2 := zprodE (fun j hj => (ra j hj).symm) (zprodE (fun j hj => (rb j hj).symm) (fun j hj => (rc j hj).symm)) j hj
    show q_prod (q_prod (d_R D a) (d_R D b)) (d_R D c) j - q_prod (d_R D a) (q_prod (d_R D b) (d_R D c)) j = q_prod (q_prod (y_row R a) (y_row R b)) (y_row R c) j - q_prod (y_row R a) (q_prod (y_row R b) (y_row R c)) j
    rw [e1, e2]
  refine og_ldc2 (pc := 922) LC_L_25 dL_acts_922 ?_
  refine og_callS (pc := 925) (As := [.ref 103, .int (nI r), .ref (n + 1 + 1 + 1 + 1 + 1 + 1 + 1 + 1 + 1 + 1), .long 4]) (rest := []) (l_puts (E := E) (d := d) W11 r8 ct11 (by omega) (by decide)) Y_L_puts S_L_puts K_L_135 dL_acts_925 rfl rfl (Nat.le_of_ble_eq_true rfl) (by omega) (by omega) (by omega) (fun _ _ _ z => z) (fun v9 n20 h20 z9 => ?_)
  obtain ⟨e8, k20, z9⟩ := z9
  rw [e8]
  obtain ⟨z1, z2⟩ := zfit 2 (by omega) 4 (by decide) hE
  rcases z9 with ⟨rfl, can, W20⟩ | ⟨rfl, can, e3⟩
  · have fit : q_fitx 2 (q_asc (d_R D a) (d_R D b) (d_R D c)) := z1.mpr can
    refine og_istore_12 (pc := 928) dL_acts_928 rfl ?_
    refine og_aload_n (pc := 930) dL_acts_930 rfl ?_
    refine og_iload (pc := 931) dL_acts_931 rfl ?_
    refine og_iload (pc := 933) dL_acts_933 rfl ?_
    refine og_iload (pc := 935) dL_acts_935 rfl ?_
    refine og_iload (pc := 937) dL_acts_937 rfl ?_
    refine og_callSH (pc := 939) (As := [.ref 3, .int (nI a), .int (nI b), .int (nI c), .int (nI r)]) (rest := []) (l_associates (E := E) (d := d) W20.1 a8 b8 c8 r8) YH_L_associates K_L_153 dL_acts_939 rfl rfl (Nat.le_of_ble_eq_true rfl) (by omega) (by omega) (by omega) (fun v9 n22 h22 z9 => ?_)
    rcases z9 with ⟨_, rfl, w22⟩ | ⟨nofit, _⟩
    rotate_left
    · exact absurd fit nofit
    have W22 := W20.call w22
    have hP := hcp.fits (r := r) (t := 2) (p := 4) (by omega) (by decide) r8 hE fit
    refine og_iload (pc := 942) dL_acts_942 rfl ?_
    refine og_if_eq (pc := 944) (tgt := 959) dL_acts_944 (by decide) (fun q => absurd q (by decide)) (fun _ => ?_)
    refine og_aload_n (pc := 947) dL_acts_947 rfl ?_
    refine og_iload (pc := 948) dL_acts_948 rfl ?_
    refine og_callS (pc := 950) (As := [.ref 103, .int (nI r)]) (rest := [.long (q_inner (q_fv 2 (q_asc (d_R D a) (d_R D b) (d_R D c))) (q_fv 2 (q_asc (d_R D a) (d_R D b) (d_R D c))) 8)]) (l_row (E := E) (d := d) W22 r8) Y_L_row S_L_row K_L_116 dL_acts_950 rfl rfl (Nat.le_of_ble_eq_true rfl) (by omega) (by omega) (by omega) (fun _ _ _ z => z) (fun v9 n23 h23 z9 => ?_)
    obtain ⟨rfl, rfl, W23, k23, c23⟩ := z9
    refine og_callS (pc := 953) (As := [.ref n22]) (rest := [.long (q_inner (q_fv 2 (q_asc (d_R D a) (d_R D b) (d_R D c))) (q_fv 2 (q_asc (d_R D a) (d_R D b) (d_R D c))) 8)]) (c_L_square E d _ n22 h23 _ c23 (by have := W22.nn; omega)) Y_L_square S_L_square K_L_43 dL_acts_953 rfl rfl (Nat.le_of_ble_eq_true rfl) (by omega) (by omega) (by omega) (fun _ _ _ z => z) (fun v9 n9 h9 z9 => ?_)
    obtain ⟨rfl, e8, e9⟩ := z9
    rw [e8, e9]
    rw [show q_inner (y_row (y_pt R r (y_less (q_prod (q_prod (y_row R a) (y_row R b)) (y_row R c)) (q_prod (y_row R a) (q_prod (y_row R b) (y_row R c)))) 4 8) r) (y_row (y_pt R r (y_less (q_prod (q_prod (y_row R a) (y_row R b)) (y_row R c)) (q_prod (y_row R a) (q_prod (y_row R b) (y_row R c)))) 4 8) r) 8 = q_inner (q_fv 2 (q_asc (d_R D a) (d_R D b) (d_R D c))) (q_fv 2 (q_asc (d_R D a) (d_R D b) (d_R D c))) 8 from q_inn 8 (y_row_pt (R := R) (r := r) (t := 2) (p := 4) (by omega) (by decide) hE fit)]
    refine og_goto (pc := 956) (tgt := 962) dL_acts_956 (by decide) ?_
    refine og_lcmp (pc := 962) dL_acts_962 ?_
    refine og_if_ne (pc := 963) (tgt := 970) dL_acts_963 (by decide) (fun q => absurd ((og_cmp0 _ _).mpr rfl) q) (fun _ => ?_)
    refine og_iconst (pc := 966) (v := 1) dL_acts_966 (by decide) ?_
    refine og_goto (pc := 967) (tgt := 971) dL_acts_967 (by decide) ?_
    exact og_zret (pc := 971) hr rfl dL_acts_971 (by omega) (by omega) ⟨rfl, _, _, _, W23.l hP⟩
  · rw [e3]
    refine og_istore_12 (pc := 928) dL_acts_928 rfl ?_
    refine og_aload_n (pc := 930) dL_acts_930 rfl ?_
    refine og_iload (pc := 931) dL_acts_931 rfl ?_
    refine og_iload (pc := 933) dL_acts_933 rfl ?_
    refine og_iload (pc := 935) dL_acts_935 rfl ?_
    refine og_iload (pc := 937) dL_acts_937 rfl ?_
    refine og_callSH (pc := 939) (As := [.ref 3, .int (nI a), .int (nI b), .int (nI c), .int (nI r)]) (rest := []) (l_associates (E := E) (d := d) W11.1 a8 b8 c8 r8) YH_L_associates K_L_153 dL_acts_939 rfl rfl (Nat.le_of_ble_eq_true rfl) (by omega) (by omega) (by omega) (fun v9 n22 h22 z9 => ?_)
    rcases z9 with ⟨fit, _⟩ | ⟨nofit, rfl, w22⟩
    · exact absurd (z1.mp fit) can
    have W22 := W11.call w22
    refine og_iload (pc := 942) dL_acts_942 rfl ?_
    refine og_if_eq (pc := 944) (tgt := 959) dL_acts_944 (by decide) (fun _ => ?_) (fun q => absurd rfl q)
    refine og_ldc2 (pc := 959) LC_L_81 dL_acts_959 ?_
    refine og_lcmp (pc := 962) dL_acts_962 ?_
    refine og_if_ne (pc := 963) (tgt := 970) dL_acts_963 (by decide) (fun q => absurd ((og_cmp0 _ _).mpr rfl) q) (fun _ => ?_)
    refine og_iconst (pc := 966) (v := 1) dL_acts_966 (by decide) ?_
    refine og_goto (pc := 967) (tgt := 971) dL_acts_967 (by decide) ?_
    exact og_zret (pc := 971) hr rfl dL_acts_971 (by omega) (by omega) ⟨rfl, _, _, _, W22.l hcp⟩
