/-! ===== the law: acts: load, add, multiply ===== -/
theorem y_zd1 (y : Int64) : y / 1 = y := by
  rw [zeq, zdiv (by decide), show (1 : Int64).toInt = 1 from rfl, Int.tdiv_one]
theorem y_dv1 (f : Nat → Int64) : q_dv 1 f = f := by
  funext j
  exact y_zd1 (f j)
theorem y_zb : allL.all (fun r => (List.range 8).all (fun k => decide (q_row r k - q_row r k / 1 * 1 = 0 ∧ ¬ q_row r k / 1 < -2000 ∧ ¬ 2000 < q_row r k / 1))) = true := by decide +kernel
theorem y_zh {r : List Nat} (h : r ∈ allL) : q_hall 1 (q_row r) := fun k hk => by
  have := List.all_eq_true.mp y_zb r h
  have h2 := List.all_eq_true.mp this k (List.mem_range.mpr hk)
  have h3 := of_decide_eq_true h2
  exact h3
/-- the norm of a product is the product of the norms -/
theorem y_norm {f g : Nat → Int64} (hf : zok f) (hg : zok g) (h : q_fitx 1 (q_prod f g)) : q_inner (q_fv 1 (q_prod f g)) (q_fv 1 (q_prod f g)) 8 = q_inner f f 8 * q_inner g g 8 / 4 := by
  obtain ⟨f1, f2⟩ := zfit 1 (by omega) 2 (by decide) (zE.rfl (f := q_prod f g))
  have f2 : zE (q_fv 1 (q_prod f g)) (q_dv 2 (q_prod f g)) := f2 h
  have hh := f1.mp h
  have hb := y_hall_b hh
  generalize hP : q_prod f g = P at *
  have he : ∀ k, k < 8 → zi P k = 2 * zi (q_dv 2 P) k := fun k hk => by
    have q := (hh k hk).1
    have r := (zrem (x := P k) (p := 2) (by decide) (by decide)).1
    rw [q, show ((0 : Int64).toInt) = 0 from rfl] at r
    have d := zdiv (a := P k) (b := 2) (by decide)
    rw [show (2 : Int64).toInt = 2 from rfl] at r d
    have e := Int.mul_tdiv_add_tmod (P k).toInt 2
    show (P k).toInt = 2 * (P k / 2).toInt
    omega
  have hz : zn (zi P) = zn (zi f) * zn (zi g) := by
    rw [← zn_mul]
    exact zn_congr fun k hk => by
      rw [← hP]
      exact (zprod_i hf hg k hk).1
  have hz2 : zn (zi P) = 4 * zn (zi (q_dv 2 P)) := by
    rw [← zn_2]
    exact zn_congr he
  have ho : zok (q_dv 2 P) := by
    have b := fun k hk => (zsq (x := zi (q_dv 2 P) k) (b := 2000) (hb k hk).1 (hb k hk).2).2
    unfold zok zn
    have := b 0 (by omega); have := b 1 (by omega); have := b 2 (by omega); have := b 3 (by omega); have := b 4 (by omega); have := b 5 (by omega); have := b 6 (by omega); have := b 7 (by omega)
    omega
  have hn : zn (zi (q_dv 2 P)) ≤ 32000000 := ho
  have hnn := zn_nn (zi (q_dv 2 P))
  rw [q_inn 8 f2, zeq, zok_N ho]
  have m : (q_inner f f 8 * q_inner g g 8).toInt = 4 * zn (zi (q_dv 2 P)) := by
    rw [zmul] <;> rw [zok_N hf, zok_N hg, ← hz, hz2] <;> omega
  rw [zdiv (by decide), m, show (4 : Int64).toInt = 4 from rfl]
  exact (Int.mul_tdiv_cancel_left _ (by decide)).symm
theorem y_ac4 {E : og_E} {X : og_X} {d n L v w a b r : Nat} {xs : Nat → Int32} {x : Int32} {h : og_H} {D : q_D} {R g : Nat → Int32} (hr : og_ret X = some .boolean) (W : y_wl L xs n h D R g) (hv : v < 10000000) (a8 : a < 8) (b8 : b < 8) (r8 : r < 8) : og_G E RL cL_acts (d + 7) 300 2500 15 X (y_Qa E L xs X) 0 0 n h 318 (y_la x v w a b r [none, none, none, none, none]) [] := by
  have hcp := W.2.2.2.2.2
  have h104 := W.nn
  have f0 := W.2.2.1
  have ho := W.o8
  have hc240 := q_cnt_le (d_o D)
  have eu : nI v / 8 - nI v / 8 / 260 * 260 = nI (v / 8 % 260) := by
    rw [show nI v / 8 = nI (v / 8) from nI_div (b := 8) (by omega) (by omega) (by omega)]
    exact nI_mod (b := 260) (by omega) (by omega) (by omega)
  have u260 : v / 8 % 260 < 260 := Nat.mod_lt _ (by omega)
  refine og_iload (pc := 318) dL_acts_318 rfl ?_
  refine og_bipush (pc := 320) (v := 8) dL_acts_320 (by decide) ?_
  refine og_idiv (pc := 322) dL_acts_322 (by decide) ?_
  refine og_sipush (pc := 323) (v := 260) dL_acts_323 (by decide) ?_
  refine og_irem (pc := 326) dL_acts_326 (by decide) ?_
  rw [eu]
  generalize v / 8 % 260 = u at u260 ⊢
  refine og_istore_10 (pc := 327) dL_acts_327 rfl ?_
  refine og_iload (pc := 329) dL_acts_329 rfl ?_
  refine og_aload_n (pc := 331) dL_acts_331 rfl ?_
  refine og_iconst (pc := 332) (v := 0) dL_acts_332 (by decide) ?_
  refine og_ialdN (pc := 333) (j := 0) rfl dL_acts_333 (by repeat (first | exact og_set_eq _ _ _ | assumption | refine (og_set_ne _ _ (by first | assumption | omega)).trans ?_)) (by omega) (by omega) (by first | decide | assumption | omega) ?_
  rw [hcp.2.1]
  refine og_callS (pc := 334) (As := [.int (nI (d_o D))]) (rest := [.int (nI u)]) (c_L_many E d n (d_o D) h ho) Y_L_many S_L_many K_L_124 dL_acts_334 rfl rfl (Nat.le_of_ble_eq_true rfl) (by omega) (by omega) (by omega) (fun _ _ _ z => z) (fun v9 n9 h9 z9 => ?_)
  obtain ⟨e8, e9, rfl⟩ := z9
  rw [e8, e9]
  refine og_icmp_lt (pc := 337) (tgt := 359) dL_acts_337 (by decide) (fun q => ?_) (fun q => ?_)
  rotate_left
  · have hu : ¬ u < q_cnt (d_o D) := fun z => q (nI_lt z (by omega))
    refine og_aload_n (pc := 340) dL_acts_340 rfl ?_
    refine og_iload (pc := 341) dL_acts_341 rfl ?_
    refine og_iload (pc := 343) dL_acts_343 rfl ?_
    refine og_callSH (pc := 345) (As := [.ref 3, .int (nI u), .int (nI a)]) (rest := []) (l_loads_no (E := E) (d := d) (a := a) W.1 hu u260) YH_L_loads K_L_127 dL_acts_345 rfl rfl (Nat.le_of_ble_eq_true rfl) (by omega) (by omega) (by omega) (fun v9 n3 h3 z9 => ?_)
    obtain ⟨rfl, w3⟩ := z9
    refine og_ldc (pc := 348) IC_L_55 dL_acts_348 ?_
    refine og_icmp_ne (pc := 350) (tgt := 357) dL_acts_350 (by decide) (fun q => absurd rfl q) (fun _ => ?_)
    refine og_iconst (pc := 353) (v := 1) dL_acts_353 (by decide) ?_
    refine og_goto (pc := 354) (tgt := 358) dL_acts_354 (by decide) ?_
    exact og_zret (pc := 358) hr rfl dL_acts_358 (by omega) (by omega) ⟨rfl, D, R, g, W.call w3 rfl⟩
  have hu : u < q_cnt (d_o D) := (nI_ltI (by omega) (by omega)).mp q
  refine og_bipush (pc := 359) (v := 8) dL_acts_359 (by decide) ?_
  refine og_newa (pc := 361) (k := 2) (N := 8) (x := (8, .inr (.inl (fun _ => 0)))) (atype := .long) AC_long rfl (by decide) dL_acts_361 (fun _ => rfl) (by decide) (by decide) (by decide) (by omega) (by omega) ?_
  have a2 : og_set h n (rowL (fun _ => 0)) n = some (rowL (fun _ => 0)) := og_set_eq _ _ _
  have k2 : ∀ a, a < n → og_set h n (rowL (fun _ => 0)) a = h a := fun a ha => og_set_ne _ _ (by omega)
  have f2 : og_set h n (rowL (fun _ => 0)) 102 = some (rowI 3 g) := (k2 _ (by omega)).trans f0
  show og_G E RL cL_acts (d + 7) 300 2500 15 X (y_Qa E L xs X) _ _ (n + 1) (og_set h n (rowL (fun _ => 0))) _ _ _
  generalize og_set h n (rowL (fun _ => 0)) = h2 at a2 k2 f2 ⊢
  refine og_astore_11 (pc := 363) dL_acts_363 rfl ?_
  refine og_aload_n (pc := 365) dL_acts_365 rfl ?_
  refine og_iconst (pc := 366) (v := 0) dL_acts_366 (by decide) ?_
  refine og_ialdN (pc := 367) (j := 0) rfl dL_acts_367 (by repeat (first | exact og_set_eq _ _ _ | assumption | refine (og_set_ne _ _ (by first | assumption | omega)).trans ?_)) (by omega) (by omega) (by first | decide | assumption | omega) ?_
  refine og_aload (pc := 368) dL_acts_368 rfl ?_
  refine og_aload (pc := 370) dL_acts_370 rfl ?_
  refine og_iload (pc := 372) dL_acts_372 rfl ?_
  rw [hcp.2.1]
  refine og_callS (pc := 374) (As := [.int (nI (d_o D)), .ref n, .ref n, .int (nI u)]) (rest := []) (c_L_unitsB E d (n + 1) n (d_o D) u h2 _ a2 (by omega) (by omega) ho hu) Y_L_units S_L_units K_L_131 dL_acts_374 rfl rfl (Nat.le_of_ble_eq_true rfl) (by omega) (by omega) (by omega) (fun _ _ _ z => z) (fun v9 n5 h5 z9 => ?_)
  obtain ⟨u1, u2, u3, rfl⟩ := z9
  have W5 := W.m.ext (n1 := n5) (h1 := h5) (by omega) (fun a ha => (u2 a (by omega) (by omega)).trans (k2 a ha))
  have f5 := W5.2.2.1
  refine og_aload_n (pc := 377) dL_acts_377 rfl ?_
  refine og_iconst (pc := 378) (v := 0) dL_acts_378 (by decide) ?_
  refine og_ialdN (pc := 379) (j := 0) rfl dL_acts_379 (by repeat (first | exact og_set_eq _ _ _ | assumption | refine (og_set_ne _ _ (by first | assumption | omega)).trans ?_)) (by omega) (by omega) (by first | decide | assumption | omega) ?_
  rw [hcp.2.1]
  refine og_callS (pc := 380) (As := [.int (nI (d_o D))]) (rest := [.int (nI (q_cnt (d_o D)))]) (c_L_many E d n5 (d_o D) h5 ho) Y_L_many S_L_many K_L_124 dL_acts_380 rfl rfl (Nat.le_of_ble_eq_true rfl) (by omega) (by omega) (by omega) (fun _ _ _ z => z) (fun v9 n9 h9 z9 => ?_)
  obtain ⟨e8, e9, rfl⟩ := z9
  rw [e8, e9]
  refine og_icmp_ne (pc := 383) (tgt := 390) dL_acts_383 (by decide) (fun q => absurd rfl q) (fun _ => ?_)
  refine og_iconst (pc := 386) (v := 1) dL_acts_386 (by decide) ?_
  refine og_goto (pc := 387) (tgt := 391) dL_acts_387 (by decide) ?_
  refine og_istore_12 (pc := 391) dL_acts_391 rfl ?_
  refine og_iload (pc := 393) dL_acts_393 rfl ?_
  refine og_if_eq (pc := 395) (tgt := 432) dL_acts_395 (by decide) (fun q => absurd q (by decide)) (fun _ => ?_)
  refine og_aload_n (pc := 398) dL_acts_398 rfl ?_
  refine og_iload (pc := 399) dL_acts_399 rfl ?_
  refine og_aload (pc := 401) dL_acts_401 rfl ?_
  refine og_lconst (pc := 403) (v := 1) dL_acts_403 (by decide) ?_
  refine og_callS (pc := 404) (As := [.ref 103, .int (nI a), .ref n, .long 1]) (rest := []) (l_puts (E := E) (d := d) W5 a8 u3 (by omega) (by decide)) Y_L_puts S_L_puts K_L_135 dL_acts_404 rfl rfl (Nat.le_of_ble_eq_true rfl) (by omega) (by omega) (by omega) (fun _ _ _ z => z) (fun v9 n6 h6 z9 => ?_)
  obtain ⟨e8, k6, z9⟩ := z9
  rw [e8]
  rcases z9 with ⟨rfl, _, W6⟩ | ⟨_, z, _⟩
  rotate_left
  · exact absurd (y_zh (zun_mem ho hu)) z
  refine og_if_eq (pc := 407) (tgt := 432) dL_acts_407 (by decide) (fun q => absurd q (by decide)) (fun _ => ?_)
  refine og_aload_n (pc := 410) dL_acts_410 rfl ?_
  refine og_iload (pc := 411) dL_acts_411 rfl ?_
  refine og_iload (pc := 413) dL_acts_413 rfl ?_
  refine og_callSH (pc := 415) (As := [.ref 3, .int (nI u), .int (nI a)]) (rest := []) (l_loads (E := E) (d := d) W6.1 hu a8) YH_L_loads K_L_127 dL_acts_415 rfl rfl (Nat.le_of_ble_eq_true rfl) (by omega) (by omega) (by omega) (fun v9 n7 h7 z9 => ?_)
  obtain ⟨rfl, f7, w7⟩ := z9
  have W7 := W6.call w7
  have r7 := W7.2.2.2.1
  have hrow : ∀ k, k < 8 → y_pt R a (q_row (zun (d_o D) u)) 1 8 (8 * a + k) = (q_read (q_uc (d_o D) u) k).toInt32 := fun k hk => by
    rw [zurd ho hu hk]
    show (if 8 * a ≤ 8 * a + k ∧ 8 * a + k < 8 * a + 8 then (q_row (zun (d_o D) u) (8 * a + k - 8 * a) / 1).toInt32 else R (8 * a + k)) = _
    rw [if_pos (by omega), Nat.add_sub_cancel_left, y_zd1]
  refine og_aload_n (pc := 418) dL_acts_418 rfl ?_
  refine og_bipush (pc := 419) (v := 8) dL_acts_419 (by decide) ?_
  refine og_iload (pc := 421) dL_acts_421 rfl ?_
  refine og_imul (pc := 423) dL_acts_423 ?_
  refine og_ialdN (pc := 424) (j := (8 * a)) (nI_mul 8 a) dL_acts_424 (by repeat (first | exact og_set_eq _ _ _ | assumption | refine (og_set_ne _ _ (by first | assumption | omega)).trans ?_)) (by omega) (by omega) (by first | decide | assumption | omega) ?_
  rw [show y_pt R a (q_row (zun (d_o D) u)) 1 8 (8 * a) = (q_read (q_uc (d_o D) u) 0).toInt32 from hrow 0 (by omega)]
  refine og_icmp_ne (pc := 425) (tgt := 432) dL_acts_425 (by decide) (fun q => absurd rfl q) (fun _ => ?_)
  refine og_iconst (pc := 428) (v := 1) dL_acts_428 (by decide) ?_
  refine og_goto (pc := 429) (tgt := 433) dL_acts_429 (by decide) ?_
  refine og_zret (pc := 433) hr rfl dL_acts_433 (by omega) (by omega) ⟨rfl, _, _, _, W7.l (hcp.put (r := a) (f := q_read (q_uc (d_o D) u)) ?_ ?_ ?_ ?_ (fun i k hi hk q => if_neg (by omega)) (fun k hk => ⟨hrow k hk, ?_⟩))⟩
  · show q_upR (d_st (q_save D)).1 a _ = _
    rw [q_save_st]
  · show g 0 = nI (d_st (q_save D)).2.1
    rw [q_save_st]
    exact hcp.2.1
  · show g 1 = (d_st (q_save D)).2.2.1
    rw [q_save_st]
    exact hcp.2.2.1
  · show g 2 = (d_st (q_save D)).2.2.2
    rw [q_save_st]
    exact hcp.2.2.2
  · rw [zurd ho hu hk]
    have := y_hall_b (y_zh (zun_mem ho hu)) k hk
    rw [y_dv1] at this
    exact this
/-- add, from the sum's row on -/
theorem y_ac5t {E : og_E} {X : og_X} {d n L v w a b r : Nat} {xs : Nat → Int32} {x : Int32} {h : og_H} {D : q_D} {R g : Nat → Int32} {s : Int32} {m : Nat} {h2 : og_H} {c : Nat} {F : Nat → Int64} {cells slots : Nat} (hr : og_ret X = some .boolean) (W : y_wl L xs n h D R g) (hv : v < 10000000) (a8 : a < 8) (b8 : b < 8) (r8 : r < 8) (hc : cells ≤ 10) (hs : slots ≤ 80) (W2 : y_wm L xs m h2 D R g) (hcm : c < m) (h104c : 104 ≤ c) (hF : h2 c = some (rowL F)) (hE : zE (q_total (d_R D a) (d_R D b) s) F) : og_G E RL cL_acts (d + 7) 300 2500 15 X (y_Qa E L xs X) cells slots m h2 500 (y_la x v w a b r [some (.int s), some (.ref n), none, none, none]) [.ref c] := by
  have hcp := W.2.2.2.2.2
  obtain ⟨z1, z2⟩ := zfit 0 (by omega) 1 (by decide) hE
  refine og_astore_11 (pc := 500) dL_acts_500 rfl ?_
  refine og_aload_n (pc := 502) dL_acts_502 rfl ?_
  refine og_iload (pc := 503) dL_acts_503 rfl ?_
  refine og_aload (pc := 505) dL_acts_505 rfl ?_
  refine og_lconst (pc := 507) (v := 1) dL_acts_507 (by decide) ?_
  refine og_callS (pc := 508) (As := [.ref 103, .int (nI r), .ref c, .long 1]) (rest := []) (l_puts (E := E) (d := d) W2 r8 hF h104c (by decide)) Y_L_puts S_L_puts K_L_135 dL_acts_508 rfl rfl (Nat.le_of_ble_eq_true rfl) (by omega) (by omega) (by omega) (fun _ _ _ z => z) (fun v9 n3 h3 z9 => ?_)
  obtain ⟨e8, k3, z9⟩ := z9
  rw [e8]
  have F3 : h3 c = some (rowL F) := (k3 c (by omega)).trans hF
  rcases z9 with ⟨rfl, can, W3⟩ | ⟨rfl, can, e3⟩
  · refine og_istore_12 (pc := 511) dL_acts_511 rfl ?_
    refine og_aload_n (pc := 513) dL_acts_513 rfl ?_
    refine og_iload (pc := 514) dL_acts_514 rfl ?_
    refine og_iload (pc := 516) dL_acts_516 rfl ?_
    refine og_iload (pc := 518) dL_acts_518 rfl ?_
    refine og_iload (pc := 520) dL_acts_520 rfl ?_
    refine og_callSH (pc := 522) (As := [.ref 3, .int (nI a), .int (nI b), .int (nI r), .int s]) (rest := []) (l_adds (E := E) (d := d) W3.1 a8 b8 r8) YH_L_adds K_L_139 dL_acts_522 rfl rfl (Nat.le_of_ble_eq_true rfl) (by omega) (by omega) (by omega) (fun v9 n4 h4 z9 => ?_)
    rcases z9 with ⟨fit, rfl, w4⟩ | ⟨nofit, _⟩
    rotate_left
    · exact absurd (z1.mpr can) nofit
    have W4 := W3.call w4
    have F4 := (w4.fr c (by omega) hcm).trans F3
    refine og_iload (pc := 525) dL_acts_525 rfl ?_
    refine og_if_eq (pc := 527) (tgt := 538) dL_acts_527 (by decide) (fun q => absurd q (by decide)) (fun _ => ?_)
    refine og_aload (pc := 530) dL_acts_530 rfl ?_
    refine og_callS (pc := 532) (As := [.ref c]) (rest := [.long (q_inner (q_fv 0 (q_total (d_R D a) (d_R D b) s)) (q_fv 0 (q_total (d_R D a) (d_R D b) s)) 8)]) (c_L_square E d n4 c h4 F F4 (by omega)) Y_L_square S_L_square K_L_43 dL_acts_532 rfl rfl (Nat.le_of_ble_eq_true rfl) (by omega) (by omega) (by omega) (fun _ _ _ z => z) (fun v9 n9 h9 z9 => ?_)
    obtain ⟨rfl, e8, e9⟩ := z9
    have z3 : zE (q_fv 0 (q_total (d_R D a) (d_R D b) s)) (q_dv 1 F) := z2 fit
    rw [e8, e9, q_inn 8 z3, y_dv1]
    refine og_goto (pc := 535) (tgt := 541) dL_acts_535 (by decide) ?_
    refine og_lcmp (pc := 541) dL_acts_541 ?_
    refine og_if_ne (pc := 542) (tgt := 549) dL_acts_542 (by decide) (fun q => absurd ((og_cmp0 _ _).mpr rfl) q) (fun _ => ?_)
    refine og_iconst (pc := 545) (v := 1) dL_acts_545 (by decide) ?_
    refine og_goto (pc := 546) (tgt := 550) dL_acts_546 (by decide) ?_
    exact og_zret (pc := 550) hr rfl dL_acts_550 (by omega) (by omega) ⟨rfl, _, _, _, W4.l (hcp.fits (t := 0) (by omega) (by decide) r8 hE fit)⟩
  · rw [e3]
    refine og_istore_12 (pc := 511) dL_acts_511 rfl ?_
    refine og_aload_n (pc := 513) dL_acts_513 rfl ?_
    refine og_iload (pc := 514) dL_acts_514 rfl ?_
    refine og_iload (pc := 516) dL_acts_516 rfl ?_
    refine og_iload (pc := 518) dL_acts_518 rfl ?_
    refine og_iload (pc := 520) dL_acts_520 rfl ?_
    refine og_callSH (pc := 522) (As := [.ref 3, .int (nI a), .int (nI b), .int (nI r), .int s]) (rest := []) (l_adds (E := E) (d := d) W2.1 a8 b8 r8) YH_L_adds K_L_139 dL_acts_522 rfl rfl (Nat.le_of_ble_eq_true rfl) (by omega) (by omega) (by omega) (fun v9 n4 h4 z9 => ?_)
    rcases z9 with ⟨fit, _⟩ | ⟨nofit, rfl, w4⟩
    · exact absurd (z1.mp fit) can
    have W4 := W2.call w4
    refine og_iload (pc := 525) dL_acts_525 rfl ?_
    refine og_if_eq (pc := 527) (tgt := 538) dL_acts_527 (by decide) (fun _ => ?_) (fun q => absurd rfl q)
    refine og_ldc2 (pc := 538) LC_L_81 dL_acts_538 ?_
    refine og_lcmp (pc := 541) dL_acts_541 ?_
    refine og_if_ne (pc := 542) (tgt := 549) dL_acts_542 (by decide) (fun q => absurd ((og_cmp0 _ _).mpr rfl) q) (fun _ => ?_)
    refine og_iconst (pc := 545) (v := 1) dL_acts_545 (by decide) ?_
    refine og_goto (pc := 546) (tgt := 550) dL_acts_546 (by decide) ?_
    exact og_zret (pc := 550) hr rfl dL_acts_550 (by omega) (by omega) ⟨rfl, _, _, _, W4.l hcp⟩
theorem y_ac5a {E : og_E} {X : og_X} {d n L v w a b r : Nat} {xs : Nat → Int32} {x : Int32} {h : og_H} {D : q_D} {R g : Nat → Int32} (hr : og_ret X = some .boolean) (W : y_wl L xs n h D R g) (hv : v < 10000000) (a8 : a < 8) (b8 : b < 8) (r8 : r < 8) : og_G E RL cL_acts (d + 7) 300 2500 15 X (y_Qa E L xs X) 0 0 n h 455 (y_la x v w a b r [some (.int 1), none, none, none, none]) [] := by
  have hcp := W.2.2.2.2.2
  have h104 := W.nn
  have ra := y_row_e hcp a8
  have rb := y_row_e hcp b8
  refine og_aload_n (pc := 455) dL_acts_455 rfl ?_
  refine og_iload (pc := 456) dL_acts_456 rfl ?_
  refine og_callS (pc := 458) (As := [.ref 103, .int (nI b)]) (rest := []) (l_row (E := E) (d := d) W.m b8) Y_L_row S_L_row K_L_116 dL_acts_458 rfl rfl (Nat.le_of_ble_eq_true rfl) (by omega) (by omega) (by omega) (fun _ _ _ z => z) (fun v9 n1 h1 z9 => ?_)
  obtain ⟨rfl, rfl, W1, k1, ct1⟩ := z9
  refine og_astore_11 (pc := 461) dL_acts_461 rfl ?_
  refine og_iload (pc := 463) dL_acts_463 rfl ?_
  refine og_if_eq (pc := 465) (tgt := 482) dL_acts_465 (by decide) (fun q => absurd q (by decide)) (fun _ => ?_)
  refine og_aload_n (pc := 468) dL_acts_468 rfl ?_
  refine og_iload (pc := 469) dL_acts_469 rfl ?_
  refine og_callS (pc := 471) (As := [.ref 103, .int (nI a)]) (rest := []) (l_row (E := E) (d := d) W1 a8) Y_L_row S_L_row K_L_116 dL_acts_471 rfl rfl (Nat.le_of_ble_eq_true rfl) (by omega) (by omega) (by omega) (fun _ _ _ z => z) (fun v9 n2 h2 z9 => ?_)
  obtain ⟨rfl, rfl, W2, k2, ct2⟩ := z9
  have f2_rb := (k2 n (by omega)).trans ct1
  refine og_aload (pc := 474) dL_acts_474 rfl ?_
  refine og_callS (pc := 476) (As := [.ref (n + 1), .ref n]) (rest := []) (l_less (E := E) (d := d) W2 ct2 f2_rb (by omega) (by omega) (by omega) (by omega)) Y_L_less S_L_less K_L_31 dL_acts_476 rfl rfl (Nat.le_of_ble_eq_true rfl) (by omega) (by omega) (by omega) (fun _ _ _ z => z) (fun v9 n3 h3 z9 => ?_)
  obtain ⟨rfl, rfl, W3, k3, ct3⟩ := z9
  have f3_rb := (k3 n (by omega)).trans f2_rb
  have f3_ra := (k3 (n + 1) (by omega)).trans ct2
  refine og_goto (pc := 479) (tgt := 500) dL_acts_479 (by decide) ?_
  refine y_ac5t hr W hv a8 b8 r8 (by omega) (by omega) W3 (by omega) (by omega) ct3 (fun j hj => ?_)
  show d_R D a j - d_R D b j = y_row R a j - y_row R b j
  rw [ra j hj, rb j hj]
theorem y_ac5b {E : og_E} {X : og_X} {d n L v w a b r : Nat} {xs : Nat → Int32} {x : Int32} {h : og_H} {D : q_D} {R g : Nat → Int32} (hr : og_ret X = some .boolean) (W : y_wl L xs n h D R g) (hv : v < 10000000) (a8 : a < 8) (b8 : b < 8) (r8 : r < 8) : og_G E RL cL_acts (d + 7) 300 2500 15 X (y_Qa E L xs X) 0 0 n h 455 (y_la x v w a b r [some (.int 0), none, none, none, none]) [] := by
  have hcp := W.2.2.2.2.2
  have h104 := W.nn
  have ra := y_row_e hcp a8
  have rb := y_row_e hcp b8
  refine og_aload_n (pc := 455) dL_acts_455 rfl ?_
  refine og_iload (pc := 456) dL_acts_456 rfl ?_
  refine og_callS (pc := 458) (As := [.ref 103, .int (nI b)]) (rest := []) (l_row (E := E) (d := d) W.m b8) Y_L_row S_L_row K_L_116 dL_acts_458 rfl rfl (Nat.le_of_ble_eq_true rfl) (by omega) (by omega) (by omega) (fun _ _ _ z => z) (fun v9 n1 h1 z9 => ?_)
  obtain ⟨rfl, rfl, W1, k1, ct1⟩ := z9
  refine og_astore_11 (pc := 461) dL_acts_461 rfl ?_
  refine og_iload (pc := 463) dL_acts_463 rfl ?_
  refine og_if_eq (pc := 465) (tgt := 482) dL_acts_465 (by decide) (fun _ => ?_) (fun q => absurd rfl q)
  refine og_aload_n (pc := 482) dL_acts_482 rfl ?_
  refine og_iload (pc := 483) dL_acts_483 rfl ?_
  refine og_callS (pc := 485) (As := [.ref 103, .int (nI a)]) (rest := []) (l_row (E := E) (d := d) W1 a8) Y_L_row S_L_row K_L_116 dL_acts_485 rfl rfl (Nat.le_of_ble_eq_true rfl) (by omega) (by omega) (by omega) (fun _ _ _ z => z) (fun v9 n2 h2 z9 => ?_)
  obtain ⟨rfl, rfl, W2, k2, ct2⟩ := z9
  have f2_rb := (k2 n (by omega)).trans ct1
  refine og_bipush (pc := 488) (v := 8) dL_acts_488 (by decide) ?_
  refine og_newa (pc := 490) (k := 2) (N := 8) (x := (8, .inr (.inl (fun _ => 0)))) (atype := .long) AC_long rfl (by decide) dL_acts_490 (fun _ => rfl) (by decide) (by decide) (by decide) (by omega) (by omega) ?_
  have k20 : ∀ a, a < n + 1 + 1 → og_set h2 (n + 1 + 1) (rowL (fun _ => 0)) a = h2 a := fun a ha => og_set_ne _ _ (by omega)
  have W20 := W2.ext (n1 := n + 1 + 1 + 1) (Nat.le_succ _) k20
  have c20 : og_set h2 (n + 1 + 1) (rowL (fun _ => 0)) (n + 1 + 1) = some (rowL (fun _ => 0)) := og_set_eq _ _ _
  have f20_rb := (k20 n (by omega)).trans f2_rb
  have f20_ra := (k20 (n + 1) (by omega)).trans ct2
  show og_G E RL cL_acts (d + 7) 300 2500 15 X (y_Qa E L xs X) _ _ (n + 1 + 1 + 1) (og_set h2 (n + 1 + 1) (rowL (fun _ => 0))) _ _ _
  generalize og_set h2 (n + 1 + 1) (rowL (fun _ => 0)) = h20 at k20 W20 c20 f20_rb f20_ra ⊢
  refine og_aload (pc := 492) dL_acts_492 rfl ?_
  refine og_callS (pc := 494) (As := [.ref (n + 1 + 1), .ref n]) (rest := [.ref (n + 1)]) (l_less (E := E) (d := d) W20 c20 f20_rb (by omega) (by omega) (by omega) (by omega)) Y_L_less S_L_less K_L_31 dL_acts_494 rfl rfl (Nat.le_of_ble_eq_true rfl) (by omega) (by omega) (by omega) (fun _ _ _ z => z) (fun v9 n3 h3 z9 => ?_)
  obtain ⟨rfl, rfl, W3, k3, ct3⟩ := z9
  have f3_rb := (k3 n (by omega)).trans f20_rb
  have f3_ra := (k3 (n + 1) (by omega)).trans f20_ra
  have f3_z := (k3 (n + 1 + 1) (by omega)).trans c20
  refine og_callS (pc := 497) (As := [.ref (n + 1), .ref (n + 1 + 1 + 1)]) (rest := []) (l_less (E := E) (d := d) W3 f3_ra ct3 (by omega) (by omega) (by omega) (by omega)) Y_L_less S_L_less K_L_31 dL_acts_497 rfl rfl (Nat.le_of_ble_eq_true rfl) (by omega) (by omega) (by omega) (fun _ _ _ z => z) (fun v9 n4 h4 z9 => ?_)
  obtain ⟨rfl, rfl, W4, k4, ct4⟩ := z9
  have f4_rb := (k4 n (by omega)).trans f3_rb
  have f4_ra := (k4 (n + 1) (by omega)).trans f3_ra
  have f4_z := (k4 (n + 1 + 1) (by omega)).trans f3_z
  have f4_nb := (k4 (n + 1 + 1 + 1) (by omega)).trans ct3
  refine y_ac5t hr W hv a8 b8 r8 (by omega) (by omega) W4 (by omega) (by omega) ct4 (fun j hj => ?_)
  show d_R D a j + d_R D b j = y_row R a j - (0 - y_row R b j)
  rw [ra j hj, rb j hj, Int64.zero_sub, Int64.sub_neg]
theorem y_ac5 {E : og_E} {X : og_X} {d n L v w a b r : Nat} {xs : Nat → Int32} {x : Int32} {h : og_H} {D : q_D} {R g : Nat → Int32} (hr : og_ret X = some .boolean) (W : y_wl L xs n h D R g) (hv : v < 10000000) (a8 : a < 8) (b8 : b < 8) (r8 : r < 8) : og_G E RL cL_acts (d + 7) 300 2500 15 X (y_Qa E L xs X) 0 0 n h 441 (y_la x v w a b r [none, none, none, none, none]) [] := by
  refine og_iload (pc := 441) dL_acts_441 rfl ?_
  refine og_iconst (pc := 443) (v := 3) dL_acts_443 (by decide) ?_
  refine og_irem (pc := 444) dL_acts_444 (by decide) ?_
  refine og_if_ne (pc := 445) (tgt := 452) dL_acts_445 (by decide) (fun _ => ?_) (fun _ => ?_)
  · refine og_iconst (pc := 452) (v := 0) dL_acts_452 (by decide) ?_
    refine og_istore_10 (pc := 453) dL_acts_453 rfl ?_
    exact y_ac5b hr W hv a8 b8 r8
  · refine og_iconst (pc := 448) (v := 1) dL_acts_448 (by decide) ?_
    refine og_goto (pc := 449) (tgt := 453) dL_acts_449 (by decide) ?_
    refine og_istore_10 (pc := 453) dL_acts_453 rfl ?_
    exact y_ac5a hr W hv a8 b8 r8
