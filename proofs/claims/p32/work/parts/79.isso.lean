/-! ===== the law: isSo ===== -/
theorem y_zun_in {o u : Nat} (ho : o < 8) (hu : u < q_cnt o) : q_al o (q_row (zun o u)) := by
  have hl := (mL_ok ho).2
  have h : u < (mL o).length := by omega
  have e : zun o u = (mL o)[u] := by
    unfold zun
    rw [List.getD_eq_getElem?_getD, List.getElem?_eq_getElem h]
    rfl
  rw [y_inB ho (zun_mem ho hu), e]
  exact (List.mem_filter.mp (List.getElem_mem h)).2
theorem y_uno_not {o : Nat} (ho : o < 8) {f : Nat → Int64} (hf : zok f) (h : ¬ q_al o f ∨ q_inner f f 8 ≠ 4) : q_uno o f = -1 := by
  refine q_uno_0 ?_
  by_cases a : q_inner f f 8 = 4
  · refine Or.inr fun j hj q => ?_
    have e := (zun_iff ho hj hf).mp ⟨a, q⟩
    rcases h with h | h
    · exact h ((y_al ho (fun k hk => by rw [← e k hk, zurd ho hj hk])).mpr (y_zun_in ho hj))
    · exact h a
  · exact Or.inl a
theorem y_lin (f g1 g2 : Nat → Int64) (e : ∀ j, j < 8 → g2 j = 2 * g1 j) : ∀ b, b < 8 → q_prod f g2 b = 2 * q_prod f g1 b := by
  have e0 := e 0 (by omega)
  have e1 := e 1 (by omega)
  have e2 := e 2 (by omega)
  have e3 := e 3 (by omega)
  have e4 := e 4 (by omega)
  have e5 := e 5 (by omega)
  have e6 := e 6 (by omega)
  have e7 := e 7 (by omega)
  intro b hb
  match b, hb with
  | 0, _ => simp only [q_prod, e0, e1, e2, e3, e4, e5, e6, e7]; grind
  | 1, _ => simp only [q_prod, e0, e1, e2, e3, e4, e5, e6, e7]; grind
  | 2, _ => simp only [q_prod, e0, e1, e2, e3, e4, e5, e6, e7]; grind
  | 3, _ => simp only [q_prod, e0, e1, e2, e3, e4, e5, e6, e7]; grind
  | 4, _ => simp only [q_prod, e0, e1, e2, e3, e4, e5, e6, e7]; grind
  | 5, _ => simp only [q_prod, e0, e1, e2, e3, e4, e5, e6, e7]; grind
  | 6, _ => simp only [q_prod, e0, e1, e2, e3, e4, e5, e6, e7]; grind
  | 7, _ => simp only [q_prod, e0, e1, e2, e3, e4, e5, e6, e7]; grind
  | b + 8, h => exact absurd h (by omega)
theorem y_one_zok : ∀ k, k < 8 → zok (vp_updL (fun _ => 0) k 1) := by
  unfold zok
  decide +kernel
theorem y_left {f : Nat → Int64} (hf : zok f) {k b : Nat} (hk : k < 8) (hb : b < 8) : ((q_prod f (vp_updL (fun _ => 0) k 1) b).toInt32).toInt64 = q_prod f (vp_updL (fun _ => 0) k 2) b / 2 := by
  rw [y_lin f (vp_updL (fun _ => 0) k 1) (vp_updL (fun _ => 0) k 2) (fun j _ => by
    unfold vp_updL
    by_cases e : j = k
    · rw [if_pos e, if_pos e]; rfl
    · rw [if_neg e, if_neg e]; rfl) b hb]
  obtain ⟨p1, p2, p3⟩ := zprod_i hf (y_one_zok k hk) b hb
  rw [← p1] at p2 p3
  generalize q_prod f (vp_updL (fun _ => 0) k 1) b = x at p2 p3
  rw [zt3264 (by omega) (by omega), zeq, zdiv (by decide), zmul (by rw [show (2 : Int64).toInt = 2 from rfl]; omega) (by rw [show (2 : Int64).toInt = 2 from rfl]; omega), show (2 : Int64).toInt = 2 from rfl]
  exact (Int.mul_tdiv_cancel_left _ (by decide)).symm
theorem y_row_e {D : q_D} {R g : Nat → Int32} (w : y_cp D R g) {r : Nat} (hr : r < 8) : ∀ j, j < 8 → y_row R r j = d_R D r j := fun j hj => w.v hr hj
set_option maxHeartbeats 2000000 in
set_option maxRecDepth 8000 in
theorem c_L_isSo (E : og_E) (d n zq L : Nat) (xs : Nat → Int32) (h : og_H) (D : q_D) (R g : Nat → Int32) (W : y_wl L xs n h D R g) (hz : zq < 100000) :
    og_M E yL_isSo (.code yL_isSo cL_isSo 15 (some .boolean)) (d + 7) [.ref 3, .ref 102, .ref 103, .ref 101, .int (nI zq)] n h 2168 18784 (fun v n1 h1 => v = some (.int 1) ∧ ∃ D1, d_st D1 = d_st D ∧ y_wl L xs n1 h1 D1 R g) no_x := by
  refine og_start (lv := [some (.ref 3), some (.ref 102), some (.ref 103), some (.ref 101), some (.int (nI zq)), none, none, none, none, none, none, none, none, none, none]) (by decide) rfl rfl (Nat.le_of_ble_eq_true rfl) fun X hr hnm htb => ?_
  have hcp := W.2.2.2.2.2
  have ho := W.o8
  have part2 : ∀ (n1 : Nat) (h1 : og_H) (D1 : q_D) (cells slots : Nat), d_st D1 = d_st D → y_wl L xs n1 h1 D1 R g → cells ≤ 2112 → slots ≤ 18400 → og_G E RL cL_isSo (d + 7) 2168 18784 15 X (og_Q E (fun v n1 h1 => v = some (.int 1) ∧ ∃ D1, d_st D1 = d_st D ∧ y_wl L xs n1 h1 D1 R g) no_x 2168 18784 X) cells slots n1 h1 241 [some (.ref 3), some (.ref 102), some (.ref 103), some (.ref 101), some (.int (nI zq)), some (.int (nI (q_many (fun r => q_al (d_o D) (d_R D r)) 8))), some (.int (nI (q_many (fun r => q_zr (d_R D r)) 8))), some (.int 1), some (.int (nI 8)), none, none, none, none, none, none] [] := by
    intro n1 h1 D1 cells slots e1 W1 hc hs
    have h104 := W1.nn
    have ea : nI zq - nI zq / 8 * 8 = nI (zq % 8) := nI_mod (b := 8) (by omega) (by omega) (by omega)
    have eb : nI zq / 8 - nI zq / 8 / 8 * 8 = nI (zq / 8 % 8) := by
      rw [show nI zq / 8 = nI (zq / 8) from nI_div (b := 8) (by omega) (by omega) (by omega)]
      exact nI_mod (b := 8) (by omega) (by omega) (by omega)
    have a8 : zq % 8 < 8 := by omega
    have b8 : zq / 8 % 8 < 8 := by omega
    refine og_iload (pc := 241) dL_isSo_241 rfl ?_
    refine og_bipush (pc := 243) (v := 8) dL_isSo_243 (by decide) ?_
    refine og_irem (pc := 245) dL_isSo_245 (by decide) ?_
    rw [ea]
    refine og_istore_8 (pc := 246) dL_isSo_246 rfl ?_
    refine og_iload (pc := 248) dL_isSo_248 rfl ?_
    refine og_bipush (pc := 250) (v := 8) dL_isSo_250 (by decide) ?_
    refine og_idiv (pc := 252) dL_isSo_252 (by decide) ?_
    refine og_bipush (pc := 253) (v := 8) dL_isSo_253 (by decide) ?_
    refine og_irem (pc := 255) dL_isSo_255 (by decide) ?_
    rw [eb]
    generalize zq % 8 = a at a8 ⊢
    generalize zq / 8 % 8 = b at b8 ⊢
    refine og_istore_9 (pc := 256) dL_isSo_256 rfl ?_
    refine og_lconst (pc := 258) (v := 0) dL_isSo_258 (by decide) ?_
    refine og_lstore_10 (pc := 259) dL_isSo_259 rfl ?_
    refine og_iconst (pc := 261) (v := 0) dL_isSo_261 (by decide) ?_
    refine og_istore_12 (pc := 262) dL_isSo_262 rfl ?_
    suffices hh : ∀ c k, k + c = 8 → ∀ (n1 : Nat) (h1 : og_H) (D1 : q_D) (cells slots : Nat), d_st D1 = d_st D → y_wl L xs n1 h1 D1 R g → cells ≤ 2112 + 6 * k → slots ≤ 18400 + 42 * k → og_G E RL cL_isSo (d + 7) 2168 18784 15 X (og_Q E (fun v n1 h1 => v = some (.int 1) ∧ ∃ D1, d_st D1 = d_st D ∧ y_wl L xs n1 h1 D1 R g) no_x 2168 18784 X) cells slots n1 h1 264 [some (.ref 3), some (.ref 102), some (.ref 103), some (.ref 101), some (.int (nI zq)), some (.int (nI (q_many (fun r => q_al (d_o D) (d_R D r)) 8))), some (.int (nI (q_many (fun r => q_zr (d_R D r)) 8))), some (.int 1), some (.int (nI a)), some (.int (nI b)), some (.long (q_inner (d_R D a) (d_R D b) k)), none, some (.int (nI k)), none, none] [] from
      hh 8 0 rfl n1 h1 D1 _ _ e1 W1 (by omega) (by omega)
    clear W1 hc hs e1 h104
    intro c
    induction c with
    | zero =>
      intro k hk n1 h1 D1 cells slots e1 W1 hc hs
      obtain rfl : k = 8 := by omega
      have eR : ∀ r, d_R D1 r = d_R D r := fun r => by unfold d_R; rw [e1]
      have eo : d_o D1 = d_o D := by unfold d_o; rw [e1]
      refine og_iload (pc := 264) dL_isSo_264 rfl ?_
      refine og_bipush (pc := 266) (v := 8) dL_isSo_266 (by decide) ?_
      refine og_geN (pc := 268) (tgt := 369) (i := 8) (N := 8) dL_isSo_268 (by decide) rfl rfl (by omega) (by omega) (fun c_268 => ?_) (fun c_268 => ?_)
      rotate_left
      · omega
      refine og_iload (pc := 369) dL_isSo_369 rfl ?_
      refine og_if_eq (pc := 371) (tgt := 459) dL_isSo_371 (by decide) (fun q => absurd q (by decide)) (fun _ => ?_)
      refine og_aload_n (pc := 374) dL_isSo_374 rfl ?_
      refine og_iload (pc := 375) dL_isSo_375 rfl ?_
      refine og_iload (pc := 377) dL_isSo_377 rfl ?_
      refine og_callSH (pc := 379) (As := [.ref 3, .int (nI a), .int (nI b)]) (rest := []) (l_dot (E := E) (d := d) W1.1 a8 b8) YH_L_dotOf K_L_205 dL_isSo_379 rfl rfl (Nat.le_of_ble_eq_true rfl) (by omega) (by omega) (by omega) (fun v n2 h2 z9 => ?_)
      obtain ⟨rfl, w2⟩ := z9
      have W2 := W1.call w2 rfl
      rw [eR, eR]
      refine og_lload (pc := 382) dL_isSo_382 rfl ?_
      refine og_lcmp (pc := 384) dL_isSo_384 ?_
      refine og_if_ne (pc := 385) (tgt := 459) dL_isSo_385 (by decide) (fun q => absurd ((og_cmp0 _ _).mpr rfl) q) (fun _ => ?_)
      refine og_aload_n (pc := 388) dL_isSo_388 rfl ?_
      refine og_iconst (pc := 389) (v := 0) dL_isSo_389 (by decide) ?_
      refine og_callSH (pc := 390) (As := [.ref 3, .int (nI 0)]) (rest := []) (l_value (E := E) (d := d) W2.1 (k := 0) (by omega)) YH_L_valueOf K_L_209 dL_isSo_390 rfl rfl (Nat.le_of_ble_eq_true rfl) (by omega) (by omega) (by omega) (fun v n3 h3 z9 => ?_)
      obtain ⟨rfl, w3⟩ := z9
      have W3 := W2.call w3 rfl
      have f3 := W3.2.2.1
      rw [show q_val D1 0 = nI (d_o D) from congrArg nI eo]
      refine og_aload_n (pc := 393) dL_isSo_393 rfl ?_
      refine og_iconst (pc := 394) (v := 0) dL_isSo_394 (by decide) ?_
      refine og_ialdN (pc := 395) (j := 0) rfl dL_isSo_395 (by repeat (first | exact og_set_eq _ _ _ | assumption | refine (og_set_ne _ _ (by first | assumption | omega)).trans ?_)) (by omega) (by omega) (by first | decide | assumption | omega) ?_
      rw [hcp.2.1]
      refine og_icmp_ne (pc := 396) (tgt := 459) dL_isSo_396 (by decide) (fun q => absurd rfl q) (fun _ => ?_)
      refine og_aload_n (pc := 399) dL_isSo_399 rfl ?_
      refine og_iconst (pc := 400) (v := 1) dL_isSo_400 (by decide) ?_
      refine og_callSH (pc := 401) (As := [.ref 3, .int (nI 1)]) (rest := []) (l_value (E := E) (d := d) W3.1 (k := 1) (by omega)) YH_L_valueOf K_L_209 dL_isSo_401 rfl rfl (Nat.le_of_ble_eq_true rfl) (by omega) (by omega) (by omega) (fun v n4 h4 z9 => ?_)
      obtain ⟨rfl, w4⟩ := z9
      have W4 := W3.call w4 rfl
      have f4 := W4.2.2.1
      rw [show q_val D1 1 = nI (q_cnt (d_o D)) from by rw [← eo]; rfl]
      refine og_aload_n (pc := 404) dL_isSo_404 rfl ?_
      refine og_iconst (pc := 405) (v := 0) dL_isSo_405 (by decide) ?_
      refine og_ialdN (pc := 406) (j := 0) rfl dL_isSo_406 (by repeat (first | exact og_set_eq _ _ _ | assumption | refine (og_set_ne _ _ (by first | assumption | omega)).trans ?_)) (by omega) (by omega) (by first | decide | assumption | omega) ?_
      rw [hcp.2.1]
      refine og_callS (pc := 407) (As := [.int (nI (d_o D))]) (rest := [.int (nI (q_cnt (d_o D)))]) (c_L_many E d n4 (d_o D) h4 ho) Y_L_many S_L_many K_L_124 dL_isSo_407 rfl rfl (Nat.le_of_ble_eq_true rfl) (by omega) (by omega) (by omega) (fun _ _ _ z => z) (fun v n9 h9 z9 => ?_)
      obtain ⟨e8, e9, rfl⟩ := z9
      rw [e8, e9]
      refine og_icmp_ne (pc := 410) (tgt := 459) dL_isSo_410 (by decide) (fun q => absurd rfl q) (fun _ => ?_)
      refine og_aload_n (pc := 413) dL_isSo_413 rfl ?_
      refine og_iconst (pc := 414) (v := 2) dL_isSo_414 (by decide) ?_
      refine og_callSH (pc := 415) (As := [.ref 3, .int (nI 2)]) (rest := []) (l_value (E := E) (d := d) W4.1 (k := 2) (by omega)) YH_L_valueOf K_L_209 dL_isSo_415 rfl rfl (Nat.le_of_ble_eq_true rfl) (by omega) (by omega) (by omega) (fun v n5 h5 z9 => ?_)
      obtain ⟨rfl, w5⟩ := z9
      have W5 := W4.call w5 rfl
      have f5 := W5.2.2.1
      rw [show q_val D1 2 = (d_st D).2.2.1 from by rw [← e1]; rfl]
      refine og_aload_n (pc := 418) dL_isSo_418 rfl ?_
      refine og_iconst (pc := 419) (v := 1) dL_isSo_419 (by decide) ?_
      refine og_ialdN (pc := 420) (j := 1) rfl dL_isSo_420 (by repeat (first | exact og_set_eq _ _ _ | assumption | refine (og_set_ne _ _ (by first | assumption | omega)).trans ?_)) (by omega) (by omega) (by first | decide | assumption | omega) ?_
      rw [hcp.2.2.1]
      refine og_icmp_ne (pc := 421) (tgt := 459) dL_isSo_421 (by decide) (fun q => absurd rfl q) (fun _ => ?_)
      refine og_aload_n (pc := 424) dL_isSo_424 rfl ?_
      refine og_iconst (pc := 425) (v := 3) dL_isSo_425 (by decide) ?_
      refine og_callSH (pc := 426) (As := [.ref 3, .int (nI 3)]) (rest := []) (l_value (E := E) (d := d) W5.1 (k := 3) (by omega)) YH_L_valueOf K_L_209 dL_isSo_426 rfl rfl (Nat.le_of_ble_eq_true rfl) (by omega) (by omega) (by omega) (fun v n6 h6 z9 => ?_)
      obtain ⟨rfl, w6⟩ := z9
      have W6 := W5.call w6 rfl
      have f6 := W6.2.2.1
      rw [show q_val D1 3 = (d_st D).2.2.2 from by rw [← e1]; rfl]
      refine og_aload_n (pc := 429) dL_isSo_429 rfl ?_
      refine og_iconst (pc := 430) (v := 2) dL_isSo_430 (by decide) ?_
      refine og_ialdN (pc := 431) (j := 2) rfl dL_isSo_431 (by repeat (first | exact og_set_eq _ _ _ | assumption | refine (og_set_ne _ _ (by first | assumption | omega)).trans ?_)) (by omega) (by omega) (by first | decide | assumption | omega) ?_
      rw [hcp.2.2.2]
      refine og_icmp_ne (pc := 432) (tgt := 459) dL_isSo_432 (by decide) (fun q => absurd rfl q) (fun _ => ?_)
      refine og_aload_n (pc := 435) dL_isSo_435 rfl ?_
      refine og_iconst (pc := 436) (v := 4) dL_isSo_436 (by decide) ?_
      refine og_callSH (pc := 437) (As := [.ref 3, .int (nI 4)]) (rest := []) (l_value (E := E) (d := d) W6.1 (k := 4) (by omega)) YH_L_valueOf K_L_209 dL_isSo_437 rfl rfl (Nat.le_of_ble_eq_true rfl) (by omega) (by omega) (by omega) (fun v n7 h7 z9 => ?_)
      obtain ⟨rfl, w7⟩ := z9
      have W7 := W6.call w7 rfl
      have f7 := W7.2.2.1
      rw [show q_val D1 4 = nI (q_many (fun r => q_al (d_o D) (d_R D r)) 8) from by unfold d_o d_R; rw [← e1]; rfl]
      refine og_iload (pc := 440) dL_isSo_440 rfl ?_
      refine og_icmp_ne (pc := 442) (tgt := 459) dL_isSo_442 (by decide) (fun q => absurd rfl q) (fun _ => ?_)
      refine og_aload_n (pc := 445) dL_isSo_445 rfl ?_
      refine og_iconst (pc := 446) (v := 5) dL_isSo_446 (by decide) ?_
      refine og_callSH (pc := 447) (As := [.ref 3, .int (nI 5)]) (rest := []) (l_value (E := E) (d := d) W7.1 (k := 5) (by omega)) YH_L_valueOf K_L_209 dL_isSo_447 rfl rfl (Nat.le_of_ble_eq_true rfl) (by omega) (by omega) (by omega) (fun v n8 h8 z9 => ?_)
      obtain ⟨rfl, w8⟩ := z9
      have W8 := W7.call w8 rfl
      have f8 := W8.2.2.1
      rw [show q_val D1 5 = nI (q_many (fun r => q_zr (d_R D r)) 8) from by unfold d_R; rw [← e1]; rfl]
      refine og_iload (pc := 450) dL_isSo_450 rfl ?_
      refine og_icmp_ne (pc := 452) (tgt := 459) dL_isSo_452 (by decide) (fun q => absurd rfl q) (fun _ => ?_)
      refine og_iconst (pc := 455) (v := 1) dL_isSo_455 (by decide) ?_
      refine og_goto (pc := 456) (tgt := 460) dL_isSo_456 (by decide) ?_
      exact og_zret (pc := 460) hr rfl dL_isSo_460 (by omega) (by omega) ⟨rfl, D1, e1, W8⟩
    | succ c ih =>
      intro k hk n1 h1 D1 cells slots e1 W1 hc hs
      have hk8 : k < 8 := by omega
      have h104 := W1.nn
      have eR : ∀ r, d_R D1 r = d_R D r := fun r => by unfold d_R; rw [e1]
      have r1 := W1.2.2.2.1
      refine og_iload (pc := 264) dL_isSo_264 rfl ?_
      refine og_bipush (pc := 266) (v := 8) dL_isSo_266 (by decide) ?_
      refine og_geN (pc := 268) (tgt := 369) (i := k) (N := 8) dL_isSo_268 (by decide) rfl rfl (by omega) (by omega) (fun c_268 => ?_) (fun c_268 => ?_)
      · omega
      refine og_lload (pc := 271) dL_isSo_271 rfl ?_
      refine og_aload_n (pc := 273) dL_isSo_273 rfl ?_
      refine og_bipush (pc := 274) (v := 8) dL_isSo_274 (by decide) ?_
      refine og_iload (pc := 276) dL_isSo_276 rfl ?_
      refine og_imul (pc := 278) dL_isSo_278 ?_
      refine og_iload (pc := 279) dL_isSo_279 rfl ?_
      refine og_iadd (pc := 281) dL_isSo_281 ?_
      refine og_ialdN (pc := 282) (j := (8 * a + k)) (og_i8 a k) dL_isSo_282 (by repeat (first | exact og_set_eq _ _ _ | assumption | refine (og_set_ne _ _ (by first | assumption | omega)).trans ?_)) (by omega) (by omega) (by first | decide | assumption | omega) ?_
      refine og_i2l (pc := 283) dL_isSo_283 rfl ?_
      refine og_aload_n (pc := 284) dL_isSo_284 rfl ?_
      refine og_bipush (pc := 285) (v := 8) dL_isSo_285 (by decide) ?_
      refine og_iload (pc := 287) dL_isSo_287 rfl ?_
      refine og_imul (pc := 289) dL_isSo_289 ?_
      refine og_iload (pc := 290) dL_isSo_290 rfl ?_
      refine og_iadd (pc := 292) dL_isSo_292 ?_
      refine og_ialdN (pc := 293) (j := (8 * b + k)) (og_i8 b k) dL_isSo_293 (by repeat (first | exact og_set_eq _ _ _ | assumption | refine (og_set_ne _ _ (by first | assumption | omega)).trans ?_)) (by omega) (by omega) (by first | decide | assumption | omega) ?_
      refine og_i2l (pc := 294) dL_isSo_294 rfl ?_
      refine og_lmul (pc := 295) dL_isSo_295 ?_
      refine og_ladd (pc := 296) dL_isSo_296 ?_
      refine og_lstore_10 (pc := 297) dL_isSo_297 rfl ?_
      refine og_bipush (pc := 299) (v := 8) dL_isSo_299 (by decide) ?_
      rw [hcp.v a8 hk8, hcp.v b8 hk8]
      refine og_newa (pc := 301) (k := 2) (N := 8) (x := (8, .inr (.inl (fun _ => 0)))) (atype := .long) AC_long rfl (by decide) dL_isSo_301 (fun _ => rfl) (by decide) (by decide) (by decide) (by omega) (by omega) ?_
      refine og_astore_13 (pc := 303) dL_isSo_303 rfl ?_
      refine og_aload (pc := 305) dL_isSo_305 rfl ?_
      refine og_iload (pc := 307) dL_isSo_307 rfl ?_
      refine og_ldc2 (pc := 309) LC_L_23 dL_isSo_309 ?_
      refine og_lastN (pc := 312) (j := k) rfl dL_isSo_312 (by repeat (first | exact og_set_eq _ _ _ | assumption | refine (og_set_ne _ _ (by first | assumption | omega)).trans ?_)) (by omega) (by omega) (by first | decide | assumption | omega) ?_
      refine og_aload_n (pc := 313) dL_isSo_313 rfl ?_
      refine og_aload_n (pc := 314) dL_isSo_314 rfl ?_
      refine og_iload (pc := 315) dL_isSo_315 rfl ?_
      rw [og_set_set]
      have a2 : og_set h1 n1 (rowL (vp_updL (fun _ => 0) k 2)) n1 = some (rowL (vp_updL (fun _ => 0) k 2)) := og_set_eq _ _ _
      have W2 : y_wl L xs (n1 + 1) (og_set h1 n1 (rowL (vp_updL (fun _ => 0) k 2))) D1 R g := W1.ext (Nat.le_succ _) (fun a ha => og_set_ne _ _ (by omega))
      generalize og_set h1 n1 (rowL (vp_updL (fun _ => 0) k 2)) = h2 at a2 W2 ⊢
      refine og_callS (pc := 317) (As := [.ref 103, .int (nI a)]) (rest := [.ref 101]) (c_L_row E d (n1 + 1) 103 a h2 R W2.2.2.2.1 (by omega) (by omega) a8) Y_L_row S_L_row K_L_116 dL_isSo_317 rfl rfl (Nat.le_of_ble_eq_true rfl) (by omega) (by omega) (by omega) (fun _ _ _ z => z) (fun v n9 h9 z9 => ?_)
      obtain ⟨rfl, rfl, e9⟩ := z9
      rw [e9]
      refine og_congL (d_R D a) (og_set_eq _ _ _) (by omega) (y_row_e hcp a8) ?_
      rw [og_set_set]
      have a3 : og_set h2 (n1 + 1) (rowL (d_R D a)) (n1 + 1) = some (rowL (d_R D a)) := og_set_eq _ _ _
      have a4 : og_set h2 (n1 + 1) (rowL (d_R D a)) n1 = some (rowL (vp_updL (fun _ => 0) k 2)) := (og_set_ne _ _ (by omega)).trans a2
      have W3 : y_wl L xs (n1 + 1 + 1) (og_set h2 (n1 + 1) (rowL (d_R D a))) D1 R g := W2.ext (Nat.le_succ _) (fun a ha => og_set_ne _ _ (by omega))
      clear e9
      generalize og_set h2 (n1 + 1) (rowL (d_R D a)) = h3 at a3 a4 W3 ⊢
      refine og_aload (pc := 320) dL_isSo_320 rfl ?_
      refine og_callS (pc := 322) (As := [.ref 101, .ref (n1 + 1), .ref n1]) (rest := []) (c_L_product E d (n1 + 1 + 1) 101 (n1 + 1) n1 h3 _ _ W3.2.1 a3 a4 (by omega) (by omega) (by omega) (by omega) (by omega) (by omega)) Y_L_product S_L_product K_L_39 dL_isSo_322 rfl rfl (Nat.le_of_ble_eq_true rfl) (by omega) (by omega) (by omega) (fun _ _ _ z => z) (fun v n9 h9 z9 => ?_)
      obtain ⟨rfl, rfl, e9⟩ := z9
      rw [e9]
      have a5 : og_set h3 (n1 + 1 + 1) (rowL (q_prod (d_R D a) (vp_updL (fun _ => 0) k 2))) (n1 + 1 + 1) = some (rowL (q_prod (d_R D a) (vp_updL (fun _ => 0) k 2))) := og_set_eq _ _ _
      have W4 : y_wl L xs (n1 + 1 + 1 + 1) (og_set h3 (n1 + 1 + 1) (rowL (q_prod (d_R D a) (vp_updL (fun _ => 0) k 2)))) D1 R g := W3.ext (Nat.le_succ _) (fun a ha => og_set_ne _ _ (by omega))
      clear e9
      generalize og_set h3 (n1 + 1 + 1) (rowL (q_prod (d_R D a) (vp_updL (fun _ => 0) k 2))) = h4 at a5 W4 ⊢
      refine og_astore_14 (pc := 325) dL_isSo_325 rfl ?_
      refine og_iload (pc := 327) dL_isSo_327 rfl ?_
      refine og_if_eq (pc := 329) (tgt := 360) dL_isSo_329 (by decide) (fun q => absurd q (by decide)) (fun _ => ?_)
      refine og_aload_n (pc := 332) dL_isSo_332 rfl ?_
      refine og_iload (pc := 333) dL_isSo_333 rfl ?_
      refine og_iload (pc := 335) dL_isSo_335 rfl ?_
      refine og_iload (pc := 337) dL_isSo_337 rfl ?_
      refine og_callSH (pc := 339) (As := [.ref 3, .int (nI a), .int (nI b), .int (nI k)]) (rest := []) (l_left (E := E) (d := d) W4.1 a8 b8 hk8) YH_L_leftOf K_L_202 dL_isSo_339 rfl rfl (Nat.le_of_ble_eq_true rfl) (by omega) (by omega) (by omega) (fun v n5 h5 z9 => ?_)
      obtain ⟨rfl, w5⟩ := z9
      have W5 := W4.call w5 rfl
      have a6 := (w5.fr (n1 + 1 + 1) (by omega) (by omega)).trans a5
      refine og_i2l (pc := 342) dL_isSo_342 rfl ?_
      refine og_aload (pc := 343) dL_isSo_343 rfl ?_
      refine og_iload (pc := 345) dL_isSo_345 rfl ?_
      refine og_laldN (pc := 347) (j := b) rfl dL_isSo_347 (by repeat (first | exact og_set_eq _ _ _ | assumption | refine (og_set_ne _ _ (by first | assumption | omega)).trans ?_)) (by omega) (by omega) (by first | decide | assumption | omega) ?_
      refine og_ldc2 (pc := 348) LC_L_23 dL_isSo_348 ?_
      refine og_ldiv (pc := 351) dL_isSo_351 (by decide) ?_
      rw [eR, y_left (hcp.ok a8) hk8 b8]
      refine og_lcmp (pc := 352) dL_isSo_352 ?_
      refine og_if_ne (pc := 353) (tgt := 360) dL_isSo_353 (by decide) (fun q => absurd ((og_cmp0 _ _).mpr rfl) q) (fun _ => ?_)
      refine og_iconst (pc := 356) (v := 1) dL_isSo_356 (by decide) ?_
      refine og_goto (pc := 357) (tgt := 361) dL_isSo_357 (by decide) ?_
      refine og_istore_7 (pc := 361) dL_isSo_361 rfl ?_
      refine og_iinc_12 (pc := 363) dL_isSo_363 (og_inc k) rfl ?_
      refine og_goto (pc := 366) (tgt := 264) dL_isSo_366 (by decide) ?_
      refine og_forget_13 (og_forget_14 ?_)
      exact ih (k + 1) (by omega) n5 h5 D1 _ _ e1 W5 (by omega) (by omega)
  refine og_iconst (pc := 0) (v := 0) dL_isSo_0 (by decide) ?_
  refine og_istore_5 (pc := 1) dL_isSo_1 rfl ?_
  refine og_iconst (pc := 3) (v := 0) dL_isSo_3 (by decide) ?_
  refine og_istore_6 (pc := 4) dL_isSo_4 rfl ?_
  refine og_iconst (pc := 6) (v := 1) dL_isSo_6 (by decide) ?_
  refine og_istore_7 (pc := 7) dL_isSo_7 rfl ?_
  refine og_iconst (pc := 9) (v := 0) dL_isSo_9 (by decide) ?_
  refine og_istore_8 (pc := 10) dL_isSo_10 rfl ?_
  suffices hh : ∀ c r, r + c = 8 → ∀ (n1 : Nat) (h1 : og_H) (D1 : q_D) (cells slots : Nat), d_st D1 = d_st D → y_wl L xs n1 h1 D1 R g → cells ≤ 264 * r → slots ≤ 2300 * r → og_G E RL cL_isSo (d + 7) 2168 18784 15 X (og_Q E (fun v n1 h1 => v = some (.int 1) ∧ ∃ D1, d_st D1 = d_st D ∧ y_wl L xs n1 h1 D1 R g) no_x 2168 18784 X) cells slots n1 h1 12 [some (.ref 3), some (.ref 102), some (.ref 103), some (.ref 101), some (.int (nI zq)), some (.int (nI (q_many (fun r => q_al (d_o D) (d_R D r)) r))), some (.int (nI (q_many (fun r => q_zr (d_R D r)) r))), some (.int 1), some (.int (nI r)), none, none, none, none, none, none] [] from
    hh 8 0 rfl n h D 0 0 rfl W (by omega) (by omega)
  intro c
  induction c with
  | zero =>
    intro r hrc n1 h1 D1 cells slots e1 W1 hc hs
    obtain rfl : r = 8 := by omega
    refine og_iload (pc := 12) dL_isSo_12 rfl ?_
    refine og_bipush (pc := 14) (v := 8) dL_isSo_14 (by decide) ?_
    refine og_geN (pc := 16) (tgt := 241) (i := 8) (N := 8) dL_isSo_16 (by decide) rfl rfl (by omega) (by omega) (fun c_16 => ?_) (fun c_16 => ?_)
    · exact part2 n1 h1 D1 cells slots e1 W1 (by omega) (by omega)
    · omega
  | succ c ih =>
    intro r hrc n1 h1 D1 cells slots e1 W1 hc hs
    have hr8 : r < 8 := by omega
    have eR : d_R D1 r = d_R D r := by unfold d_R; rw [e1]
    have eo : d_o D1 = d_o D := by unfold d_o; rw [e1]
    have h104 := W1.nn
    refine og_iload (pc := 12) dL_isSo_12 rfl ?_
    refine og_bipush (pc := 14) (v := 8) dL_isSo_14 (by decide) ?_
    refine og_geN (pc := 16) (tgt := 241) (i := r) (N := 8) dL_isSo_16 (by decide) rfl rfl (by omega) (by omega) (fun c_16 => ?_) (fun c_16 => ?_)
    · omega
    refine og_iload (pc := 19) dL_isSo_19 rfl ?_
    refine og_if_eq (pc := 21) (tgt := 241) dL_isSo_21 (by decide) (fun q => absurd q (by decide)) (fun _ => ?_)
    refine og_aload_n (pc := 24) dL_isSo_24 rfl ?_
    refine og_iload (pc := 25) dL_isSo_25 rfl ?_
    refine og_callS (pc := 27) (As := [.ref 103, .int (nI r)]) (rest := []) (c_L_row E d n1 103 r h1 R W1.2.2.2.1 (by omega) (by omega) hr8) Y_L_row S_L_row K_L_116 dL_isSo_27 rfl rfl (Nat.le_of_ble_eq_true rfl) (by omega) (by omega) (by omega) (fun _ _ _ z => z) (fun v n9 h9 z9 => ?_)
    obtain ⟨rfl, rfl, e9⟩ := z9
    rw [e9]
    refine og_congL (d_R D r) (og_set_eq _ _ _) (by omega) (y_row_e hcp hr8) ?_
    rw [og_set_set]
    have a2 : og_set h1 n1 (rowL (d_R D r)) n1 = some (rowL (d_R D r)) := og_set_eq _ _ _
    have W2 : y_wl L xs (n1 + 1) (og_set h1 n1 (rowL (d_R D r))) D1 R g := W1.ext (Nat.le_succ _) (fun a ha => og_set_ne _ _ (by omega))
    clear e9
    generalize og_set h1 n1 (rowL (d_R D r)) = h2 at a2 W2 ⊢
    refine og_astore_9 (pc := 30) dL_isSo_30 rfl ?_
    refine og_iconst (pc := 32) (v := 0) dL_isSo_32 (by decide) ?_
    refine og_istore_10 (pc := 33) dL_isSo_33 rfl ?_
    refine og_iconst (pc := 35) (v := 0) dL_isSo_35 (by decide) ?_
    refine og_istore_11 (pc := 36) dL_isSo_36 rfl ?_
    -- the orders, and the coordinates
    suffices h38 : ∀ c i, i + c = 8 → ∀ (n3 : Nat) (h3 : og_H) (cells3 slots3 : Nat), n1 < n3 → y_wl L xs n3 h3 D1 R g → h3 n1 = some (rowL (d_R D r)) → cells3 ≤ cells + 1 + 2 * i → slots3 ≤ slots + 8 + 12 * i → og_G E RL cL_isSo (d + 7) 2168 18784 15 X (og_Q E (fun v n1 h1 => v = some (.int 1) ∧ ∃ D1, d_st D1 = d_st D ∧ y_wl L xs n1 h1 D1 R g) no_x 2168 18784 X) cells3 slots3 n3 h3 38 [some (.ref 3), some (.ref 102), some (.ref 103), some (.ref 101), some (.int (nI zq)), some (.int (nI (q_many (fun r => q_al (d_o D) (d_R D r)) r))), some (.int (nI (q_many (fun r => q_zr (d_R D r)) r))), some (.int 1), some (.int (nI r)), some (.ref n1), some (.int (q_oset (d_R D r) i)), some (.int (nI i)), none, none, none] [] from
      h38 8 0 rfl (n1 + 1) h2 _ _ (by omega) W2 a2 (by omega) (by omega)
    intro c2
    induction c2 with
    | zero =>
      intro i hi n3 h3 cells3 slots3 k1 W3 a3 k2 k3
      obtain rfl : i = 8 := by omega
      refine og_iload (pc := 38) dL_isSo_38 rfl ?_
      refine og_bipush (pc := 40) (v := 8) dL_isSo_40 (by decide) ?_
      refine og_geN (pc := 42) (tgt := 107) (i := 8) (N := 8) dL_isSo_42 (by decide) rfl rfl (by omega) (by omega) (fun c_42 => ?_) (fun c_42 => ?_)
      rotate_left
      · omega
      have f0 := W3.2.2.1
      refine og_iload (pc := 107) dL_isSo_107 rfl ?_
      refine og_aload (pc := 109) dL_isSo_109 rfl ?_
      refine og_aload_n (pc := 111) dL_isSo_111 rfl ?_
      refine og_iconst (pc := 112) (v := 0) dL_isSo_112 (by decide) ?_
      refine og_ialdN (pc := 113) (j := 0) rfl dL_isSo_113 (by repeat (first | exact og_set_eq _ _ _ | assumption | refine (og_set_ne _ _ (by first | assumption | omega)).trans ?_)) (by omega) (by omega) (by first | decide | assumption | omega) ?_
      rw [hcp.2.1]
      refine og_callS (pc := 114) (As := [.ref n1, .int (nI (d_o D))]) (rest := [.int (nI (q_many (fun r => q_al (d_o D) (d_R D r)) r))]) (c_L_isIn E d n3 n1 (d_o D) h3 (d_R D r) a3 (by omega) ho) Y_L_isIn S_L_isIn K_L_27 dL_isSo_114 rfl rfl (Nat.le_of_ble_eq_true rfl) (by omega) (by omega) (by omega) (fun _ _ _ z => z) (fun v n9 h9 z9 => ?_)
      obtain ⟨e8, e9, z⟩ := z9
      rw [e8, e9]
      have m1 : (v = some (.int 1) ∧ q_al (d_o D) (d_R D r)) ∨ (v = some (.int 0) ∧ ¬ q_al (d_o D) (d_R D r)) := z
      have k126 : og_G E RL cL_isSo (d + 7) 2168 18784 15 X (og_Q E (fun v n1 h1 => v = some (.int 1) ∧ ∃ D1, d_st D1 = d_st D ∧ y_wl L xs n1 h1 D1 R g) no_x 2168 18784 X) (cells3 + 0) (slots3 + 0) n3 h3 126 [some (.ref 3), some (.ref 102), some (.ref 103), some (.ref 101), some (.int (nI zq)), some (.int (nI (q_many (fun r => q_al (d_o D) (d_R D r)) r))), some (.int (nI (q_many (fun r => q_zr (d_R D r)) r))), some (.int 1), some (.int (nI r)), some (.ref n1), some (.int (q_oset (d_R D r) 8)), some (.int (nI 8)), none, none, none] [.int (nI (q_many (fun r => q_al (d_o D) (d_R D r)) (r + 1)))] := by
        refine og_istore_5 (pc := 126) dL_isSo_126 rfl ?_
        refine og_iload (pc := 128) dL_isSo_128 rfl ?_
        refine og_aload (pc := 130) dL_isSo_130 rfl ?_
        refine og_callS (pc := 132) (As := [.ref n1]) (rest := [.int (nI (q_many (fun r => q_zr (d_R D r)) r))]) (c_L_isNought E d n3 n1 h3 (d_R D r) a3 (by omega)) Y_L_isNought S_L_isNought K_L_35 dL_isSo_132 rfl rfl (Nat.le_of_ble_eq_true rfl) (by omega) (by omega) (by omega) (fun _ _ _ z => z) (fun v n9 h9 z9 => ?_)
        obtain ⟨e8, e9, y⟩ := z9
        rw [e8, e9]
        have k144 : og_G E RL cL_isSo (d + 7) 2168 18784 15 X (og_Q E (fun v n1 h1 => v = some (.int 1) ∧ ∃ D1, d_st D1 = d_st D ∧ y_wl L xs n1 h1 D1 R g) no_x 2168 18784 X) (cells3 + 0 + 0) (slots3 + 0 + 0) n3 h3 144 [some (.ref 3), some (.ref 102), some (.ref 103), some (.ref 101), some (.int (nI zq)), some (.int (nI (q_many (fun r => q_al (d_o D) (d_R D r)) (r + 1)))), some (.int (nI (q_many (fun r => q_zr (d_R D r)) r))), some (.int 1), some (.int (nI r)), some (.ref n1), some (.int (q_oset (d_R D r) 8)), some (.int (nI 8)), none, none, none] [.int (nI (q_many (fun r => q_zr (d_R D r)) (r + 1)))] := by
          refine og_istore_6 (pc := 144) dL_isSo_144 rfl ?_
          refine og_aload (pc := 146) dL_isSo_146 rfl ?_
          refine og_callS (pc := 148) (As := [.ref n1]) (rest := []) (c_L_square E d n3 n1 h3 (d_R D r) a3 (by omega)) Y_L_square S_L_square K_L_43 dL_isSo_148 rfl rfl (Nat.le_of_ble_eq_true rfl) (by omega) (by omega) (by omega) (fun _ _ _ z => z) (fun v n9 h9 z9 => ?_)
          obtain ⟨rfl, e8, e9⟩ := z9
          rw [e8, e9]
          have k184 : ∀ (n5 : Nat) (h5 : og_H) (cells5 slots5 : Nat), n1 < n5 → y_wl L xs n5 h5 D1 R g → h5 n1 = some (rowL (d_R D r)) → cells5 ≤ cells3 + 241 → slots5 ≤ slots3 + 1928 → og_G E RL cL_isSo (d + 7) 2168 18784 15 X (og_Q E (fun v n1 h1 => v = some (.int 1) ∧ ∃ D1, d_st D1 = d_st D ∧ y_wl L xs n1 h1 D1 R g) no_x 2168 18784 X) cells5 slots5 n5 h5 184 [some (.ref 3), some (.ref 102), some (.ref 103), some (.ref 101), some (.int (nI zq)), some (.int (nI (q_many (fun r => q_al (d_o D) (d_R D r)) (r + 1)))), some (.int (nI (q_many (fun r => q_zr (d_R D r)) (r + 1)))), some (.int 1), some (.int (nI r)), some (.ref n1), some (.int (q_oset (d_R D r) 8)), some (.int (nI 8)), none, none, none] [.int (q_uno (d_o D) (d_R D r))] := by
            intro n5 h5 cells5 slots5 j1 W5 a5 j2 j3
            refine og_istore_11 (pc := 184) dL_isSo_184 rfl ?_
            refine og_iload (pc := 186) dL_isSo_186 rfl ?_
            refine og_if_eq (pc := 188) (tgt := 232) dL_isSo_188 (by decide) (fun q => absurd q (by decide)) (fun _ => ?_)
            refine og_aload_n (pc := 191) dL_isSo_191 rfl ?_
            refine og_iload (pc := 192) dL_isSo_192 rfl ?_
            refine og_callSH (pc := 194) (As := [.ref 3, .int (nI r)]) (rest := []) (l_norm (E := E) (d := d) W5.1 hr8) YH_L_normOf K_L_194 dL_isSo_194 rfl rfl (Nat.le_of_ble_eq_true rfl) (by omega) (by omega) (by omega) (fun v n6 h6 z9 => ?_)
            obtain ⟨rfl, w6⟩ := z9
            have n56 := w6.nn.2
            have W6 := W5.call w6 rfl
            have a6 := (w6.fr n1 (by omega) j1).trans a5
            refine og_aload (pc := 197) dL_isSo_197 rfl ?_
            refine og_callS (pc := 199) (As := [.ref n1]) (rest := [.long (q_inner (d_R D1 r) (d_R D1 r) 8)]) (c_L_square E d n6 n1 h6 (d_R D r) a6 (by omega)) Y_L_square S_L_square K_L_43 dL_isSo_199 rfl rfl (Nat.le_of_ble_eq_true rfl) (by omega) (by omega) (by omega) (fun _ _ _ z => z) (fun v n9 h9 z9 => ?_)
            obtain ⟨rfl, e8, e9⟩ := z9
            rw [e8, e9, eR]
            refine og_lcmp (pc := 202) dL_isSo_202 ?_
            refine og_if_ne (pc := 203) (tgt := 232) dL_isSo_203 (by decide) (fun q => absurd ((og_cmp0 _ _).mpr rfl) q) (fun _ => ?_)
            refine og_aload_n (pc := 206) dL_isSo_206 rfl ?_
            refine og_iload (pc := 207) dL_isSo_207 rfl ?_
            refine og_callSH (pc := 209) (As := [.ref 3, .int (nI r)]) (rest := []) (l_orders (E := E) (d := d) W6.1 hr8) YH_L_ordersOf K_L_198 dL_isSo_209 rfl rfl (Nat.le_of_ble_eq_true rfl) (by omega) (by omega) (by omega) (fun v n7 h7 z9 => ?_)
            obtain ⟨rfl, w7⟩ := z9
            have n67 := w7.nn.2
            have W7 := W6.call w7 rfl
            have a7 := (w7.fr n1 (by omega) (by omega)).trans a6
            rw [eR]
            refine og_iload (pc := 212) dL_isSo_212 rfl ?_
            refine og_icmp_ne (pc := 214) (tgt := 232) dL_isSo_214 (by decide) (fun q => absurd rfl q) (fun _ => ?_)
            refine og_aload_n (pc := 217) dL_isSo_217 rfl ?_
            refine og_iload (pc := 218) dL_isSo_218 rfl ?_
            refine og_callSH (pc := 220) (As := [.ref 3, .int (nI r)]) (rest := []) (l_unit (E := E) (d := d) W7.1 hr8) YH_L_unitOf K_L_200 dL_isSo_220 rfl rfl (Nat.le_of_ble_eq_true rfl) (by omega) (by omega) (by omega) (fun v n8 h8 z9 => ?_)
            obtain ⟨rfl, f8, w8⟩ := z9
            have W8 := W7.call w8 rfl
            rw [eR, eo]
            refine og_iload (pc := 223) dL_isSo_223 rfl ?_
            refine og_icmp_ne (pc := 225) (tgt := 232) dL_isSo_225 (by decide) (fun q => absurd rfl q) (fun _ => ?_)
            refine og_iconst (pc := 228) (v := 1) dL_isSo_228 (by decide) ?_
            refine og_goto (pc := 229) (tgt := 233) dL_isSo_229 (by decide) ?_
            refine og_istore_7 (pc := 233) dL_isSo_233 rfl ?_
            refine og_iinc_8 (pc := 235) dL_isSo_235 (og_inc r) rfl ?_
            refine og_goto (pc := 238) (tgt := 12) dL_isSo_238 (by decide) ?_
            refine og_forget_9 (og_forget_10 (og_forget_11 ?_))
            exact ih (r + 1) (by omega) n8 h8 (d_wUn D1 f8) _ _ e1 W8 (by omega) (by omega)
          have f0 := W3.2.2.1
          refine og_ldc2 (pc := 151) LC_L_25 dL_isSo_151 ?_
          refine og_lcmp (pc := 154) dL_isSo_154 ?_
          refine og_if_ne (pc := 155) (tgt := 183) dL_isSo_155 (by decide) (fun q => ?_) (fun q => ?_)
          · refine og_iconst (pc := 183) (v := (-1)) dL_isSo_183 (by decide) ?_
            rw [← y_uno_not ho (hcp.ok hr8) (Or.inr (fun e => q ((og_cmp0 _ _).mpr e)))]
            exact k184 n3 h3 _ _ k1 W3 a3 (by omega) (by omega)
          refine og_aload (pc := 158) dL_isSo_158 rfl ?_
          refine og_aload_n (pc := 160) dL_isSo_160 rfl ?_
          refine og_iconst (pc := 161) (v := 0) dL_isSo_161 (by decide) ?_
          refine og_ialdN (pc := 162) (j := 0) rfl dL_isSo_162 (by repeat (first | exact og_set_eq _ _ _ | assumption | refine (og_set_ne _ _ (by first | assumption | omega)).trans ?_)) (by omega) (by omega) (by first | decide | assumption | omega) ?_
          rw [hcp.2.1]
          refine og_callS (pc := 163) (As := [.ref n1, .int (nI (d_o D))]) (rest := []) (c_L_isIn E d n3 n1 (d_o D) h3 (d_R D r) a3 (by omega) ho) Y_L_isIn S_L_isIn K_L_27 dL_isSo_163 rfl rfl (Nat.le_of_ble_eq_true rfl) (by omega) (by omega) (by omega) (fun _ _ _ z => z) (fun v n9 h9 z9 => ?_)
          obtain ⟨e8, e9, x⟩ := z9
          rw [e8, e9]
          rcases x with ⟨rfl, x⟩ | ⟨rfl, x⟩
          · refine og_if_eq (pc := 166) (tgt := 183) dL_isSo_166 (by decide) (fun q => absurd q (by decide)) (fun _ => ?_)
            refine og_aload_n (pc := 169) dL_isSo_169 rfl ?_
            refine og_iconst (pc := 170) (v := 0) dL_isSo_170 (by decide) ?_
            refine og_ialdN (pc := 171) (j := 0) rfl dL_isSo_171 (by repeat (first | exact og_set_eq _ _ _ | assumption | refine (og_set_ne _ _ (by first | assumption | omega)).trans ?_)) (by omega) (by omega) (by first | decide | assumption | omega) ?_
            refine og_aload (pc := 172) dL_isSo_172 rfl ?_
            refine og_aload (pc := 174) dL_isSo_174 rfl ?_
            refine og_iconst (pc := 176) (v := (-1)) dL_isSo_176 (by decide) ?_
            rw [hcp.2.1]
            refine og_callS (pc := 177) (As := [.int (nI (d_o D)), .ref n1, .ref n1, .int (-1)]) (rest := []) (c_L_unitsA E d n3 n1 (d_o D) h3 (d_R D r) a3 (by omega) k1 ho (hcp.ok hr8)) Y_L_units S_L_units K_L_131 dL_isSo_177 rfl rfl (Nat.le_of_ble_eq_true rfl) (by omega) (by omega) (by omega) (fun _ _ _ z => z) (fun v n5 h5 z9 => ?_)
            obtain ⟨u1, u2, rfl⟩ := z9
            refine og_goto (pc := 180) (tgt := 184) dL_isSo_180 (by decide) ?_
            exact k184 n5 h5 _ _ (by omega) (W3.ext u1 u2) ((u2 n1 k1).trans a3) (by omega) (by omega)
          · refine og_if_eq (pc := 166) (tgt := 183) dL_isSo_166 (by decide) (fun _ => ?_) (fun q => absurd rfl q)
            refine og_iconst (pc := 183) (v := (-1)) dL_isSo_183 (by decide) ?_
            rw [← y_uno_not ho (hcp.ok hr8) (Or.inl x)]
            exact k184 n3 h3 _ _ k1 W3 a3 (by omega) (by omega)
        rcases y with ⟨rfl, y⟩ | ⟨rfl, y⟩
        · refine og_if_eq (pc := 135) (tgt := 142) dL_isSo_135 (by decide) (fun q => absurd q (by decide)) (fun _ => ?_)
          refine og_iconst (pc := 138) (v := 1) dL_isSo_138 (by decide) ?_
          refine og_goto (pc := 139) (tgt := 143) dL_isSo_139 (by decide) ?_
          refine og_iadd (pc := 143) dL_isSo_143 ?_
          rw [nI_1, ← q_many_t (fun r => q_zr (d_R D r)) y]
          exact k144
        · refine og_if_eq (pc := 135) (tgt := 142) dL_isSo_135 (by decide) (fun _ => ?_) (fun q => absurd rfl q)
          refine og_iconst (pc := 142) (v := 0) dL_isSo_142 (by decide) ?_
          refine og_iadd (pc := 143) dL_isSo_143 ?_
          have k9 := k144
          rw [q_many_f (fun r => q_zr (d_R D r)) y] at k9
          rw [Int32.add_zero]
          exact k9
      rcases z with ⟨rfl, z⟩ | ⟨rfl, z⟩
      · refine og_if_eq (pc := 117) (tgt := 124) dL_isSo_117 (by decide) (fun q => absurd q (by decide)) (fun _ => ?_)
        refine og_iconst (pc := 120) (v := 1) dL_isSo_120 (by decide) ?_
        refine og_goto (pc := 121) (tgt := 125) dL_isSo_121 (by decide) ?_
        refine og_iadd (pc := 125) dL_isSo_125 ?_
        rw [nI_1, ← q_many_t (fun r => q_al (d_o D) (d_R D r)) z]
        exact k126
      · refine og_if_eq (pc := 117) (tgt := 124) dL_isSo_117 (by decide) (fun _ => ?_) (fun q => absurd rfl q)
        refine og_iconst (pc := 124) (v := 0) dL_isSo_124 (by decide) ?_
        refine og_iadd (pc := 125) dL_isSo_125 ?_
        have k9 := k126
        rw [q_many_f (fun r => q_al (d_o D) (d_R D r)) z] at k9
        rw [Int32.add_zero]
        exact k9
    | succ c2 ih2 =>
      intro i hi n3 h3 cells3 slots3 k1 W3 a3 k2 k3
      have hi8 : i < 8 := by omega
      refine og_iload (pc := 38) dL_isSo_38 rfl ?_
      refine og_bipush (pc := 40) (v := 8) dL_isSo_40 (by decide) ?_
      refine og_geN (pc := 42) (tgt := 107) (i := i) (N := 8) dL_isSo_42 (by decide) rfl rfl (by omega) (by omega) (fun c_42 => ?_) (fun c_42 => ?_)
      · omega
      refine og_iload (pc := 45) dL_isSo_45 rfl ?_
      refine og_aload (pc := 47) dL_isSo_47 rfl ?_
      refine og_iload (pc := 49) dL_isSo_49 rfl ?_
      refine og_callS (pc := 51) (As := [.ref n1, .int (nI i)]) (rest := [.int (q_oset (d_R D r) i)]) (c_L_isIn E d n3 n1 i h3 (d_R D r) a3 (by omega) hi8) Y_L_isIn S_L_isIn K_L_27 dL_isSo_51 rfl rfl (Nat.le_of_ble_eq_true rfl) (by omega) (by omega) (by omega) (fun _ _ _ z => z) (fun v n9 h9 z9 => ?_)
      obtain ⟨e8, e9, z⟩ := z9
      rw [e8, e9]
      have k66 : og_G E RL cL_isSo (d + 7) 2168 18784 15 X (og_Q E (fun v n1 h1 => v = some (.int 1) ∧ ∃ D1, d_st D1 = d_st D ∧ y_wl L xs n1 h1 D1 R g) no_x 2168 18784 X) (cells3 + 0) (slots3 + 0) n3 h3 66 [some (.ref 3), some (.ref 102), some (.ref 103), some (.ref 101), some (.int (nI zq)), some (.int (nI (q_many (fun r => q_al (d_o D) (d_R D r)) r))), some (.int (nI (q_many (fun r => q_zr (d_R D r)) r))), some (.int 1), some (.int (nI r)), some (.ref n1), some (.int (q_oset (d_R D r) i)), some (.int (nI i)), none, none, none] [.int (q_oset (d_R D r) (i + 1))] := by
        refine og_istore_10 (pc := 66) dL_isSo_66 rfl ?_
        refine og_iload (pc := 68) dL_isSo_68 rfl ?_
        refine og_if_eq (pc := 70) (tgt := 98) dL_isSo_70 (by decide) (fun q => absurd q (by decide)) (fun _ => ?_)
        refine og_aload_n (pc := 73) dL_isSo_73 rfl ?_
        refine og_iload (pc := 74) dL_isSo_74 rfl ?_
        refine og_iload (pc := 76) dL_isSo_76 rfl ?_
        refine og_callSH (pc := 78) (As := [.ref 3, .int (nI r), .int (nI i)]) (rest := []) (l_coord (E := E) (d := d) W3.1 hr8 hi8) YH_L_coordinateOf K_L_191 dL_isSo_78 rfl rfl (Nat.le_of_ble_eq_true rfl) (by omega) (by omega) (by omega) (fun v n4 h4 z9 => ?_)
        obtain ⟨rfl, w4⟩ := z9
        have n34 := w4.nn.2
        have W4 := W3.call w4 rfl
        have a4 := (w4.fr n1 (by omega) k1).trans a3
        have r4 := W4.2.2.2.1
        refine og_aload_n (pc := 81) dL_isSo_81 rfl ?_
        refine og_bipush (pc := 82) (v := 8) dL_isSo_82 (by decide) ?_
        refine og_iload (pc := 84) dL_isSo_84 rfl ?_
        refine og_imul (pc := 86) dL_isSo_86 ?_
        refine og_iload (pc := 87) dL_isSo_87 rfl ?_
        refine og_iadd (pc := 89) dL_isSo_89 ?_
        refine og_ialdN (pc := 90) (j := (8 * r + i)) (og_i8 r i) dL_isSo_90 (by repeat (first | exact og_set_eq _ _ _ | assumption | refine (og_set_ne _ _ (by first | assumption | omega)).trans ?_)) (by omega) (by omega) (by first | decide | assumption | omega) ?_
        rw [(hcp.1 r hr8 i hi8).1, eR]
        refine og_icmp_ne (pc := 91) (tgt := 98) dL_isSo_91 (by decide) (fun q => absurd rfl q) (fun _ => ?_)
        refine og_iconst (pc := 94) (v := 1) dL_isSo_94 (by decide) ?_
        refine og_goto (pc := 95) (tgt := 99) dL_isSo_95 (by decide) ?_
        refine og_istore_7 (pc := 99) dL_isSo_99 rfl ?_
        refine og_iinc_11 (pc := 101) dL_isSo_101 (og_inc i) rfl ?_
        refine og_goto (pc := 104) (tgt := 38) dL_isSo_104 (by decide) ?_
        exact ih2 (i + 1) (by omega) n4 h4 _ _ (by omega) W4 a4 (by omega) (by omega)
      rcases z with ⟨rfl, z⟩ | ⟨rfl, z⟩
      · refine og_if_eq (pc := 54) (tgt := 64) dL_isSo_54 (by decide) (fun q => absurd q (by decide)) (fun _ => ?_)
        refine og_iconst (pc := 57) (v := 1) dL_isSo_57 (by decide) ?_
        refine og_iload (pc := 58) dL_isSo_58 rfl ?_
        refine og_ishl (pc := 60) dL_isSo_60 ?_
        refine og_goto (pc := 61) (tgt := 65) dL_isSo_61 (by decide) ?_
        refine og_ior (pc := 65) dL_isSo_65 ?_
        rw [← q_oset_t z]
        exact k66
      · refine og_if_eq (pc := 54) (tgt := 64) dL_isSo_54 (by decide) (fun _ => ?_) (fun q => absurd rfl q)
        refine og_iconst (pc := 64) (v := 0) dL_isSo_64 (by decide) ?_
        refine og_ior (pc := 65) dL_isSo_65 ?_
        have k9 := k66
        rw [q_oset_f z] at k9
        rw [Int32.or_zero]
        exact k9
