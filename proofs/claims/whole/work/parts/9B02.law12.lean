/-! ===== the law: its cases ===== -/
set_option maxRecDepth 4000 in
theorem law_setFour {E : og_E} {X : og_X} {Q : State → Prop} {d mc ms cells slots n L i : Nat} {h : og_H} {xs : Nat → Int32} {D : q_D} {M : q_M} {f : Nat → Int64} (W : zW n h D M) (h123 : h 123 = some (row1 f)) (h0 : h 0 = some (rowI L xs)) (hi : i + 7 ≤ L) (hL : L ≤ 3584) (hd : 40 ≤ d) (hmc : cells + 180 ≤ mc) (hms : slots + 3000 ≤ ms)
    (kk : ∀ n2 h2 D2 M2 f2, zW n2 h2 D2 M2 → h2 123 = some (row1 f2) → h2 0 = some (rowI L xs) → og_G E RL cL_law d mc ms 8 X Q (cells + 180) (slots + 3000) n2 h2 2054 [some (.ref 0), some (.ref 3), some (.ref 101), some (.ref 123), some (.int (nI i)), none, none, none] []) :
    og_G E RL cL_law d mc ms 8 X Q cells slots n h 252 [some (.ref 0), some (.ref 3), some (.ref 101), some (.ref 123), some (.int (nI i)), none, none, none] [] := by
  refine og_aload_n (pc := 252) dL_law_252 rfl ?_
  refine og_aload_n (pc := 253) dL_law_253 rfl ?_
  refine og_iload (pc := 254) dL_law_254 rfl ?_
  refine og_iconst (pc := 256) (v := 1) dL_law_256 (by decide) ?_
  refine og_iadd (pc := 257) dL_law_257 ?_
  refine og_saldN (pc := 258) (j := i + 1) (nI_add i 1) dL_law_258 h0 (by omega) (by omega) (by omega) ?_
  refine og_aload_n (pc := 259) dL_law_259 rfl ?_
  refine og_iload (pc := 260) dL_law_260 rfl ?_
  refine og_iconst (pc := 262) (v := 2) dL_law_262 (by decide) ?_
  refine og_iadd (pc := 263) dL_law_263 ?_
  refine og_saldN (pc := 264) (j := i + 2) (nI_add i 2) dL_law_264 h0 (by omega) (by omega) (by omega) ?_
  refine og_if_eq (pc := 265) (tgt := 272) dL_law_265 (by decide) (fun cz => ?_) (fun cz => ?_)
  · skip
    refine og_iconst (pc := 272) (v := 0) dL_law_272 (by decide) ?_
    refine og_aload_n (pc := 273) dL_law_273 rfl ?_
    refine og_iload (pc := 274) dL_law_274 rfl ?_
    refine og_iconst (pc := 276) (v := 3) dL_law_276 (by decide) ?_
    refine og_iadd (pc := 277) dL_law_277 ?_
    refine og_saldN (pc := 278) (j := i + 3) (nI_add i 3) dL_law_278 h0 (by omega) (by omega) (by omega) ?_
    refine og_aload_n (pc := 279) dL_law_279 rfl ?_
    refine og_iload (pc := 280) dL_law_280 rfl ?_
    refine og_iconst (pc := 282) (v := 4) dL_law_282 (by decide) ?_
    refine og_iadd (pc := 283) dL_law_283 ?_
    refine og_saldN (pc := 284) (j := i + 4) (nI_add i 4) dL_law_284 h0 (by omega) (by omega) (by omega) ?_
    refine og_aload_n (pc := 285) dL_law_285 rfl ?_
    refine og_iload (pc := 286) dL_law_286 rfl ?_
    refine og_iconst (pc := 288) (v := 5) dL_law_288 (by decide) ?_
    refine og_iadd (pc := 289) dL_law_289 ?_
    refine og_saldN (pc := 290) (j := i + 5) (nI_add i 5) dL_law_290 h0 (by omega) (by omega) (by omega) ?_
    refine og_aload_n (pc := 291) dL_law_291 rfl ?_
    refine og_iload (pc := 292) dL_law_292 rfl ?_
    refine og_bipush (pc := 294) (v := 6) dL_law_294 (by decide) ?_
    refine og_iadd (pc := 296) dL_law_296 ?_
    refine og_saldN (pc := 297) (j := i + 6) (nI_add i 6) dL_law_297 h0 (by omega) (by omega) (by omega) ?_
    refine og_aload_n (pc := 298) dL_law_298 rfl ?_
    refine og_callSH (pc := 299) (As := [.ref 3, .int (xs (i + 1)), .int 0, .int (xs (i + 3)), .int (xs (i + 4)), .int (xs (i + 5)), .int (xs (i + 6)), .ref 123]) (rest := []) (P_setFour E 0 n h _ _ _ _ _ _ W h123) YH_L_setFour K_L_120 dL_law_299 rfl rfl (Nat.le_of_ble_eq_true rfl) (by omega) (by omega) (by omega) (fun v n1 h1 z => ?_)
    obtain ⟨k, f1, rfl, hn1, g123, g0, ⟨fs, g101⟩, hM⟩ := z
    refine og_istore_5 (pc := 302) dL_law_302 rfl ?_
    refine og_aload_n (pc := 304) dL_law_304 rfl ?_
    refine og_aload_n (pc := 305) dL_law_305 rfl ?_
    refine og_iload (pc := 306) dL_law_306 rfl ?_
    refine og_iconst (pc := 308) (v := 1) dL_law_308 (by decide) ?_
    refine og_iadd (pc := 309) dL_law_309 ?_
    refine og_saldN (pc := 310) (j := i + 1) (nI_add i 1) dL_law_310 (g0.trans h0) (by omega) (by omega) (by omega) ?_
    refine og_aload_n (pc := 311) dL_law_311 rfl ?_
    refine og_iload (pc := 312) dL_law_312 rfl ?_
    refine og_iconst (pc := 314) (v := 2) dL_law_314 (by decide) ?_
    refine og_iadd (pc := 315) dL_law_315 ?_
    refine og_saldN (pc := 316) (j := i + 2) (nI_add i 2) dL_law_316 (g0.trans h0) (by omega) (by omega) (by omega) ?_
    refine og_if_eq (pc := 317) (tgt := 324) dL_law_317 (by decide) (fun _ => ?_) (fun c => absurd cz c)
    refine og_iconst (pc := 324) (v := 0) dL_law_324 (by decide) ?_
    refine og_aload_n (pc := 325) dL_law_325 rfl ?_
    refine og_iload (pc := 326) dL_law_326 rfl ?_
    refine og_iconst (pc := 328) (v := 3) dL_law_328 (by decide) ?_
    refine og_iadd (pc := 329) dL_law_329 ?_
    refine og_saldN (pc := 330) (j := i + 3) (nI_add i 3) dL_law_330 (g0.trans h0) (by omega) (by omega) (by omega) ?_
    refine og_aload_n (pc := 331) dL_law_331 rfl ?_
    refine og_iload (pc := 332) dL_law_332 rfl ?_
    refine og_iconst (pc := 334) (v := 4) dL_law_334 (by decide) ?_
    refine og_iadd (pc := 335) dL_law_335 ?_
    refine og_saldN (pc := 336) (j := i + 4) (nI_add i 4) dL_law_336 (g0.trans h0) (by omega) (by omega) (by omega) ?_
    refine og_aload_n (pc := 337) dL_law_337 rfl ?_
    refine og_iload (pc := 338) dL_law_338 rfl ?_
    refine og_iconst (pc := 340) (v := 5) dL_law_340 (by decide) ?_
    refine og_iadd (pc := 341) dL_law_341 ?_
    refine og_saldN (pc := 342) (j := i + 5) (nI_add i 5) dL_law_342 (g0.trans h0) (by omega) (by omega) (by omega) ?_
    refine og_aload_n (pc := 343) dL_law_343 rfl ?_
    refine og_iload (pc := 344) dL_law_344 rfl ?_
    refine og_bipush (pc := 346) (v := 6) dL_law_346 (by decide) ?_
    refine og_iadd (pc := 348) dL_law_348 ?_
    refine og_saldN (pc := 349) (j := i + 6) (nI_add i 6) dL_law_349 (g0.trans h0) (by omega) (by omega) (by omega) ?_
    refine og_callV (pc := 350) (As := [.int (xs (i + 1)), .int 0, .int (xs (i + 3)), .int (xs (i + 4)), .int (xs (i + 5)), .int (xs (i + 6))]) (rest := []) (hM.at 0) Y_X8_setFour I_X8_setFour V_X8_setFour g101 (by omega) rfl rfl K_L_123 dL_law_350 rfl rfl (Nat.le_of_ble_eq_true rfl) (by omega) (by omega) (by omega) (fun _ _ _ z => z) (fun v n2 h2 z => ?_)
    obtain ⟨hnn, r, D2, M2, rfl, ⟨W2, g2, g20⟩, hrf, hans⟩ := z
    subst hnn
    refine og_lstore_6 (pc := 353) dL_law_353 rfl ?_
    refine og_aload_n (pc := 355) dL_law_355 rfl ?_
    refine og_callV (pc := 356) (As := []) (rest := []) (c_X8_thrown E 0 _ _ W2.2.1.m) Y_X8_thrown I_X8_thrown V_X8_thrown W2.2.1.m (by omega) rfl rfl K_L_117 dL_law_356 rfl rfl (Nat.le_of_ble_eq_true rfl) (by omega) (by omega) (by omega) (fun _ _ _ z => z) (fun v n3 h3 z => ?_)
    obtain ⟨rfl, hn3, rfl⟩ := z
    subst hn3
    refine og_iload (pc := 359) dL_law_359 rfl ?_
    refine og_icmp_eq (pc := 361) (tgt := 366) dL_law_361 (by decide) (fun _ => ?_) (fun c => absurd hrf c)
    refine og_iload (pc := 366) dL_law_366 rfl ?_
    refine og_if_ne (pc := 368) (tgt := 382) dL_law_368 (by decide) (fun _ => ?_) (fun ck => ?_)
    · skip
      refine og_goto (pc := 382) (tgt := 2054) dL_law_382 (by decide) ?_
      refine og_forget_5 (og_forget_6 ?_)
      refine og_widen (k2 := cells + 180) (n2 := slots + 3000) (by omega) (by omega) ?_
      exact kk _ _ _ _ _ W2 (g2.trans g123) (g20.trans (g0.trans h0))
    · skip
      refine og_aload_n (pc := 371) dL_law_371 rfl ?_
      refine og_iconst (pc := 372) (v := 0) dL_law_372 (by decide) ?_
      refine og_laldN (pc := 373) (j := 0) rfl dL_law_373 (g2.trans g123) (by omega) (by omega) (by omega) ?_
      refine og_lload (pc := 374) dL_law_374 rfl ?_
      refine og_lcmp (pc := 376) dL_law_376 ?_
      refine og_if_eq (pc := 377) (tgt := 382) dL_law_377 (by decide) (fun _ => ?_) (fun c => absurd ((og_cmp0 _ _).mpr (hans ck)) c)
      refine og_goto (pc := 382) (tgt := 2054) dL_law_382 (by decide) ?_
      refine og_forget_5 (og_forget_6 ?_)
      refine og_widen (k2 := cells + 180) (n2 := slots + 3000) (by omega) (by omega) ?_
      exact kk _ _ _ _ _ W2 (g2.trans g123) (g20.trans (g0.trans h0))
  · skip
    refine og_iconst (pc := 268) (v := 1) dL_law_268 (by decide) ?_
    refine og_goto (pc := 269) (tgt := 273) dL_law_269 (by decide) ?_
    refine og_aload_n (pc := 273) dL_law_273 rfl ?_
    refine og_iload (pc := 274) dL_law_274 rfl ?_
    refine og_iconst (pc := 276) (v := 3) dL_law_276 (by decide) ?_
    refine og_iadd (pc := 277) dL_law_277 ?_
    refine og_saldN (pc := 278) (j := i + 3) (nI_add i 3) dL_law_278 h0 (by omega) (by omega) (by omega) ?_
    refine og_aload_n (pc := 279) dL_law_279 rfl ?_
    refine og_iload (pc := 280) dL_law_280 rfl ?_
    refine og_iconst (pc := 282) (v := 4) dL_law_282 (by decide) ?_
    refine og_iadd (pc := 283) dL_law_283 ?_
    refine og_saldN (pc := 284) (j := i + 4) (nI_add i 4) dL_law_284 h0 (by omega) (by omega) (by omega) ?_
    refine og_aload_n (pc := 285) dL_law_285 rfl ?_
    refine og_iload (pc := 286) dL_law_286 rfl ?_
    refine og_iconst (pc := 288) (v := 5) dL_law_288 (by decide) ?_
    refine og_iadd (pc := 289) dL_law_289 ?_
    refine og_saldN (pc := 290) (j := i + 5) (nI_add i 5) dL_law_290 h0 (by omega) (by omega) (by omega) ?_
    refine og_aload_n (pc := 291) dL_law_291 rfl ?_
    refine og_iload (pc := 292) dL_law_292 rfl ?_
    refine og_bipush (pc := 294) (v := 6) dL_law_294 (by decide) ?_
    refine og_iadd (pc := 296) dL_law_296 ?_
    refine og_saldN (pc := 297) (j := i + 6) (nI_add i 6) dL_law_297 h0 (by omega) (by omega) (by omega) ?_
    refine og_aload_n (pc := 298) dL_law_298 rfl ?_
    refine og_callSH (pc := 299) (As := [.ref 3, .int (xs (i + 1)), .int 1, .int (xs (i + 3)), .int (xs (i + 4)), .int (xs (i + 5)), .int (xs (i + 6)), .ref 123]) (rest := []) (P_setFour E 0 n h _ _ _ _ _ _ W h123) YH_L_setFour K_L_120 dL_law_299 rfl rfl (Nat.le_of_ble_eq_true rfl) (by omega) (by omega) (by omega) (fun v n1 h1 z => ?_)
    obtain ⟨k, f1, rfl, hn1, g123, g0, ⟨fs, g101⟩, hM⟩ := z
    refine og_istore_5 (pc := 302) dL_law_302 rfl ?_
    refine og_aload_n (pc := 304) dL_law_304 rfl ?_
    refine og_aload_n (pc := 305) dL_law_305 rfl ?_
    refine og_iload (pc := 306) dL_law_306 rfl ?_
    refine og_iconst (pc := 308) (v := 1) dL_law_308 (by decide) ?_
    refine og_iadd (pc := 309) dL_law_309 ?_
    refine og_saldN (pc := 310) (j := i + 1) (nI_add i 1) dL_law_310 (g0.trans h0) (by omega) (by omega) (by omega) ?_
    refine og_aload_n (pc := 311) dL_law_311 rfl ?_
    refine og_iload (pc := 312) dL_law_312 rfl ?_
    refine og_iconst (pc := 314) (v := 2) dL_law_314 (by decide) ?_
    refine og_iadd (pc := 315) dL_law_315 ?_
    refine og_saldN (pc := 316) (j := i + 2) (nI_add i 2) dL_law_316 (g0.trans h0) (by omega) (by omega) (by omega) ?_
    refine og_if_eq (pc := 317) (tgt := 324) dL_law_317 (by decide) (fun c => absurd c cz) (fun _ => ?_)
    refine og_iconst (pc := 320) (v := 1) dL_law_320 (by decide) ?_
    refine og_goto (pc := 321) (tgt := 325) dL_law_321 (by decide) ?_
    refine og_aload_n (pc := 325) dL_law_325 rfl ?_
    refine og_iload (pc := 326) dL_law_326 rfl ?_
    refine og_iconst (pc := 328) (v := 3) dL_law_328 (by decide) ?_
    refine og_iadd (pc := 329) dL_law_329 ?_
    refine og_saldN (pc := 330) (j := i + 3) (nI_add i 3) dL_law_330 (g0.trans h0) (by omega) (by omega) (by omega) ?_
    refine og_aload_n (pc := 331) dL_law_331 rfl ?_
    refine og_iload (pc := 332) dL_law_332 rfl ?_
    refine og_iconst (pc := 334) (v := 4) dL_law_334 (by decide) ?_
    refine og_iadd (pc := 335) dL_law_335 ?_
    refine og_saldN (pc := 336) (j := i + 4) (nI_add i 4) dL_law_336 (g0.trans h0) (by omega) (by omega) (by omega) ?_
    refine og_aload_n (pc := 337) dL_law_337 rfl ?_
    refine og_iload (pc := 338) dL_law_338 rfl ?_
    refine og_iconst (pc := 340) (v := 5) dL_law_340 (by decide) ?_
    refine og_iadd (pc := 341) dL_law_341 ?_
    refine og_saldN (pc := 342) (j := i + 5) (nI_add i 5) dL_law_342 (g0.trans h0) (by omega) (by omega) (by omega) ?_
    refine og_aload_n (pc := 343) dL_law_343 rfl ?_
    refine og_iload (pc := 344) dL_law_344 rfl ?_
    refine og_bipush (pc := 346) (v := 6) dL_law_346 (by decide) ?_
    refine og_iadd (pc := 348) dL_law_348 ?_
    refine og_saldN (pc := 349) (j := i + 6) (nI_add i 6) dL_law_349 (g0.trans h0) (by omega) (by omega) (by omega) ?_
    refine og_callV (pc := 350) (As := [.int (xs (i + 1)), .int 1, .int (xs (i + 3)), .int (xs (i + 4)), .int (xs (i + 5)), .int (xs (i + 6))]) (rest := []) (hM.at 0) Y_X8_setFour I_X8_setFour V_X8_setFour g101 (by omega) rfl rfl K_L_123 dL_law_350 rfl rfl (Nat.le_of_ble_eq_true rfl) (by omega) (by omega) (by omega) (fun _ _ _ z => z) (fun v n2 h2 z => ?_)
    obtain ⟨hnn, r, D2, M2, rfl, ⟨W2, g2, g20⟩, hrf, hans⟩ := z
    subst hnn
    refine og_lstore_6 (pc := 353) dL_law_353 rfl ?_
    refine og_aload_n (pc := 355) dL_law_355 rfl ?_
    refine og_callV (pc := 356) (As := []) (rest := []) (c_X8_thrown E 0 _ _ W2.2.1.m) Y_X8_thrown I_X8_thrown V_X8_thrown W2.2.1.m (by omega) rfl rfl K_L_117 dL_law_356 rfl rfl (Nat.le_of_ble_eq_true rfl) (by omega) (by omega) (by omega) (fun _ _ _ z => z) (fun v n3 h3 z => ?_)
    obtain ⟨rfl, hn3, rfl⟩ := z
    subst hn3
    refine og_iload (pc := 359) dL_law_359 rfl ?_
    refine og_icmp_eq (pc := 361) (tgt := 366) dL_law_361 (by decide) (fun _ => ?_) (fun c => absurd hrf c)
    refine og_iload (pc := 366) dL_law_366 rfl ?_
    refine og_if_ne (pc := 368) (tgt := 382) dL_law_368 (by decide) (fun _ => ?_) (fun ck => ?_)
    · skip
      refine og_goto (pc := 382) (tgt := 2054) dL_law_382 (by decide) ?_
      refine og_forget_5 (og_forget_6 ?_)
      refine og_widen (k2 := cells + 180) (n2 := slots + 3000) (by omega) (by omega) ?_
      exact kk _ _ _ _ _ W2 (g2.trans g123) (g20.trans (g0.trans h0))
    · skip
      refine og_aload_n (pc := 371) dL_law_371 rfl ?_
      refine og_iconst (pc := 372) (v := 0) dL_law_372 (by decide) ?_
      refine og_laldN (pc := 373) (j := 0) rfl dL_law_373 (g2.trans g123) (by omega) (by omega) (by omega) ?_
      refine og_lload (pc := 374) dL_law_374 rfl ?_
      refine og_lcmp (pc := 376) dL_law_376 ?_
      refine og_if_eq (pc := 377) (tgt := 382) dL_law_377 (by decide) (fun _ => ?_) (fun c => absurd ((og_cmp0 _ _).mpr (hans ck)) c)
      refine og_goto (pc := 382) (tgt := 2054) dL_law_382 (by decide) ?_
      refine og_forget_5 (og_forget_6 ?_)
      refine og_widen (k2 := cells + 180) (n2 := slots + 3000) (by omega) (by omega) ?_
      exact kk _ _ _ _ _ W2 (g2.trans g123) (g20.trans (g0.trans h0))
set_option maxRecDepth 4000 in
theorem law_setOrder {E : og_E} {X : og_X} {Q : State → Prop} {d mc ms cells slots n L i : Nat} {h : og_H} {xs : Nat → Int32} {D : q_D} {M : q_M} {f : Nat → Int64} (W : zW n h D M) (h123 : h 123 = some (row1 f)) (h0 : h 0 = some (rowI L xs)) (hi : i + 7 ≤ L) (hL : L ≤ 3584) (hd : 40 ≤ d) (hmc : cells + 180 ≤ mc) (hms : slots + 3000 ≤ ms)
    (kk : ∀ n2 h2 D2 M2 f2, zW n2 h2 D2 M2 → h2 123 = some (row1 f2) → h2 0 = some (rowI L xs) → og_G E RL cL_law d mc ms 8 X Q (cells + 180) (slots + 3000) n2 h2 2054 [some (.ref 0), some (.ref 3), some (.ref 101), some (.ref 123), some (.int (nI i)), none, none, none] []) :
    og_G E RL cL_law d mc ms 8 X Q cells slots n h 385 [some (.ref 0), some (.ref 3), some (.ref 101), some (.ref 123), some (.int (nI i)), none, none, none] [] := by
  refine og_aload_n (pc := 385) dL_law_385 rfl ?_
  refine og_aload_n (pc := 386) dL_law_386 rfl ?_
  refine og_iload (pc := 387) dL_law_387 rfl ?_
  refine og_iconst (pc := 389) (v := 1) dL_law_389 (by decide) ?_
  refine og_iadd (pc := 390) dL_law_390 ?_
  refine og_saldN (pc := 391) (j := i + 1) (nI_add i 1) dL_law_391 h0 (by omega) (by omega) (by omega) ?_
  refine og_aload_n (pc := 392) dL_law_392 rfl ?_
  refine og_callSH (pc := 393) (As := [.ref 3, .int (xs (i + 1)), .ref 123]) (rest := []) (P_setOrder E 0 n h _ W h123) YH_L_setOrder K_L_124 dL_law_393 rfl rfl (Nat.le_of_ble_eq_true rfl) (by omega) (by omega) (by omega) (fun v n1 h1 z => ?_)
  obtain ⟨k, f1, rfl, hn1, g123, g0, ⟨fs, g101⟩, hM⟩ := z
  refine og_istore_5 (pc := 396) dL_law_396 rfl ?_
  refine og_aload_n (pc := 398) dL_law_398 rfl ?_
  refine og_aload_n (pc := 399) dL_law_399 rfl ?_
  refine og_iload (pc := 400) dL_law_400 rfl ?_
  refine og_iconst (pc := 402) (v := 1) dL_law_402 (by decide) ?_
  refine og_iadd (pc := 403) dL_law_403 ?_
  refine og_saldN (pc := 404) (j := i + 1) (nI_add i 1) dL_law_404 (g0.trans h0) (by omega) (by omega) (by omega) ?_
  refine og_callV (pc := 405) (As := [.int (xs (i + 1))]) (rest := []) (hM.at 0) Y_X8_setOrder I_X8_setOrder V_X8_setOrder g101 (by omega) rfl rfl K_L_127 dL_law_405 rfl rfl (Nat.le_of_ble_eq_true rfl) (by omega) (by omega) (by omega) (fun _ _ _ z => z) (fun v n2 h2 z => ?_)
  obtain ⟨hnn, r, D2, M2, rfl, ⟨W2, g2, g20⟩, hrf, hans⟩ := z
  subst hnn
  refine og_istore_6 (pc := 408) dL_law_408 rfl ?_
  refine og_aload_n (pc := 410) dL_law_410 rfl ?_
  refine og_callV (pc := 411) (As := []) (rest := []) (c_X8_thrown E 0 _ _ W2.2.1.m) Y_X8_thrown I_X8_thrown V_X8_thrown W2.2.1.m (by omega) rfl rfl K_L_117 dL_law_411 rfl rfl (Nat.le_of_ble_eq_true rfl) (by omega) (by omega) (by omega) (fun _ _ _ z => z) (fun v n3 h3 z => ?_)
  obtain ⟨rfl, hn3, rfl⟩ := z
  subst hn3
  refine og_iload (pc := 414) dL_law_414 rfl ?_
  refine og_icmp_eq (pc := 416) (tgt := 421) dL_law_416 (by decide) (fun _ => ?_) (fun c => absurd hrf c)
  refine og_iload (pc := 421) dL_law_421 rfl ?_
  refine og_if_ne (pc := 423) (tgt := 438) dL_law_423 (by decide) (fun _ => ?_) (fun ck => ?_)
  · skip
    refine og_goto (pc := 438) (tgt := 2054) dL_law_438 (by decide) ?_
    refine og_forget_5 (og_forget_6 ?_)
    refine og_widen (k2 := cells + 180) (n2 := slots + 3000) (by omega) (by omega) ?_
    exact kk _ _ _ _ _ W2 (g2.trans g123) (g20.trans (g0.trans h0))
  · skip
    refine og_aload_n (pc := 426) dL_law_426 rfl ?_
    refine og_iconst (pc := 427) (v := 0) dL_law_427 (by decide) ?_
    refine og_laldN (pc := 428) (j := 0) rfl dL_law_428 (g2.trans g123) (by omega) (by omega) (by omega) ?_
    refine og_iload (pc := 429) dL_law_429 rfl ?_
    refine og_i2l (pc := 431) dL_law_431 rfl ?_
    refine og_lcmp (pc := 432) dL_law_432 ?_
    refine og_if_eq (pc := 433) (tgt := 438) dL_law_433 (by decide) (fun _ => ?_) (fun c => absurd ((og_cmp0 _ _).mpr (hans ck)) c)
    refine og_goto (pc := 438) (tgt := 2054) dL_law_438 (by decide) ?_
    refine og_forget_5 (og_forget_6 ?_)
    refine og_widen (k2 := cells + 180) (n2 := slots + 3000) (by omega) (by omega) ?_
    exact kk _ _ _ _ _ W2 (g2.trans g123) (g20.trans (g0.trans h0))
set_option maxRecDepth 4000 in
theorem law_load {E : og_E} {X : og_X} {Q : State → Prop} {d mc ms cells slots n L i : Nat} {h : og_H} {xs : Nat → Int32} {D : q_D} {M : q_M} {f : Nat → Int64} (W : zW n h D M) (h123 : h 123 = some (row1 f)) (h0 : h 0 = some (rowI L xs)) (hi : i + 7 ≤ L) (hL : L ≤ 3584) (hd : 40 ≤ d) (hmc : cells + 180 ≤ mc) (hms : slots + 3000 ≤ ms)
    (kk : ∀ n2 h2 D2 M2 f2, zW n2 h2 D2 M2 → h2 123 = some (row1 f2) → h2 0 = some (rowI L xs) → og_G E RL cL_law d mc ms 8 X Q (cells + 180) (slots + 3000) n2 h2 2054 [some (.ref 0), some (.ref 3), some (.ref 101), some (.ref 123), some (.int (nI i)), none, none, none] []) :
    og_G E RL cL_law d mc ms 8 X Q cells slots n h 441 [some (.ref 0), some (.ref 3), some (.ref 101), some (.ref 123), some (.int (nI i)), none, none, none] [] := by
  refine og_aload_n (pc := 441) dL_law_441 rfl ?_
  refine og_aload_n (pc := 442) dL_law_442 rfl ?_
  refine og_iload (pc := 443) dL_law_443 rfl ?_
  refine og_iconst (pc := 445) (v := 1) dL_law_445 (by decide) ?_
  refine og_iadd (pc := 446) dL_law_446 ?_
  refine og_saldN (pc := 447) (j := i + 1) (nI_add i 1) dL_law_447 h0 (by omega) (by omega) (by omega) ?_
  refine og_aload_n (pc := 448) dL_law_448 rfl ?_
  refine og_iload (pc := 449) dL_law_449 rfl ?_
  refine og_iconst (pc := 451) (v := 2) dL_law_451 (by decide) ?_
  refine og_iadd (pc := 452) dL_law_452 ?_
  refine og_saldN (pc := 453) (j := i + 2) (nI_add i 2) dL_law_453 h0 (by omega) (by omega) (by omega) ?_
  refine og_aload_n (pc := 454) dL_law_454 rfl ?_
  refine og_callSH (pc := 455) (As := [.ref 3, .int (xs (i + 1)), .int (xs (i + 2)), .ref 123]) (rest := []) (P_load E 0 n h _ _ W h123) YH_L_load K_L_128 dL_law_455 rfl rfl (Nat.le_of_ble_eq_true rfl) (by omega) (by omega) (by omega) (fun v n1 h1 z => ?_)
  obtain ⟨k, f1, rfl, hn1, g123, g0, ⟨fs, g101⟩, hM⟩ := z
  refine og_istore_5 (pc := 458) dL_law_458 rfl ?_
  refine og_aload_n (pc := 460) dL_law_460 rfl ?_
  refine og_aload_n (pc := 461) dL_law_461 rfl ?_
  refine og_iload (pc := 462) dL_law_462 rfl ?_
  refine og_iconst (pc := 464) (v := 1) dL_law_464 (by decide) ?_
  refine og_iadd (pc := 465) dL_law_465 ?_
  refine og_saldN (pc := 466) (j := i + 1) (nI_add i 1) dL_law_466 (g0.trans h0) (by omega) (by omega) (by omega) ?_
  refine og_aload_n (pc := 467) dL_law_467 rfl ?_
  refine og_iload (pc := 468) dL_law_468 rfl ?_
  refine og_iconst (pc := 470) (v := 2) dL_law_470 (by decide) ?_
  refine og_iadd (pc := 471) dL_law_471 ?_
  refine og_saldN (pc := 472) (j := i + 2) (nI_add i 2) dL_law_472 (g0.trans h0) (by omega) (by omega) (by omega) ?_
  refine og_callV (pc := 473) (As := [.int (xs (i + 1)), .int (xs (i + 2))]) (rest := []) (hM.at 0) Y_X8_load I_X8_load V_X8_load g101 (by omega) rfl rfl K_L_131 dL_law_473 rfl rfl (Nat.le_of_ble_eq_true rfl) (by omega) (by omega) (by omega) (fun _ _ _ z => z) (fun v n2 h2 z => ?_)
  obtain ⟨hnn, r, D2, M2, rfl, ⟨W2, g2, g20⟩, hrf, hans⟩ := z
  subst hnn
  refine og_istore_6 (pc := 476) dL_law_476 rfl ?_
  refine og_aload_n (pc := 478) dL_law_478 rfl ?_
  refine og_callV (pc := 479) (As := []) (rest := []) (c_X8_thrown E 0 _ _ W2.2.1.m) Y_X8_thrown I_X8_thrown V_X8_thrown W2.2.1.m (by omega) rfl rfl K_L_117 dL_law_479 rfl rfl (Nat.le_of_ble_eq_true rfl) (by omega) (by omega) (by omega) (fun _ _ _ z => z) (fun v n3 h3 z => ?_)
  obtain ⟨rfl, hn3, rfl⟩ := z
  subst hn3
  refine og_iload (pc := 482) dL_law_482 rfl ?_
  refine og_icmp_eq (pc := 484) (tgt := 489) dL_law_484 (by decide) (fun _ => ?_) (fun c => absurd hrf c)
  refine og_iload (pc := 489) dL_law_489 rfl ?_
  refine og_if_ne (pc := 491) (tgt := 506) dL_law_491 (by decide) (fun _ => ?_) (fun ck => ?_)
  · skip
    refine og_goto (pc := 506) (tgt := 2054) dL_law_506 (by decide) ?_
    refine og_forget_5 (og_forget_6 ?_)
    refine og_widen (k2 := cells + 180) (n2 := slots + 3000) (by omega) (by omega) ?_
    exact kk _ _ _ _ _ W2 (g2.trans g123) (g20.trans (g0.trans h0))
  · skip
    refine og_aload_n (pc := 494) dL_law_494 rfl ?_
    refine og_iconst (pc := 495) (v := 0) dL_law_495 (by decide) ?_
    refine og_laldN (pc := 496) (j := 0) rfl dL_law_496 (g2.trans g123) (by omega) (by omega) (by omega) ?_
    refine og_iload (pc := 497) dL_law_497 rfl ?_
    refine og_i2l (pc := 499) dL_law_499 rfl ?_
    refine og_lcmp (pc := 500) dL_law_500 ?_
    refine og_if_eq (pc := 501) (tgt := 506) dL_law_501 (by decide) (fun _ => ?_) (fun c => absurd ((og_cmp0 _ _).mpr (hans ck)) c)
    refine og_goto (pc := 506) (tgt := 2054) dL_law_506 (by decide) ?_
    refine og_forget_5 (og_forget_6 ?_)
    refine og_widen (k2 := cells + 180) (n2 := slots + 3000) (by omega) (by omega) ?_
    exact kk _ _ _ _ _ W2 (g2.trans g123) (g20.trans (g0.trans h0))
set_option maxRecDepth 4000 in
theorem law_add {E : og_E} {X : og_X} {Q : State → Prop} {d mc ms cells slots n L i : Nat} {h : og_H} {xs : Nat → Int32} {D : q_D} {M : q_M} {f : Nat → Int64} (W : zW n h D M) (h123 : h 123 = some (row1 f)) (h0 : h 0 = some (rowI L xs)) (hi : i + 7 ≤ L) (hL : L ≤ 3584) (hd : 40 ≤ d) (hmc : cells + 180 ≤ mc) (hms : slots + 3000 ≤ ms)
    (kk : ∀ n2 h2 D2 M2 f2, zW n2 h2 D2 M2 → h2 123 = some (row1 f2) → h2 0 = some (rowI L xs) → og_G E RL cL_law d mc ms 8 X Q (cells + 180) (slots + 3000) n2 h2 2054 [some (.ref 0), some (.ref 3), some (.ref 101), some (.ref 123), some (.int (nI i)), none, none, none] []) :
    og_G E RL cL_law d mc ms 8 X Q cells slots n h 509 [some (.ref 0), some (.ref 3), some (.ref 101), some (.ref 123), some (.int (nI i)), none, none, none] [] := by
  refine og_aload_n (pc := 509) dL_law_509 rfl ?_
  refine og_aload_n (pc := 510) dL_law_510 rfl ?_
  refine og_iload (pc := 511) dL_law_511 rfl ?_
  refine og_iconst (pc := 513) (v := 1) dL_law_513 (by decide) ?_
  refine og_iadd (pc := 514) dL_law_514 ?_
  refine og_saldN (pc := 515) (j := i + 1) (nI_add i 1) dL_law_515 h0 (by omega) (by omega) (by omega) ?_
  refine og_aload_n (pc := 516) dL_law_516 rfl ?_
  refine og_iload (pc := 517) dL_law_517 rfl ?_
  refine og_iconst (pc := 519) (v := 2) dL_law_519 (by decide) ?_
  refine og_iadd (pc := 520) dL_law_520 ?_
  refine og_saldN (pc := 521) (j := i + 2) (nI_add i 2) dL_law_521 h0 (by omega) (by omega) (by omega) ?_
  refine og_aload_n (pc := 522) dL_law_522 rfl ?_
  refine og_iload (pc := 523) dL_law_523 rfl ?_
  refine og_iconst (pc := 525) (v := 3) dL_law_525 (by decide) ?_
  refine og_iadd (pc := 526) dL_law_526 ?_
  refine og_saldN (pc := 527) (j := i + 3) (nI_add i 3) dL_law_527 h0 (by omega) (by omega) (by omega) ?_
  refine og_aload_n (pc := 528) dL_law_528 rfl ?_
  refine og_iload (pc := 529) dL_law_529 rfl ?_
  refine og_iconst (pc := 531) (v := 4) dL_law_531 (by decide) ?_
  refine og_iadd (pc := 532) dL_law_532 ?_
  refine og_saldN (pc := 533) (j := i + 4) (nI_add i 4) dL_law_533 h0 (by omega) (by omega) (by omega) ?_
  refine og_if_eq (pc := 534) (tgt := 541) dL_law_534 (by decide) (fun cz => ?_) (fun cz => ?_)
  · skip
    refine og_iconst (pc := 541) (v := 0) dL_law_541 (by decide) ?_
    refine og_aload_n (pc := 542) dL_law_542 rfl ?_
    refine og_callSH (pc := 543) (As := [.ref 3, .int (xs (i + 1)), .int (xs (i + 2)), .int (xs (i + 3)), .int 0, .ref 123]) (rest := []) (P_add E 0 n h _ _ _ _ W h123) YH_L_add K_L_132 dL_law_543 rfl rfl (Nat.le_of_ble_eq_true rfl) (by omega) (by omega) (by omega) (fun v n1 h1 z => ?_)
    obtain ⟨k, f1, rfl, hn1, g123, g0, ⟨fs, g101⟩, hM⟩ := z
    refine og_istore_5 (pc := 546) dL_law_546 rfl ?_
    refine og_aload_n (pc := 548) dL_law_548 rfl ?_
    refine og_aload_n (pc := 549) dL_law_549 rfl ?_
    refine og_iload (pc := 550) dL_law_550 rfl ?_
    refine og_iconst (pc := 552) (v := 1) dL_law_552 (by decide) ?_
    refine og_iadd (pc := 553) dL_law_553 ?_
    refine og_saldN (pc := 554) (j := i + 1) (nI_add i 1) dL_law_554 (g0.trans h0) (by omega) (by omega) (by omega) ?_
    refine og_aload_n (pc := 555) dL_law_555 rfl ?_
    refine og_iload (pc := 556) dL_law_556 rfl ?_
    refine og_iconst (pc := 558) (v := 2) dL_law_558 (by decide) ?_
    refine og_iadd (pc := 559) dL_law_559 ?_
    refine og_saldN (pc := 560) (j := i + 2) (nI_add i 2) dL_law_560 (g0.trans h0) (by omega) (by omega) (by omega) ?_
    refine og_aload_n (pc := 561) dL_law_561 rfl ?_
    refine og_iload (pc := 562) dL_law_562 rfl ?_
    refine og_iconst (pc := 564) (v := 3) dL_law_564 (by decide) ?_
    refine og_iadd (pc := 565) dL_law_565 ?_
    refine og_saldN (pc := 566) (j := i + 3) (nI_add i 3) dL_law_566 (g0.trans h0) (by omega) (by omega) (by omega) ?_
    refine og_aload_n (pc := 567) dL_law_567 rfl ?_
    refine og_iload (pc := 568) dL_law_568 rfl ?_
    refine og_iconst (pc := 570) (v := 4) dL_law_570 (by decide) ?_
    refine og_iadd (pc := 571) dL_law_571 ?_
    refine og_saldN (pc := 572) (j := i + 4) (nI_add i 4) dL_law_572 (g0.trans h0) (by omega) (by omega) (by omega) ?_
    refine og_if_eq (pc := 573) (tgt := 580) dL_law_573 (by decide) (fun _ => ?_) (fun c => absurd cz c)
    refine og_iconst (pc := 580) (v := 0) dL_law_580 (by decide) ?_
    refine og_callV (pc := 581) (As := [.int (xs (i + 1)), .int (xs (i + 2)), .int (xs (i + 3)), .int 0]) (rest := []) (hM.at 0) Y_X8_add I_X8_add V_X8_add g101 (by omega) rfl rfl K_L_135 dL_law_581 rfl rfl (Nat.le_of_ble_eq_true rfl) (by omega) (by omega) (by omega) (fun _ _ _ z => z) (fun v n2 h2 z => ?_)
    obtain ⟨hnn, r, D2, M2, rfl, ⟨W2, g2, g20⟩, hrf, hans⟩ := z
    subst hnn
    refine og_lstore_6 (pc := 584) dL_law_584 rfl ?_
    refine og_aload_n (pc := 586) dL_law_586 rfl ?_
    refine og_callV (pc := 587) (As := []) (rest := []) (c_X8_thrown E 0 _ _ W2.2.1.m) Y_X8_thrown I_X8_thrown V_X8_thrown W2.2.1.m (by omega) rfl rfl K_L_117 dL_law_587 rfl rfl (Nat.le_of_ble_eq_true rfl) (by omega) (by omega) (by omega) (fun _ _ _ z => z) (fun v n3 h3 z => ?_)
    obtain ⟨rfl, hn3, rfl⟩ := z
    subst hn3
    refine og_iload (pc := 590) dL_law_590 rfl ?_
    refine og_icmp_eq (pc := 592) (tgt := 597) dL_law_592 (by decide) (fun _ => ?_) (fun c => absurd hrf c)
    refine og_iload (pc := 597) dL_law_597 rfl ?_
    refine og_if_ne (pc := 599) (tgt := 613) dL_law_599 (by decide) (fun _ => ?_) (fun ck => ?_)
    · skip
      refine og_goto (pc := 613) (tgt := 2054) dL_law_613 (by decide) ?_
      refine og_forget_5 (og_forget_6 ?_)
      refine og_widen (k2 := cells + 180) (n2 := slots + 3000) (by omega) (by omega) ?_
      exact kk _ _ _ _ _ W2 (g2.trans g123) (g20.trans (g0.trans h0))
    · skip
      refine og_aload_n (pc := 602) dL_law_602 rfl ?_
      refine og_iconst (pc := 603) (v := 0) dL_law_603 (by decide) ?_
      refine og_laldN (pc := 604) (j := 0) rfl dL_law_604 (g2.trans g123) (by omega) (by omega) (by omega) ?_
      refine og_lload (pc := 605) dL_law_605 rfl ?_
      refine og_lcmp (pc := 607) dL_law_607 ?_
      refine og_if_eq (pc := 608) (tgt := 613) dL_law_608 (by decide) (fun _ => ?_) (fun c => absurd ((og_cmp0 _ _).mpr (hans ck)) c)
      refine og_goto (pc := 613) (tgt := 2054) dL_law_613 (by decide) ?_
      refine og_forget_5 (og_forget_6 ?_)
      refine og_widen (k2 := cells + 180) (n2 := slots + 3000) (by omega) (by omega) ?_
      exact kk _ _ _ _ _ W2 (g2.trans g123) (g20.trans (g0.trans h0))
  · skip
    refine og_iconst (pc := 537) (v := 1) dL_law_537 (by decide) ?_
    refine og_goto (pc := 538) (tgt := 542) dL_law_538 (by decide) ?_
    refine og_aload_n (pc := 542) dL_law_542 rfl ?_
    refine og_callSH (pc := 543) (As := [.ref 3, .int (xs (i + 1)), .int (xs (i + 2)), .int (xs (i + 3)), .int 1, .ref 123]) (rest := []) (P_add E 0 n h _ _ _ _ W h123) YH_L_add K_L_132 dL_law_543 rfl rfl (Nat.le_of_ble_eq_true rfl) (by omega) (by omega) (by omega) (fun v n1 h1 z => ?_)
    obtain ⟨k, f1, rfl, hn1, g123, g0, ⟨fs, g101⟩, hM⟩ := z
    refine og_istore_5 (pc := 546) dL_law_546 rfl ?_
    refine og_aload_n (pc := 548) dL_law_548 rfl ?_
    refine og_aload_n (pc := 549) dL_law_549 rfl ?_
    refine og_iload (pc := 550) dL_law_550 rfl ?_
    refine og_iconst (pc := 552) (v := 1) dL_law_552 (by decide) ?_
    refine og_iadd (pc := 553) dL_law_553 ?_
    refine og_saldN (pc := 554) (j := i + 1) (nI_add i 1) dL_law_554 (g0.trans h0) (by omega) (by omega) (by omega) ?_
    refine og_aload_n (pc := 555) dL_law_555 rfl ?_
    refine og_iload (pc := 556) dL_law_556 rfl ?_
    refine og_iconst (pc := 558) (v := 2) dL_law_558 (by decide) ?_
    refine og_iadd (pc := 559) dL_law_559 ?_
    refine og_saldN (pc := 560) (j := i + 2) (nI_add i 2) dL_law_560 (g0.trans h0) (by omega) (by omega) (by omega) ?_
    refine og_aload_n (pc := 561) dL_law_561 rfl ?_
    refine og_iload (pc := 562) dL_law_562 rfl ?_
    refine og_iconst (pc := 564) (v := 3) dL_law_564 (by decide) ?_
    refine og_iadd (pc := 565) dL_law_565 ?_
    refine og_saldN (pc := 566) (j := i + 3) (nI_add i 3) dL_law_566 (g0.trans h0) (by omega) (by omega) (by omega) ?_
    refine og_aload_n (pc := 567) dL_law_567 rfl ?_
    refine og_iload (pc := 568) dL_law_568 rfl ?_
    refine og_iconst (pc := 570) (v := 4) dL_law_570 (by decide) ?_
    refine og_iadd (pc := 571) dL_law_571 ?_
    refine og_saldN (pc := 572) (j := i + 4) (nI_add i 4) dL_law_572 (g0.trans h0) (by omega) (by omega) (by omega) ?_
    refine og_if_eq (pc := 573) (tgt := 580) dL_law_573 (by decide) (fun c => absurd c cz) (fun _ => ?_)
    refine og_iconst (pc := 576) (v := 1) dL_law_576 (by decide) ?_
    refine og_goto (pc := 577) (tgt := 581) dL_law_577 (by decide) ?_
    refine og_callV (pc := 581) (As := [.int (xs (i + 1)), .int (xs (i + 2)), .int (xs (i + 3)), .int 1]) (rest := []) (hM.at 0) Y_X8_add I_X8_add V_X8_add g101 (by omega) rfl rfl K_L_135 dL_law_581 rfl rfl (Nat.le_of_ble_eq_true rfl) (by omega) (by omega) (by omega) (fun _ _ _ z => z) (fun v n2 h2 z => ?_)
    obtain ⟨hnn, r, D2, M2, rfl, ⟨W2, g2, g20⟩, hrf, hans⟩ := z
    subst hnn
    refine og_lstore_6 (pc := 584) dL_law_584 rfl ?_
    refine og_aload_n (pc := 586) dL_law_586 rfl ?_
    refine og_callV (pc := 587) (As := []) (rest := []) (c_X8_thrown E 0 _ _ W2.2.1.m) Y_X8_thrown I_X8_thrown V_X8_thrown W2.2.1.m (by omega) rfl rfl K_L_117 dL_law_587 rfl rfl (Nat.le_of_ble_eq_true rfl) (by omega) (by omega) (by omega) (fun _ _ _ z => z) (fun v n3 h3 z => ?_)
    obtain ⟨rfl, hn3, rfl⟩ := z
    subst hn3
    refine og_iload (pc := 590) dL_law_590 rfl ?_
    refine og_icmp_eq (pc := 592) (tgt := 597) dL_law_592 (by decide) (fun _ => ?_) (fun c => absurd hrf c)
    refine og_iload (pc := 597) dL_law_597 rfl ?_
    refine og_if_ne (pc := 599) (tgt := 613) dL_law_599 (by decide) (fun _ => ?_) (fun ck => ?_)
    · skip
      refine og_goto (pc := 613) (tgt := 2054) dL_law_613 (by decide) ?_
      refine og_forget_5 (og_forget_6 ?_)
      refine og_widen (k2 := cells + 180) (n2 := slots + 3000) (by omega) (by omega) ?_
      exact kk _ _ _ _ _ W2 (g2.trans g123) (g20.trans (g0.trans h0))
    · skip
      refine og_aload_n (pc := 602) dL_law_602 rfl ?_
      refine og_iconst (pc := 603) (v := 0) dL_law_603 (by decide) ?_
      refine og_laldN (pc := 604) (j := 0) rfl dL_law_604 (g2.trans g123) (by omega) (by omega) (by omega) ?_
      refine og_lload (pc := 605) dL_law_605 rfl ?_
      refine og_lcmp (pc := 607) dL_law_607 ?_
      refine og_if_eq (pc := 608) (tgt := 613) dL_law_608 (by decide) (fun _ => ?_) (fun c => absurd ((og_cmp0 _ _).mpr (hans ck)) c)
      refine og_goto (pc := 613) (tgt := 2054) dL_law_613 (by decide) ?_
      refine og_forget_5 (og_forget_6 ?_)
      refine og_widen (k2 := cells + 180) (n2 := slots + 3000) (by omega) (by omega) ?_
      exact kk _ _ _ _ _ W2 (g2.trans g123) (g20.trans (g0.trans h0))
set_option maxRecDepth 4000 in
theorem law_multiply {E : og_E} {X : og_X} {Q : State → Prop} {d mc ms cells slots n L i : Nat} {h : og_H} {xs : Nat → Int32} {D : q_D} {M : q_M} {f : Nat → Int64} (W : zW n h D M) (h123 : h 123 = some (row1 f)) (h0 : h 0 = some (rowI L xs)) (hi : i + 7 ≤ L) (hL : L ≤ 3584) (hd : 40 ≤ d) (hmc : cells + 180 ≤ mc) (hms : slots + 3000 ≤ ms)
    (kk : ∀ n2 h2 D2 M2 f2, zW n2 h2 D2 M2 → h2 123 = some (row1 f2) → h2 0 = some (rowI L xs) → og_G E RL cL_law d mc ms 8 X Q (cells + 180) (slots + 3000) n2 h2 2054 [some (.ref 0), some (.ref 3), some (.ref 101), some (.ref 123), some (.int (nI i)), none, none, none] []) :
    og_G E RL cL_law d mc ms 8 X Q cells slots n h 616 [some (.ref 0), some (.ref 3), some (.ref 101), some (.ref 123), some (.int (nI i)), none, none, none] [] := by
  refine og_aload_n (pc := 616) dL_law_616 rfl ?_
  refine og_aload_n (pc := 617) dL_law_617 rfl ?_
  refine og_iload (pc := 618) dL_law_618 rfl ?_
  refine og_iconst (pc := 620) (v := 1) dL_law_620 (by decide) ?_
  refine og_iadd (pc := 621) dL_law_621 ?_
  refine og_saldN (pc := 622) (j := i + 1) (nI_add i 1) dL_law_622 h0 (by omega) (by omega) (by omega) ?_
  refine og_aload_n (pc := 623) dL_law_623 rfl ?_
  refine og_iload (pc := 624) dL_law_624 rfl ?_
  refine og_iconst (pc := 626) (v := 2) dL_law_626 (by decide) ?_
  refine og_iadd (pc := 627) dL_law_627 ?_
  refine og_saldN (pc := 628) (j := i + 2) (nI_add i 2) dL_law_628 h0 (by omega) (by omega) (by omega) ?_
  refine og_aload_n (pc := 629) dL_law_629 rfl ?_
  refine og_iload (pc := 630) dL_law_630 rfl ?_
  refine og_iconst (pc := 632) (v := 3) dL_law_632 (by decide) ?_
  refine og_iadd (pc := 633) dL_law_633 ?_
  refine og_saldN (pc := 634) (j := i + 3) (nI_add i 3) dL_law_634 h0 (by omega) (by omega) (by omega) ?_
  refine og_aload_n (pc := 635) dL_law_635 rfl ?_
  refine og_callSH (pc := 636) (As := [.ref 3, .int (xs (i + 1)), .int (xs (i + 2)), .int (xs (i + 3)), .ref 123]) (rest := []) (P_multiply E 0 n h _ _ _ W h123) YH_L_multiply K_L_136 dL_law_636 rfl rfl (Nat.le_of_ble_eq_true rfl) (by omega) (by omega) (by omega) (fun v n1 h1 z => ?_)
  obtain ⟨k, f1, rfl, hn1, g123, g0, ⟨fs, g101⟩, hM⟩ := z
  refine og_istore_5 (pc := 639) dL_law_639 rfl ?_
  refine og_aload_n (pc := 641) dL_law_641 rfl ?_
  refine og_aload_n (pc := 642) dL_law_642 rfl ?_
  refine og_iload (pc := 643) dL_law_643 rfl ?_
  refine og_iconst (pc := 645) (v := 1) dL_law_645 (by decide) ?_
  refine og_iadd (pc := 646) dL_law_646 ?_
  refine og_saldN (pc := 647) (j := i + 1) (nI_add i 1) dL_law_647 (g0.trans h0) (by omega) (by omega) (by omega) ?_
  refine og_aload_n (pc := 648) dL_law_648 rfl ?_
  refine og_iload (pc := 649) dL_law_649 rfl ?_
  refine og_iconst (pc := 651) (v := 2) dL_law_651 (by decide) ?_
  refine og_iadd (pc := 652) dL_law_652 ?_
  refine og_saldN (pc := 653) (j := i + 2) (nI_add i 2) dL_law_653 (g0.trans h0) (by omega) (by omega) (by omega) ?_
  refine og_aload_n (pc := 654) dL_law_654 rfl ?_
  refine og_iload (pc := 655) dL_law_655 rfl ?_
  refine og_iconst (pc := 657) (v := 3) dL_law_657 (by decide) ?_
  refine og_iadd (pc := 658) dL_law_658 ?_
  refine og_saldN (pc := 659) (j := i + 3) (nI_add i 3) dL_law_659 (g0.trans h0) (by omega) (by omega) (by omega) ?_
  refine og_callV (pc := 660) (As := [.int (xs (i + 1)), .int (xs (i + 2)), .int (xs (i + 3))]) (rest := []) (hM.at 0) Y_X8_multiply I_X8_multiply V_X8_multiply g101 (by omega) rfl rfl K_L_138 dL_law_660 rfl rfl (Nat.le_of_ble_eq_true rfl) (by omega) (by omega) (by omega) (fun _ _ _ z => z) (fun v n2 h2 z => ?_)
  obtain ⟨hnn, r, D2, M2, rfl, ⟨W2, g2, g20⟩, hrf, hans⟩ := z
  subst hnn
  refine og_lstore_6 (pc := 663) dL_law_663 rfl ?_
  refine og_aload_n (pc := 665) dL_law_665 rfl ?_
  refine og_callV (pc := 666) (As := []) (rest := []) (c_X8_thrown E 0 _ _ W2.2.1.m) Y_X8_thrown I_X8_thrown V_X8_thrown W2.2.1.m (by omega) rfl rfl K_L_117 dL_law_666 rfl rfl (Nat.le_of_ble_eq_true rfl) (by omega) (by omega) (by omega) (fun _ _ _ z => z) (fun v n3 h3 z => ?_)
  obtain ⟨rfl, hn3, rfl⟩ := z
  subst hn3
  refine og_iload (pc := 669) dL_law_669 rfl ?_
  refine og_icmp_eq (pc := 671) (tgt := 676) dL_law_671 (by decide) (fun _ => ?_) (fun c => absurd hrf c)
  refine og_iload (pc := 676) dL_law_676 rfl ?_
  refine og_if_ne (pc := 678) (tgt := 692) dL_law_678 (by decide) (fun _ => ?_) (fun ck => ?_)
  · skip
    refine og_goto (pc := 692) (tgt := 2054) dL_law_692 (by decide) ?_
    refine og_forget_5 (og_forget_6 ?_)
    refine og_widen (k2 := cells + 180) (n2 := slots + 3000) (by omega) (by omega) ?_
    exact kk _ _ _ _ _ W2 (g2.trans g123) (g20.trans (g0.trans h0))
  · skip
    refine og_aload_n (pc := 681) dL_law_681 rfl ?_
    refine og_iconst (pc := 682) (v := 0) dL_law_682 (by decide) ?_
    refine og_laldN (pc := 683) (j := 0) rfl dL_law_683 (g2.trans g123) (by omega) (by omega) (by omega) ?_
    refine og_lload (pc := 684) dL_law_684 rfl ?_
    refine og_lcmp (pc := 686) dL_law_686 ?_
    refine og_if_eq (pc := 687) (tgt := 692) dL_law_687 (by decide) (fun _ => ?_) (fun c => absurd ((og_cmp0 _ _).mpr (hans ck)) c)
    refine og_goto (pc := 692) (tgt := 2054) dL_law_692 (by decide) ?_
    refine og_forget_5 (og_forget_6 ?_)
    refine og_widen (k2 := cells + 180) (n2 := slots + 3000) (by omega) (by omega) ?_
    exact kk _ _ _ _ _ W2 (g2.trans g123) (g20.trans (g0.trans h0))
set_option maxRecDepth 4000 in
theorem law_conjugate {E : og_E} {X : og_X} {Q : State → Prop} {d mc ms cells slots n L i : Nat} {h : og_H} {xs : Nat → Int32} {D : q_D} {M : q_M} {f : Nat → Int64} (W : zW n h D M) (h123 : h 123 = some (row1 f)) (h0 : h 0 = some (rowI L xs)) (hi : i + 7 ≤ L) (hL : L ≤ 3584) (hd : 40 ≤ d) (hmc : cells + 180 ≤ mc) (hms : slots + 3000 ≤ ms)
    (kk : ∀ n2 h2 D2 M2 f2, zW n2 h2 D2 M2 → h2 123 = some (row1 f2) → h2 0 = some (rowI L xs) → og_G E RL cL_law d mc ms 8 X Q (cells + 180) (slots + 3000) n2 h2 2054 [some (.ref 0), some (.ref 3), some (.ref 101), some (.ref 123), some (.int (nI i)), none, none, none] []) :
    og_G E RL cL_law d mc ms 8 X Q cells slots n h 695 [some (.ref 0), some (.ref 3), some (.ref 101), some (.ref 123), some (.int (nI i)), none, none, none] [] := by
  refine og_aload_n (pc := 695) dL_law_695 rfl ?_
  refine og_aload_n (pc := 696) dL_law_696 rfl ?_
  refine og_iload (pc := 697) dL_law_697 rfl ?_
  refine og_iconst (pc := 699) (v := 1) dL_law_699 (by decide) ?_
  refine og_iadd (pc := 700) dL_law_700 ?_
  refine og_saldN (pc := 701) (j := i + 1) (nI_add i 1) dL_law_701 h0 (by omega) (by omega) (by omega) ?_
  refine og_aload_n (pc := 702) dL_law_702 rfl ?_
  refine og_callSH (pc := 703) (As := [.ref 3, .int (xs (i + 1)), .ref 123]) (rest := []) (P_conjugate E 0 n h _ W h123) YH_L_conjugate K_L_139 dL_law_703 rfl rfl (Nat.le_of_ble_eq_true rfl) (by omega) (by omega) (by omega) (fun v n1 h1 z => ?_)
  obtain ⟨k, f1, rfl, hn1, g123, g0, ⟨fs, g101⟩, hM⟩ := z
  refine og_istore_5 (pc := 706) dL_law_706 rfl ?_
  refine og_aload_n (pc := 708) dL_law_708 rfl ?_
  refine og_aload_n (pc := 709) dL_law_709 rfl ?_
  refine og_iload (pc := 710) dL_law_710 rfl ?_
  refine og_iconst (pc := 712) (v := 1) dL_law_712 (by decide) ?_
  refine og_iadd (pc := 713) dL_law_713 ?_
  refine og_saldN (pc := 714) (j := i + 1) (nI_add i 1) dL_law_714 (g0.trans h0) (by omega) (by omega) (by omega) ?_
  refine og_callV (pc := 715) (As := [.int (xs (i + 1))]) (rest := []) (hM.at 0) Y_X8_conjugate I_X8_conjugate V_X8_conjugate g101 (by omega) rfl rfl K_L_141 dL_law_715 rfl rfl (Nat.le_of_ble_eq_true rfl) (by omega) (by omega) (by omega) (fun _ _ _ z => z) (fun v n2 h2 z => ?_)
  obtain ⟨hnn, r, D2, M2, rfl, ⟨W2, g2, g20⟩, hrf, hans⟩ := z
  subst hnn
  refine og_istore_6 (pc := 718) dL_law_718 rfl ?_
  refine og_aload_n (pc := 720) dL_law_720 rfl ?_
  refine og_callV (pc := 721) (As := []) (rest := []) (c_X8_thrown E 0 _ _ W2.2.1.m) Y_X8_thrown I_X8_thrown V_X8_thrown W2.2.1.m (by omega) rfl rfl K_L_117 dL_law_721 rfl rfl (Nat.le_of_ble_eq_true rfl) (by omega) (by omega) (by omega) (fun _ _ _ z => z) (fun v n3 h3 z => ?_)
  obtain ⟨rfl, hn3, rfl⟩ := z
  subst hn3
  refine og_iload (pc := 724) dL_law_724 rfl ?_
  refine og_icmp_eq (pc := 726) (tgt := 731) dL_law_726 (by decide) (fun _ => ?_) (fun c => absurd hrf c)
  refine og_iload (pc := 731) dL_law_731 rfl ?_
  refine og_if_ne (pc := 733) (tgt := 748) dL_law_733 (by decide) (fun _ => ?_) (fun ck => ?_)
  · skip
    refine og_goto (pc := 748) (tgt := 2054) dL_law_748 (by decide) ?_
    refine og_forget_5 (og_forget_6 ?_)
    refine og_widen (k2 := cells + 180) (n2 := slots + 3000) (by omega) (by omega) ?_
    exact kk _ _ _ _ _ W2 (g2.trans g123) (g20.trans (g0.trans h0))
  · skip
    refine og_aload_n (pc := 736) dL_law_736 rfl ?_
    refine og_iconst (pc := 737) (v := 0) dL_law_737 (by decide) ?_
    refine og_laldN (pc := 738) (j := 0) rfl dL_law_738 (g2.trans g123) (by omega) (by omega) (by omega) ?_
    refine og_iload (pc := 739) dL_law_739 rfl ?_
    refine og_i2l (pc := 741) dL_law_741 rfl ?_
    refine og_lcmp (pc := 742) dL_law_742 ?_
    refine og_if_eq (pc := 743) (tgt := 748) dL_law_743 (by decide) (fun _ => ?_) (fun c => absurd ((og_cmp0 _ _).mpr (hans ck)) c)
    refine og_goto (pc := 748) (tgt := 2054) dL_law_748 (by decide) ?_
    refine og_forget_5 (og_forget_6 ?_)
    refine og_widen (k2 := cells + 180) (n2 := slots + 3000) (by omega) (by omega) ?_
    exact kk _ _ _ _ _ W2 (g2.trans g123) (g20.trans (g0.trans h0))
set_option maxRecDepth 4000 in
theorem law_commutator {E : og_E} {X : og_X} {Q : State → Prop} {d mc ms cells slots n L i : Nat} {h : og_H} {xs : Nat → Int32} {D : q_D} {M : q_M} {f : Nat → Int64} (W : zW n h D M) (h123 : h 123 = some (row1 f)) (h0 : h 0 = some (rowI L xs)) (hi : i + 7 ≤ L) (hL : L ≤ 3584) (hd : 40 ≤ d) (hmc : cells + 180 ≤ mc) (hms : slots + 3000 ≤ ms)
    (kk : ∀ n2 h2 D2 M2 f2, zW n2 h2 D2 M2 → h2 123 = some (row1 f2) → h2 0 = some (rowI L xs) → og_G E RL cL_law d mc ms 8 X Q (cells + 180) (slots + 3000) n2 h2 2054 [some (.ref 0), some (.ref 3), some (.ref 101), some (.ref 123), some (.int (nI i)), none, none, none] []) :
    og_G E RL cL_law d mc ms 8 X Q cells slots n h 751 [some (.ref 0), some (.ref 3), some (.ref 101), some (.ref 123), some (.int (nI i)), none, none, none] [] := by
  refine og_aload_n (pc := 751) dL_law_751 rfl ?_
  refine og_aload_n (pc := 752) dL_law_752 rfl ?_
  refine og_iload (pc := 753) dL_law_753 rfl ?_
  refine og_iconst (pc := 755) (v := 1) dL_law_755 (by decide) ?_
  refine og_iadd (pc := 756) dL_law_756 ?_
  refine og_saldN (pc := 757) (j := i + 1) (nI_add i 1) dL_law_757 h0 (by omega) (by omega) (by omega) ?_
  refine og_aload_n (pc := 758) dL_law_758 rfl ?_
  refine og_iload (pc := 759) dL_law_759 rfl ?_
  refine og_iconst (pc := 761) (v := 2) dL_law_761 (by decide) ?_
  refine og_iadd (pc := 762) dL_law_762 ?_
  refine og_saldN (pc := 763) (j := i + 2) (nI_add i 2) dL_law_763 h0 (by omega) (by omega) (by omega) ?_
  refine og_aload_n (pc := 764) dL_law_764 rfl ?_
  refine og_iload (pc := 765) dL_law_765 rfl ?_
  refine og_iconst (pc := 767) (v := 3) dL_law_767 (by decide) ?_
  refine og_iadd (pc := 768) dL_law_768 ?_
  refine og_saldN (pc := 769) (j := i + 3) (nI_add i 3) dL_law_769 h0 (by omega) (by omega) (by omega) ?_
  refine og_aload_n (pc := 770) dL_law_770 rfl ?_
  refine og_callSH (pc := 771) (As := [.ref 3, .int (xs (i + 1)), .int (xs (i + 2)), .int (xs (i + 3)), .ref 123]) (rest := []) (P_commutator E 0 n h _ _ _ W h123) YH_L_commutator K_L_142 dL_law_771 rfl rfl (Nat.le_of_ble_eq_true rfl) (by omega) (by omega) (by omega) (fun v n1 h1 z => ?_)
  obtain ⟨k, f1, rfl, hn1, g123, g0, ⟨fs, g101⟩, hM⟩ := z
  refine og_istore_5 (pc := 774) dL_law_774 rfl ?_
  refine og_aload_n (pc := 776) dL_law_776 rfl ?_
  refine og_aload_n (pc := 777) dL_law_777 rfl ?_
  refine og_iload (pc := 778) dL_law_778 rfl ?_
  refine og_iconst (pc := 780) (v := 1) dL_law_780 (by decide) ?_
  refine og_iadd (pc := 781) dL_law_781 ?_
  refine og_saldN (pc := 782) (j := i + 1) (nI_add i 1) dL_law_782 (g0.trans h0) (by omega) (by omega) (by omega) ?_
  refine og_aload_n (pc := 783) dL_law_783 rfl ?_
  refine og_iload (pc := 784) dL_law_784 rfl ?_
  refine og_iconst (pc := 786) (v := 2) dL_law_786 (by decide) ?_
  refine og_iadd (pc := 787) dL_law_787 ?_
  refine og_saldN (pc := 788) (j := i + 2) (nI_add i 2) dL_law_788 (g0.trans h0) (by omega) (by omega) (by omega) ?_
  refine og_aload_n (pc := 789) dL_law_789 rfl ?_
  refine og_iload (pc := 790) dL_law_790 rfl ?_
  refine og_iconst (pc := 792) (v := 3) dL_law_792 (by decide) ?_
  refine og_iadd (pc := 793) dL_law_793 ?_
  refine og_saldN (pc := 794) (j := i + 3) (nI_add i 3) dL_law_794 (g0.trans h0) (by omega) (by omega) (by omega) ?_
  refine og_callV (pc := 795) (As := [.int (xs (i + 1)), .int (xs (i + 2)), .int (xs (i + 3))]) (rest := []) (hM.at 0) Y_X8_commutator I_X8_commutator V_X8_commutator g101 (by omega) rfl rfl K_L_144 dL_law_795 rfl rfl (Nat.le_of_ble_eq_true rfl) (by omega) (by omega) (by omega) (fun _ _ _ z => z) (fun v n2 h2 z => ?_)
  obtain ⟨hnn, r, D2, M2, rfl, ⟨W2, g2, g20⟩, hrf, hans⟩ := z
  subst hnn
  refine og_lstore_6 (pc := 798) dL_law_798 rfl ?_
  refine og_aload_n (pc := 800) dL_law_800 rfl ?_
  refine og_callV (pc := 801) (As := []) (rest := []) (c_X8_thrown E 0 _ _ W2.2.1.m) Y_X8_thrown I_X8_thrown V_X8_thrown W2.2.1.m (by omega) rfl rfl K_L_117 dL_law_801 rfl rfl (Nat.le_of_ble_eq_true rfl) (by omega) (by omega) (by omega) (fun _ _ _ z => z) (fun v n3 h3 z => ?_)
  obtain ⟨rfl, hn3, rfl⟩ := z
  subst hn3
  refine og_iload (pc := 804) dL_law_804 rfl ?_
  refine og_icmp_eq (pc := 806) (tgt := 811) dL_law_806 (by decide) (fun _ => ?_) (fun c => absurd hrf c)
  refine og_iload (pc := 811) dL_law_811 rfl ?_
  refine og_if_ne (pc := 813) (tgt := 827) dL_law_813 (by decide) (fun _ => ?_) (fun ck => ?_)
  · skip
    refine og_goto (pc := 827) (tgt := 2054) dL_law_827 (by decide) ?_
    refine og_forget_5 (og_forget_6 ?_)
    refine og_widen (k2 := cells + 180) (n2 := slots + 3000) (by omega) (by omega) ?_
    exact kk _ _ _ _ _ W2 (g2.trans g123) (g20.trans (g0.trans h0))
  · skip
    refine og_aload_n (pc := 816) dL_law_816 rfl ?_
    refine og_iconst (pc := 817) (v := 0) dL_law_817 (by decide) ?_
    refine og_laldN (pc := 818) (j := 0) rfl dL_law_818 (g2.trans g123) (by omega) (by omega) (by omega) ?_
    refine og_lload (pc := 819) dL_law_819 rfl ?_
    refine og_lcmp (pc := 821) dL_law_821 ?_
    refine og_if_eq (pc := 822) (tgt := 827) dL_law_822 (by decide) (fun _ => ?_) (fun c => absurd ((og_cmp0 _ _).mpr (hans ck)) c)
    refine og_goto (pc := 827) (tgt := 2054) dL_law_827 (by decide) ?_
    refine og_forget_5 (og_forget_6 ?_)
    refine og_widen (k2 := cells + 180) (n2 := slots + 3000) (by omega) (by omega) ?_
    exact kk _ _ _ _ _ W2 (g2.trans g123) (g20.trans (g0.trans h0))
