/-! ===== the law: quotient and rest ===== -/
section YR
variable {E : og_E} {X : og_X} {Q : State → Prop} {d mc ms cells slots n t a b o rc rp rb rh w : Nat} {h : og_H} {N ls : Int64} {P : Nat → Int64}
/-- the row of a set of odd places, and its distance -/
theorem y_cols (hN : 0 < N.toInt) (hN2 : zsm N) (hp : ∀ k, k < 8 → zsm (P k)) (hrp : h rp = some (rowL P)) (h3p : 3 ≤ rp) (h3h : 3 ≤ rh) (hpr : rp ≠ rh) (hrh : h rh = some (rowL (fun _ => 0)))
    (K : og_G E RL cL_quotient d mc ms 20 X Q cells slots n (og_set h rh (rowL (q_ner N P w))) 223 (y_lq t a b o rc rp N rb ls w [some (.ref rh), some (.long (q_frr N P (q_ner N P w) 8)), none, none, none, none, none, none]) []) :
    og_G E RL cL_quotient d mc ms 20 X Q cells slots n h 75 (y_lq t a b o rc rp N rb ls w [some (.ref rh), some (.long 0), none, some (.int 0), none, none, none, none]) [] := by
  have hN0 : ¬ N = 0 := fun e => by
    rw [e] at hN
    exact absurd hN (by decide)
  refine og_congL (fun j => if j < 0 then q_ner N P w j else 0) hrh h3h (fun j _ => by simp) ?_
  refine og_for (i0 := 0) (N := 8) (by decide) (fun i => og_set h rh (rowL (fun j => if j < i then q_ner N P w j else 0))) (fun i => y_lq t a b o rc rp N rb ls w [some (.ref rh), some (.long (q_frr N P (q_ner N P w) i)), none, some (.int (nI i)), none, none, none, none]) ?_ (fun i hi1 hi ih => ?_)
  · refine og_iload (pc := 75) dL_quotient_75 rfl ?_
    refine og_bipush (pc := 77) (v := 8) dL_quotient_77 (by decide) ?_
    refine og_geN (pc := 79) (tgt := 223) (i := 8) (N := 8) dL_quotient_79 (by decide) rfl rfl (by omega) (by omega) (fun c_79 => ?_) (fun c_79 => ?_)
    · refine og_congL (q_ner N P w) (og_set_eq _ _ _) h3h (fun j hj => by rw [if_pos (by omega)]) ?_
      rw [og_set_set]
      exact og_forget_15 K
    · omega
  · refine og_iload (pc := 75) dL_quotient_75 rfl ?_
    refine og_bipush (pc := 77) (v := 8) dL_quotient_77 (by decide) ?_
    refine og_geN (pc := 79) (tgt := 223) (i := i) (N := 8) dL_quotient_79 (by decide) rfl rfl (by omega) (by omega) (fun c_79 => ?_) (fun c_79 => ?_)
    · omega
    refine og_ldc2 (pc := 82) LC_L_23 dL_quotient_82 ?_
    refine og_aload (pc := 85) dL_quotient_85 rfl ?_
    refine og_iload (pc := 87) dL_quotient_87 rfl ?_
    refine og_laldN (pc := 89) (j := i) rfl dL_quotient_89 (by repeat (first | exact og_set_eq _ _ _ | assumption | refine (og_set_ne _ _ (by first | assumption | omega)).trans ?_)) (by omega) (by omega) (by first | decide | assumption | omega) ?_
    refine og_lmul (pc := 90) dL_quotient_90 ?_
    refine og_lload (pc := 91) dL_quotient_91 rfl ?_
    refine og_ldiv (pc := 93) dL_quotient_93 hN0 ?_
    refine og_ldc2 (pc := 94) LC_L_25 dL_quotient_94 ?_
    refine og_lsub (pc := 97) dL_quotient_97 ?_
    refine og_lstore_16 (pc := 98) dL_quotient_98 rfl ?_
    refine og_lload (pc := 100) dL_quotient_100 rfl ?_
    refine og_lload (pc := 102) dL_quotient_102 rfl ?_
    refine og_lconst (pc := 104) (v := 1) dL_quotient_104 (by decide) ?_
    refine og_land (pc := 105) dL_quotient_105 ?_
    refine og_iload (pc := 106) dL_quotient_106 rfl ?_
    refine og_iload (pc := 108) dL_quotient_108 rfl ?_
    refine og_ishr (pc := 110) dL_quotient_110 ?_
    refine og_iconst (pc := 111) (v := 1) dL_quotient_111 (by decide) ?_
    refine og_iand (pc := 112) dL_quotient_112 ?_
    refine og_i2l (pc := 113) dL_quotient_113 rfl ?_
    refine og_lcmp (pc := 114) dL_quotient_114 ?_
    have go : og_G E RL cL_quotient d mc ms 20 X Q cells slots n (og_set h rh (rowL (fun j => if j < i then q_ner N P w j else 0))) 124 (y_lq t a b o rc rp N rb ls w [some (.ref rh), some (.long (q_frr N P (q_ner N P w) i)), none, some (.int (nI i)), some (.long (2 * P i / N - 4)), none, none, none]) [.long (y_adj (2 * P i / N - 4) (q_sbit w i))] := by
      refine og_lstore_16 (pc := 124) dL_quotient_124 rfl ?_
      refine og_lload (pc := 126) dL_quotient_126 rfl ?_
      refine og_lload (pc := 128) dL_quotient_128 rfl ?_
      refine og_lmul (pc := 130) dL_quotient_130 ?_
      refine og_ldc2 (pc := 131) LC_L_23 dL_quotient_131 ?_
      refine og_aload (pc := 134) dL_quotient_134 rfl ?_
      refine og_iload (pc := 136) dL_quotient_136 rfl ?_
      refine og_laldN (pc := 138) (j := i) rfl dL_quotient_138 (by repeat (first | exact og_set_eq _ _ _ | assumption | refine (og_set_ne _ _ (by first | assumption | omega)).trans ?_)) (by omega) (by omega) (by first | decide | assumption | omega) ?_
      refine og_lmul (pc := 139) dL_quotient_139 ?_
      refine og_lsub (pc := 140) dL_quotient_140 ?_
      refine og_lstore_18 (pc := 141) dL_quotient_141 rfl ?_
      rw [zsbit]
      refine y_while hN hN2 (hp i hi) (zner_b w i hN hN2 (hp i hi)).1 (a13 := none) (a14 := none) ?_ 2 (by omega) _ _ (y_ok_0 hN hN2 (hp i hi) (zw_lt (nI w) i))
      refine og_aload (pc := 200) dL_quotient_200 rfl ?_
      refine og_iload (pc := 202) dL_quotient_202 rfl ?_
      refine og_lload (pc := 204) dL_quotient_204 rfl ?_
      refine og_lastN (pc := 206) (j := i) rfl dL_quotient_206 (by repeat (first | exact og_set_eq _ _ _ | assumption | refine (og_set_ne _ _ (by first | assumption | omega)).trans ?_)) (by omega) (by omega) (by first | decide | assumption | omega) ?_
      refine og_lload (pc := 207) dL_quotient_207 rfl ?_
      refine og_lload (pc := 209) dL_quotient_209 rfl ?_
      refine og_lload (pc := 211) dL_quotient_211 rfl ?_
      refine og_lmul (pc := 213) dL_quotient_213 ?_
      refine og_ladd (pc := 214) dL_quotient_214 ?_
      refine og_lstore_13 (pc := 215) dL_quotient_215 rfl ?_
      refine og_iinc_15 (pc := 217) dL_quotient_217 (og_inc i) rfl ?_
      refine og_goto (pc := 220) (tgt := 75) dL_quotient_220 (by decide) ?_
      refine og_forget_16 (og_forget_18 ?_)
      rw [og_set_set, og_fill (by rfl)]
      exact ih
    refine og_if_ne (pc := 115) (tgt := 122) dL_quotient_115 (by decide) (fun c => ?_) (fun c => ?_)
    · refine og_lconst (pc := 122) (v := 1) dL_quotient_122 (by decide) ?_
      refine og_ladd (pc := 123) dL_quotient_123 ?_
      rw [show 2 * P i / N - 4 + 1 = y_adj (2 * P i / N - 4) (q_sbit w i) from (if_neg (fun q => c ((og_cmp0 _ _).mpr q))).symm]
      exact go
    · refine og_lconst (pc := 118) (v := 0) dL_quotient_118 (by decide) ?_
      refine og_goto (pc := 119) (tgt := 123) dL_quotient_119 (by decide) ?_
      refine og_ladd (pc := 123) dL_quotient_123 ?_
      rw [show 2 * P i / N - 4 + 0 = y_adj (2 * P i / N - 4) (q_sbit w i) from (if_pos ((og_cmp0 _ _).mp c)).symm]
      exact go
/-- which of the two comes first -/
theorem y_pick {F : Int64} {R C : Nat → Int64} (h3h : 3 ≤ rh) (h3b : 3 ≤ rb) (hrh : h rh = some (rowL R)) (hrb : h rb = some (rowL C))
    (K1 : (ls < 0 ∨ F < ls ∨ (F = ls ∧ q_first R C)) → og_G E RL cL_quotient d mc ms 20 X Q cells slots n h 344 (y_lq t a b o rc rp N rh F w [none, none, none, none, none, none, none, none]) [])
    (K2 : ¬ (ls < 0 ∨ F < ls ∨ (F = ls ∧ q_first R C)) → og_G E RL cL_quotient d mc ms 20 X Q cells slots n h 344 (y_lq t a b o rc rp N rb ls w [none, none, none, none, none, none, none, none]) []) :
    og_G E RL cL_quotient d mc ms 20 X Q cells slots n h 223 (y_lq t a b o rc rp N rb ls w [some (.ref rh), some (.long F), none, none, none, none, none, none]) [] := by
  have e316 : ∀ (b1 : Bool) (a16 : Option Value), (b1 = true ↔ (ls < 0 ∨ F < ls ∨ (F = ls ∧ q_first R C))) → og_G E RL cL_quotient d mc ms 20 X Q cells slots n h 316 (y_lq t a b o rc rp N rb ls w [some (.ref rh), some (.long F), none, some (.int (y_z b1)), a16, none, none, none]) [] := by
    intro b1 a16 hb1
    refine og_iload (pc := 316) dL_quotient_316 rfl ?_
    cases b1
    · refine og_if_eq (pc := 318) (tgt := 326) dL_quotient_318 (by decide) (fun c => ?_) (fun c => absurd rfl c)
      refine og_lload (pc := 326) dL_quotient_326 rfl ?_
      refine og_lstore_9 (pc := 328) dL_quotient_328 rfl ?_
      refine og_iload (pc := 330) dL_quotient_330 rfl ?_
      refine og_if_eq (pc := 332) (tgt := 340) dL_quotient_332 (by decide) (fun c => ?_) (fun c => absurd rfl c)
      refine og_aload (pc := 340) dL_quotient_340 rfl ?_
      refine og_astore_8 (pc := 342) dL_quotient_342 rfl ?_
      refine og_forget_12 (og_forget_13 (og_forget_15 (og_forget_16 ?_)))
      exact K2 (fun q => by cases hb1.mpr q)
    · refine og_if_eq (pc := 318) (tgt := 326) dL_quotient_318 (by decide) (fun c => absurd c (by decide)) (fun c => ?_)
      refine og_lload (pc := 321) dL_quotient_321 rfl ?_
      refine og_goto (pc := 323) (tgt := 328) dL_quotient_323 (by decide) ?_
      refine og_lstore_9 (pc := 328) dL_quotient_328 rfl ?_
      refine og_iload (pc := 330) dL_quotient_330 rfl ?_
      refine og_if_eq (pc := 332) (tgt := 340) dL_quotient_332 (by decide) (fun c => absurd c (by decide)) (fun c => ?_)
      refine og_aload (pc := 335) dL_quotient_335 rfl ?_
      refine og_goto (pc := 337) (tgt := 342) dL_quotient_337 (by decide) ?_
      refine og_astore_8 (pc := 342) dL_quotient_342 rfl ?_
      refine og_forget_12 (og_forget_13 (og_forget_15 (og_forget_16 ?_)))
      exact K1 (hb1.mp rfl)
  have one : (ls < 0 ∨ F < ls) → og_G E RL cL_quotient d mc ms 20 X Q cells slots n h 238 (y_lq t a b o rc rp N rb ls w [some (.ref rh), some (.long F), none, none, none, none, none, none]) [] := by
    intro hc
    refine og_iconst (pc := 238) (v := 1) dL_quotient_238 (by decide) ?_
    refine og_goto (pc := 239) (tgt := 243) dL_quotient_239 (by decide) ?_
    refine og_istore_15 (pc := 243) dL_quotient_243 rfl ?_
    refine og_iload (pc := 245) dL_quotient_245 rfl ?_
    refine og_if_ne (pc := 247) (tgt := 316) dL_quotient_247 (by decide) (fun c => ?_) (fun c => absurd c (by decide))
    exact e316 true none ⟨fun _ => hc.imp id Or.inl, fun _ => rfl⟩
  have nul : ¬ ls < 0 → ¬ F < ls → og_G E RL cL_quotient d mc ms 20 X Q cells slots n h 242 (y_lq t a b o rc rp N rb ls w [some (.ref rh), some (.long F), none, none, none, none, none, none]) [] := by
    intro n1 n2
    refine og_iconst (pc := 242) (v := 0) dL_quotient_242 (by decide) ?_
    refine og_istore_15 (pc := 243) dL_quotient_243 rfl ?_
    refine og_iload (pc := 245) dL_quotient_245 rfl ?_
    refine og_if_ne (pc := 247) (tgt := 316) dL_quotient_247 (by decide) (fun c => absurd rfl c) (fun c => ?_)
    refine og_lload (pc := 250) dL_quotient_250 rfl ?_
    refine og_lload (pc := 252) dL_quotient_252 rfl ?_
    refine og_lcmp (pc := 254) dL_quotient_254 ?_
    refine og_if_ne (pc := 255) (tgt := 316) dL_quotient_255 (by decide) (fun c2 => ?_) (fun c2 => ?_)
    · exact e316 false none ⟨fun q => (by cases q), fun q => (q.elim (fun z => absurd z n1) (fun q => q.elim (fun z => absurd z n2) (fun z => absurd ((og_cmp0 _ _).mpr z.1) c2)))⟩
    · have hFl := (og_cmp0 _ _).mp c2
      refine og_iconst (pc := 258) (v := 0) dL_quotient_258 (by decide) ?_
      refine og_istore_16 (pc := 259) dL_quotient_259 rfl ?_
      have loop : ∀ m i, i + m = 8 → (∀ j, j < i → R j = C j) → og_G E RL cL_quotient d mc ms 20 X Q cells slots n h 261 (y_lq t a b o rc rp N rb ls w [some (.ref rh), some (.long F), none, some (.int (y_z false)), some (.int (nI i)), none, none, none]) [] := by
        intro m
        induction m with
        | zero =>
          intro i hi he
          obtain rfl : i = 8 := by omega
          refine og_iload (pc := 261) dL_quotient_261 rfl ?_
          refine og_bipush (pc := 263) (v := 8) dL_quotient_263 (by decide) ?_
          refine og_geN (pc := 265) (tgt := 288) (i := 8) (N := 8) dL_quotient_265 (by decide) rfl rfl (by omega) (by omega) (fun c_265 => ?_) (fun c_265 => ?_)
          · refine og_iload (pc := 288) dL_quotient_288 rfl ?_
            refine og_bipush (pc := 290) (v := 8) dL_quotient_290 (by decide) ?_
            refine og_geN (pc := 292) (tgt := 313) (i := 8) (N := 8) dL_quotient_292 (by decide) rfl rfl (by omega) (by omega) (fun c_292 => ?_) (fun c_292 => ?_)
            · refine og_iconst (pc := 313) (v := 0) dL_quotient_313 (by decide) ?_
              refine og_istore_15 (pc := 314) dL_quotient_314 rfl ?_
              refine e316 false _ ⟨fun q => (by cases q), fun q => (q.elim (fun z => absurd z n1) (fun q => q.elim (fun z => absurd z n2) (fun z => ?_)))⟩
              obtain ⟨i, i1, _, i2⟩ := z.2
              rw [he i i1] at i2
              exact absurd i2 (Int64.lt_irrefl)
            · omega
          · omega
        | succ m ih =>
          intro i hi he
          refine og_iload (pc := 261) dL_quotient_261 rfl ?_
          refine og_bipush (pc := 263) (v := 8) dL_quotient_263 (by decide) ?_
          refine og_geN (pc := 265) (tgt := 288) (i := i) (N := 8) dL_quotient_265 (by decide) rfl rfl (by omega) (by omega) (fun c_265 => ?_) (fun c_265 => ?_)
          · omega
          refine og_aload (pc := 268) dL_quotient_268 rfl ?_
          refine og_iload (pc := 270) dL_quotient_270 rfl ?_
          refine og_laldN (pc := 272) (j := i) rfl dL_quotient_272 (by repeat (first | exact og_set_eq _ _ _ | assumption | refine (og_set_ne _ _ (by first | assumption | omega)).trans ?_)) (by omega) (by omega) (by first | decide | assumption | omega) ?_
          refine og_aload (pc := 273) dL_quotient_273 rfl ?_
          refine og_iload (pc := 275) dL_quotient_275 rfl ?_
          refine og_laldN (pc := 277) (j := i) rfl dL_quotient_277 (by repeat (first | exact og_set_eq _ _ _ | assumption | refine (og_set_ne _ _ (by first | assumption | omega)).trans ?_)) (by omega) (by omega) (by first | decide | assumption | omega) ?_
          refine og_lcmp (pc := 278) dL_quotient_278 ?_
          refine og_if_ne (pc := 279) (tgt := 288) dL_quotient_279 (by decide) (fun c3 => ?_) (fun c3 => ?_)
          · have hne : ¬ R i = C i := fun q => c3 ((og_cmp0 _ _).mpr q)
            refine og_iload (pc := 288) dL_quotient_288 rfl ?_
            refine og_bipush (pc := 290) (v := 8) dL_quotient_290 (by decide) ?_
            refine og_geN (pc := 292) (tgt := 313) (i := i) (N := 8) dL_quotient_292 (by decide) rfl rfl (by omega) (by omega) (fun c_292 => ?_) (fun c_292 => ?_)
            · omega
            refine og_aload (pc := 295) dL_quotient_295 rfl ?_
            refine og_iload (pc := 297) dL_quotient_297 rfl ?_
            refine og_laldN (pc := 299) (j := i) rfl dL_quotient_299 (by repeat (first | exact og_set_eq _ _ _ | assumption | refine (og_set_ne _ _ (by first | assumption | omega)).trans ?_)) (by omega) (by omega) (by first | decide | assumption | omega) ?_
            refine og_aload (pc := 300) dL_quotient_300 rfl ?_
            refine og_iload (pc := 302) dL_quotient_302 rfl ?_
            refine og_laldN (pc := 304) (j := i) rfl dL_quotient_304 (by repeat (first | exact og_set_eq _ _ _ | assumption | refine (og_set_ne _ _ (by first | assumption | omega)).trans ?_)) (by omega) (by omega) (by first | decide | assumption | omega) ?_
            refine og_lcmp (pc := 305) dL_quotient_305 ?_
            refine og_if_ge (pc := 306) (tgt := 313) dL_quotient_306 (by decide) (fun c4 => ?_) (fun c4 => ?_)
            · refine og_iconst (pc := 313) (v := 0) dL_quotient_313 (by decide) ?_
              refine og_istore_15 (pc := 314) dL_quotient_314 rfl ?_
              refine e316 false _ ⟨fun q => (by cases q), fun q => (q.elim (fun z => absurd z n1) (fun q => q.elim (fun z => absurd z n2) (fun z => ?_)))⟩
              obtain ⟨j, j1, j2, j3⟩ := z.2
              exfalso
              rcases Nat.lt_trichotomy j i with q | q | q
              · rw [he j q] at j3
                exact Int64.lt_irrefl j3
              · rw [q] at j3
                exact og_lel c4 ((og_cmpL _ _).mpr j3)
              · exact hne (j2 i q)
            · refine og_iconst (pc := 309) (v := 1) dL_quotient_309 (by decide) ?_
              refine og_goto (pc := 310) (tgt := 314) dL_quotient_310 (by decide) ?_
              refine og_istore_15 (pc := 314) dL_quotient_314 rfl ?_
              exact e316 true _ ⟨fun _ => Or.inr (Or.inr ⟨hFl, i, by omega, he, (og_cmpL _ _).mp (og_nle c4)⟩), fun _ => rfl⟩
          · have heq := (og_cmp0 _ _).mp c3
            refine og_iinc_16 (pc := 282) dL_quotient_282 (og_inc i) rfl ?_
            refine og_goto (pc := 285) (tgt := 261) dL_quotient_285 (by decide) ?_
            exact ih (i + 1) (by omega) (fun j hj => by
              by_cases e : j = i
              · rw [e]; exact heq
              · exact he j (by omega))
      exact loop 8 0 rfl (fun j hj => absurd hj (Nat.not_lt_zero j))
  refine og_lload (pc := 223) dL_quotient_223 rfl ?_
  refine og_lconst (pc := 225) (v := 0) dL_quotient_225 (by decide) ?_
  refine og_lcmp (pc := 226) dL_quotient_226 ?_
  refine og_if_lt (pc := 227) (tgt := 238) dL_quotient_227 (by decide) (fun c => ?_) (fun c => ?_)
  · exact one (Or.inl ((og_cmpL _ _).mp c))
  · refine og_lload (pc := 230) dL_quotient_230 rfl ?_
    refine og_lload (pc := 232) dL_quotient_232 rfl ?_
    refine og_lcmp (pc := 234) dL_quotient_234 ?_
    refine og_if_ge (pc := 235) (tgt := 242) dL_quotient_235 (by decide) (fun c2 => ?_) (fun c2 => ?_)
    · exact nul (fun q => c ((og_cmpL _ _).mpr q)) (fun q => og_lel c2 ((og_cmpL _ _).mpr q))
    · exact one (Or.inr ((og_cmpL _ _).mp (og_nle c2)))
end YR
