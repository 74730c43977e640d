/-! ===== normal forms of the heap ===== -/
abbrev rowL (f : Nat → Int64) : og_N := .inl (2, 8, .inr (.inl f))
theorem og_set_set (h : og_H) (a : Nat) (e e2 : og_N) : og_set (og_set h a e) a e2 = og_set h a e2 := by
  funext q
  unfold og_set
  by_cases hq : q = a
  · rw [if_pos hq, if_pos hq]
  · rw [if_neg hq, if_neg hq, if_neg hq]
theorem og_set_same {h : og_H} {a : Nat} {e : og_N} (ha : h a = some e) : og_set h a e = h := by
  funext q
  unfold og_set
  by_cases hq : q = a
  · rw [if_pos hq, hq, ha]
  · rw [if_neg hq]
theorem og_set_comm (h : og_H) {a b : Nat} (e e2 : og_N) (hab : a ≠ b) : og_set (og_set h a e) b e2 = og_set (og_set h b e2) a e := by
  funext q
  unfold og_set
  by_cases hq : q = a
  · subst hq
    rw [if_neg hab, if_pos rfl, if_pos rfl]
  · rw [if_neg hq, if_neg hq]
theorem og_arr {c : ClassId} {N : Nat} {f g : Nat → Value} (hf : ∀ j, j < N → f j = g j) : arrV c N f = arrV c N g := by
  unfold arrV
  congr 1
  apply Array.ext
  · simp
  · intro i h1 h2
    simp only [Array.size_ofFn, List.size_toArray, List.length_map, List.length_range, Array.size_map, Array.size_range] at h1
    simp [hf i h1]
section ON
variable {E : og_E} {own : String} {cc : ByteArray} {d mc ms nL : Nat} {X : og_X} {Q : State → Prop} {cells slots n : Nat} {h : og_H} {pc : Nat} {lv : List (Option Value)} {st : List Value}
theorem og_congL {a N : Nat} {f : Nat → Int64} (g : Nat → Int64) (ha : h a = some (.inl (2, N, .inr (.inl f)))) (h3 : 3 ≤ a) (hf : ∀ j, j < N → f j = g j) (k : og_G E own cc d mc ms nL X Q cells slots n (og_set h a (.inl (2, N, .inr (.inl g)))) pc lv st) : og_G E own cc d mc ms nL X Q cells slots n h pc lv st := by
  obtain ⟨p, l, e, R, s, m, args, below, meth, c⟩ := X
  intro C H locs ls hW hS hL
  refine k C H locs ls (hW.put h3 (hW.2.2 a _ ha).1 rfl ?_ (fun _ _ => rfl)) hS hL
  have h0 : H[og_rho E a]? = some (arrV (E.2.2.1 2) N (fun j => .long (f j))) := (hW.2.2 a _ ha).2.1 h3
  show H[og_rho E a]? = some (arrV (E.2.2.1 2) N (fun j => .long (g j)))
  rw [h0, og_arr (fun j hj => by rw [hf j hj])]
theorem og_congI {a k N : Nat} {f : Nat → Int32} (g : Nat → Int32) (ha : h a = some (.inl (k, N, .inl f))) (h3 : 3 ≤ a) (hf : ∀ j, j < N → f j = g j) (kk : og_G E own cc d mc ms nL X Q cells slots n (og_set h a (.inl (k, N, .inl g))) pc lv st) : og_G E own cc d mc ms nL X Q cells slots n h pc lv st := by
  obtain ⟨p, l, e, R, s, m, args, below, meth, c⟩ := X
  intro C H locs ls hW hS hL
  refine kk C H locs ls (hW.put h3 (hW.2.2 a _ ha).1 rfl ?_ (fun _ _ => rfl)) hS hL
  have h0 : H[og_rho E a]? = some (arrV (E.2.2.1 k) N (fun j => .int (f j))) := (hW.2.2 a _ ha).2.1 h3
  show H[og_rho E a]? = some (arrV (E.2.2.1 k) N (fun j => .int (g j)))
  rw [h0, og_arr (fun j hj => by rw [hf j hj])]
theorem og_ialdN {a N j : Nat} {f : Nat → Int32} {i : Int32} (hi : i = nI j) (hd : decode cc pc = .ok (.iaload, 1)) (ha : h a = some (.inl (1, N, .inl f))) (h3 : 3 ≤ a) (hj : j < N) (hN : N < 2147483648) (kk : og_G E own cc d mc ms nL X Q cells slots n h (pc + 1) lv (.int (f j) :: st)) : og_G E own cc d mc ms nL X Q cells slots n h pc lv (.int i :: .ref a :: st) := by
  subst hi
  exact og_iald hd ha h3 (vp_in_nI hj hN) (by rw [nI_clamp (by omega)]; exact kk)
theorem og_saldN {a N j : Nat} {f : Nat → Int32} {i : Int32} (hi : i = nI j) (hd : decode cc pc = .ok (.iaload, 1)) (ha : h a = some (.inl (1, N, .inl f))) (h3 : a < 3) (hj : j < N) (hN : N < 2147483648) (kk : og_G E own cc d mc ms nL X Q cells slots n h (pc + 1) lv (.int (f j) :: st)) : og_G E own cc d mc ms nL X Q cells slots n h pc lv (.int i :: .ref a :: st) := by
  subst hi
  exact og_sald hd ha h3 (vp_in_nI hj hN) (by rw [nI_clamp (by omega)]; exact kk)
theorem og_baldN {a N j : Nat} {f : Nat → Int32} {i : Int32} (hi : i = nI j) (hd : decode cc pc = .ok (.baload, 1)) (ha : h a = some (.inl (0, N, .inl f))) (h3 : 3 ≤ a) (hj : j < N) (hN : N < 2147483648) (kk : og_G E own cc d mc ms nL X Q cells slots n h (pc + 1) lv (.int (f j) :: st)) : og_G E own cc d mc ms nL X Q cells slots n h pc lv (.int i :: .ref a :: st) := by
  subst hi
  exact og_bald hd ha h3 (vp_in_nI hj hN) (by rw [nI_clamp (by omega)]; exact kk)
theorem og_laldN {a N j : Nat} {f : Nat → Int64} {i : Int32} (hi : i = nI j) (hd : decode cc pc = .ok (.laload, 1)) (ha : h a = some (.inl (2, N, .inr (.inl f)))) (h3 : 3 ≤ a) (hj : j < N) (hN : N < 2147483648) (kk : og_G E own cc d mc ms nL X Q cells slots n h (pc + 1) lv (.long (f j) :: st)) : og_G E own cc d mc ms nL X Q cells slots n h pc lv (.int i :: .ref a :: st) := by
  subst hi
  exact og_lald hd ha h3 (vp_in_nI hj hN) (by rw [nI_clamp (by omega)]; exact kk)
theorem og_aaldN {a N j k b : Nat} {f : Nat → Option Nat} {i : Int32} (hi : i = nI j) (hd : decode cc pc = .ok (.aaload, 1)) (ha : h a = some (.inl (k, N, .inr (.inr (.inr (.inr f)))))) (h3 : 3 ≤ a) (hk : k < 7) (hk4 : 4 ≤ k) (hj : j < N) (hN : N < 2147483648) (hb : f j = some b) (kk : og_G E own cc d mc ms nL X Q cells slots n h (pc + 1) lv (.ref b :: st)) : og_G E own cc d mc ms nL X Q cells slots n h pc lv (.int i :: .ref a :: st) := by
  subst hi
  exact og_aald hd ha h3 hk hk4 (vp_in_nI hj hN) (by rw [nI_clamp (by omega), hb]; exact kk)
theorem og_aaldZ {a N j k : Nat} {f : Nat → Option Nat} {i : Int32} (hi : i = nI j) (hd : decode cc pc = .ok (.aaload, 1)) (ha : h a = some (.inl (k, N, .inr (.inr (.inr (.inr f)))))) (h3 : 3 ≤ a) (hk : k < 7) (hk4 : 4 ≤ k) (hj : j < N) (hN : N < 2147483648) (hb : f j = none) (kk : og_G E own cc d mc ms nL X Q cells slots n h (pc + 1) lv (.null :: st)) : og_G E own cc d mc ms nL X Q cells slots n h pc lv (.int i :: .ref a :: st) := by
  subst hi
  exact og_aald hd ha h3 hk hk4 (vp_in_nI hj hN) (by rw [nI_clamp (by omega), hb]; exact kk)
theorem og_iastN {a N j : Nat} {f : Nat → Int32} {i x : Int32} (hi : i = nI j) (hd : decode cc pc = .ok (.iastore, 1)) (ha : h a = some (.inl (1, N, .inl f))) (h3 : 3 ≤ a) (hj : j < N) (hN : N < 2147483648) (kk : og_G E own cc d mc ms nL X Q cells slots n (og_set h a (.inl (1, N, .inl (upd f j x)))) (pc + 1) lv st) : og_G E own cc d mc ms nL X Q cells slots n h pc lv (.int x :: .int i :: .ref a :: st) := by
  subst hi
  exact og_iast hd ha h3 (vp_in_nI hj hN) (by rw [nI_clamp (by omega)]; exact kk)
theorem og_bastN {a N j : Nat} {f : Nat → Int32} {i x : Int32} (hi : i = nI j) (hd : decode cc pc = .ok (.bastore, 1)) (ha : h a = some (.inl (0, N, .inl f))) (h3 : 3 ≤ a) (hj : j < N) (hN : N < 2147483648) (kk : og_G E own cc d mc ms nL X Q cells slots n (og_set h a (.inl (0, N, .inl (upd f j (vp_nar .byte x))))) (pc + 1) lv st) : og_G E own cc d mc ms nL X Q cells slots n h pc lv (.int x :: .int i :: .ref a :: st) := by
  subst hi
  exact og_bast hd ha h3 (vp_in_nI hj hN) (by rw [nI_clamp (by omega)]; exact kk)
theorem og_lastN {a N j : Nat} {f : Nat → Int64} {i : Int32} {x : Int64} (hi : i = nI j) (hd : decode cc pc = .ok (.lastore, 1)) (ha : h a = some (.inl (2, N, .inr (.inl f)))) (h3 : 3 ≤ a) (hj : j < N) (hN : N < 2147483648) (kk : og_G E own cc d mc ms nL X Q cells slots n (og_set h a (.inl (2, N, .inr (.inl (vp_updL f j x))))) (pc + 1) lv st) : og_G E own cc d mc ms nL X Q cells slots n h pc lv (.long x :: .int i :: .ref a :: st) := by
  subst hi
  exact og_last hd ha h3 (vp_in_nI hj hN) (by rw [nI_clamp (by omega)]; exact kk)
theorem og_iushr {x y v : Int32} (hd : decode cc pc = .ok (.iushr, 1)) (hv : (x.toUInt32 >>> (y.toUInt32 &&& Int32.toUInt32 31)).toInt32 = v) (k : og_G E own cc d mc ms nL X Q cells slots n h (pc + 1) lv (.int v :: st)) : og_G E own cc d mc ms nL X Q cells slots n h pc lv (.int y :: .int x :: st) := by
  obtain ⟨p, l, e, R, s, m, args, below, meth, c⟩ := X
  intro C H locs ls hW hS hL
  exact lv_iushr C.1 C.2.1 hd hv (k C H locs ls hW hS hL)
theorem og_lxor {x y : Int64} (hd : decode cc pc = .ok (.lxor, 1)) (k : og_G E own cc d mc ms nL X Q cells slots n h (pc + 1) lv (.long (x ^^^ y) :: st)) : og_G E own cc d mc ms nL X Q cells slots n h pc lv (.long y :: .long x :: st) := by
  obtain ⟨p, l, e, R, s, m, args, below, meth, c⟩ := X
  intro C H locs ls hW hS hL
  exact lv_lxor C.1 C.2.1 hd (k C H locs ls hW hS hL)
theorem og_ldcw {index : Nat} {v : Int32} (hw : Cond.constant own index v ∈ BW) (hd : decode cc pc = .ok (.ldc_w index, 3)) (k : og_G E own cc d mc ms nL X Q cells slots n h (pc + 3) lv (.int v :: st)) : og_G E own cc d mc ms nL X Q cells slots n h pc lv st := by
  obtain ⟨p, l, e, R, s, m, args, below, meth, c⟩ := X
  intro C H locs ls hW hS hL
  exact lv_ldcw C.1 C.2.1 C.2.2.2.1 (C.2.2.2.2.1 _ hw) hd (k C H locs ls hW hS hL)
theorem og_geN {i N : Nat} {x y : Int32} {off : Int} {tgt : Nat} (hd : decode cc pc = .ok (.if_icmp .ge off, 3)) (ht : (pc : Int) + off = (tgt : Int)) (hx : x = nI i) (hy : y = nI N) (hi : i < 2147483648) (hN : N < 2147483648) (kt : N ≤ i → og_G E own cc d mc ms nL X Q cells slots n h tgt lv st) (kf : i < N → og_G E own cc d mc ms nL X Q cells slots n h (pc + 3) lv st) : og_G E own cc d mc ms nL X Q cells slots n h pc lv (.int y :: .int x :: st) := by
  subst hx; subst hy
  exact og_icmp_ge hd ht (fun c => kt ((nI_leI hN hi).mp c)) (fun c => kf (Nat.lt_of_not_le fun q => c ((nI_leI hN hi).mpr q)))
theorem og_for {i0 N : Nat} (hi : i0 ≤ N) (hf : Nat → og_H) (lvf : Nat → List (Option Value)) (hx : og_G E own cc d mc ms nL X Q cells slots n (hf N) pc (lvf N) st)
    (hs : ∀ i, i0 ≤ i → i < N → og_G E own cc d mc ms nL X Q cells slots n (hf (i + 1)) pc (lvf (i + 1)) st → og_G E own cc d mc ms nL X Q cells slots n (hf i) pc (lvf i) st) : og_G E own cc d mc ms nL X Q cells slots n (hf i0) pc (lvf i0) st := by
  obtain ⟨k, rfl⟩ : ∃ k, N = i0 + k := ⟨N - i0, by omega⟩
  clear hi
  revert hx hs
  induction k generalizing i0 with
  | zero => exact fun hx _ => hx
  | succ k ih =>
    intro hx hs
    refine hs i0 (Nat.le_refl _) (by omega) ?_
    refine ih (i0 := i0 + 1) ?_ ?_
    · rw [show i0 + 1 + k = i0 + (k + 1) by omega]; exact hx
    · intro i h1 h2; exact hs i (by omega) (by omega)
theorem og_forP {i0 N : Nat} (hi : i0 ≤ N) (hf : Nat → og_H) (lvf : Nat → List (Option Value)) (P : Nat → Prop) (h0 : P i0) (hx : P N → og_G E own cc d mc ms nL X Q cells slots n (hf N) pc (lvf N) st)
    (hs : ∀ i, i0 ≤ i → i < N → P i → (P (i + 1) → og_G E own cc d mc ms nL X Q cells slots n (hf (i + 1)) pc (lvf (i + 1)) st) → og_G E own cc d mc ms nL X Q cells slots n (hf i) pc (lvf i) st) : og_G E own cc d mc ms nL X Q cells slots n (hf i0) pc (lvf i0) st := by
  obtain ⟨k, rfl⟩ : ∃ k, N = i0 + k := ⟨N - i0, by omega⟩
  clear hi
  revert hx hs h0
  induction k generalizing i0 with
  | zero => exact fun h0 hx _ => hx h0
  | succ k ih =>
    intro h0 hx hs
    refine hs i0 (Nat.le_refl _) (by omega) h0 (fun h1 => ?_)
    refine ih (i0 := i0 + 1) h1 ?_ ?_
    · rw [show i0 + 1 + k = i0 + (k + 1) by omega]; exact hx
    · intro i h1 h2; exact hs i (by omega) (by omega)
end ON
theorem og_inc (i : Nat) : nI i + Int32.ofInt 1 = nI (i + 1) := nI_1 i
theorem og_fill {p q : Nat → Int64} {i : Nat} {x : Int64} (hx : x = p i) : vp_updL (fun j => if j < i then p j else q j) i x = fun j => if j < i + 1 then p j else q j := by
  funext j
  unfold vp_updL
  by_cases h : j = i
  · subst h
    rw [if_pos rfl, if_pos (Nat.lt_succ_self _), hx]
  · rw [if_neg h]
    by_cases h2 : j < i
    · exact (if_pos h2).trans (if_pos (by omega)).symm
    · exact (if_neg h2).trans (if_neg (by omega)).symm
theorem og_fillI {p q : Nat → Int32} {i : Nat} {x : Int32} (hx : x = p i) : upd (fun j => if j < i then p j else q j) i x = fun j => if j < i + 1 then p j else q j := by
  funext j
  unfold upd
  by_cases h : j = i
  · subst h
    rw [if_pos rfl, if_pos (Nat.lt_succ_self _), hx]
  · rw [if_neg h]
    by_cases h2 : j < i
    · exact (if_pos h2).trans (if_pos (by omega)).symm
    · exact (if_neg h2).trans (if_neg (by omega)).symm
theorem og_cmp0 (x y : Int64) : lg_cmp x y = 0 ↔ x = y := by
  unfold lg_cmp
  simp only [gt_iff_lt, Int64.lt_iff_toInt_lt, ← Int64.toInt_inj]
  repeat' split
  all_goals (constructor <;> intro hh <;> first | omega | decide | exact absurd hh (by decide))
theorem og_cmpL (x y : Int64) : lg_cmp x y < 0 ↔ x < y := by
  unfold lg_cmp
  simp only [gt_iff_lt, Int64.lt_iff_toInt_lt, ← Int64.toInt_inj]
  repeat' split
  all_goals (constructor <;> intro hh <;> first | omega | decide | exact absurd hh (by decide))
theorem og_cmpG (x y : Int64) : 0 < lg_cmp x y ↔ y < x := by
  unfold lg_cmp
  simp only [gt_iff_lt, Int64.lt_iff_toInt_lt, ← Int64.toInt_inj]
  repeat' split
  all_goals (constructor <;> intro hh <;> first | omega | decide | exact absurd hh (by decide))
theorem og_nle {x y : Int32} (h : ¬ x ≤ y) : y < x := by
  rw [Int32.le_iff_toInt_le] at h
  rw [Int32.lt_iff_toInt_lt]
  omega
theorem og_nlt {x y : Int32} (h : ¬ x < y) : y ≤ x := by
  rw [Int32.lt_iff_toInt_lt] at h
  rw [Int32.le_iff_toInt_le]
  omega
theorem og_lel {x y : Int32} (h : x ≤ y) (h2 : y < x) : False := by
  rw [Int32.le_iff_toInt_le] at h
  rw [Int32.lt_iff_toInt_lt] at h2
  omega
