/-! ===== stores into locals by their places; indices ===== -/
def og_c1 : Option Value → Bool
  | some (.long _) => false
  | some (.double _) => false
  | _ => true
theorem og_n20 (lv : List (Option Value)) : og_n2 lv 0 := fun j v hj _ => absurd hj (by omega)
theorem og_n2a {lv : List (Option Value)} {j : Nat} {w : Option Value} (hj : lv[j]? = some w) (hw : og_c1 w = true) : og_n2 lv (j + 1) := fun i v hi hv => by
  have : i = j := by omega
  subst this
  rw [hj] at hv
  cases hv
  cases v <;> simp_all [og_c1, Value.category]
theorem og_nl {lv lv2 : List (Option Value)} {nL : Nat} (h : lv.length = nL) (h2 : lv2.length = lv.length) : lv2.length = nL := h2.trans h
theorem og_len {E : og_E} {own : String} {cc : ByteArray} {d mc ms nL : Nat} {X : og_X} {Q : State → Prop} {cells slots n : Nat} {h : og_H} {pc : Nat} {lv : List (Option Value)} {st : List Value} (k : lv.length = nL → og_G E own cc d mc ms nL X Q cells slots n h pc lv st) : og_G E own cc d mc ms nL X Q cells slots n h pc lv st := by
  obtain ⟨p, l, e, R, s, m, args, below, meth, c⟩ := X
  intro C H locs ls hW hS hL
  exact k hL.2.1 C H locs ls hW hS hL
section OS
variable {E : og_E} {own : String} {cc : ByteArray} {d mc ms nL : Nat} {X : og_X} {Q : State → Prop} {cells slots n : Nat} {h : og_H} {pc : Nat} {r : List (Option Value)} {st : List Value}
theorem og_istore_0 {a0 : Option Value} {x : Int32} (hd : decode cc pc = .ok (.istore 0, 2)) (kk : og_G E own cc d mc ms nL X Q cells slots n h (pc + 2) (some (.int x) :: r) st) : og_G E own cc d mc ms nL X Q cells slots n h pc (a0 :: r) (.int x :: st) :=
  og_len fun hl => og_istore (i := 0) hd (by simp only [List.length_cons] at hl; omega) (og_n20 _) kk
theorem og_istore_n_0 {a0 : Option Value} {x : Int32} (hd : decode cc pc = .ok (.istore_n 0, 1)) (kk : og_G E own cc d mc ms nL X Q cells slots n h (pc + 1) (some (.int x) :: r) st) : og_G E own cc d mc ms nL X Q cells slots n h pc (a0 :: r) (.int x :: st) :=
  og_len fun hl => og_istore_n (i := 0) hd (by simp only [List.length_cons] at hl; show 0 < nL; omega) (og_n20 _) kk
theorem og_astore_0 {a0 : Option Value} {x : Nat} (hd : decode cc pc = .ok (.astore 0, 2)) (kk : og_G E own cc d mc ms nL X Q cells slots n h (pc + 2) (some (.ref x) :: r) st) : og_G E own cc d mc ms nL X Q cells slots n h pc (a0 :: r) (.ref x :: st) :=
  og_len fun hl => og_astore (i := 0) hd (by simp only [List.length_cons] at hl; omega) (og_n20 _) kk
theorem og_astore_n_0 {a0 : Option Value} {x : Nat} (hd : decode cc pc = .ok (.astore_n 0, 1)) (kk : og_G E own cc d mc ms nL X Q cells slots n h (pc + 1) (some (.ref x) :: r) st) : og_G E own cc d mc ms nL X Q cells slots n h pc (a0 :: r) (.ref x :: st) :=
  og_len fun hl => og_astore_n (i := 0) hd (by simp only [List.length_cons] at hl; show 0 < nL; omega) (og_n20 _) kk
theorem og_lstore_0 {a0 : Option Value} {x : Int64} (hd : decode cc pc = .ok (.lstore 0, 2)) (kk : og_G E own cc d mc ms nL X Q cells slots n h (pc + 2) (some (.long x) :: none :: r) st) : og_G E own cc d mc ms nL X Q cells slots n h pc (a0 :: none :: r) (.long x :: st) :=
  og_len fun hl => og_lstore (i := 0) hd (by simp only [List.length_cons] at hl; omega) (og_n20 _) rfl kk
theorem og_lstore_n_0 {a0 : Option Value} {x : Int64} (hd : decode cc pc = .ok (.lstore_n 0, 1)) (kk : og_G E own cc d mc ms nL X Q cells slots n h (pc + 1) (some (.long x) :: none :: r) st) : og_G E own cc d mc ms nL X Q cells slots n h pc (a0 :: none :: r) (.long x :: st) :=
  og_len fun hl => og_lstore_n (i := 0) hd (by simp only [List.length_cons] at hl; show 0 + 1 < nL; omega) (og_n20 _) rfl kk
theorem og_iinc_0 {v : Int} {x z : Int32} (hd : decode cc pc = .ok (.iinc 0 v, 3)) (hv : x + Int32.ofInt v = z) (kk : og_G E own cc d mc ms nL X Q cells slots n h (pc + 3) (some (.int z) :: r) st) : og_G E own cc d mc ms nL X Q cells slots n h pc (some (.int x) :: r) st :=
  og_len fun hl => og_iinc (i := 0) hd rfl hv (by simp only [List.length_cons] at hl; omega) (og_n20 _) kk
theorem og_forget_0 {a0 : Option Value} (kk : og_G E own cc d mc ms nL X Q cells slots n h pc (none :: r) st) : og_G E own cc d mc ms nL X Q cells slots n h pc (a0 :: r) st :=
  og_forget (lv1 := (none :: r)) (by simp only [List.length_cons]) (fun i v hi => by
    have e : (none :: r) = (a0 :: r).set 0 none := rfl
    rw [e] at hi
    by_cases hk : i = 0
    · subst hk
      rw [List.getElem?_set_self (by simp only [List.length_cons]; omega)] at hi
      cases hi
    · rwa [List.getElem?_set_ne (Ne.symm hk)] at hi) kk
theorem og_istore_1 {a0 a1 : Option Value} {x : Int32} (hd : decode cc pc = .ok (.istore 1, 2)) (h1 : og_c1 a0 = true) (kk : og_G E own cc d mc ms nL X Q cells slots n h (pc + 2) (a0 :: some (.int x) :: r) st) : og_G E own cc d mc ms nL X Q cells slots n h pc (a0 :: a1 :: r) (.int x :: st) :=
  og_len fun hl => og_istore (i := 1) hd (by simp only [List.length_cons] at hl; omega) (og_n2a (j := 0) rfl h1) kk
theorem og_istore_n_1 {a0 a1 : Option Value} {x : Int32} (hd : decode cc pc = .ok (.istore_n 1, 1)) (h1 : og_c1 a0 = true) (kk : og_G E own cc d mc ms nL X Q cells slots n h (pc + 1) (a0 :: some (.int x) :: r) st) : og_G E own cc d mc ms nL X Q cells slots n h pc (a0 :: a1 :: r) (.int x :: st) :=
  og_len fun hl => og_istore_n (i := 1) hd (by simp only [List.length_cons] at hl; show 1 < nL; omega) (og_n2a (j := 0) rfl h1) kk
theorem og_astore_1 {a0 a1 : Option Value} {x : Nat} (hd : decode cc pc = .ok (.astore 1, 2)) (h1 : og_c1 a0 = true) (kk : og_G E own cc d mc ms nL X Q cells slots n h (pc + 2) (a0 :: some (.ref x) :: r) st) : og_G E own cc d mc ms nL X Q cells slots n h pc (a0 :: a1 :: r) (.ref x :: st) :=
  og_len fun hl => og_astore (i := 1) hd (by simp only [List.length_cons] at hl; omega) (og_n2a (j := 0) rfl h1) kk
theorem og_astore_n_1 {a0 a1 : Option Value} {x : Nat} (hd : decode cc pc = .ok (.astore_n 1, 1)) (h1 : og_c1 a0 = true) (kk : og_G E own cc d mc ms nL X Q cells slots n h (pc + 1) (a0 :: some (.ref x) :: r) st) : og_G E own cc d mc ms nL X Q cells slots n h pc (a0 :: a1 :: r) (.ref x :: st) :=
  og_len fun hl => og_astore_n (i := 1) hd (by simp only [List.length_cons] at hl; show 1 < nL; omega) (og_n2a (j := 0) rfl h1) kk
theorem og_lstore_1 {a0 a1 : Option Value} {x : Int64} (hd : decode cc pc = .ok (.lstore 1, 2)) (h1 : og_c1 a0 = true) (kk : og_G E own cc d mc ms nL X Q cells slots n h (pc + 2) (a0 :: some (.long x) :: none :: r) st) : og_G E own cc d mc ms nL X Q cells slots n h pc (a0 :: a1 :: none :: r) (.long x :: st) :=
  og_len fun hl => og_lstore (i := 1) hd (by simp only [List.length_cons] at hl; omega) (og_n2a (j := 0) rfl h1) rfl kk
theorem og_lstore_n_1 {a0 a1 : Option Value} {x : Int64} (hd : decode cc pc = .ok (.lstore_n 1, 1)) (h1 : og_c1 a0 = true) (kk : og_G E own cc d mc ms nL X Q cells slots n h (pc + 1) (a0 :: some (.long x) :: none :: r) st) : og_G E own cc d mc ms nL X Q cells slots n h pc (a0 :: a1 :: none :: r) (.long x :: st) :=
  og_len fun hl => og_lstore_n (i := 1) hd (by simp only [List.length_cons] at hl; show 1 + 1 < nL; omega) (og_n2a (j := 0) rfl h1) rfl kk
theorem og_iinc_1 {a0 : Option Value} {v : Int} {x z : Int32} (hd : decode cc pc = .ok (.iinc 1 v, 3)) (hv : x + Int32.ofInt v = z) (h1 : og_c1 a0 = true) (kk : og_G E own cc d mc ms nL X Q cells slots n h (pc + 3) (a0 :: some (.int z) :: r) st) : og_G E own cc d mc ms nL X Q cells slots n h pc (a0 :: some (.int x) :: r) st :=
  og_len fun hl => og_iinc (i := 1) hd rfl hv (by simp only [List.length_cons] at hl; omega) (og_n2a (j := 0) rfl h1) kk
theorem og_forget_1 {a0 a1 : Option Value} (kk : og_G E own cc d mc ms nL X Q cells slots n h pc (a0 :: none :: r) st) : og_G E own cc d mc ms nL X Q cells slots n h pc (a0 :: a1 :: r) st :=
  og_forget (lv1 := (a0 :: none :: r)) (by simp only [List.length_cons]) (fun i v hi => by
    have e : (a0 :: none :: r) = (a0 :: a1 :: r).set 1 none := rfl
    rw [e] at hi
    by_cases hk : i = 1
    · subst hk
      rw [List.getElem?_set_self (by simp only [List.length_cons]; omega)] at hi
      cases hi
    · rwa [List.getElem?_set_ne (Ne.symm hk)] at hi) kk
theorem og_istore_2 {a0 a1 a2 : Option Value} {x : Int32} (hd : decode cc pc = .ok (.istore 2, 2)) (h1 : og_c1 a1 = true) (kk : og_G E own cc d mc ms nL X Q cells slots n h (pc + 2) (a0 :: a1 :: some (.int x) :: r) st) : og_G E own cc d mc ms nL X Q cells slots n h pc (a0 :: a1 :: a2 :: r) (.int x :: st) :=
  og_len fun hl => og_istore (i := 2) hd (by simp only [List.length_cons] at hl; omega) (og_n2a (j := 1) rfl h1) kk
theorem og_istore_n_2 {a0 a1 a2 : Option Value} {x : Int32} (hd : decode cc pc = .ok (.istore_n 2, 1)) (h1 : og_c1 a1 = true) (kk : og_G E own cc d mc ms nL X Q cells slots n h (pc + 1) (a0 :: a1 :: some (.int x) :: r) st) : og_G E own cc d mc ms nL X Q cells slots n h pc (a0 :: a1 :: a2 :: r) (.int x :: st) :=
  og_len fun hl => og_istore_n (i := 2) hd (by simp only [List.length_cons] at hl; show 2 < nL; omega) (og_n2a (j := 1) rfl h1) kk
theorem og_astore_2 {a0 a1 a2 : Option Value} {x : Nat} (hd : decode cc pc = .ok (.astore 2, 2)) (h1 : og_c1 a1 = true) (kk : og_G E own cc d mc ms nL X Q cells slots n h (pc + 2) (a0 :: a1 :: some (.ref x) :: r) st) : og_G E own cc d mc ms nL X Q cells slots n h pc (a0 :: a1 :: a2 :: r) (.ref x :: st) :=
  og_len fun hl => og_astore (i := 2) hd (by simp only [List.length_cons] at hl; omega) (og_n2a (j := 1) rfl h1) kk
theorem og_astore_n_2 {a0 a1 a2 : Option Value} {x : Nat} (hd : decode cc pc = .ok (.astore_n 2, 1)) (h1 : og_c1 a1 = true) (kk : og_G E own cc d mc ms nL X Q cells slots n h (pc + 1) (a0 :: a1 :: some (.ref x) :: r) st) : og_G E own cc d mc ms nL X Q cells slots n h pc (a0 :: a1 :: a2 :: r) (.ref x :: st) :=
  og_len fun hl => og_astore_n (i := 2) hd (by simp only [List.length_cons] at hl; show 2 < nL; omega) (og_n2a (j := 1) rfl h1) kk
theorem og_lstore_2 {a0 a1 a2 : Option Value} {x : Int64} (hd : decode cc pc = .ok (.lstore 2, 2)) (h1 : og_c1 a1 = true) (kk : og_G E own cc d mc ms nL X Q cells slots n h (pc + 2) (a0 :: a1 :: some (.long x) :: none :: r) st) : og_G E own cc d mc ms nL X Q cells slots n h pc (a0 :: a1 :: a2 :: none :: r) (.long x :: st) :=
  og_len fun hl => og_lstore (i := 2) hd (by simp only [List.length_cons] at hl; omega) (og_n2a (j := 1) rfl h1) rfl kk
theorem og_lstore_n_2 {a0 a1 a2 : Option Value} {x : Int64} (hd : decode cc pc = .ok (.lstore_n 2, 1)) (h1 : og_c1 a1 = true) (kk : og_G E own cc d mc ms nL X Q cells slots n h (pc + 1) (a0 :: a1 :: some (.long x) :: none :: r) st) : og_G E own cc d mc ms nL X Q cells slots n h pc (a0 :: a1 :: a2 :: none :: r) (.long x :: st) :=
  og_len fun hl => og_lstore_n (i := 2) hd (by simp only [List.length_cons] at hl; show 2 + 1 < nL; omega) (og_n2a (j := 1) rfl h1) rfl kk
theorem og_iinc_2 {a0 a1 : Option Value} {v : Int} {x z : Int32} (hd : decode cc pc = .ok (.iinc 2 v, 3)) (hv : x + Int32.ofInt v = z) (h1 : og_c1 a1 = true) (kk : og_G E own cc d mc ms nL X Q cells slots n h (pc + 3) (a0 :: a1 :: some (.int z) :: r) st) : og_G E own cc d mc ms nL X Q cells slots n h pc (a0 :: a1 :: some (.int x) :: r) st :=
  og_len fun hl => og_iinc (i := 2) hd rfl hv (by simp only [List.length_cons] at hl; omega) (og_n2a (j := 1) rfl h1) kk
theorem og_forget_2 {a0 a1 a2 : Option Value} (kk : og_G E own cc d mc ms nL X Q cells slots n h pc (a0 :: a1 :: none :: r) st) : og_G E own cc d mc ms nL X Q cells slots n h pc (a0 :: a1 :: a2 :: r) st :=
  og_forget (lv1 := (a0 :: a1 :: none :: r)) (by simp only [List.length_cons]) (fun i v hi => by
    have e : (a0 :: a1 :: none :: r) = (a0 :: a1 :: a2 :: r).set 2 none := rfl
    rw [e] at hi
    by_cases hk : i = 2
    · subst hk
      rw [List.getElem?_set_self (by simp only [List.length_cons]; omega)] at hi
      cases hi
    · rwa [List.getElem?_set_ne (Ne.symm hk)] at hi) kk
theorem og_istore_3 {a0 a1 a2 a3 : Option Value} {x : Int32} (hd : decode cc pc = .ok (.istore 3, 2)) (h1 : og_c1 a2 = true) (kk : og_G E own cc d mc ms nL X Q cells slots n h (pc + 2) (a0 :: a1 :: a2 :: some (.int x) :: r) st) : og_G E own cc d mc ms nL X Q cells slots n h pc (a0 :: a1 :: a2 :: a3 :: r) (.int x :: st) :=
  og_len fun hl => og_istore (i := 3) hd (by simp only [List.length_cons] at hl; omega) (og_n2a (j := 2) rfl h1) kk
theorem og_istore_n_3 {a0 a1 a2 a3 : Option Value} {x : Int32} (hd : decode cc pc = .ok (.istore_n 3, 1)) (h1 : og_c1 a2 = true) (kk : og_G E own cc d mc ms nL X Q cells slots n h (pc + 1) (a0 :: a1 :: a2 :: some (.int x) :: r) st) : og_G E own cc d mc ms nL X Q cells slots n h pc (a0 :: a1 :: a2 :: a3 :: r) (.int x :: st) :=
  og_len fun hl => og_istore_n (i := 3) hd (by simp only [List.length_cons] at hl; show 3 < nL; omega) (og_n2a (j := 2) rfl h1) kk
theorem og_astore_3 {a0 a1 a2 a3 : Option Value} {x : Nat} (hd : decode cc pc = .ok (.astore 3, 2)) (h1 : og_c1 a2 = true) (kk : og_G E own cc d mc ms nL X Q cells slots n h (pc + 2) (a0 :: a1 :: a2 :: some (.ref x) :: r) st) : og_G E own cc d mc ms nL X Q cells slots n h pc (a0 :: a1 :: a2 :: a3 :: r) (.ref x :: st) :=
  og_len fun hl => og_astore (i := 3) hd (by simp only [List.length_cons] at hl; omega) (og_n2a (j := 2) rfl h1) kk
theorem og_astore_n_3 {a0 a1 a2 a3 : Option Value} {x : Nat} (hd : decode cc pc = .ok (.astore_n 3, 1)) (h1 : og_c1 a2 = true) (kk : og_G E own cc d mc ms nL X Q cells slots n h (pc + 1) (a0 :: a1 :: a2 :: some (.ref x) :: r) st) : og_G E own cc d mc ms nL X Q cells slots n h pc (a0 :: a1 :: a2 :: a3 :: r) (.ref x :: st) :=
  og_len fun hl => og_astore_n (i := 3) hd (by simp only [List.length_cons] at hl; show 3 < nL; omega) (og_n2a (j := 2) rfl h1) kk
theorem og_lstore_3 {a0 a1 a2 a3 : Option Value} {x : Int64} (hd : decode cc pc = .ok (.lstore 3, 2)) (h1 : og_c1 a2 = true) (kk : og_G E own cc d mc ms nL X Q cells slots n h (pc + 2) (a0 :: a1 :: a2 :: some (.long x) :: none :: r) st) : og_G E own cc d mc ms nL X Q cells slots n h pc (a0 :: a1 :: a2 :: a3 :: none :: r) (.long x :: st) :=
  og_len fun hl => og_lstore (i := 3) hd (by simp only [List.length_cons] at hl; omega) (og_n2a (j := 2) rfl h1) rfl kk
theorem og_lstore_n_3 {a0 a1 a2 a3 : Option Value} {x : Int64} (hd : decode cc pc = .ok (.lstore_n 3, 1)) (h1 : og_c1 a2 = true) (kk : og_G E own cc d mc ms nL X Q cells slots n h (pc + 1) (a0 :: a1 :: a2 :: some (.long x) :: none :: r) st) : og_G E own cc d mc ms nL X Q cells slots n h pc (a0 :: a1 :: a2 :: a3 :: none :: r) (.long x :: st) :=
  og_len fun hl => og_lstore_n (i := 3) hd (by simp only [List.length_cons] at hl; show 3 + 1 < nL; omega) (og_n2a (j := 2) rfl h1) rfl kk
theorem og_iinc_3 {a0 a1 a2 : Option Value} {v : Int} {x z : Int32} (hd : decode cc pc = .ok (.iinc 3 v, 3)) (hv : x + Int32.ofInt v = z) (h1 : og_c1 a2 = true) (kk : og_G E own cc d mc ms nL X Q cells slots n h (pc + 3) (a0 :: a1 :: a2 :: some (.int z) :: r) st) : og_G E own cc d mc ms nL X Q cells slots n h pc (a0 :: a1 :: a2 :: some (.int x) :: r) st :=
  og_len fun hl => og_iinc (i := 3) hd rfl hv (by simp only [List.length_cons] at hl; omega) (og_n2a (j := 2) rfl h1) kk
theorem og_forget_3 {a0 a1 a2 a3 : Option Value} (kk : og_G E own cc d mc ms nL X Q cells slots n h pc (a0 :: a1 :: a2 :: none :: r) st) : og_G E own cc d mc ms nL X Q cells slots n h pc (a0 :: a1 :: a2 :: a3 :: r) st :=
  og_forget (lv1 := (a0 :: a1 :: a2 :: none :: r)) (by simp only [List.length_cons]) (fun i v hi => by
    have e : (a0 :: a1 :: a2 :: none :: r) = (a0 :: a1 :: a2 :: a3 :: r).set 3 none := rfl
    rw [e] at hi
    by_cases hk : i = 3
    · subst hk
      rw [List.getElem?_set_self (by simp only [List.length_cons]; omega)] at hi
      cases hi
    · rwa [List.getElem?_set_ne (Ne.symm hk)] at hi) kk
theorem og_istore_4 {a0 a1 a2 a3 a4 : Option Value} {x : Int32} (hd : decode cc pc = .ok (.istore 4, 2)) (h1 : og_c1 a3 = true) (kk : og_G E own cc d mc ms nL X Q cells slots n h (pc + 2) (a0 :: a1 :: a2 :: a3 :: some (.int x) :: r) st) : og_G E own cc d mc ms nL X Q cells slots n h pc (a0 :: a1 :: a2 :: a3 :: a4 :: r) (.int x :: st) :=
  og_len fun hl => og_istore (i := 4) hd (by simp only [List.length_cons] at hl; omega) (og_n2a (j := 3) rfl h1) kk
theorem og_astore_4 {a0 a1 a2 a3 a4 : Option Value} {x : Nat} (hd : decode cc pc = .ok (.astore 4, 2)) (h1 : og_c1 a3 = true) (kk : og_G E own cc d mc ms nL X Q cells slots n h (pc + 2) (a0 :: a1 :: a2 :: a3 :: some (.ref x) :: r) st) : og_G E own cc d mc ms nL X Q cells slots n h pc (a0 :: a1 :: a2 :: a3 :: a4 :: r) (.ref x :: st) :=
  og_len fun hl => og_astore (i := 4) hd (by simp only [List.length_cons] at hl; omega) (og_n2a (j := 3) rfl h1) kk
theorem og_lstore_4 {a0 a1 a2 a3 a4 : Option Value} {x : Int64} (hd : decode cc pc = .ok (.lstore 4, 2)) (h1 : og_c1 a3 = true) (kk : og_G E own cc d mc ms nL X Q cells slots n h (pc + 2) (a0 :: a1 :: a2 :: a3 :: some (.long x) :: none :: r) st) : og_G E own cc d mc ms nL X Q cells slots n h pc (a0 :: a1 :: a2 :: a3 :: a4 :: none :: r) (.long x :: st) :=
  og_len fun hl => og_lstore (i := 4) hd (by simp only [List.length_cons] at hl; omega) (og_n2a (j := 3) rfl h1) rfl kk
theorem og_iinc_4 {a0 a1 a2 a3 : Option Value} {v : Int} {x z : Int32} (hd : decode cc pc = .ok (.iinc 4 v, 3)) (hv : x + Int32.ofInt v = z) (h1 : og_c1 a3 = true) (kk : og_G E own cc d mc ms nL X Q cells slots n h (pc + 3) (a0 :: a1 :: a2 :: a3 :: some (.int z) :: r) st) : og_G E own cc d mc ms nL X Q cells slots n h pc (a0 :: a1 :: a2 :: a3 :: some (.int x) :: r) st :=
  og_len fun hl => og_iinc (i := 4) hd rfl hv (by simp only [List.length_cons] at hl; omega) (og_n2a (j := 3) rfl h1) kk
theorem og_forget_4 {a0 a1 a2 a3 a4 : Option Value} (kk : og_G E own cc d mc ms nL X Q cells slots n h pc (a0 :: a1 :: a2 :: a3 :: none :: r) st) : og_G E own cc d mc ms nL X Q cells slots n h pc (a0 :: a1 :: a2 :: a3 :: a4 :: r) st :=
  og_forget (lv1 := (a0 :: a1 :: a2 :: a3 :: none :: r)) (by simp only [List.length_cons]) (fun i v hi => by
    have e : (a0 :: a1 :: a2 :: a3 :: none :: r) = (a0 :: a1 :: a2 :: a3 :: a4 :: r).set 4 none := rfl
    rw [e] at hi
    by_cases hk : i = 4
    · subst hk
      rw [List.getElem?_set_self (by simp only [List.length_cons]; omega)] at hi
      cases hi
    · rwa [List.getElem?_set_ne (Ne.symm hk)] at hi) kk
theorem og_istore_5 {a0 a1 a2 a3 a4 a5 : Option Value} {x : Int32} (hd : decode cc pc = .ok (.istore 5, 2)) (h1 : og_c1 a4 = true) (kk : og_G E own cc d mc ms nL X Q cells slots n h (pc + 2) (a0 :: a1 :: a2 :: a3 :: a4 :: some (.int x) :: r) st) : og_G E own cc d mc ms nL X Q cells slots n h pc (a0 :: a1 :: a2 :: a3 :: a4 :: a5 :: r) (.int x :: st) :=
  og_len fun hl => og_istore (i := 5) hd (by simp only [List.length_cons] at hl; omega) (og_n2a (j := 4) rfl h1) kk
theorem og_astore_5 {a0 a1 a2 a3 a4 a5 : Option Value} {x : Nat} (hd : decode cc pc = .ok (.astore 5, 2)) (h1 : og_c1 a4 = true) (kk : og_G E own cc d mc ms nL X Q cells slots n h (pc + 2) (a0 :: a1 :: a2 :: a3 :: a4 :: some (.ref x) :: r) st) : og_G E own cc d mc ms nL X Q cells slots n h pc (a0 :: a1 :: a2 :: a3 :: a4 :: a5 :: r) (.ref x :: st) :=
  og_len fun hl => og_astore (i := 5) hd (by simp only [List.length_cons] at hl; omega) (og_n2a (j := 4) rfl h1) kk
theorem og_lstore_5 {a0 a1 a2 a3 a4 a5 : Option Value} {x : Int64} (hd : decode cc pc = .ok (.lstore 5, 2)) (h1 : og_c1 a4 = true) (kk : og_G E own cc d mc ms nL X Q cells slots n h (pc + 2) (a0 :: a1 :: a2 :: a3 :: a4 :: some (.long x) :: none :: r) st) : og_G E own cc d mc ms nL X Q cells slots n h pc (a0 :: a1 :: a2 :: a3 :: a4 :: a5 :: none :: r) (.long x :: st) :=
  og_len fun hl => og_lstore (i := 5) hd (by simp only [List.length_cons] at hl; omega) (og_n2a (j := 4) rfl h1) rfl kk
theorem og_iinc_5 {a0 a1 a2 a3 a4 : Option Value} {v : Int} {x z : Int32} (hd : decode cc pc = .ok (.iinc 5 v, 3)) (hv : x + Int32.ofInt v = z) (h1 : og_c1 a4 = true) (kk : og_G E own cc d mc ms nL X Q cells slots n h (pc + 3) (a0 :: a1 :: a2 :: a3 :: a4 :: some (.int z) :: r) st) : og_G E own cc d mc ms nL X Q cells slots n h pc (a0 :: a1 :: a2 :: a3 :: a4 :: some (.int x) :: r) st :=
  og_len fun hl => og_iinc (i := 5) hd rfl hv (by simp only [List.length_cons] at hl; omega) (og_n2a (j := 4) rfl h1) kk
theorem og_forget_5 {a0 a1 a2 a3 a4 a5 : Option Value} (kk : og_G E own cc d mc ms nL X Q cells slots n h pc (a0 :: a1 :: a2 :: a3 :: a4 :: none :: r) st) : og_G E own cc d mc ms nL X Q cells slots n h pc (a0 :: a1 :: a2 :: a3 :: a4 :: a5 :: r) st :=
  og_forget (lv1 := (a0 :: a1 :: a2 :: a3 :: a4 :: none :: r)) (by simp only [List.length_cons]) (fun i v hi => by
    have e : (a0 :: a1 :: a2 :: a3 :: a4 :: none :: r) = (a0 :: a1 :: a2 :: a3 :: a4 :: a5 :: r).set 5 none := rfl
    rw [e] at hi
    by_cases hk : i = 5
    · subst hk
      rw [List.getElem?_set_self (by simp only [List.length_cons]; omega)] at hi
      cases hi
    · rwa [List.getElem?_set_ne (Ne.symm hk)] at hi) kk
theorem og_istore_6 {a0 a1 a2 a3 a4 a5 a6 : Option Value} {x : Int32} (hd : decode cc pc = .ok (.istore 6, 2)) (h1 : og_c1 a5 = true) (kk : og_G E own cc d mc ms nL X Q cells slots n h (pc + 2) (a0 :: a1 :: a2 :: a3 :: a4 :: a5 :: some (.int x) :: r) st) : og_G E own cc d mc ms nL X Q cells slots n h pc (a0 :: a1 :: a2 :: a3 :: a4 :: a5 :: a6 :: r) (.int x :: st) :=
  og_len fun hl => og_istore (i := 6) hd (by simp only [List.length_cons] at hl; omega) (og_n2a (j := 5) rfl h1) kk
theorem og_astore_6 {a0 a1 a2 a3 a4 a5 a6 : Option Value} {x : Nat} (hd : decode cc pc = .ok (.astore 6, 2)) (h1 : og_c1 a5 = true) (kk : og_G E own cc d mc ms nL X Q cells slots n h (pc + 2) (a0 :: a1 :: a2 :: a3 :: a4 :: a5 :: some (.ref x) :: r) st) : og_G E own cc d mc ms nL X Q cells slots n h pc (a0 :: a1 :: a2 :: a3 :: a4 :: a5 :: a6 :: r) (.ref x :: st) :=
  og_len fun hl => og_astore (i := 6) hd (by simp only [List.length_cons] at hl; omega) (og_n2a (j := 5) rfl h1) kk
theorem og_lstore_6 {a0 a1 a2 a3 a4 a5 a6 : Option Value} {x : Int64} (hd : decode cc pc = .ok (.lstore 6, 2)) (h1 : og_c1 a5 = true) (kk : og_G E own cc d mc ms nL X Q cells slots n h (pc + 2) (a0 :: a1 :: a2 :: a3 :: a4 :: a5 :: some (.long x) :: none :: r) st) : og_G E own cc d mc ms nL X Q cells slots n h pc (a0 :: a1 :: a2 :: a3 :: a4 :: a5 :: a6 :: none :: r) (.long x :: st) :=
  og_len fun hl => og_lstore (i := 6) hd (by simp only [List.length_cons] at hl; omega) (og_n2a (j := 5) rfl h1) rfl kk
theorem og_iinc_6 {a0 a1 a2 a3 a4 a5 : Option Value} {v : Int} {x z : Int32} (hd : decode cc pc = .ok (.iinc 6 v, 3)) (hv : x + Int32.ofInt v = z) (h1 : og_c1 a5 = true) (kk : og_G E own cc d mc ms nL X Q cells slots n h (pc + 3) (a0 :: a1 :: a2 :: a3 :: a4 :: a5 :: some (.int z) :: r) st) : og_G E own cc d mc ms nL X Q cells slots n h pc (a0 :: a1 :: a2 :: a3 :: a4 :: a5 :: some (.int x) :: r) st :=
  og_len fun hl => og_iinc (i := 6) hd rfl hv (by simp only [List.length_cons] at hl; omega) (og_n2a (j := 5) rfl h1) kk
theorem og_forget_6 {a0 a1 a2 a3 a4 a5 a6 : Option Value} (kk : og_G E own cc d mc ms nL X Q cells slots n h pc (a0 :: a1 :: a2 :: a3 :: a4 :: a5 :: none :: r) st) : og_G E own cc d mc ms nL X Q cells slots n h pc (a0 :: a1 :: a2 :: a3 :: a4 :: a5 :: a6 :: r) st :=
  og_forget (lv1 := (a0 :: a1 :: a2 :: a3 :: a4 :: a5 :: none :: r)) (by simp only [List.length_cons]) (fun i v hi => by
    have e : (a0 :: a1 :: a2 :: a3 :: a4 :: a5 :: none :: r) = (a0 :: a1 :: a2 :: a3 :: a4 :: a5 :: a6 :: r).set 6 none := rfl
    rw [e] at hi
    by_cases hk : i = 6
    · subst hk
      rw [List.getElem?_set_self (by simp only [List.length_cons]; omega)] at hi
      cases hi
    · rwa [List.getElem?_set_ne (Ne.symm hk)] at hi) kk
theorem og_istore_7 {a0 a1 a2 a3 a4 a5 a6 a7 : Option Value} {x : Int32} (hd : decode cc pc = .ok (.istore 7, 2)) (h1 : og_c1 a6 = true) (kk : og_G E own cc d mc ms nL X Q cells slots n h (pc + 2) (a0 :: a1 :: a2 :: a3 :: a4 :: a5 :: a6 :: some (.int x) :: r) st) : og_G E own cc d mc ms nL X Q cells slots n h pc (a0 :: a1 :: a2 :: a3 :: a4 :: a5 :: a6 :: a7 :: r) (.int x :: st) :=
  og_len fun hl => og_istore (i := 7) hd (by simp only [List.length_cons] at hl; omega) (og_n2a (j := 6) rfl h1) kk
theorem og_astore_7 {a0 a1 a2 a3 a4 a5 a6 a7 : Option Value} {x : Nat} (hd : decode cc pc = .ok (.astore 7, 2)) (h1 : og_c1 a6 = true) (kk : og_G E own cc d mc ms nL X Q cells slots n h (pc + 2) (a0 :: a1 :: a2 :: a3 :: a4 :: a5 :: a6 :: some (.ref x) :: r) st) : og_G E own cc d mc ms nL X Q cells slots n h pc (a0 :: a1 :: a2 :: a3 :: a4 :: a5 :: a6 :: a7 :: r) (.ref x :: st) :=
  og_len fun hl => og_astore (i := 7) hd (by simp only [List.length_cons] at hl; omega) (og_n2a (j := 6) rfl h1) kk
theorem og_lstore_7 {a0 a1 a2 a3 a4 a5 a6 a7 : Option Value} {x : Int64} (hd : decode cc pc = .ok (.lstore 7, 2)) (h1 : og_c1 a6 = true) (kk : og_G E own cc d mc ms nL X Q cells slots n h (pc + 2) (a0 :: a1 :: a2 :: a3 :: a4 :: a5 :: a6 :: some (.long x) :: none :: r) st) : og_G E own cc d mc ms nL X Q cells slots n h pc (a0 :: a1 :: a2 :: a3 :: a4 :: a5 :: a6 :: a7 :: none :: r) (.long x :: st) :=
  og_len fun hl => og_lstore (i := 7) hd (by simp only [List.length_cons] at hl; omega) (og_n2a (j := 6) rfl h1) rfl kk
theorem og_iinc_7 {a0 a1 a2 a3 a4 a5 a6 : Option Value} {v : Int} {x z : Int32} (hd : decode cc pc = .ok (.iinc 7 v, 3)) (hv : x + Int32.ofInt v = z) (h1 : og_c1 a6 = true) (kk : og_G E own cc d mc ms nL X Q cells slots n h (pc + 3) (a0 :: a1 :: a2 :: a3 :: a4 :: a5 :: a6 :: some (.int z) :: r) st) : og_G E own cc d mc ms nL X Q cells slots n h pc (a0 :: a1 :: a2 :: a3 :: a4 :: a5 :: a6 :: some (.int x) :: r) st :=
  og_len fun hl => og_iinc (i := 7) hd rfl hv (by simp only [List.length_cons] at hl; omega) (og_n2a (j := 6) rfl h1) kk
theorem og_forget_7 {a0 a1 a2 a3 a4 a5 a6 a7 : Option Value} (kk : og_G E own cc d mc ms nL X Q cells slots n h pc (a0 :: a1 :: a2 :: a3 :: a4 :: a5 :: a6 :: none :: r) st) : og_G E own cc d mc ms nL X Q cells slots n h pc (a0 :: a1 :: a2 :: a3 :: a4 :: a5 :: a6 :: a7 :: r) st :=
  og_forget (lv1 := (a0 :: a1 :: a2 :: a3 :: a4 :: a5 :: a6 :: none :: r)) (by simp only [List.length_cons]) (fun i v hi => by
    have e : (a0 :: a1 :: a2 :: a3 :: a4 :: a5 :: a6 :: none :: r) = (a0 :: a1 :: a2 :: a3 :: a4 :: a5 :: a6 :: a7 :: r).set 7 none := rfl
    rw [e] at hi
    by_cases hk : i = 7
    · subst hk
      rw [List.getElem?_set_self (by simp only [List.length_cons]; omega)] at hi
      cases hi
    · rwa [List.getElem?_set_ne (Ne.symm hk)] at hi) kk
theorem og_istore_8 {a0 a1 a2 a3 a4 a5 a6 a7 a8 : Option Value} {x : Int32} (hd : decode cc pc = .ok (.istore 8, 2)) (h1 : og_c1 a7 = true) (kk : og_G E own cc d mc ms nL X Q cells slots n h (pc + 2) (a0 :: a1 :: a2 :: a3 :: a4 :: a5 :: a6 :: a7 :: some (.int x) :: r) st) : og_G E own cc d mc ms nL X Q cells slots n h pc (a0 :: a1 :: a2 :: a3 :: a4 :: a5 :: a6 :: a7 :: a8 :: r) (.int x :: st) :=
  og_len fun hl => og_istore (i := 8) hd (by simp only [List.length_cons] at hl; omega) (og_n2a (j := 7) rfl h1) kk
theorem og_astore_8 {a0 a1 a2 a3 a4 a5 a6 a7 a8 : Option Value} {x : Nat} (hd : decode cc pc = .ok (.astore 8, 2)) (h1 : og_c1 a7 = true) (kk : og_G E own cc d mc ms nL X Q cells slots n h (pc + 2) (a0 :: a1 :: a2 :: a3 :: a4 :: a5 :: a6 :: a7 :: some (.ref x) :: r) st) : og_G E own cc d mc ms nL X Q cells slots n h pc (a0 :: a1 :: a2 :: a3 :: a4 :: a5 :: a6 :: a7 :: a8 :: r) (.ref x :: st) :=
  og_len fun hl => og_astore (i := 8) hd (by simp only [List.length_cons] at hl; omega) (og_n2a (j := 7) rfl h1) kk
theorem og_lstore_8 {a0 a1 a2 a3 a4 a5 a6 a7 a8 : Option Value} {x : Int64} (hd : decode cc pc = .ok (.lstore 8, 2)) (h1 : og_c1 a7 = true) (kk : og_G E own cc d mc ms nL X Q cells slots n h (pc + 2) (a0 :: a1 :: a2 :: a3 :: a4 :: a5 :: a6 :: a7 :: some (.long x) :: none :: r) st) : og_G E own cc d mc ms nL X Q cells slots n h pc (a0 :: a1 :: a2 :: a3 :: a4 :: a5 :: a6 :: a7 :: a8 :: none :: r) (.long x :: st) :=
  og_len fun hl => og_lstore (i := 8) hd (by simp only [List.length_cons] at hl; omega) (og_n2a (j := 7) rfl h1) rfl kk
theorem og_iinc_8 {a0 a1 a2 a3 a4 a5 a6 a7 : Option Value} {v : Int} {x z : Int32} (hd : decode cc pc = .ok (.iinc 8 v, 3)) (hv : x + Int32.ofInt v = z) (h1 : og_c1 a7 = true) (kk : og_G E own cc d mc ms nL X Q cells slots n h (pc + 3) (a0 :: a1 :: a2 :: a3 :: a4 :: a5 :: a6 :: a7 :: some (.int z) :: r) st) : og_G E own cc d mc ms nL X Q cells slots n h pc (a0 :: a1 :: a2 :: a3 :: a4 :: a5 :: a6 :: a7 :: some (.int x) :: r) st :=
  og_len fun hl => og_iinc (i := 8) hd rfl hv (by simp only [List.length_cons] at hl; omega) (og_n2a (j := 7) rfl h1) kk
theorem og_forget_8 {a0 a1 a2 a3 a4 a5 a6 a7 a8 : Option Value} (kk : og_G E own cc d mc ms nL X Q cells slots n h pc (a0 :: a1 :: a2 :: a3 :: a4 :: a5 :: a6 :: a7 :: none :: r) st) : og_G E own cc d mc ms nL X Q cells slots n h pc (a0 :: a1 :: a2 :: a3 :: a4 :: a5 :: a6 :: a7 :: a8 :: r) st :=
  og_forget (lv1 := (a0 :: a1 :: a2 :: a3 :: a4 :: a5 :: a6 :: a7 :: none :: r)) (by simp only [List.length_cons]) (fun i v hi => by
    have e : (a0 :: a1 :: a2 :: a3 :: a4 :: a5 :: a6 :: a7 :: none :: r) = (a0 :: a1 :: a2 :: a3 :: a4 :: a5 :: a6 :: a7 :: a8 :: r).set 8 none := rfl
    rw [e] at hi
    by_cases hk : i = 8
    · subst hk
      rw [List.getElem?_set_self (by simp only [List.length_cons]; omega)] at hi
      cases hi
    · rwa [List.getElem?_set_ne (Ne.symm hk)] at hi) kk
theorem og_istore_9 {a0 a1 a2 a3 a4 a5 a6 a7 a8 a9 : Option Value} {x : Int32} (hd : decode cc pc = .ok (.istore 9, 2)) (h1 : og_c1 a8 = true) (kk : og_G E own cc d mc ms nL X Q cells slots n h (pc + 2) (a0 :: a1 :: a2 :: a3 :: a4 :: a5 :: a6 :: a7 :: a8 :: some (.int x) :: r) st) : og_G E own cc d mc ms nL X Q cells slots n h pc (a0 :: a1 :: a2 :: a3 :: a4 :: a5 :: a6 :: a7 :: a8 :: a9 :: r) (.int x :: st) :=
  og_len fun hl => og_istore (i := 9) hd (by simp only [List.length_cons] at hl; omega) (og_n2a (j := 8) rfl h1) kk
theorem og_astore_9 {a0 a1 a2 a3 a4 a5 a6 a7 a8 a9 : Option Value} {x : Nat} (hd : decode cc pc = .ok (.astore 9, 2)) (h1 : og_c1 a8 = true) (kk : og_G E own cc d mc ms nL X Q cells slots n h (pc + 2) (a0 :: a1 :: a2 :: a3 :: a4 :: a5 :: a6 :: a7 :: a8 :: some (.ref x) :: r) st) : og_G E own cc d mc ms nL X Q cells slots n h pc (a0 :: a1 :: a2 :: a3 :: a4 :: a5 :: a6 :: a7 :: a8 :: a9 :: r) (.ref x :: st) :=
  og_len fun hl => og_astore (i := 9) hd (by simp only [List.length_cons] at hl; omega) (og_n2a (j := 8) rfl h1) kk
theorem og_lstore_9 {a0 a1 a2 a3 a4 a5 a6 a7 a8 a9 : Option Value} {x : Int64} (hd : decode cc pc = .ok (.lstore 9, 2)) (h1 : og_c1 a8 = true) (kk : og_G E own cc d mc ms nL X Q cells slots n h (pc + 2) (a0 :: a1 :: a2 :: a3 :: a4 :: a5 :: a6 :: a7 :: a8 :: some (.long x) :: none :: r) st) : og_G E own cc d mc ms nL X Q cells slots n h pc (a0 :: a1 :: a2 :: a3 :: a4 :: a5 :: a6 :: a7 :: a8 :: a9 :: none :: r) (.long x :: st) :=
  og_len fun hl => og_lstore (i := 9) hd (by simp only [List.length_cons] at hl; omega) (og_n2a (j := 8) rfl h1) rfl kk
theorem og_iinc_9 {a0 a1 a2 a3 a4 a5 a6 a7 a8 : Option Value} {v : Int} {x z : Int32} (hd : decode cc pc = .ok (.iinc 9 v, 3)) (hv : x + Int32.ofInt v = z) (h1 : og_c1 a8 = true) (kk : og_G E own cc d mc ms nL X Q cells slots n h (pc + 3) (a0 :: a1 :: a2 :: a3 :: a4 :: a5 :: a6 :: a7 :: a8 :: some (.int z) :: r) st) : og_G E own cc d mc ms nL X Q cells slots n h pc (a0 :: a1 :: a2 :: a3 :: a4 :: a5 :: a6 :: a7 :: a8 :: some (.int x) :: r) st :=
  og_len fun hl => og_iinc (i := 9) hd rfl hv (by simp only [List.length_cons] at hl; omega) (og_n2a (j := 8) rfl h1) kk
theorem og_forget_9 {a0 a1 a2 a3 a4 a5 a6 a7 a8 a9 : Option Value} (kk : og_G E own cc d mc ms nL X Q cells slots n h pc (a0 :: a1 :: a2 :: a3 :: a4 :: a5 :: a6 :: a7 :: a8 :: none :: r) st) : og_G E own cc d mc ms nL X Q cells slots n h pc (a0 :: a1 :: a2 :: a3 :: a4 :: a5 :: a6 :: a7 :: a8 :: a9 :: r) st :=
  og_forget (lv1 := (a0 :: a1 :: a2 :: a3 :: a4 :: a5 :: a6 :: a7 :: a8 :: none :: r)) (by simp only [List.length_cons]) (fun i v hi => by
    have e : (a0 :: a1 :: a2 :: a3 :: a4 :: a5 :: a6 :: a7 :: a8 :: none :: r) = (a0 :: a1 :: a2 :: a3 :: a4 :: a5 :: a6 :: a7 :: a8 :: a9 :: r).set 9 none := rfl
    rw [e] at hi
    by_cases hk : i = 9
    · subst hk
      rw [List.getElem?_set_self (by simp only [List.length_cons]; omega)] at hi
      cases hi
    · rwa [List.getElem?_set_ne (Ne.symm hk)] at hi) kk
theorem og_istore_10 {a0 a1 a2 a3 a4 a5 a6 a7 a8 a9 a10 : Option Value} {x : Int32} (hd : decode cc pc = .ok (.istore 10, 2)) (h1 : og_c1 a9 = true) (kk : og_G E own cc d mc ms nL X Q cells slots n h (pc + 2) (a0 :: a1 :: a2 :: a3 :: a4 :: a5 :: a6 :: a7 :: a8 :: a9 :: some (.int x) :: r) st) : og_G E own cc d mc ms nL X Q cells slots n h pc (a0 :: a1 :: a2 :: a3 :: a4 :: a5 :: a6 :: a7 :: a8 :: a9 :: a10 :: r) (.int x :: st) :=
  og_len fun hl => og_istore (i := 10) hd (by simp only [List.length_cons] at hl; omega) (og_n2a (j := 9) rfl h1) kk
theorem og_astore_10 {a0 a1 a2 a3 a4 a5 a6 a7 a8 a9 a10 : Option Value} {x : Nat} (hd : decode cc pc = .ok (.astore 10, 2)) (h1 : og_c1 a9 = true) (kk : og_G E own cc d mc ms nL X Q cells slots n h (pc + 2) (a0 :: a1 :: a2 :: a3 :: a4 :: a5 :: a6 :: a7 :: a8 :: a9 :: some (.ref x) :: r) st) : og_G E own cc d mc ms nL X Q cells slots n h pc (a0 :: a1 :: a2 :: a3 :: a4 :: a5 :: a6 :: a7 :: a8 :: a9 :: a10 :: r) (.ref x :: st) :=
  og_len fun hl => og_astore (i := 10) hd (by simp only [List.length_cons] at hl; omega) (og_n2a (j := 9) rfl h1) kk
theorem og_lstore_10 {a0 a1 a2 a3 a4 a5 a6 a7 a8 a9 a10 : Option Value} {x : Int64} (hd : decode cc pc = .ok (.lstore 10, 2)) (h1 : og_c1 a9 = true) (kk : og_G E own cc d mc ms nL X Q cells slots n h (pc + 2) (a0 :: a1 :: a2 :: a3 :: a4 :: a5 :: a6 :: a7 :: a8 :: a9 :: some (.long x) :: none :: r) st) : og_G E own cc d mc ms nL X Q cells slots n h pc (a0 :: a1 :: a2 :: a3 :: a4 :: a5 :: a6 :: a7 :: a8 :: a9 :: a10 :: none :: r) (.long x :: st) :=
  og_len fun hl => og_lstore (i := 10) hd (by simp only [List.length_cons] at hl; omega) (og_n2a (j := 9) rfl h1) rfl kk
theorem og_iinc_10 {a0 a1 a2 a3 a4 a5 a6 a7 a8 a9 : Option Value} {v : Int} {x z : Int32} (hd : decode cc pc = .ok (.iinc 10 v, 3)) (hv : x + Int32.ofInt v = z) (h1 : og_c1 a9 = true) (kk : og_G E own cc d mc ms nL X Q cells slots n h (pc + 3) (a0 :: a1 :: a2 :: a3 :: a4 :: a5 :: a6 :: a7 :: a8 :: a9 :: some (.int z) :: r) st) : og_G E own cc d mc ms nL X Q cells slots n h pc (a0 :: a1 :: a2 :: a3 :: a4 :: a5 :: a6 :: a7 :: a8 :: a9 :: some (.int x) :: r) st :=
  og_len fun hl => og_iinc (i := 10) hd rfl hv (by simp only [List.length_cons] at hl; omega) (og_n2a (j := 9) rfl h1) kk
theorem og_forget_10 {a0 a1 a2 a3 a4 a5 a6 a7 a8 a9 a10 : Option Value} (kk : og_G E own cc d mc ms nL X Q cells slots n h pc (a0 :: a1 :: a2 :: a3 :: a4 :: a5 :: a6 :: a7 :: a8 :: a9 :: none :: r) st) : og_G E own cc d mc ms nL X Q cells slots n h pc (a0 :: a1 :: a2 :: a3 :: a4 :: a5 :: a6 :: a7 :: a8 :: a9 :: a10 :: r) st :=
  og_forget (lv1 := (a0 :: a1 :: a2 :: a3 :: a4 :: a5 :: a6 :: a7 :: a8 :: a9 :: none :: r)) (by simp only [List.length_cons]) (fun i v hi => by
    have e : (a0 :: a1 :: a2 :: a3 :: a4 :: a5 :: a6 :: a7 :: a8 :: a9 :: none :: r) = (a0 :: a1 :: a2 :: a3 :: a4 :: a5 :: a6 :: a7 :: a8 :: a9 :: a10 :: r).set 10 none := rfl
    rw [e] at hi
    by_cases hk : i = 10
    · subst hk
      rw [List.getElem?_set_self (by simp only [List.length_cons]; omega)] at hi
      cases hi
    · rwa [List.getElem?_set_ne (Ne.symm hk)] at hi) kk
theorem og_istore_11 {a0 a1 a2 a3 a4 a5 a6 a7 a8 a9 a10 a11 : Option Value} {x : Int32} (hd : decode cc pc = .ok (.istore 11, 2)) (h1 : og_c1 a10 = true) (kk : og_G E own cc d mc ms nL X Q cells slots n h (pc + 2) (a0 :: a1 :: a2 :: a3 :: a4 :: a5 :: a6 :: a7 :: a8 :: a9 :: a10 :: some (.int x) :: r) st) : og_G E own cc d mc ms nL X Q cells slots n h pc (a0 :: a1 :: a2 :: a3 :: a4 :: a5 :: a6 :: a7 :: a8 :: a9 :: a10 :: a11 :: r) (.int x :: st) :=
  og_len fun hl => og_istore (i := 11) hd (by simp only [List.length_cons] at hl; omega) (og_n2a (j := 10) rfl h1) kk
theorem og_astore_11 {a0 a1 a2 a3 a4 a5 a6 a7 a8 a9 a10 a11 : Option Value} {x : Nat} (hd : decode cc pc = .ok (.astore 11, 2)) (h1 : og_c1 a10 = true) (kk : og_G E own cc d mc ms nL X Q cells slots n h (pc + 2) (a0 :: a1 :: a2 :: a3 :: a4 :: a5 :: a6 :: a7 :: a8 :: a9 :: a10 :: some (.ref x) :: r) st) : og_G E own cc d mc ms nL X Q cells slots n h pc (a0 :: a1 :: a2 :: a3 :: a4 :: a5 :: a6 :: a7 :: a8 :: a9 :: a10 :: a11 :: r) (.ref x :: st) :=
  og_len fun hl => og_astore (i := 11) hd (by simp only [List.length_cons] at hl; omega) (og_n2a (j := 10) rfl h1) kk
theorem og_lstore_11 {a0 a1 a2 a3 a4 a5 a6 a7 a8 a9 a10 a11 : Option Value} {x : Int64} (hd : decode cc pc = .ok (.lstore 11, 2)) (h1 : og_c1 a10 = true) (kk : og_G E own cc d mc ms nL X Q cells slots n h (pc + 2) (a0 :: a1 :: a2 :: a3 :: a4 :: a5 :: a6 :: a7 :: a8 :: a9 :: a10 :: some (.long x) :: none :: r) st) : og_G E own cc d mc ms nL X Q cells slots n h pc (a0 :: a1 :: a2 :: a3 :: a4 :: a5 :: a6 :: a7 :: a8 :: a9 :: a10 :: a11 :: none :: r) (.long x :: st) :=
  og_len fun hl => og_lstore (i := 11) hd (by simp only [List.length_cons] at hl; omega) (og_n2a (j := 10) rfl h1) rfl kk
theorem og_iinc_11 {a0 a1 a2 a3 a4 a5 a6 a7 a8 a9 a10 : Option Value} {v : Int} {x z : Int32} (hd : decode cc pc = .ok (.iinc 11 v, 3)) (hv : x + Int32.ofInt v = z) (h1 : og_c1 a10 = true) (kk : og_G E own cc d mc ms nL X Q cells slots n h (pc + 3) (a0 :: a1 :: a2 :: a3 :: a4 :: a5 :: a6 :: a7 :: a8 :: a9 :: a10 :: some (.int z) :: r) st) : og_G E own cc d mc ms nL X Q cells slots n h pc (a0 :: a1 :: a2 :: a3 :: a4 :: a5 :: a6 :: a7 :: a8 :: a9 :: a10 :: some (.int x) :: r) st :=
  og_len fun hl => og_iinc (i := 11) hd rfl hv (by simp only [List.length_cons] at hl; omega) (og_n2a (j := 10) rfl h1) kk
theorem og_forget_11 {a0 a1 a2 a3 a4 a5 a6 a7 a8 a9 a10 a11 : Option Value} (kk : og_G E own cc d mc ms nL X Q cells slots n h pc (a0 :: a1 :: a2 :: a3 :: a4 :: a5 :: a6 :: a7 :: a8 :: a9 :: a10 :: none :: r) st) : og_G E own cc d mc ms nL X Q cells slots n h pc (a0 :: a1 :: a2 :: a3 :: a4 :: a5 :: a6 :: a7 :: a8 :: a9 :: a10 :: a11 :: r) st :=
  og_forget (lv1 := (a0 :: a1 :: a2 :: a3 :: a4 :: a5 :: a6 :: a7 :: a8 :: a9 :: a10 :: none :: r)) (by simp only [List.length_cons]) (fun i v hi => by
    have e : (a0 :: a1 :: a2 :: a3 :: a4 :: a5 :: a6 :: a7 :: a8 :: a9 :: a10 :: none :: r) = (a0 :: a1 :: a2 :: a3 :: a4 :: a5 :: a6 :: a7 :: a8 :: a9 :: a10 :: a11 :: r).set 11 none := rfl
    rw [e] at hi
    by_cases hk : i = 11
    · subst hk
      rw [List.getElem?_set_self (by simp only [List.length_cons]; omega)] at hi
      cases hi
    · rwa [List.getElem?_set_ne (Ne.symm hk)] at hi) kk
theorem og_istore_12 {a0 a1 a2 a3 a4 a5 a6 a7 a8 a9 a10 a11 a12 : Option Value} {x : Int32} (hd : decode cc pc = .ok (.istore 12, 2)) (h1 : og_c1 a11 = true) (kk : og_G E own cc d mc ms nL X Q cells slots n h (pc + 2) (a0 :: a1 :: a2 :: a3 :: a4 :: a5 :: a6 :: a7 :: a8 :: a9 :: a10 :: a11 :: some (.int x) :: r) st) : og_G E own cc d mc ms nL X Q cells slots n h pc (a0 :: a1 :: a2 :: a3 :: a4 :: a5 :: a6 :: a7 :: a8 :: a9 :: a10 :: a11 :: a12 :: r) (.int x :: st) :=
  og_len fun hl => og_istore (i := 12) hd (by simp only [List.length_cons] at hl; omega) (og_n2a (j := 11) rfl h1) kk
theorem og_astore_12 {a0 a1 a2 a3 a4 a5 a6 a7 a8 a9 a10 a11 a12 : Option Value} {x : Nat} (hd : decode cc pc = .ok (.astore 12, 2)) (h1 : og_c1 a11 = true) (kk : og_G E own cc d mc ms nL X Q cells slots n h (pc + 2) (a0 :: a1 :: a2 :: a3 :: a4 :: a5 :: a6 :: a7 :: a8 :: a9 :: a10 :: a11 :: some (.ref x) :: r) st) : og_G E own cc d mc ms nL X Q cells slots n h pc (a0 :: a1 :: a2 :: a3 :: a4 :: a5 :: a6 :: a7 :: a8 :: a9 :: a10 :: a11 :: a12 :: r) (.ref x :: st) :=
  og_len fun hl => og_astore (i := 12) hd (by simp only [List.length_cons] at hl; omega) (og_n2a (j := 11) rfl h1) kk
theorem og_lstore_12 {a0 a1 a2 a3 a4 a5 a6 a7 a8 a9 a10 a11 a12 : Option Value} {x : Int64} (hd : decode cc pc = .ok (.lstore 12, 2)) (h1 : og_c1 a11 = true) (kk : og_G E own cc d mc ms nL X Q cells slots n h (pc + 2) (a0 :: a1 :: a2 :: a3 :: a4 :: a5 :: a6 :: a7 :: a8 :: a9 :: a10 :: a11 :: some (.long x) :: none :: r) st) : og_G E own cc d mc ms nL X Q cells slots n h pc (a0 :: a1 :: a2 :: a3 :: a4 :: a5 :: a6 :: a7 :: a8 :: a9 :: a10 :: a11 :: a12 :: none :: r) (.long x :: st) :=
  og_len fun hl => og_lstore (i := 12) hd (by simp only [List.length_cons] at hl; omega) (og_n2a (j := 11) rfl h1) rfl kk
theorem og_iinc_12 {a0 a1 a2 a3 a4 a5 a6 a7 a8 a9 a10 a11 : Option Value} {v : Int} {x z : Int32} (hd : decode cc pc = .ok (.iinc 12 v, 3)) (hv : x + Int32.ofInt v = z) (h1 : og_c1 a11 = true) (kk : og_G E own cc d mc ms nL X Q cells slots n h (pc + 3) (a0 :: a1 :: a2 :: a3 :: a4 :: a5 :: a6 :: a7 :: a8 :: a9 :: a10 :: a11 :: some (.int z) :: r) st) : og_G E own cc d mc ms nL X Q cells slots n h pc (a0 :: a1 :: a2 :: a3 :: a4 :: a5 :: a6 :: a7 :: a8 :: a9 :: a10 :: a11 :: some (.int x) :: r) st :=
  og_len fun hl => og_iinc (i := 12) hd rfl hv (by simp only [List.length_cons] at hl; omega) (og_n2a (j := 11) rfl h1) kk
theorem og_forget_12 {a0 a1 a2 a3 a4 a5 a6 a7 a8 a9 a10 a11 a12 : Option Value} (kk : og_G E own cc d mc ms nL X Q cells slots n h pc (a0 :: a1 :: a2 :: a3 :: a4 :: a5 :: a6 :: a7 :: a8 :: a9 :: a10 :: a11 :: none :: r) st) : og_G E own cc d mc ms nL X Q cells slots n h pc (a0 :: a1 :: a2 :: a3 :: a4 :: a5 :: a6 :: a7 :: a8 :: a9 :: a10 :: a11 :: a12 :: r) st :=
  og_forget (lv1 := (a0 :: a1 :: a2 :: a3 :: a4 :: a5 :: a6 :: a7 :: a8 :: a9 :: a10 :: a11 :: none :: r)) (by simp only [List.length_cons]) (fun i v hi => by
    have e : (a0 :: a1 :: a2 :: a3 :: a4 :: a5 :: a6 :: a7 :: a8 :: a9 :: a10 :: a11 :: none :: r) = (a0 :: a1 :: a2 :: a3 :: a4 :: a5 :: a6 :: a7 :: a8 :: a9 :: a10 :: a11 :: a12 :: r).set 12 none := rfl
    rw [e] at hi
    by_cases hk : i = 12
    · subst hk
      rw [List.getElem?_set_self (by simp only [List.length_cons]; omega)] at hi
      cases hi
    · rwa [List.getElem?_set_ne (Ne.symm hk)] at hi) kk
theorem og_istore_13 {a0 a1 a2 a3 a4 a5 a6 a7 a8 a9 a10 a11 a12 a13 : Option Value} {x : Int32} (hd : decode cc pc = .ok (.istore 13, 2)) (h1 : og_c1 a12 = true) (kk : og_G E own cc d mc ms nL X Q cells slots n h (pc + 2) (a0 :: a1 :: a2 :: a3 :: a4 :: a5 :: a6 :: a7 :: a8 :: a9 :: a10 :: a11 :: a12 :: some (.int x) :: r) st) : og_G E own cc d mc ms nL X Q cells slots n h pc (a0 :: a1 :: a2 :: a3 :: a4 :: a5 :: a6 :: a7 :: a8 :: a9 :: a10 :: a11 :: a12 :: a13 :: r) (.int x :: st) :=
  og_len fun hl => og_istore (i := 13) hd (by simp only [List.length_cons] at hl; omega) (og_n2a (j := 12) rfl h1) kk
theorem og_astore_13 {a0 a1 a2 a3 a4 a5 a6 a7 a8 a9 a10 a11 a12 a13 : Option Value} {x : Nat} (hd : decode cc pc = .ok (.astore 13, 2)) (h1 : og_c1 a12 = true) (kk : og_G E own cc d mc ms nL X Q cells slots n h (pc + 2) (a0 :: a1 :: a2 :: a3 :: a4 :: a5 :: a6 :: a7 :: a8 :: a9 :: a10 :: a11 :: a12 :: some (.ref x) :: r) st) : og_G E own cc d mc ms nL X Q cells slots n h pc (a0 :: a1 :: a2 :: a3 :: a4 :: a5 :: a6 :: a7 :: a8 :: a9 :: a10 :: a11 :: a12 :: a13 :: r) (.ref x :: st) :=
  og_len fun hl => og_astore (i := 13) hd (by simp only [List.length_cons] at hl; omega) (og_n2a (j := 12) rfl h1) kk
theorem og_lstore_13 {a0 a1 a2 a3 a4 a5 a6 a7 a8 a9 a10 a11 a12 a13 : Option Value} {x : Int64} (hd : decode cc pc = .ok (.lstore 13, 2)) (h1 : og_c1 a12 = true) (kk : og_G E own cc d mc ms nL X Q cells slots n h (pc + 2) (a0 :: a1 :: a2 :: a3 :: a4 :: a5 :: a6 :: a7 :: a8 :: a9 :: a10 :: a11 :: a12 :: some (.long x) :: none :: r) st) : og_G E own cc d mc ms nL X Q cells slots n h pc (a0 :: a1 :: a2 :: a3 :: a4 :: a5 :: a6 :: a7 :: a8 :: a9 :: a10 :: a11 :: a12 :: a13 :: none :: r) (.long x :: st) :=
  og_len fun hl => og_lstore (i := 13) hd (by simp only [List.length_cons] at hl; omega) (og_n2a (j := 12) rfl h1) rfl kk
theorem og_iinc_13 {a0 a1 a2 a3 a4 a5 a6 a7 a8 a9 a10 a11 a12 : Option Value} {v : Int} {x z : Int32} (hd : decode cc pc = .ok (.iinc 13 v, 3)) (hv : x + Int32.ofInt v = z) (h1 : og_c1 a12 = true) (kk : og_G E own cc d mc ms nL X Q cells slots n h (pc + 3) (a0 :: a1 :: a2 :: a3 :: a4 :: a5 :: a6 :: a7 :: a8 :: a9 :: a10 :: a11 :: a12 :: some (.int z) :: r) st) : og_G E own cc d mc ms nL X Q cells slots n h pc (a0 :: a1 :: a2 :: a3 :: a4 :: a5 :: a6 :: a7 :: a8 :: a9 :: a10 :: a11 :: a12 :: some (.int x) :: r) st :=
  og_len fun hl => og_iinc (i := 13) hd rfl hv (by simp only [List.length_cons] at hl; omega) (og_n2a (j := 12) rfl h1) kk
theorem og_forget_13 {a0 a1 a2 a3 a4 a5 a6 a7 a8 a9 a10 a11 a12 a13 : Option Value} (kk : og_G E own cc d mc ms nL X Q cells slots n h pc (a0 :: a1 :: a2 :: a3 :: a4 :: a5 :: a6 :: a7 :: a8 :: a9 :: a10 :: a11 :: a12 :: none :: r) st) : og_G E own cc d mc ms nL X Q cells slots n h pc (a0 :: a1 :: a2 :: a3 :: a4 :: a5 :: a6 :: a7 :: a8 :: a9 :: a10 :: a11 :: a12 :: a13 :: r) st :=
  og_forget (lv1 := (a0 :: a1 :: a2 :: a3 :: a4 :: a5 :: a6 :: a7 :: a8 :: a9 :: a10 :: a11 :: a12 :: none :: r)) (by simp only [List.length_cons]) (fun i v hi => by
    have e : (a0 :: a1 :: a2 :: a3 :: a4 :: a5 :: a6 :: a7 :: a8 :: a9 :: a10 :: a11 :: a12 :: none :: r) = (a0 :: a1 :: a2 :: a3 :: a4 :: a5 :: a6 :: a7 :: a8 :: a9 :: a10 :: a11 :: a12 :: a13 :: r).set 13 none := rfl
    rw [e] at hi
    by_cases hk : i = 13
    · subst hk
      rw [List.getElem?_set_self (by simp only [List.length_cons]; omega)] at hi
      cases hi
    · rwa [List.getElem?_set_ne (Ne.symm hk)] at hi) kk
theorem og_istore_14 {a0 a1 a2 a3 a4 a5 a6 a7 a8 a9 a10 a11 a12 a13 a14 : Option Value} {x : Int32} (hd : decode cc pc = .ok (.istore 14, 2)) (h1 : og_c1 a13 = true) (kk : og_G E own cc d mc ms nL X Q cells slots n h (pc + 2) (a0 :: a1 :: a2 :: a3 :: a4 :: a5 :: a6 :: a7 :: a8 :: a9 :: a10 :: a11 :: a12 :: a13 :: some (.int x) :: r) st) : og_G E own cc d mc ms nL X Q cells slots n h pc (a0 :: a1 :: a2 :: a3 :: a4 :: a5 :: a6 :: a7 :: a8 :: a9 :: a10 :: a11 :: a12 :: a13 :: a14 :: r) (.int x :: st) :=
  og_len fun hl => og_istore (i := 14) hd (by simp only [List.length_cons] at hl; omega) (og_n2a (j := 13) rfl h1) kk
theorem og_astore_14 {a0 a1 a2 a3 a4 a5 a6 a7 a8 a9 a10 a11 a12 a13 a14 : Option Value} {x : Nat} (hd : decode cc pc = .ok (.astore 14, 2)) (h1 : og_c1 a13 = true) (kk : og_G E own cc d mc ms nL X Q cells slots n h (pc + 2) (a0 :: a1 :: a2 :: a3 :: a4 :: a5 :: a6 :: a7 :: a8 :: a9 :: a10 :: a11 :: a12 :: a13 :: some (.ref x) :: r) st) : og_G E own cc d mc ms nL X Q cells slots n h pc (a0 :: a1 :: a2 :: a3 :: a4 :: a5 :: a6 :: a7 :: a8 :: a9 :: a10 :: a11 :: a12 :: a13 :: a14 :: r) (.ref x :: st) :=
  og_len fun hl => og_astore (i := 14) hd (by simp only [List.length_cons] at hl; omega) (og_n2a (j := 13) rfl h1) kk
theorem og_lstore_14 {a0 a1 a2 a3 a4 a5 a6 a7 a8 a9 a10 a11 a12 a13 a14 : Option Value} {x : Int64} (hd : decode cc pc = .ok (.lstore 14, 2)) (h1 : og_c1 a13 = true) (kk : og_G E own cc d mc ms nL X Q cells slots n h (pc + 2) (a0 :: a1 :: a2 :: a3 :: a4 :: a5 :: a6 :: a7 :: a8 :: a9 :: a10 :: a11 :: a12 :: a13 :: some (.long x) :: none :: r) st) : og_G E own cc d mc ms nL X Q cells slots n h pc (a0 :: a1 :: a2 :: a3 :: a4 :: a5 :: a6 :: a7 :: a8 :: a9 :: a10 :: a11 :: a12 :: a13 :: a14 :: none :: r) (.long x :: st) :=
  og_len fun hl => og_lstore (i := 14) hd (by simp only [List.length_cons] at hl; omega) (og_n2a (j := 13) rfl h1) rfl kk
theorem og_iinc_14 {a0 a1 a2 a3 a4 a5 a6 a7 a8 a9 a10 a11 a12 a13 : Option Value} {v : Int} {x z : Int32} (hd : decode cc pc = .ok (.iinc 14 v, 3)) (hv : x + Int32.ofInt v = z) (h1 : og_c1 a13 = true) (kk : og_G E own cc d mc ms nL X Q cells slots n h (pc + 3) (a0 :: a1 :: a2 :: a3 :: a4 :: a5 :: a6 :: a7 :: a8 :: a9 :: a10 :: a11 :: a12 :: a13 :: some (.int z) :: r) st) : og_G E own cc d mc ms nL X Q cells slots n h pc (a0 :: a1 :: a2 :: a3 :: a4 :: a5 :: a6 :: a7 :: a8 :: a9 :: a10 :: a11 :: a12 :: a13 :: some (.int x) :: r) st :=
  og_len fun hl => og_iinc (i := 14) hd rfl hv (by simp only [List.length_cons] at hl; omega) (og_n2a (j := 13) rfl h1) kk
theorem og_forget_14 {a0 a1 a2 a3 a4 a5 a6 a7 a8 a9 a10 a11 a12 a13 a14 : Option Value} (kk : og_G E own cc d mc ms nL X Q cells slots n h pc (a0 :: a1 :: a2 :: a3 :: a4 :: a5 :: a6 :: a7 :: a8 :: a9 :: a10 :: a11 :: a12 :: a13 :: none :: r) st) : og_G E own cc d mc ms nL X Q cells slots n h pc (a0 :: a1 :: a2 :: a3 :: a4 :: a5 :: a6 :: a7 :: a8 :: a9 :: a10 :: a11 :: a12 :: a13 :: a14 :: r) st :=
  og_forget (lv1 := (a0 :: a1 :: a2 :: a3 :: a4 :: a5 :: a6 :: a7 :: a8 :: a9 :: a10 :: a11 :: a12 :: a13 :: none :: r)) (by simp only [List.length_cons]) (fun i v hi => by
    have e : (a0 :: a1 :: a2 :: a3 :: a4 :: a5 :: a6 :: a7 :: a8 :: a9 :: a10 :: a11 :: a12 :: a13 :: none :: r) = (a0 :: a1 :: a2 :: a3 :: a4 :: a5 :: a6 :: a7 :: a8 :: a9 :: a10 :: a11 :: a12 :: a13 :: a14 :: r).set 14 none := rfl
    rw [e] at hi
    by_cases hk : i = 14
    · subst hk
      rw [List.getElem?_set_self (by simp only [List.length_cons]; omega)] at hi
      cases hi
    · rwa [List.getElem?_set_ne (Ne.symm hk)] at hi) kk
theorem og_istore_15 {a0 a1 a2 a3 a4 a5 a6 a7 a8 a9 a10 a11 a12 a13 a14 a15 : Option Value} {x : Int32} (hd : decode cc pc = .ok (.istore 15, 2)) (h1 : og_c1 a14 = true) (kk : og_G E own cc d mc ms nL X Q cells slots n h (pc + 2) (a0 :: a1 :: a2 :: a3 :: a4 :: a5 :: a6 :: a7 :: a8 :: a9 :: a10 :: a11 :: a12 :: a13 :: a14 :: some (.int x) :: r) st) : og_G E own cc d mc ms nL X Q cells slots n h pc (a0 :: a1 :: a2 :: a3 :: a4 :: a5 :: a6 :: a7 :: a8 :: a9 :: a10 :: a11 :: a12 :: a13 :: a14 :: a15 :: r) (.int x :: st) :=
  og_len fun hl => og_istore (i := 15) hd (by simp only [List.length_cons] at hl; omega) (og_n2a (j := 14) rfl h1) kk
theorem og_astore_15 {a0 a1 a2 a3 a4 a5 a6 a7 a8 a9 a10 a11 a12 a13 a14 a15 : Option Value} {x : Nat} (hd : decode cc pc = .ok (.astore 15, 2)) (h1 : og_c1 a14 = true) (kk : og_G E own cc d mc ms nL X Q cells slots n h (pc + 2) (a0 :: a1 :: a2 :: a3 :: a4 :: a5 :: a6 :: a7 :: a8 :: a9 :: a10 :: a11 :: a12 :: a13 :: a14 :: some (.ref x) :: r) st) : og_G E own cc d mc ms nL X Q cells slots n h pc (a0 :: a1 :: a2 :: a3 :: a4 :: a5 :: a6 :: a7 :: a8 :: a9 :: a10 :: a11 :: a12 :: a13 :: a14 :: a15 :: r) (.ref x :: st) :=
  og_len fun hl => og_astore (i := 15) hd (by simp only [List.length_cons] at hl; omega) (og_n2a (j := 14) rfl h1) kk
theorem og_lstore_15 {a0 a1 a2 a3 a4 a5 a6 a7 a8 a9 a10 a11 a12 a13 a14 a15 : Option Value} {x : Int64} (hd : decode cc pc = .ok (.lstore 15, 2)) (h1 : og_c1 a14 = true) (kk : og_G E own cc d mc ms nL X Q cells slots n h (pc + 2) (a0 :: a1 :: a2 :: a3 :: a4 :: a5 :: a6 :: a7 :: a8 :: a9 :: a10 :: a11 :: a12 :: a13 :: a14 :: some (.long x) :: none :: r) st) : og_G E own cc d mc ms nL X Q cells slots n h pc (a0 :: a1 :: a2 :: a3 :: a4 :: a5 :: a6 :: a7 :: a8 :: a9 :: a10 :: a11 :: a12 :: a13 :: a14 :: a15 :: none :: r) (.long x :: st) :=
  og_len fun hl => og_lstore (i := 15) hd (by simp only [List.length_cons] at hl; omega) (og_n2a (j := 14) rfl h1) rfl kk
theorem og_iinc_15 {a0 a1 a2 a3 a4 a5 a6 a7 a8 a9 a10 a11 a12 a13 a14 : Option Value} {v : Int} {x z : Int32} (hd : decode cc pc = .ok (.iinc 15 v, 3)) (hv : x + Int32.ofInt v = z) (h1 : og_c1 a14 = true) (kk : og_G E own cc d mc ms nL X Q cells slots n h (pc + 3) (a0 :: a1 :: a2 :: a3 :: a4 :: a5 :: a6 :: a7 :: a8 :: a9 :: a10 :: a11 :: a12 :: a13 :: a14 :: some (.int z) :: r) st) : og_G E own cc d mc ms nL X Q cells slots n h pc (a0 :: a1 :: a2 :: a3 :: a4 :: a5 :: a6 :: a7 :: a8 :: a9 :: a10 :: a11 :: a12 :: a13 :: a14 :: some (.int x) :: r) st :=
  og_len fun hl => og_iinc (i := 15) hd rfl hv (by simp only [List.length_cons] at hl; omega) (og_n2a (j := 14) rfl h1) kk
theorem og_forget_15 {a0 a1 a2 a3 a4 a5 a6 a7 a8 a9 a10 a11 a12 a13 a14 a15 : Option Value} (kk : og_G E own cc d mc ms nL X Q cells slots n h pc (a0 :: a1 :: a2 :: a3 :: a4 :: a5 :: a6 :: a7 :: a8 :: a9 :: a10 :: a11 :: a12 :: a13 :: a14 :: none :: r) st) : og_G E own cc d mc ms nL X Q cells slots n h pc (a0 :: a1 :: a2 :: a3 :: a4 :: a5 :: a6 :: a7 :: a8 :: a9 :: a10 :: a11 :: a12 :: a13 :: a14 :: a15 :: r) st :=
  og_forget (lv1 := (a0 :: a1 :: a2 :: a3 :: a4 :: a5 :: a6 :: a7 :: a8 :: a9 :: a10 :: a11 :: a12 :: a13 :: a14 :: none :: r)) (by simp only [List.length_cons]) (fun i v hi => by
    have e : (a0 :: a1 :: a2 :: a3 :: a4 :: a5 :: a6 :: a7 :: a8 :: a9 :: a10 :: a11 :: a12 :: a13 :: a14 :: none :: r) = (a0 :: a1 :: a2 :: a3 :: a4 :: a5 :: a6 :: a7 :: a8 :: a9 :: a10 :: a11 :: a12 :: a13 :: a14 :: a15 :: r).set 15 none := rfl
    rw [e] at hi
    by_cases hk : i = 15
    · subst hk
      rw [List.getElem?_set_self (by simp only [List.length_cons]; omega)] at hi
      cases hi
    · rwa [List.getElem?_set_ne (Ne.symm hk)] at hi) kk
theorem og_istore_16 {a0 a1 a2 a3 a4 a5 a6 a7 a8 a9 a10 a11 a12 a13 a14 a15 a16 : Option Value} {x : Int32} (hd : decode cc pc = .ok (.istore 16, 2)) (h1 : og_c1 a15 = true) (kk : og_G E own cc d mc ms nL X Q cells slots n h (pc + 2) (a0 :: a1 :: a2 :: a3 :: a4 :: a5 :: a6 :: a7 :: a8 :: a9 :: a10 :: a11 :: a12 :: a13 :: a14 :: a15 :: some (.int x) :: r) st) : og_G E own cc d mc ms nL X Q cells slots n h pc (a0 :: a1 :: a2 :: a3 :: a4 :: a5 :: a6 :: a7 :: a8 :: a9 :: a10 :: a11 :: a12 :: a13 :: a14 :: a15 :: a16 :: r) (.int x :: st) :=
  og_len fun hl => og_istore (i := 16) hd (by simp only [List.length_cons] at hl; omega) (og_n2a (j := 15) rfl h1) kk
theorem og_astore_16 {a0 a1 a2 a3 a4 a5 a6 a7 a8 a9 a10 a11 a12 a13 a14 a15 a16 : Option Value} {x : Nat} (hd : decode cc pc = .ok (.astore 16, 2)) (h1 : og_c1 a15 = true) (kk : og_G E own cc d mc ms nL X Q cells slots n h (pc + 2) (a0 :: a1 :: a2 :: a3 :: a4 :: a5 :: a6 :: a7 :: a8 :: a9 :: a10 :: a11 :: a12 :: a13 :: a14 :: a15 :: some (.ref x) :: r) st) : og_G E own cc d mc ms nL X Q cells slots n h pc (a0 :: a1 :: a2 :: a3 :: a4 :: a5 :: a6 :: a7 :: a8 :: a9 :: a10 :: a11 :: a12 :: a13 :: a14 :: a15 :: a16 :: r) (.ref x :: st) :=
  og_len fun hl => og_astore (i := 16) hd (by simp only [List.length_cons] at hl; omega) (og_n2a (j := 15) rfl h1) kk
theorem og_lstore_16 {a0 a1 a2 a3 a4 a5 a6 a7 a8 a9 a10 a11 a12 a13 a14 a15 a16 : Option Value} {x : Int64} (hd : decode cc pc = .ok (.lstore 16, 2)) (h1 : og_c1 a15 = true) (kk : og_G E own cc d mc ms nL X Q cells slots n h (pc + 2) (a0 :: a1 :: a2 :: a3 :: a4 :: a5 :: a6 :: a7 :: a8 :: a9 :: a10 :: a11 :: a12 :: a13 :: a14 :: a15 :: some (.long x) :: none :: r) st) : og_G E own cc d mc ms nL X Q cells slots n h pc (a0 :: a1 :: a2 :: a3 :: a4 :: a5 :: a6 :: a7 :: a8 :: a9 :: a10 :: a11 :: a12 :: a13 :: a14 :: a15 :: a16 :: none :: r) (.long x :: st) :=
  og_len fun hl => og_lstore (i := 16) hd (by simp only [List.length_cons] at hl; omega) (og_n2a (j := 15) rfl h1) rfl kk
theorem og_iinc_16 {a0 a1 a2 a3 a4 a5 a6 a7 a8 a9 a10 a11 a12 a13 a14 a15 : Option Value} {v : Int} {x z : Int32} (hd : decode cc pc = .ok (.iinc 16 v, 3)) (hv : x + Int32.ofInt v = z) (h1 : og_c1 a15 = true) (kk : og_G E own cc d mc ms nL X Q cells slots n h (pc + 3) (a0 :: a1 :: a2 :: a3 :: a4 :: a5 :: a6 :: a7 :: a8 :: a9 :: a10 :: a11 :: a12 :: a13 :: a14 :: a15 :: some (.int z) :: r) st) : og_G E own cc d mc ms nL X Q cells slots n h pc (a0 :: a1 :: a2 :: a3 :: a4 :: a5 :: a6 :: a7 :: a8 :: a9 :: a10 :: a11 :: a12 :: a13 :: a14 :: a15 :: some (.int x) :: r) st :=
  og_len fun hl => og_iinc (i := 16) hd rfl hv (by simp only [List.length_cons] at hl; omega) (og_n2a (j := 15) rfl h1) kk
theorem og_forget_16 {a0 a1 a2 a3 a4 a5 a6 a7 a8 a9 a10 a11 a12 a13 a14 a15 a16 : Option Value} (kk : og_G E own cc d mc ms nL X Q cells slots n h pc (a0 :: a1 :: a2 :: a3 :: a4 :: a5 :: a6 :: a7 :: a8 :: a9 :: a10 :: a11 :: a12 :: a13 :: a14 :: a15 :: none :: r) st) : og_G E own cc d mc ms nL X Q cells slots n h pc (a0 :: a1 :: a2 :: a3 :: a4 :: a5 :: a6 :: a7 :: a8 :: a9 :: a10 :: a11 :: a12 :: a13 :: a14 :: a15 :: a16 :: r) st :=
  og_forget (lv1 := (a0 :: a1 :: a2 :: a3 :: a4 :: a5 :: a6 :: a7 :: a8 :: a9 :: a10 :: a11 :: a12 :: a13 :: a14 :: a15 :: none :: r)) (by simp only [List.length_cons]) (fun i v hi => by
    have e : (a0 :: a1 :: a2 :: a3 :: a4 :: a5 :: a6 :: a7 :: a8 :: a9 :: a10 :: a11 :: a12 :: a13 :: a14 :: a15 :: none :: r) = (a0 :: a1 :: a2 :: a3 :: a4 :: a5 :: a6 :: a7 :: a8 :: a9 :: a10 :: a11 :: a12 :: a13 :: a14 :: a15 :: a16 :: r).set 16 none := rfl
    rw [e] at hi
    by_cases hk : i = 16
    · subst hk
      rw [List.getElem?_set_self (by simp only [List.length_cons]; omega)] at hi
      cases hi
    · rwa [List.getElem?_set_ne (Ne.symm hk)] at hi) kk
theorem og_istore_17 {a0 a1 a2 a3 a4 a5 a6 a7 a8 a9 a10 a11 a12 a13 a14 a15 a16 a17 : Option Value} {x : Int32} (hd : decode cc pc = .ok (.istore 17, 2)) (h1 : og_c1 a16 = true) (kk : og_G E own cc d mc ms nL X Q cells slots n h (pc + 2) (a0 :: a1 :: a2 :: a3 :: a4 :: a5 :: a6 :: a7 :: a8 :: a9 :: a10 :: a11 :: a12 :: a13 :: a14 :: a15 :: a16 :: some (.int x) :: r) st) : og_G E own cc d mc ms nL X Q cells slots n h pc (a0 :: a1 :: a2 :: a3 :: a4 :: a5 :: a6 :: a7 :: a8 :: a9 :: a10 :: a11 :: a12 :: a13 :: a14 :: a15 :: a16 :: a17 :: r) (.int x :: st) :=
  og_len fun hl => og_istore (i := 17) hd (by simp only [List.length_cons] at hl; omega) (og_n2a (j := 16) rfl h1) kk
theorem og_astore_17 {a0 a1 a2 a3 a4 a5 a6 a7 a8 a9 a10 a11 a12 a13 a14 a15 a16 a17 : Option Value} {x : Nat} (hd : decode cc pc = .ok (.astore 17, 2)) (h1 : og_c1 a16 = true) (kk : og_G E own cc d mc ms nL X Q cells slots n h (pc + 2) (a0 :: a1 :: a2 :: a3 :: a4 :: a5 :: a6 :: a7 :: a8 :: a9 :: a10 :: a11 :: a12 :: a13 :: a14 :: a15 :: a16 :: some (.ref x) :: r) st) : og_G E own cc d mc ms nL X Q cells slots n h pc (a0 :: a1 :: a2 :: a3 :: a4 :: a5 :: a6 :: a7 :: a8 :: a9 :: a10 :: a11 :: a12 :: a13 :: a14 :: a15 :: a16 :: a17 :: r) (.ref x :: st) :=
  og_len fun hl => og_astore (i := 17) hd (by simp only [List.length_cons] at hl; omega) (og_n2a (j := 16) rfl h1) kk
theorem og_lstore_17 {a0 a1 a2 a3 a4 a5 a6 a7 a8 a9 a10 a11 a12 a13 a14 a15 a16 a17 : Option Value} {x : Int64} (hd : decode cc pc = .ok (.lstore 17, 2)) (h1 : og_c1 a16 = true) (kk : og_G E own cc d mc ms nL X Q cells slots n h (pc + 2) (a0 :: a1 :: a2 :: a3 :: a4 :: a5 :: a6 :: a7 :: a8 :: a9 :: a10 :: a11 :: a12 :: a13 :: a14 :: a15 :: a16 :: some (.long x) :: none :: r) st) : og_G E own cc d mc ms nL X Q cells slots n h pc (a0 :: a1 :: a2 :: a3 :: a4 :: a5 :: a6 :: a7 :: a8 :: a9 :: a10 :: a11 :: a12 :: a13 :: a14 :: a15 :: a16 :: a17 :: none :: r) (.long x :: st) :=
  og_len fun hl => og_lstore (i := 17) hd (by simp only [List.length_cons] at hl; omega) (og_n2a (j := 16) rfl h1) rfl kk
theorem og_iinc_17 {a0 a1 a2 a3 a4 a5 a6 a7 a8 a9 a10 a11 a12 a13 a14 a15 a16 : Option Value} {v : Int} {x z : Int32} (hd : decode cc pc = .ok (.iinc 17 v, 3)) (hv : x + Int32.ofInt v = z) (h1 : og_c1 a16 = true) (kk : og_G E own cc d mc ms nL X Q cells slots n h (pc + 3) (a0 :: a1 :: a2 :: a3 :: a4 :: a5 :: a6 :: a7 :: a8 :: a9 :: a10 :: a11 :: a12 :: a13 :: a14 :: a15 :: a16 :: some (.int z) :: r) st) : og_G E own cc d mc ms nL X Q cells slots n h pc (a0 :: a1 :: a2 :: a3 :: a4 :: a5 :: a6 :: a7 :: a8 :: a9 :: a10 :: a11 :: a12 :: a13 :: a14 :: a15 :: a16 :: some (.int x) :: r) st :=
  og_len fun hl => og_iinc (i := 17) hd rfl hv (by simp only [List.length_cons] at hl; omega) (og_n2a (j := 16) rfl h1) kk
theorem og_forget_17 {a0 a1 a2 a3 a4 a5 a6 a7 a8 a9 a10 a11 a12 a13 a14 a15 a16 a17 : Option Value} (kk : og_G E own cc d mc ms nL X Q cells slots n h pc (a0 :: a1 :: a2 :: a3 :: a4 :: a5 :: a6 :: a7 :: a8 :: a9 :: a10 :: a11 :: a12 :: a13 :: a14 :: a15 :: a16 :: none :: r) st) : og_G E own cc d mc ms nL X Q cells slots n h pc (a0 :: a1 :: a2 :: a3 :: a4 :: a5 :: a6 :: a7 :: a8 :: a9 :: a10 :: a11 :: a12 :: a13 :: a14 :: a15 :: a16 :: a17 :: r) st :=
  og_forget (lv1 := (a0 :: a1 :: a2 :: a3 :: a4 :: a5 :: a6 :: a7 :: a8 :: a9 :: a10 :: a11 :: a12 :: a13 :: a14 :: a15 :: a16 :: none :: r)) (by simp only [List.length_cons]) (fun i v hi => by
    have e : (a0 :: a1 :: a2 :: a3 :: a4 :: a5 :: a6 :: a7 :: a8 :: a9 :: a10 :: a11 :: a12 :: a13 :: a14 :: a15 :: a16 :: none :: r) = (a0 :: a1 :: a2 :: a3 :: a4 :: a5 :: a6 :: a7 :: a8 :: a9 :: a10 :: a11 :: a12 :: a13 :: a14 :: a15 :: a16 :: a17 :: r).set 17 none := rfl
    rw [e] at hi
    by_cases hk : i = 17
    · subst hk
      rw [List.getElem?_set_self (by simp only [List.length_cons]; omega)] at hi
      cases hi
    · rwa [List.getElem?_set_ne (Ne.symm hk)] at hi) kk
theorem og_istore_18 {a0 a1 a2 a3 a4 a5 a6 a7 a8 a9 a10 a11 a12 a13 a14 a15 a16 a17 a18 : Option Value} {x : Int32} (hd : decode cc pc = .ok (.istore 18, 2)) (h1 : og_c1 a17 = true) (kk : og_G E own cc d mc ms nL X Q cells slots n h (pc + 2) (a0 :: a1 :: a2 :: a3 :: a4 :: a5 :: a6 :: a7 :: a8 :: a9 :: a10 :: a11 :: a12 :: a13 :: a14 :: a15 :: a16 :: a17 :: some (.int x) :: r) st) : og_G E own cc d mc ms nL X Q cells slots n h pc (a0 :: a1 :: a2 :: a3 :: a4 :: a5 :: a6 :: a7 :: a8 :: a9 :: a10 :: a11 :: a12 :: a13 :: a14 :: a15 :: a16 :: a17 :: a18 :: r) (.int x :: st) :=
  og_len fun hl => og_istore (i := 18) hd (by simp only [List.length_cons] at hl; omega) (og_n2a (j := 17) rfl h1) kk
theorem og_astore_18 {a0 a1 a2 a3 a4 a5 a6 a7 a8 a9 a10 a11 a12 a13 a14 a15 a16 a17 a18 : Option Value} {x : Nat} (hd : decode cc pc = .ok (.astore 18, 2)) (h1 : og_c1 a17 = true) (kk : og_G E own cc d mc ms nL X Q cells slots n h (pc + 2) (a0 :: a1 :: a2 :: a3 :: a4 :: a5 :: a6 :: a7 :: a8 :: a9 :: a10 :: a11 :: a12 :: a13 :: a14 :: a15 :: a16 :: a17 :: some (.ref x) :: r) st) : og_G E own cc d mc ms nL X Q cells slots n h pc (a0 :: a1 :: a2 :: a3 :: a4 :: a5 :: a6 :: a7 :: a8 :: a9 :: a10 :: a11 :: a12 :: a13 :: a14 :: a15 :: a16 :: a17 :: a18 :: r) (.ref x :: st) :=
  og_len fun hl => og_astore (i := 18) hd (by simp only [List.length_cons] at hl; omega) (og_n2a (j := 17) rfl h1) kk
theorem og_lstore_18 {a0 a1 a2 a3 a4 a5 a6 a7 a8 a9 a10 a11 a12 a13 a14 a15 a16 a17 a18 : Option Value} {x : Int64} (hd : decode cc pc = .ok (.lstore 18, 2)) (h1 : og_c1 a17 = true) (kk : og_G E own cc d mc ms nL X Q cells slots n h (pc + 2) (a0 :: a1 :: a2 :: a3 :: a4 :: a5 :: a6 :: a7 :: a8 :: a9 :: a10 :: a11 :: a12 :: a13 :: a14 :: a15 :: a16 :: a17 :: some (.long x) :: none :: r) st) : og_G E own cc d mc ms nL X Q cells slots n h pc (a0 :: a1 :: a2 :: a3 :: a4 :: a5 :: a6 :: a7 :: a8 :: a9 :: a10 :: a11 :: a12 :: a13 :: a14 :: a15 :: a16 :: a17 :: a18 :: none :: r) (.long x :: st) :=
  og_len fun hl => og_lstore (i := 18) hd (by simp only [List.length_cons] at hl; omega) (og_n2a (j := 17) rfl h1) rfl kk
theorem og_iinc_18 {a0 a1 a2 a3 a4 a5 a6 a7 a8 a9 a10 a11 a12 a13 a14 a15 a16 a17 : Option Value} {v : Int} {x z : Int32} (hd : decode cc pc = .ok (.iinc 18 v, 3)) (hv : x + Int32.ofInt v = z) (h1 : og_c1 a17 = true) (kk : og_G E own cc d mc ms nL X Q cells slots n h (pc + 3) (a0 :: a1 :: a2 :: a3 :: a4 :: a5 :: a6 :: a7 :: a8 :: a9 :: a10 :: a11 :: a12 :: a13 :: a14 :: a15 :: a16 :: a17 :: some (.int z) :: r) st) : og_G E own cc d mc ms nL X Q cells slots n h pc (a0 :: a1 :: a2 :: a3 :: a4 :: a5 :: a6 :: a7 :: a8 :: a9 :: a10 :: a11 :: a12 :: a13 :: a14 :: a15 :: a16 :: a17 :: some (.int x) :: r) st :=
  og_len fun hl => og_iinc (i := 18) hd rfl hv (by simp only [List.length_cons] at hl; omega) (og_n2a (j := 17) rfl h1) kk
theorem og_forget_18 {a0 a1 a2 a3 a4 a5 a6 a7 a8 a9 a10 a11 a12 a13 a14 a15 a16 a17 a18 : Option Value} (kk : og_G E own cc d mc ms nL X Q cells slots n h pc (a0 :: a1 :: a2 :: a3 :: a4 :: a5 :: a6 :: a7 :: a8 :: a9 :: a10 :: a11 :: a12 :: a13 :: a14 :: a15 :: a16 :: a17 :: none :: r) st) : og_G E own cc d mc ms nL X Q cells slots n h pc (a0 :: a1 :: a2 :: a3 :: a4 :: a5 :: a6 :: a7 :: a8 :: a9 :: a10 :: a11 :: a12 :: a13 :: a14 :: a15 :: a16 :: a17 :: a18 :: r) st :=
  og_forget (lv1 := (a0 :: a1 :: a2 :: a3 :: a4 :: a5 :: a6 :: a7 :: a8 :: a9 :: a10 :: a11 :: a12 :: a13 :: a14 :: a15 :: a16 :: a17 :: none :: r)) (by simp only [List.length_cons]) (fun i v hi => by
    have e : (a0 :: a1 :: a2 :: a3 :: a4 :: a5 :: a6 :: a7 :: a8 :: a9 :: a10 :: a11 :: a12 :: a13 :: a14 :: a15 :: a16 :: a17 :: none :: r) = (a0 :: a1 :: a2 :: a3 :: a4 :: a5 :: a6 :: a7 :: a8 :: a9 :: a10 :: a11 :: a12 :: a13 :: a14 :: a15 :: a16 :: a17 :: a18 :: r).set 18 none := rfl
    rw [e] at hi
    by_cases hk : i = 18
    · subst hk
      rw [List.getElem?_set_self (by simp only [List.length_cons]; omega)] at hi
      cases hi
    · rwa [List.getElem?_set_ne (Ne.symm hk)] at hi) kk
theorem og_istore_19 {a0 a1 a2 a3 a4 a5 a6 a7 a8 a9 a10 a11 a12 a13 a14 a15 a16 a17 a18 a19 : Option Value} {x : Int32} (hd : decode cc pc = .ok (.istore 19, 2)) (h1 : og_c1 a18 = true) (kk : og_G E own cc d mc ms nL X Q cells slots n h (pc + 2) (a0 :: a1 :: a2 :: a3 :: a4 :: a5 :: a6 :: a7 :: a8 :: a9 :: a10 :: a11 :: a12 :: a13 :: a14 :: a15 :: a16 :: a17 :: a18 :: some (.int x) :: r) st) : og_G E own cc d mc ms nL X Q cells slots n h pc (a0 :: a1 :: a2 :: a3 :: a4 :: a5 :: a6 :: a7 :: a8 :: a9 :: a10 :: a11 :: a12 :: a13 :: a14 :: a15 :: a16 :: a17 :: a18 :: a19 :: r) (.int x :: st) :=
  og_len fun hl => og_istore (i := 19) hd (by simp only [List.length_cons] at hl; omega) (og_n2a (j := 18) rfl h1) kk
theorem og_astore_19 {a0 a1 a2 a3 a4 a5 a6 a7 a8 a9 a10 a11 a12 a13 a14 a15 a16 a17 a18 a19 : Option Value} {x : Nat} (hd : decode cc pc = .ok (.astore 19, 2)) (h1 : og_c1 a18 = true) (kk : og_G E own cc d mc ms nL X Q cells slots n h (pc + 2) (a0 :: a1 :: a2 :: a3 :: a4 :: a5 :: a6 :: a7 :: a8 :: a9 :: a10 :: a11 :: a12 :: a13 :: a14 :: a15 :: a16 :: a17 :: a18 :: some (.ref x) :: r) st) : og_G E own cc d mc ms nL X Q cells slots n h pc (a0 :: a1 :: a2 :: a3 :: a4 :: a5 :: a6 :: a7 :: a8 :: a9 :: a10 :: a11 :: a12 :: a13 :: a14 :: a15 :: a16 :: a17 :: a18 :: a19 :: r) (.ref x :: st) :=
  og_len fun hl => og_astore (i := 19) hd (by simp only [List.length_cons] at hl; omega) (og_n2a (j := 18) rfl h1) kk
theorem og_lstore_19 {a0 a1 a2 a3 a4 a5 a6 a7 a8 a9 a10 a11 a12 a13 a14 a15 a16 a17 a18 a19 : Option Value} {x : Int64} (hd : decode cc pc = .ok (.lstore 19, 2)) (h1 : og_c1 a18 = true) (kk : og_G E own cc d mc ms nL X Q cells slots n h (pc + 2) (a0 :: a1 :: a2 :: a3 :: a4 :: a5 :: a6 :: a7 :: a8 :: a9 :: a10 :: a11 :: a12 :: a13 :: a14 :: a15 :: a16 :: a17 :: a18 :: some (.long x) :: none :: r) st) : og_G E own cc d mc ms nL X Q cells slots n h pc (a0 :: a1 :: a2 :: a3 :: a4 :: a5 :: a6 :: a7 :: a8 :: a9 :: a10 :: a11 :: a12 :: a13 :: a14 :: a15 :: a16 :: a17 :: a18 :: a19 :: none :: r) (.long x :: st) :=
  og_len fun hl => og_lstore (i := 19) hd (by simp only [List.length_cons] at hl; omega) (og_n2a (j := 18) rfl h1) rfl kk
theorem og_iinc_19 {a0 a1 a2 a3 a4 a5 a6 a7 a8 a9 a10 a11 a12 a13 a14 a15 a16 a17 a18 : Option Value} {v : Int} {x z : Int32} (hd : decode cc pc = .ok (.iinc 19 v, 3)) (hv : x + Int32.ofInt v = z) (h1 : og_c1 a18 = true) (kk : og_G E own cc d mc ms nL X Q cells slots n h (pc + 3) (a0 :: a1 :: a2 :: a3 :: a4 :: a5 :: a6 :: a7 :: a8 :: a9 :: a10 :: a11 :: a12 :: a13 :: a14 :: a15 :: a16 :: a17 :: a18 :: some (.int z) :: r) st) : og_G E own cc d mc ms nL X Q cells slots n h pc (a0 :: a1 :: a2 :: a3 :: a4 :: a5 :: a6 :: a7 :: a8 :: a9 :: a10 :: a11 :: a12 :: a13 :: a14 :: a15 :: a16 :: a17 :: a18 :: some (.int x) :: r) st :=
  og_len fun hl => og_iinc (i := 19) hd rfl hv (by simp only [List.length_cons] at hl; omega) (og_n2a (j := 18) rfl h1) kk
theorem og_forget_19 {a0 a1 a2 a3 a4 a5 a6 a7 a8 a9 a10 a11 a12 a13 a14 a15 a16 a17 a18 a19 : Option Value} (kk : og_G E own cc d mc ms nL X Q cells slots n h pc (a0 :: a1 :: a2 :: a3 :: a4 :: a5 :: a6 :: a7 :: a8 :: a9 :: a10 :: a11 :: a12 :: a13 :: a14 :: a15 :: a16 :: a17 :: a18 :: none :: r) st) : og_G E own cc d mc ms nL X Q cells slots n h pc (a0 :: a1 :: a2 :: a3 :: a4 :: a5 :: a6 :: a7 :: a8 :: a9 :: a10 :: a11 :: a12 :: a13 :: a14 :: a15 :: a16 :: a17 :: a18 :: a19 :: r) st :=
  og_forget (lv1 := (a0 :: a1 :: a2 :: a3 :: a4 :: a5 :: a6 :: a7 :: a8 :: a9 :: a10 :: a11 :: a12 :: a13 :: a14 :: a15 :: a16 :: a17 :: a18 :: none :: r)) (by simp only [List.length_cons]) (fun i v hi => by
    have e : (a0 :: a1 :: a2 :: a3 :: a4 :: a5 :: a6 :: a7 :: a8 :: a9 :: a10 :: a11 :: a12 :: a13 :: a14 :: a15 :: a16 :: a17 :: a18 :: none :: r) = (a0 :: a1 :: a2 :: a3 :: a4 :: a5 :: a6 :: a7 :: a8 :: a9 :: a10 :: a11 :: a12 :: a13 :: a14 :: a15 :: a16 :: a17 :: a18 :: a19 :: r).set 19 none := rfl
    rw [e] at hi
    by_cases hk : i = 19
    · subst hk
      rw [List.getElem?_set_self (by simp only [List.length_cons]; omega)] at hi
      cases hi
    · rwa [List.getElem?_set_ne (Ne.symm hk)] at hi) kk
end OS
theorem og_ix {n N : Nat} (h : n < N) (hN : N < 2147483648 := by decide) : vp_in (nI n) N := vp_in_nI h hN
