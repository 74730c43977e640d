/-! ===== the judgement: from this frame, over this abstract world, the machine comes to Q ===== -/
abbrev og_X : Type := Program × Launch × Env × Room × State × MethodId × Array Value × List Frame × Method × Code
def og_C (E : og_E) (own : String) (cc : ByteArray) (d mc ms nL : Nat) (X : og_X) : Prop := match X with
  | (p, l, _, R, s, m, args, _, meth, c) => p.tables.exec = Jvm.exec ∧ c.code = cc ∧ c.maxLocals = nL ∧ s.vm.findClass own = some m.cls ∧ (∀ w ∈ BW, w.before args s = true) ∧ meth.locks = false ∧ og_St E s s.heap ∧ l.stackTraces = false ∧ (d + 12 ≤ R.frames ∧ 40 * d + 200 ≤ R.locals ∧ mc ≤ R.cells ∧ ms ≤ R.slots)
def og_ret (X : og_X) : Option FieldType := X.2.2.2.2.2.2.2.2.1.sig.returnType
def og_nm (X : og_X) : String := X.2.2.2.2.2.2.2.2.1.name
def og_tb (X : og_X) : List ExceptionTableEntry := X.2.2.2.2.2.2.2.2.2.exceptionTable.toList
def og_G (E : og_E) (own : String) (cc : ByteArray) (d mc ms nL : Nat) (X : og_X) (Q : State → Prop) (cells slots n : Nat) (h : og_H) (pc : Nat) (lv : List (Option Value)) (st : List Value) : Prop := match X with
  | (p, l, e, R, s, m, args, below, meth, c) => og_C E own cc d mc ms nL (p, l, e, R, s, m, args, below, meth, c) → ∀ (H : Heap) (locs : List Loc) (ls : Array Slot), og_Wd E s n h H → va_S (og_A E) s.heap H locs → og_L E ls nL lv →
    W p l e R s m args below meth c H locs cells slots Q (F0 m pc ls (st.map (og_rv E)))
section OG
variable {E : og_E} {own : String} {cc : ByteArray} {d mc ms nL : Nat} {X : og_X} {Q : State → Prop} {cells slots n : Nat} {h : og_H} {pc : Nat} {lv : List (Option Value)} {st : List Value}
theorem og_iconst {a : Int} {v : Int32} (hd : decode cc pc = .ok (.iconst a, 1)) (hv : Int32.ofInt a = v) (k : og_G E own cc d mc ms nL X Q cells slots n h (pc + 1) lv (.int v :: st)) : og_G E own cc d mc ms nL X Q cells slots n h pc lv st := by
  obtain ⟨p, l, e, R, s, m, args, below, meth, c⟩ := X
  intro C H locs ls hW hS hL
  exact lv_iconst C.1 C.2.1 hd hv (k C H locs ls hW hS hL)
theorem og_bipush {a : Int} {v : Int32} (hd : decode cc pc = .ok (.bipush a, 2)) (hv : (Int8.ofInt a).toInt32 = v) (k : og_G E own cc d mc ms nL X Q cells slots n h (pc + 2) lv (.int v :: st)) : og_G E own cc d mc ms nL X Q cells slots n h pc lv st := by
  obtain ⟨p, l, e, R, s, m, args, below, meth, c⟩ := X
  intro C H locs ls hW hS hL
  exact lv_bipush C.1 C.2.1 hd hv (k C H locs ls hW hS hL)
theorem og_sipush {a : Int} {v : Int32} (hd : decode cc pc = .ok (.sipush a, 3)) (hv : (Int16.ofInt a).toInt32 = v) (k : og_G E own cc d mc ms nL X Q cells slots n h (pc + 3) lv (.int v :: st)) : og_G E own cc d mc ms nL X Q cells slots n h pc lv st := by
  obtain ⟨p, l, e, R, s, m, args, below, meth, c⟩ := X
  intro C H locs ls hW hS hL
  exact lv_sipush C.1 C.2.1 hd hv (k C H locs ls hW hS hL)
theorem og_lconst {a : Fin 2} {v : Int64} (hd : decode cc pc = .ok (.lconst a, 1)) (hv : Int64.ofNat (a : Nat) = v) (k : og_G E own cc d mc ms nL X Q cells slots n h (pc + 1) lv (.long v :: st)) : og_G E own cc d mc ms nL X Q cells slots n h pc lv st := by
  obtain ⟨p, l, e, R, s, m, args, below, meth, c⟩ := X
  intro C H locs ls hW hS hL
  exact lv_lconst C.1 C.2.1 hd hv (k C H locs ls hW hS hL)
theorem og_null  (hd : decode cc pc = .ok (.aconst_null, 1)) (k : og_G E own cc d mc ms nL X Q cells slots n h (pc + 1) lv (.null :: st)) : og_G E own cc d mc ms nL X Q cells slots n h pc lv st := by
  obtain ⟨p, l, e, R, s, m, args, below, meth, c⟩ := X
  intro C H locs ls hW hS hL
  exact lv_null C.1 C.2.1 hd (k C H locs ls hW hS hL)
theorem og_ldc2 {index : Nat} {v : Int64} (hw : Cond.constantLong own index v ∈ BW) (hd : decode cc pc = .ok (.ldc2_w index, 3)) (k : og_G E own cc d mc ms nL X Q cells slots n h (pc + 3) lv (.long v :: st)) : og_G E own cc d mc ms nL X Q cells slots n h pc lv st := by
  obtain ⟨p, l, e, R, s, m, args, below, meth, c⟩ := X
  intro C H locs ls hW hS hL
  exact lv_ldc2 C.1 C.2.1 C.2.2.2.1 (C.2.2.2.2.1 _ hw) hd (k C H locs ls hW hS hL)
theorem og_ldc {index : Nat} {v : Int32} (hw : Cond.constant own index v ∈ BW) (hd : decode cc pc = .ok (.ldc index, 2)) (k : og_G E own cc d mc ms nL X Q cells slots n h (pc + 2) lv (.int v :: st)) : og_G E own cc d mc ms nL X Q cells slots n h pc lv st := by
  obtain ⟨p, l, e, R, s, m, args, below, meth, c⟩ := X
  intro C H locs ls hW hS hL
  exact lv_ldc C.1 C.2.1 C.2.2.2.1 (C.2.2.2.2.1 _ hw) hd (k C H locs ls hW hS hL)
theorem og_iload {i : Nat} {x : Int32} (hd : decode cc pc = .ok (.iload i, 2)) (hl : lv[i]? = some (some (.int x))) (k : og_G E own cc d mc ms nL X Q cells slots n h (pc + 2) lv (.int x :: st)) : og_G E own cc d mc ms nL X Q cells slots n h pc lv st := by
  obtain ⟨p, l, e, R, s, m, args, below, meth, c⟩ := X
  intro C H locs ls hW hS hL
  exact lv_iload C.1 C.2.1 hd (hL.at hl) (k C H locs ls hW hS hL)
theorem og_iload_n {i : Fin 4} {x : Int32} (hd : decode cc pc = .ok (.iload_n i, 1)) (hl : lv[(i : Nat)]? = some (some (.int x))) (k : og_G E own cc d mc ms nL X Q cells slots n h (pc + 1) lv (.int x :: st)) : og_G E own cc d mc ms nL X Q cells slots n h pc lv st := by
  obtain ⟨p, l, e, R, s, m, args, below, meth, c⟩ := X
  intro C H locs ls hW hS hL
  exact lv_iload_n C.1 C.2.1 hd rfl (hL.at hl) (k C H locs ls hW hS hL)
theorem og_lload {i : Nat} {x : Int64} (hd : decode cc pc = .ok (.lload i, 2)) (hl : lv[i]? = some (some (.long x))) (k : og_G E own cc d mc ms nL X Q cells slots n h (pc + 2) lv (.long x :: st)) : og_G E own cc d mc ms nL X Q cells slots n h pc lv st := by
  obtain ⟨p, l, e, R, s, m, args, below, meth, c⟩ := X
  intro C H locs ls hW hS hL
  exact lv_lload C.1 C.2.1 hd (hL.at hl) (k C H locs ls hW hS hL)
theorem og_lload_n {i : Fin 4} {x : Int64} (hd : decode cc pc = .ok (.lload_n i, 1)) (hl : lv[(i : Nat)]? = some (some (.long x))) (k : og_G E own cc d mc ms nL X Q cells slots n h (pc + 1) lv (.long x :: st)) : og_G E own cc d mc ms nL X Q cells slots n h pc lv st := by
  obtain ⟨p, l, e, R, s, m, args, below, meth, c⟩ := X
  intro C H locs ls hW hS hL
  exact lv_lload_n C.1 C.2.1 hd rfl (hL.at hl) (k C H locs ls hW hS hL)
theorem og_aload {i : Nat} {x : Nat} (hd : decode cc pc = .ok (.aload i, 2)) (hl : lv[i]? = some (some (.ref x))) (k : og_G E own cc d mc ms nL X Q cells slots n h (pc + 2) lv (.ref x :: st)) : og_G E own cc d mc ms nL X Q cells slots n h pc lv st := by
  obtain ⟨p, l, e, R, s, m, args, below, meth, c⟩ := X
  intro C H locs ls hW hS hL
  exact lv_aload C.1 C.2.1 hd (hL.at hl) (k C H locs ls hW hS hL)
theorem og_aload_n {i : Fin 4} {x : Nat} (hd : decode cc pc = .ok (.aload_n i, 1)) (hl : lv[(i : Nat)]? = some (some (.ref x))) (k : og_G E own cc d mc ms nL X Q cells slots n h (pc + 1) lv (.ref x :: st)) : og_G E own cc d mc ms nL X Q cells slots n h pc lv st := by
  obtain ⟨p, l, e, R, s, m, args, below, meth, c⟩ := X
  intro C H locs ls hW hS hL
  exact lv_aload_n C.1 C.2.1 hd rfl (hL.at hl) (k C H locs ls hW hS hL)
theorem og_aloadN {i : Nat} (hd : decode cc pc = .ok (.aload i, 2)) (hl : lv[i]? = some (some .null)) (k : og_G E own cc d mc ms nL X Q cells slots n h (pc + 2) lv (.null :: st)) : og_G E own cc d mc ms nL X Q cells slots n h pc lv st := by
  obtain ⟨p, l, e, R, s, m, args, below, meth, c⟩ := X
  intro C H locs ls hW hS hL
  exact lv_aloadN C.1 C.2.1 hd (hL.at hl) (k C H locs ls hW hS hL)
theorem og_istore {i : Nat} {x : Int32} (hd : decode cc pc = .ok (.istore i, 2)) (hi : i < nL) (hn2 : og_n2 lv i) (k : og_G E own cc d mc ms nL X Q cells slots n h (pc + 2) (lv.set i (some (.int x))) st) : og_G E own cc d mc ms nL X Q cells slots n h pc lv (.int x :: st) := by
  obtain ⟨p, l, e, R, s, m, args, below, meth, c⟩ := X
  intro C H locs ls hW hS hL
  exact lv_istore C.1 C.2.1 hd hL.has hi rfl (fun ls2 hl2 => k C H locs ls2 hW hS (hL.store1 hn2 (v := .int x) hl2))
theorem og_istore_n {i : Fin 4} {x : Int32} (hd : decode cc pc = .ok (.istore_n i, 1)) (hi : (i : Nat) < nL) (hn2 : og_n2 lv (i : Nat)) (k : og_G E own cc d mc ms nL X Q cells slots n h (pc + 1) (lv.set (i : Nat) (some (.int x))) st) : og_G E own cc d mc ms nL X Q cells slots n h pc lv (.int x :: st) := by
  obtain ⟨p, l, e, R, s, m, args, below, meth, c⟩ := X
  intro C H locs ls hW hS hL
  exact lv_istore_n C.1 C.2.1 hd rfl hL.has hi rfl (fun ls2 hl2 => k C H locs ls2 hW hS (hL.store1 hn2 (v := .int x) hl2))
theorem og_lstore {i : Nat} {x : Int64} (hd : decode cc pc = .ok (.lstore i, 2)) (hi : i + 1 < nL) (hn2 : og_n2 lv i) (hn1 : lv[i + 1]? = some none) (k : og_G E own cc d mc ms nL X Q cells slots n h (pc + 2) (lv.set i (some (.long x))) st) : og_G E own cc d mc ms nL X Q cells slots n h pc lv (.long x :: st) := by
  obtain ⟨p, l, e, R, s, m, args, below, meth, c⟩ := X
  intro C H locs ls hW hS hL
  exact lv_lstore C.1 C.2.1 hd hL.has hi rfl (fun ls2 hl2 => k C H locs ls2 hW hS (hL.store2 hn2 hn1 (v := .long x) hl2))
theorem og_lstore_n {i : Fin 4} {x : Int64} (hd : decode cc pc = .ok (.lstore_n i, 1)) (hi : (i : Nat) + 1 < nL) (hn2 : og_n2 lv (i : Nat)) (hn1 : lv[(i : Nat) + 1]? = some none) (k : og_G E own cc d mc ms nL X Q cells slots n h (pc + 1) (lv.set (i : Nat) (some (.long x))) st) : og_G E own cc d mc ms nL X Q cells slots n h pc lv (.long x :: st) := by
  obtain ⟨p, l, e, R, s, m, args, below, meth, c⟩ := X
  intro C H locs ls hW hS hL
  exact lv_lstore_n C.1 C.2.1 hd rfl hL.has hi rfl (fun ls2 hl2 => k C H locs ls2 hW hS (hL.store2 hn2 hn1 (v := .long x) hl2))
theorem og_astore {i : Nat} {x : Nat} (hd : decode cc pc = .ok (.astore i, 2)) (hi : i < nL) (hn2 : og_n2 lv i) (k : og_G E own cc d mc ms nL X Q cells slots n h (pc + 2) (lv.set i (some (.ref x))) st) : og_G E own cc d mc ms nL X Q cells slots n h pc lv (.ref x :: st) := by
  obtain ⟨p, l, e, R, s, m, args, below, meth, c⟩ := X
  intro C H locs ls hW hS hL
  exact lv_astore C.1 C.2.1 hd hL.has hi rfl (fun ls2 hl2 => k C H locs ls2 hW hS (hL.store1 hn2 (v := .ref x) hl2))
theorem og_astore_n {i : Fin 4} {x : Nat} (hd : decode cc pc = .ok (.astore_n i, 1)) (hi : (i : Nat) < nL) (hn2 : og_n2 lv (i : Nat)) (k : og_G E own cc d mc ms nL X Q cells slots n h (pc + 1) (lv.set (i : Nat) (some (.ref x))) st) : og_G E own cc d mc ms nL X Q cells slots n h pc lv (.ref x :: st) := by
  obtain ⟨p, l, e, R, s, m, args, below, meth, c⟩ := X
  intro C H locs ls hW hS hL
  exact lv_astore_n C.1 C.2.1 hd rfl hL.has hi rfl (fun ls2 hl2 => k C H locs ls2 hW hS (hL.store1 hn2 (v := .ref x) hl2))
theorem og_iinc {i : Nat} {a : Int} {x y : Int32} (hd : decode cc pc = .ok (.iinc i a, 3)) (hl : lv[i]? = some (some (.int x))) (hv : x + Int32.ofInt a = y) (hi : i < nL) (hn2 : og_n2 lv i) (k : og_G E own cc d mc ms nL X Q cells slots n h (pc + 3) (lv.set i (some (.int y))) st) : og_G E own cc d mc ms nL X Q cells slots n h pc lv st := by
  obtain ⟨p, l, e, R, s, m, args, below, meth, c⟩ := X
  intro C H locs ls hW hS hL
  have hm := og_list_mem E lv 0 i _ hl
  rw [Nat.zero_add] at hm
  obtain ⟨j, hj⟩ := List.getElem?_of_mem hm
  exact lv_iinc C.1 C.2.1 hd hL.has hj hv hi rfl (fun ls2 hl2 => k C H locs ls2 hW hS (hL.store1 (v := .int y) hn2 hl2))
theorem og_forget {lv1 : List (Option Value)} (hl : lv1.length = lv.length) (hs : ∀ (i : Nat) (v : Value), lv1[i]? = some (some v) → lv[i]? = some (some v)) (k : og_G E own cc d mc ms nL X Q cells slots n h pc lv1 st) : og_G E own cc d mc ms nL X Q cells slots n h pc lv st := by
  obtain ⟨p, l, e, R, s, m, args, below, meth, c⟩ := X
  intro C H locs ls hW hS hL
  exact k C H locs ls hW hS (hL.forget hl hs)
theorem og_widen {k2 n2 : Nat} (h1 : cells ≤ k2) (h2 : slots ≤ n2) (k : og_G E own cc d mc ms nL X Q k2 n2 n h pc lv st) : og_G E own cc d mc ms nL X Q cells slots n h pc lv st := by
  obtain ⟨p, l, e, R, s, m, args, below, meth, c⟩ := X
  intro C H locs ls hW hS hL
  exact W.widen h1 h2 (k C H locs ls hW hS hL)
theorem og_iadd {x y : Int32} (hd : decode cc pc = .ok (.iadd, 1)) (k : og_G E own cc d mc ms nL X Q cells slots n h (pc + 1) lv (.int (x + y) :: st)) : og_G E own cc d mc ms nL X Q cells slots n h pc lv (.int y :: .int x :: st) := by
  obtain ⟨p, l, e, R, s, m, args, below, meth, c⟩ := X
  intro C H locs ls hW hS hL
  exact lv_iadd C.1 C.2.1 hd (k C H locs ls hW hS hL)
theorem og_isub {x y : Int32} (hd : decode cc pc = .ok (.isub, 1)) (k : og_G E own cc d mc ms nL X Q cells slots n h (pc + 1) lv (.int (x - y) :: st)) : og_G E own cc d mc ms nL X Q cells slots n h pc lv (.int y :: .int x :: st) := by
  obtain ⟨p, l, e, R, s, m, args, below, meth, c⟩ := X
  intro C H locs ls hW hS hL
  exact lv_isub C.1 C.2.1 hd (k C H locs ls hW hS hL)
theorem og_imul {x y : Int32} (hd : decode cc pc = .ok (.imul, 1)) (k : og_G E own cc d mc ms nL X Q cells slots n h (pc + 1) lv (.int (x * y) :: st)) : og_G E own cc d mc ms nL X Q cells slots n h pc lv (.int y :: .int x :: st) := by
  obtain ⟨p, l, e, R, s, m, args, below, meth, c⟩ := X
  intro C H locs ls hW hS hL
  exact lv_imul C.1 C.2.1 hd (k C H locs ls hW hS hL)
theorem og_iand {x y : Int32} (hd : decode cc pc = .ok (.iand, 1)) (k : og_G E own cc d mc ms nL X Q cells slots n h (pc + 1) lv (.int (x &&& y) :: st)) : og_G E own cc d mc ms nL X Q cells slots n h pc lv (.int y :: .int x :: st) := by
  obtain ⟨p, l, e, R, s, m, args, below, meth, c⟩ := X
  intro C H locs ls hW hS hL
  exact lv_iand C.1 C.2.1 hd (k C H locs ls hW hS hL)
theorem og_ior {x y : Int32} (hd : decode cc pc = .ok (.ior, 1)) (k : og_G E own cc d mc ms nL X Q cells slots n h (pc + 1) lv (.int (x ||| y) :: st)) : og_G E own cc d mc ms nL X Q cells slots n h pc lv (.int y :: .int x :: st) := by
  obtain ⟨p, l, e, R, s, m, args, below, meth, c⟩ := X
  intro C H locs ls hW hS hL
  exact lv_ior C.1 C.2.1 hd (k C H locs ls hW hS hL)
theorem og_ixor {x y : Int32} (hd : decode cc pc = .ok (.ixor, 1)) (k : og_G E own cc d mc ms nL X Q cells slots n h (pc + 1) lv (.int (x ^^^ y) :: st)) : og_G E own cc d mc ms nL X Q cells slots n h pc lv (.int y :: .int x :: st) := by
  obtain ⟨p, l, e, R, s, m, args, below, meth, c⟩ := X
  intro C H locs ls hW hS hL
  exact lv_ixor C.1 C.2.1 hd (k C H locs ls hW hS hL)
theorem og_ishl {x y : Int32} (hd : decode cc pc = .ok (.ishl, 1)) (k : og_G E own cc d mc ms nL X Q cells slots n h (pc + 1) lv (.int (x <<< (y &&& 31)) :: st)) : og_G E own cc d mc ms nL X Q cells slots n h pc lv (.int y :: .int x :: st) := by
  obtain ⟨p, l, e, R, s, m, args, below, meth, c⟩ := X
  intro C H locs ls hW hS hL
  exact lv_ishl C.1 C.2.1 hd (k C H locs ls hW hS hL)
theorem og_ishr {x y : Int32} (hd : decode cc pc = .ok (.ishr, 1)) (k : og_G E own cc d mc ms nL X Q cells slots n h (pc + 1) lv (.int (x >>> (y &&& 31)) :: st)) : og_G E own cc d mc ms nL X Q cells slots n h pc lv (.int y :: .int x :: st) := by
  obtain ⟨p, l, e, R, s, m, args, below, meth, c⟩ := X
  intro C H locs ls hW hS hL
  exact lv_ishr C.1 C.2.1 hd (k C H locs ls hW hS hL)
theorem og_idiv {x y : Int32} (hd : decode cc pc = .ok (.idiv, 1)) (hne : ¬ y = 0) (k : og_G E own cc d mc ms nL X Q cells slots n h (pc + 1) lv (.int (x / y) :: st)) : og_G E own cc d mc ms nL X Q cells slots n h pc lv (.int y :: .int x :: st) := by
  obtain ⟨p, l, e, R, s, m, args, below, meth, c⟩ := X
  intro C H locs ls hW hS hL
  exact lv_idiv C.1 C.2.1 hd hne (k C H locs ls hW hS hL)
theorem og_irem {x y : Int32} (hd : decode cc pc = .ok (.irem, 1)) (hne : ¬ y = 0) (k : og_G E own cc d mc ms nL X Q cells slots n h (pc + 1) lv (.int (x - x / y * y) :: st)) : og_G E own cc d mc ms nL X Q cells slots n h pc lv (.int y :: .int x :: st) := by
  obtain ⟨p, l, e, R, s, m, args, below, meth, c⟩ := X
  intro C H locs ls hW hS hL
  exact lv_irem C.1 C.2.1 hd hne (k C H locs ls hW hS hL)
theorem og_ineg {x : Int32} (hd : decode cc pc = .ok (.ineg, 1)) (k : og_G E own cc d mc ms nL X Q cells slots n h (pc + 1) lv (.int (-x) :: st)) : og_G E own cc d mc ms nL X Q cells slots n h pc lv (.int x :: st) := by
  obtain ⟨p, l, e, R, s, m, args, below, meth, c⟩ := X
  intro C H locs ls hW hS hL
  exact lv_ineg C.1 C.2.1 hd (k C H locs ls hW hS hL)
theorem og_ladd {x y : Int64} (hd : decode cc pc = .ok (.ladd, 1)) (k : og_G E own cc d mc ms nL X Q cells slots n h (pc + 1) lv (.long (x + y) :: st)) : og_G E own cc d mc ms nL X Q cells slots n h pc lv (.long y :: .long x :: st) := by
  obtain ⟨p, l, e, R, s, m, args, below, meth, c⟩ := X
  intro C H locs ls hW hS hL
  exact lv_ladd C.1 C.2.1 hd (k C H locs ls hW hS hL)
theorem og_lsub {x y : Int64} (hd : decode cc pc = .ok (.lsub, 1)) (k : og_G E own cc d mc ms nL X Q cells slots n h (pc + 1) lv (.long (x - y) :: st)) : og_G E own cc d mc ms nL X Q cells slots n h pc lv (.long y :: .long x :: st) := by
  obtain ⟨p, l, e, R, s, m, args, below, meth, c⟩ := X
  intro C H locs ls hW hS hL
  exact lv_lsub C.1 C.2.1 hd (k C H locs ls hW hS hL)
theorem og_lmul {x y : Int64} (hd : decode cc pc = .ok (.lmul, 1)) (k : og_G E own cc d mc ms nL X Q cells slots n h (pc + 1) lv (.long (x * y) :: st)) : og_G E own cc d mc ms nL X Q cells slots n h pc lv (.long y :: .long x :: st) := by
  obtain ⟨p, l, e, R, s, m, args, below, meth, c⟩ := X
  intro C H locs ls hW hS hL
  exact lv_lmul C.1 C.2.1 hd (k C H locs ls hW hS hL)
theorem og_land {x y : Int64} (hd : decode cc pc = .ok (.land, 1)) (k : og_G E own cc d mc ms nL X Q cells slots n h (pc + 1) lv (.long (x &&& y) :: st)) : og_G E own cc d mc ms nL X Q cells slots n h pc lv (.long y :: .long x :: st) := by
  obtain ⟨p, l, e, R, s, m, args, below, meth, c⟩ := X
  intro C H locs ls hW hS hL
  exact lv_land C.1 C.2.1 hd (k C H locs ls hW hS hL)
theorem og_ldiv {x y : Int64} (hd : decode cc pc = .ok (.ldiv, 1)) (hne : ¬ y = 0) (k : og_G E own cc d mc ms nL X Q cells slots n h (pc + 1) lv (.long (x / y) :: st)) : og_G E own cc d mc ms nL X Q cells slots n h pc lv (.long y :: .long x :: st) := by
  obtain ⟨p, l, e, R, s, m, args, below, meth, c⟩ := X
  intro C H locs ls hW hS hL
  exact lv_ldiv C.1 C.2.1 hd hne (k C H locs ls hW hS hL)
theorem og_lrem {x y : Int64} (hd : decode cc pc = .ok (.lrem, 1)) (hne : ¬ y = 0) (k : og_G E own cc d mc ms nL X Q cells slots n h (pc + 1) lv (.long (x - x / y * y) :: st)) : og_G E own cc d mc ms nL X Q cells slots n h pc lv (.long y :: .long x :: st) := by
  obtain ⟨p, l, e, R, s, m, args, below, meth, c⟩ := X
  intro C H locs ls hW hS hL
  exact lv_lrem C.1 C.2.1 hd hne (k C H locs ls hW hS hL)
theorem og_lneg {x : Int64} (hd : decode cc pc = .ok (.lneg, 1)) (k : og_G E own cc d mc ms nL X Q cells slots n h (pc + 1) lv (.long (-x) :: st)) : og_G E own cc d mc ms nL X Q cells slots n h pc lv (.long x :: st) := by
  obtain ⟨p, l, e, R, s, m, args, below, meth, c⟩ := X
  intro C H locs ls hW hS hL
  exact lv_lneg C.1 C.2.1 hd (k C H locs ls hW hS hL)
theorem og_lshl {x v : Int64} {y : Int32} (hd : decode cc pc = .ok (.lshl, 1)) (hv : x <<< (y.toInt64 &&& 63) = v) (k : og_G E own cc d mc ms nL X Q cells slots n h (pc + 1) lv (.long v :: st)) : og_G E own cc d mc ms nL X Q cells slots n h pc lv (.int y :: .long x :: st) := by
  obtain ⟨p, l, e, R, s, m, args, below, meth, c⟩ := X
  intro C H locs ls hW hS hL
  exact lv_lshl C.1 C.2.1 hd hv (k C H locs ls hW hS hL)
theorem og_lshr {x v : Int64} {y : Int32} (hd : decode cc pc = .ok (.lshr, 1)) (hv : x >>> (y.toInt64 &&& 63) = v) (k : og_G E own cc d mc ms nL X Q cells slots n h (pc + 1) lv (.long v :: st)) : og_G E own cc d mc ms nL X Q cells slots n h pc lv (.int y :: .long x :: st) := by
  obtain ⟨p, l, e, R, s, m, args, below, meth, c⟩ := X
  intro C H locs ls hW hS hL
  exact lv_lshr C.1 C.2.1 hd hv (k C H locs ls hW hS hL)
theorem og_i2l {x : Int32} {v : Int64} (hd : decode cc pc = .ok (.i2l, 1)) (hv : x.toInt64 = v) (k : og_G E own cc d mc ms nL X Q cells slots n h (pc + 1) lv (.long v :: st)) : og_G E own cc d mc ms nL X Q cells slots n h pc lv (.int x :: st) := by
  obtain ⟨p, l, e, R, s, m, args, below, meth, c⟩ := X
  intro C H locs ls hW hS hL
  exact lv_i2l C.1 C.2.1 hd hv (k C H locs ls hW hS hL)
theorem og_l2i {x : Int64} {v : Int32} (hd : decode cc pc = .ok (.l2i, 1)) (hv : x.toInt32 = v) (k : og_G E own cc d mc ms nL X Q cells slots n h (pc + 1) lv (.int v :: st)) : og_G E own cc d mc ms nL X Q cells slots n h pc lv (.long x :: st) := by
  obtain ⟨p, l, e, R, s, m, args, below, meth, c⟩ := X
  intro C H locs ls hW hS hL
  exact lv_l2i C.1 C.2.1 hd hv (k C H locs ls hW hS hL)
theorem og_i2b {x v : Int32} (hd : decode cc pc = .ok (.i2b, 1)) (hv : x.toInt8.toInt32 = v) (k : og_G E own cc d mc ms nL X Q cells slots n h (pc + 1) lv (.int v :: st)) : og_G E own cc d mc ms nL X Q cells slots n h pc lv (.int x :: st) := by
  obtain ⟨p, l, e, R, s, m, args, below, meth, c⟩ := X
  intro C H locs ls hW hS hL
  exact lv_i2b C.1 C.2.1 hd hv (k C H locs ls hW hS hL)
theorem og_lcmp {x y : Int64} (hd : decode cc pc = .ok (.lcmp, 1)) (k : og_G E own cc d mc ms nL X Q cells slots n h (pc + 1) lv (.int (lg_cmp x y) :: st)) : og_G E own cc d mc ms nL X Q cells slots n h pc lv (.long y :: .long x :: st) := by
  obtain ⟨p, l, e, R, s, m, args, below, meth, c⟩ := X
  intro C H locs ls hW hS hL
  exact W.lcmp C.1 C.2.1 hd (k C H locs ls hW hS hL)
theorem og_dup {v : Value} (hd : decode cc pc = .ok (.dup, 1)) (hv : v.category = 1) (k : og_G E own cc d mc ms nL X Q cells slots n h (pc + 1) lv (v :: v :: st)) : og_G E own cc d mc ms nL X Q cells slots n h pc lv (v :: st) := by
  obtain ⟨p, l, e, R, s, m, args, below, meth, c⟩ := X
  intro C H locs ls hW hS hL
  exact lv_dup C.1 C.2.1 hd ((og_rv_cat E v).trans hv) (k C H locs ls hW hS hL)
theorem og_dup2 {v w : Value} (hd : decode cc pc = .ok (.dup2, 1)) (hv : v.category = 1) (hw : w.category = 1) (k : og_G E own cc d mc ms nL X Q cells slots n h (pc + 1) lv (v :: w :: v :: w :: st)) : og_G E own cc d mc ms nL X Q cells slots n h pc lv (v :: w :: st) := by
  obtain ⟨p, l, e, R, s, m, args, below, meth, c⟩ := X
  intro C H locs ls hW hS hL
  exact lv_dup2_11 C.1 C.2.1 hd ((og_rv_cat E v).trans hv) ((og_rv_cat E w).trans hw) (k C H locs ls hW hS hL)
theorem og_dup2L {v : Value} (hd : decode cc pc = .ok (.dup2, 1)) (hv : v.category = 2) (k : og_G E own cc d mc ms nL X Q cells slots n h (pc + 1) lv (v :: v :: st)) : og_G E own cc d mc ms nL X Q cells slots n h pc lv (v :: st) := by
  obtain ⟨p, l, e, R, s, m, args, below, meth, c⟩ := X
  intro C H locs ls hW hS hL
  exact lv_dup2_2 C.1 C.2.1 hd ((og_rv_cat E v).trans hv) (k C H locs ls hW hS hL)
-- BRANCHES
theorem og_if_eq {x : Int32} {off : Int} {tgt : Nat} (hd : decode cc pc = .ok (.ifCond .eq off, 3)) (ht : (pc : Int) + off = (tgt : Int)) (kt : x = 0 → og_G E own cc d mc ms nL X Q cells slots n h tgt lv st) (kf : ¬ x = 0 → og_G E own cc d mc ms nL X Q cells slots n h (pc + 3) lv st) : og_G E own cc d mc ms nL X Q cells slots n h pc lv (.int x :: st) := by
  obtain ⟨p, l, e, R, s, m, args, below, meth, c⟩ := X
  intro C H locs ls hW hS hL
  exact lv_if_eq C.1 C.2.1 hd ht (fun z => kt z C H locs ls hW hS hL) (fun z => kf z C H locs ls hW hS hL)
theorem og_icmp_eq {x y : Int32} {off : Int} {tgt : Nat} (hd : decode cc pc = .ok (.if_icmp .eq off, 3)) (ht : (pc : Int) + off = (tgt : Int)) (kt : x = y → og_G E own cc d mc ms nL X Q cells slots n h tgt lv st) (kf : ¬ x = y → og_G E own cc d mc ms nL X Q cells slots n h (pc + 3) lv st) : og_G E own cc d mc ms nL X Q cells slots n h pc lv (.int y :: .int x :: st) := by
  obtain ⟨p, l, e, R, s, m, args, below, meth, c⟩ := X
  intro C H locs ls hW hS hL
  exact lv_icmp_eq C.1 C.2.1 hd ht (fun z => kt z C H locs ls hW hS hL) (fun z => kf z C H locs ls hW hS hL)
theorem og_if_ne {x : Int32} {off : Int} {tgt : Nat} (hd : decode cc pc = .ok (.ifCond .ne off, 3)) (ht : (pc : Int) + off = (tgt : Int)) (kt : ¬ x = 0 → og_G E own cc d mc ms nL X Q cells slots n h tgt lv st) (kf : x = 0 → og_G E own cc d mc ms nL X Q cells slots n h (pc + 3) lv st) : og_G E own cc d mc ms nL X Q cells slots n h pc lv (.int x :: st) := by
  obtain ⟨p, l, e, R, s, m, args, below, meth, c⟩ := X
  intro C H locs ls hW hS hL
  exact lv_if_ne C.1 C.2.1 hd ht (fun z => kt z C H locs ls hW hS hL) (fun z => kf z C H locs ls hW hS hL)
theorem og_icmp_ne {x y : Int32} {off : Int} {tgt : Nat} (hd : decode cc pc = .ok (.if_icmp .ne off, 3)) (ht : (pc : Int) + off = (tgt : Int)) (kt : ¬ x = y → og_G E own cc d mc ms nL X Q cells slots n h tgt lv st) (kf : x = y → og_G E own cc d mc ms nL X Q cells slots n h (pc + 3) lv st) : og_G E own cc d mc ms nL X Q cells slots n h pc lv (.int y :: .int x :: st) := by
  obtain ⟨p, l, e, R, s, m, args, below, meth, c⟩ := X
  intro C H locs ls hW hS hL
  exact lv_icmp_ne C.1 C.2.1 hd ht (fun z => kt z C H locs ls hW hS hL) (fun z => kf z C H locs ls hW hS hL)
theorem og_if_lt {x : Int32} {off : Int} {tgt : Nat} (hd : decode cc pc = .ok (.ifCond .lt off, 3)) (ht : (pc : Int) + off = (tgt : Int)) (kt : x < 0 → og_G E own cc d mc ms nL X Q cells slots n h tgt lv st) (kf : ¬ x < 0 → og_G E own cc d mc ms nL X Q cells slots n h (pc + 3) lv st) : og_G E own cc d mc ms nL X Q cells slots n h pc lv (.int x :: st) := by
  obtain ⟨p, l, e, R, s, m, args, below, meth, c⟩ := X
  intro C H locs ls hW hS hL
  exact lv_if_lt C.1 C.2.1 hd ht (fun z => kt z C H locs ls hW hS hL) (fun z => kf z C H locs ls hW hS hL)
theorem og_icmp_lt {x y : Int32} {off : Int} {tgt : Nat} (hd : decode cc pc = .ok (.if_icmp .lt off, 3)) (ht : (pc : Int) + off = (tgt : Int)) (kt : x < y → og_G E own cc d mc ms nL X Q cells slots n h tgt lv st) (kf : ¬ x < y → og_G E own cc d mc ms nL X Q cells slots n h (pc + 3) lv st) : og_G E own cc d mc ms nL X Q cells slots n h pc lv (.int y :: .int x :: st) := by
  obtain ⟨p, l, e, R, s, m, args, below, meth, c⟩ := X
  intro C H locs ls hW hS hL
  exact lv_icmp_lt C.1 C.2.1 hd ht (fun z => kt z C H locs ls hW hS hL) (fun z => kf z C H locs ls hW hS hL)
theorem og_if_ge {x : Int32} {off : Int} {tgt : Nat} (hd : decode cc pc = .ok (.ifCond .ge off, 3)) (ht : (pc : Int) + off = (tgt : Int)) (kt : 0 ≤ x → og_G E own cc d mc ms nL X Q cells slots n h tgt lv st) (kf : ¬ 0 ≤ x → og_G E own cc d mc ms nL X Q cells slots n h (pc + 3) lv st) : og_G E own cc d mc ms nL X Q cells slots n h pc lv (.int x :: st) := by
  obtain ⟨p, l, e, R, s, m, args, below, meth, c⟩ := X
  intro C H locs ls hW hS hL
  exact lv_if_ge C.1 C.2.1 hd ht (fun z => kt z C H locs ls hW hS hL) (fun z => kf z C H locs ls hW hS hL)
theorem og_icmp_ge {x y : Int32} {off : Int} {tgt : Nat} (hd : decode cc pc = .ok (.if_icmp .ge off, 3)) (ht : (pc : Int) + off = (tgt : Int)) (kt : y ≤ x → og_G E own cc d mc ms nL X Q cells slots n h tgt lv st) (kf : ¬ y ≤ x → og_G E own cc d mc ms nL X Q cells slots n h (pc + 3) lv st) : og_G E own cc d mc ms nL X Q cells slots n h pc lv (.int y :: .int x :: st) := by
  obtain ⟨p, l, e, R, s, m, args, below, meth, c⟩ := X
  intro C H locs ls hW hS hL
  exact lv_icmp_ge C.1 C.2.1 hd ht (fun z => kt z C H locs ls hW hS hL) (fun z => kf z C H locs ls hW hS hL)
theorem og_if_gt {x : Int32} {off : Int} {tgt : Nat} (hd : decode cc pc = .ok (.ifCond .gt off, 3)) (ht : (pc : Int) + off = (tgt : Int)) (kt : 0 < x → og_G E own cc d mc ms nL X Q cells slots n h tgt lv st) (kf : ¬ 0 < x → og_G E own cc d mc ms nL X Q cells slots n h (pc + 3) lv st) : og_G E own cc d mc ms nL X Q cells slots n h pc lv (.int x :: st) := by
  obtain ⟨p, l, e, R, s, m, args, below, meth, c⟩ := X
  intro C H locs ls hW hS hL
  exact lv_if_gt C.1 C.2.1 hd ht (fun z => kt z C H locs ls hW hS hL) (fun z => kf z C H locs ls hW hS hL)
theorem og_icmp_gt {x y : Int32} {off : Int} {tgt : Nat} (hd : decode cc pc = .ok (.if_icmp .gt off, 3)) (ht : (pc : Int) + off = (tgt : Int)) (kt : y < x → og_G E own cc d mc ms nL X Q cells slots n h tgt lv st) (kf : ¬ y < x → og_G E own cc d mc ms nL X Q cells slots n h (pc + 3) lv st) : og_G E own cc d mc ms nL X Q cells slots n h pc lv (.int y :: .int x :: st) := by
  obtain ⟨p, l, e, R, s, m, args, below, meth, c⟩ := X
  intro C H locs ls hW hS hL
  exact lv_icmp_gt C.1 C.2.1 hd ht (fun z => kt z C H locs ls hW hS hL) (fun z => kf z C H locs ls hW hS hL)
theorem og_if_le {x : Int32} {off : Int} {tgt : Nat} (hd : decode cc pc = .ok (.ifCond .le off, 3)) (ht : (pc : Int) + off = (tgt : Int)) (kt : x ≤ 0 → og_G E own cc d mc ms nL X Q cells slots n h tgt lv st) (kf : ¬ x ≤ 0 → og_G E own cc d mc ms nL X Q cells slots n h (pc + 3) lv st) : og_G E own cc d mc ms nL X Q cells slots n h pc lv (.int x :: st) := by
  obtain ⟨p, l, e, R, s, m, args, below, meth, c⟩ := X
  intro C H locs ls hW hS hL
  exact lv_if_le C.1 C.2.1 hd ht (fun z => kt z C H locs ls hW hS hL) (fun z => kf z C H locs ls hW hS hL)
theorem og_icmp_le {x y : Int32} {off : Int} {tgt : Nat} (hd : decode cc pc = .ok (.if_icmp .le off, 3)) (ht : (pc : Int) + off = (tgt : Int)) (kt : x ≤ y → og_G E own cc d mc ms nL X Q cells slots n h tgt lv st) (kf : ¬ x ≤ y → og_G E own cc d mc ms nL X Q cells slots n h (pc + 3) lv st) : og_G E own cc d mc ms nL X Q cells slots n h pc lv (.int y :: .int x :: st) := by
  obtain ⟨p, l, e, R, s, m, args, below, meth, c⟩ := X
  intro C H locs ls hW hS hL
  exact lv_icmp_le C.1 C.2.1 hd ht (fun z => kt z C H locs ls hW hS hL) (fun z => kf z C H locs ls hW hS hL)
theorem og_goto {off : Int} {tgt : Nat} (hd : decode cc pc = .ok (.goto off, 3)) (ht : (pc : Int) + off = (tgt : Int)) (k : og_G E own cc d mc ms nL X Q cells slots n h tgt lv st) : og_G E own cc d mc ms nL X Q cells slots n h pc lv st := by
  obtain ⟨p, l, e, R, s, m, args, below, meth, c⟩ := X
  intro C H locs ls hW hS hL
  exact lv_goto C.1 C.2.1 hd ht (k C H locs ls hW hS hL)
theorem og_ifnonnull {a : Nat} {off : Int} {tgt : Nat} (hd : decode cc pc = .ok (.ifnonnull off, 3)) (ht : (pc : Int) + off = (tgt : Int)) (k : og_G E own cc d mc ms nL X Q cells slots n h tgt lv st) : og_G E own cc d mc ms nL X Q cells slots n h pc lv (.ref a :: st) := by
  obtain ⟨p, l, e, R, s, m, args, below, meth, c⟩ := X
  intro C H locs ls hW hS hL
  exact lv_ifnonnull C.1 C.2.1 hd ht (k C H locs ls hW hS hL)
theorem og_ifnonnullN {off : Int} (hd : decode cc pc = .ok (.ifnonnull off, 3)) (k : og_G E own cc d mc ms nL X Q cells slots n h (pc + 3) lv st) : og_G E own cc d mc ms nL X Q cells slots n h pc lv (.null :: st) := by
  obtain ⟨p, l, e, R, s, m, args, below, meth, c⟩ := X
  intro C H locs ls hW hS hL
  exact lv_ifnonnullN C.1 C.2.1 hd (k C H locs ls hW hS hL)
theorem og_tableIn {dflt lo hi : Int} {offs : Array Int} {len : Nat} {x : Int32} {off : Int} {tgt : Nat} (hd : decode cc pc = .ok (.tableswitch dflt lo hi offs, len)) (h1 : ¬ x.toInt < lo) (h2 : ¬ hi < x.toInt) (ho : offs[(x.toInt - lo).toNat]? = some off) (ht : (pc : Int) + off = (tgt : Int)) (k : og_G E own cc d mc ms nL X Q cells slots n h tgt lv st) : og_G E own cc d mc ms nL X Q cells slots n h pc lv (.int x :: st) := by
  obtain ⟨p, l, e, R, s, m, args, below, meth, c⟩ := X
  intro C H locs ls hW hS hL
  exact lv_tableIn C.1 C.2.1 hd h1 h2 ho ht (k C H locs ls hW hS hL)
theorem og_tableOut {dflt lo hi : Int} {offs : Array Int} {len : Nat} {x : Int32} {tgt : Nat} (hd : decode cc pc = .ok (.tableswitch dflt lo hi offs, len)) (h1 : x.toInt < lo ∨ hi < x.toInt) (ht : (pc : Int) + dflt = (tgt : Int)) (k : og_G E own cc d mc ms nL X Q cells slots n h tgt lv st) : og_G E own cc d mc ms nL X Q cells slots n h pc lv (.int x :: st) := by
  obtain ⟨p, l, e, R, s, m, args, below, meth, c⟩ := X
  intro C H locs ls hW hS hL
  exact lv_tableOut C.1 C.2.1 hd h1 ht (k C H locs ls hW hS hL)
theorem og_to {n1 : Nat} {h1 : og_H} {pc1 : Nat} {lv1 : List (Option Value)} {st1 : List Value} (en : n1 = n) (eh : h1 = h) (ep : pc1 = pc) (el : lv1 = lv) (es : st1 = st) (k : og_G E own cc d mc ms nL X Q cells slots n1 h1 pc1 lv1 st1) : og_G E own cc d mc ms nL X Q cells slots n h pc lv st := by
  obtain ⟨p, l, e, R, s, m, args, below, meth, c⟩ := X
  intro C H locs ls hW hS hL
  subst en; subst eh; subst ep; subst el; subst es
  exact (k C H locs ls hW hS hL)
end OG
