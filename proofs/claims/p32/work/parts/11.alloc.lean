/-! ===== rules that make cells; static arrays; a method's end ===== -/
/-- an object of kind ci is made by the constant pool's place -/
def og_FN (own : String) (index ci : Nat) (fs : List Value) : Prop := ∃ (r : vw_C) (ty0 : Nat → FieldType), og_cl[ci]? = some r ∧ Cond.classLink own index r.1 ∈ BW ∧ Cond.instantiable r.1 r.2.2 ∈ BW ∧ Cond.initialized r.1 ∈ BW ∧ (∀ w ∈ u_ws r.1 r.2.1 r.2.2, w ∈ BW) ∧ (∀ k, k < r.2.2 → parseFieldDescriptor (r.2.1 k).2.2.1 = some (ty0 k)) ∧ (∀ j, j < r.2.2 → defaultValue (ty0 j) = vp_V fs j) ∧ r.2.2 = fs.length
section OA
variable {E : og_E} {own : String} {cc : ByteArray} {d mc ms nL : Nat} {X : og_X} {Q : State → Prop} {cells slots n : Nat} {h : og_H} {pc : Nat} {lv : List (Option Value)} {st : List Value}
theorem og_S.grow {E : og_E} {H0 H H1 : Heap} {locs : List Loc} (hS : va_S (og_A E) H0 H locs) (hz : H.size ≤ H1.size) (oq : ∀ q : Nat, q < H.size → H1[q]? = H[q]?) : va_S (og_A E) H0 H1 locs :=
  ⟨Nat.le_trans hS.1 hz, fun x h1 h2 => (oq x (Nat.lt_of_lt_of_le h1 hS.1)).trans (hS.2.1 x h1 h2), hS.2.2⟩
theorem og_new {index ci N : Nat} {fs : List Value} (hf : og_FN own index ci fs) (hd : decode cc pc = .ok (.new index, 3)) (hrv : fs.map (og_rv E) = fs) (hN : fs.length = N) (hcells : cells + 1 ≤ mc) (hslots : slots + N ≤ ms)
    (kk : og_G E own cc d mc ms nL X Q (cells + 1) (slots + N) (n + 1) (og_set h n (.inr (ci, fs))) (pc + 3) lv (.ref n :: st)) : og_G E own cc d mc ms nL X Q cells slots n h pc lv st := by
  obtain ⟨p, l, e, R, s, m, args, below, meth, c⟩ := X
  intro C H locs ls hW hS hL
  obtain ⟨r, ty0, f1, f2, f3, f4, f5, f6, f7, f8⟩ := hf
  have hts := C.2.2.2.2.1
  have hKn := C.2.2.2.2.2.2.1.1.1 ci _ f1
  obtain ⟨-, -, hRc, hRs⟩ := C.2.2.2.2.2.2.2.2
  refine W.newcK C.1 C.2.1 C.2.2.2.1 (hts _ f2) (hts _ f3) (hts _ f4) rfl hd (by omega) (by omega) hKn.2.1 rfl fun H1 kC hkC e1 z1 o1 => ?_
  have hb := (u_born ty0 hts f5 hKn hkC e1 f6).to f7
  obtain ⟨w1, w2⟩ := hW.push (e := .inr (ci, fs)) z1 ⟨r, f1, by show t_OB _ _ _ _ _ (vp_V (fs.map (og_rv E))); rw [hrv]; exact hb⟩ o1
  have k2 := kk C H1 locs ls w1 (og_S.grow hS (by omega) o1) hL
  rw [f8, hN, w2]
  exact k2
theorem og_newa {atype : ArrayType} {k N : Nat} {i : Int32} {x : vp_A} (hw : Cond.arrayClass (newarray.typeOf atype) ∈ BW) (hty : newarray.typeOf atype = og_ty k) (hk : k < 4) (hd : decode cc pc = .ok (.newarray atype, 2)) (hx : ∀ cA : ClassId, vp_cell cA (og_ct E x) = arrV cA N (fun _ => defaultValue (og_ty k))) (hn : ¬ i < 0) (hN : i.toNatClampNeg = N) (hbytes : N * componentBytes (og_ty k) ≤ 536870912) (hcells : cells + 1 ≤ mc) (hslots : slots + N ≤ ms)
    (kk : og_G E own cc d mc ms nL X Q (cells + 1) (slots + N) (n + 1) (og_set h n (.inl (k, x))) (pc + 2) lv (.ref n :: st)) : og_G E own cc d mc ms nL X Q cells slots n h pc lv (.int i :: st) := by
  obtain ⟨p, l, e, R, s, m, args, below, meth, c⟩ := X
  intro C H locs ls hW hS hL
  have hts := C.2.2.2.2.1
  have hRA := (C.2.2.2.2.2.2.1.1.2 k _ (og_tyAt E (by omega))).2
  obtain ⟨-, -, hRc, hRs⟩ := C.2.2.2.2.2.2.2.2
  have hfc : s.vm.findClass ("[" ++ (og_ty k).toString) = some (E.2.2.1 k) := by
    match k, hk, hRA with
    | 0, _, h => exact h
    | 1, _, h => exact h
    | 2, _, h => exact h
    | 3, _, h => exact h
  refine va_newaK C.1 C.2.1 (hts _ hw) rfl hd rfl hn hN (by rw [hty]; exact hbytes) (by omega) (by omega) rfl fun H1 cA e1 z1 o1 _ hcA => ?_
  rw [hty] at hcA e1
  cases hfc.symm.trans hcA
  obtain ⟨w1, w2⟩ := hW.push (e := .inl (k, x)) z1 (by show H1[H.size]? = some (vp_cell (E.2.2.1 k) (og_ct E x)); rw [hx]; exact e1) o1
  have k2 := kk C H1 locs ls w1 (og_S.grow hS (by omega) o1) hL
  rw [w2]
  exact k2
theorem og_newq {index k ci N : Nat} {i : Int32} {r : vw_C} (hc : og_cl[ci]? = some r) (hw : Cond.classLink own index r.1 ∈ BW) (hover : ∀ U H0, og_St E U H0 → va_AO r.1 U) (hty : og_ty k = .object r.1) (hk : k < 7) (hd : decode cc pc = .ok (.anewarray index, 3)) (hn : ¬ i < 0) (hN : i.toNatClampNeg = N) (hbytes : N * 4 ≤ 536870912) (hcells : cells + 1 ≤ mc) (hslots : slots + N ≤ ms)
    (kk : og_G E own cc d mc ms nL X Q (cells + 1) (slots + N) (n + 1) (og_set h n (.inl (k, N, .inr (.inr (.inr (.inr (fun _ => none))))))) (pc + 3) lv (.ref n :: st)) : og_G E own cc d mc ms nL X Q cells slots n h pc lv (.int i :: st) := by
  obtain ⟨p, l, e, R, s, m, args, below, meth, c⟩ := X
  intro C H locs ls hW hS hL
  have hts := C.2.2.2.2.1
  have hRA := (C.2.2.2.2.2.2.1.1.2 k _ (og_tyAt E hk)).2
  rw [show (E.2.2.1 k, og_ty k).2 = FieldType.object r.1 from hty] at hRA
  obtain ⟨kA, comp, k1, k2, k3, k4⟩ := hRA
  obtain ⟨-, -, hRc, hRs⟩ := C.2.2.2.2.2.2.2.2
  subst hN
  refine W.anew C.1 C.2.1 C.2.2.2.1 (hts _ hw) (va_AO.use (hover s s.heap C.2.2.2.2.2.2.1)) rfl hd rfl hn hbytes (by omega) (by omega) fun cA kA2 comp2 f1 f2 f3 f4 => ?_
  cases k4.symm.trans f1
  generalize hH1 : H.push ({ cls := E.2.2.1 k, slots := Array.replicate i.toNatClampNeg .null, vm := .none } : Cell) = H1
  have z1 : H1.size = H.size + 1 := by rw [← hH1, Array.size_push]
  have e1 : H1[H.size]? = some (arrV (E.2.2.1 k) i.toNatClampNeg (fun _ => .null)) := by rw [← hH1, Array.getElem?_push_size, ← arrV_new]
  have o1 : ∀ q : Nat, q < H.size → H1[q]? = H[q]? := fun q hq => by rw [← hH1, Array.getElem?_push, if_neg (Nat.ne_of_lt hq)]
  obtain ⟨w1, w2⟩ := hW.push (e := .inl (k, i.toNatClampNeg, .inr (.inr (.inr (.inr (fun _ => none)))))) z1 e1 o1
  have k9 := kk C H1 locs ls w1 (og_S.grow hS (by omega) o1) hL
  rw [w2]
  exact k9
theorem og_gsT {index : Nat} (hw : Cond.fieldLink own index RX3 "TRIPLES" "[I" ∈ BW) (hd : decode cc pc = .ok (.getstatic index, 3))
    (kk : og_G E own cc d mc ms nL X Q cells slots n h (pc + 3) lv (.ref 1 :: st)) : og_G E own cc d mc ms nL X Q cells slots n h pc lv st := by
  obtain ⟨p, l, e, R, s, m, args, below, meth, c⟩ := X
  intro C H locs ls hW hS hL
  exact va_gets C.1 C.2.1 C.2.2.2.2.2.2.1.2.1 hS C.2.2.2.1 (C.2.2.2.2.1 _ hw) (fun _ z => z) hd (kk C H locs ls hW hS hL)
theorem og_gsS {index : Nat} (hw : Cond.fieldLink own index RX2 "SETS" "[I" ∈ BW) (hd : decode cc pc = .ok (.getstatic index, 3))
    (kk : og_G E own cc d mc ms nL X Q cells slots n h (pc + 3) lv (.ref 2 :: st)) : og_G E own cc d mc ms nL X Q cells slots n h pc lv st := by
  obtain ⟨p, l, e, R, s, m, args, below, meth, c⟩ := X
  intro C H locs ls hW hS hL
  exact va_gets C.1 C.2.1 C.2.2.2.2.2.2.1.2.2.1 hS C.2.2.2.1 (C.2.2.2.2.1 _ hw) (fun _ z => z) hd (kk C H locs ls hW hS hL)
/-! ===== contracts ===== -/
def og_R (d mc ms : Nat) : Room := { frames := d + 12, cells := mc, slots := ms, locals := 40 * d + 200 }
def og_Pc (E : og_E) (As : List Value) (n : Nat) (h : og_H) : Array Value → State → Prop := fun v U => v = (As.map (og_rv E)).toArray ∧ og_Wd E U n h U.heap ∧ og_St E U U.heap
def og_Qc (E : og_E) (Po : Option Value → Nat → og_H → Prop) : Array Value → State → Outcome → State → Prop := fun _ st o t => (∃ (v : Option Value) (n1 : Nat) (h1 : og_H), o = .returned (v.map (og_rv E)) ∧ Po v n1 h1 ∧ og_Wd E t n1 h1 t.heap) ∧ va_F (og_A E) st t
def og_XC (E : og_E) (Px : String → Nat → og_H → Prop) : String → State → State → Prop := fun En st t => (∃ (n1 : Nat) (h1 : og_H), Px En n1 h1 ∧ og_Wd E t n1 h1 t.heap) ∧ va_F (og_A E) st t
def og_Q (E : og_E) (Po : Option Value → Nat → og_H → Prop) (Px : String → Nat → og_H → Prop) (mc ms : Nat) (X : og_X) : State → Prop := match X with
  | (_, _, _, _, s, _, args, below, _, _) => vx_MQ below (og_Qc E Po) (og_XC E Px) args s mc ms (og_A E)
/-- a method, from this world, with these arguments: what it answers and the world behind it, or what it throws -/
def og_M (E : og_E) (y : MethodName) (wc : Cond) (d : Nat) (As : List Value) (n : Nat) (h : og_H) (mc ms : Nat) (Po : Option Value → Nat → og_H → Prop) (Px : String → Nat → og_H → Prop) : Prop :=
  ∀ l : Launch, l.stackTraces = false → vx_Met l y (wc :: BW) (og_R d mc ms) (og_Pc E As n h) (og_Qc E Po) (og_XC E Px) mc ms (og_A E)
theorem og_ofW {l : Launch} {y : MethodName} {ws ws' : List Cond} {rm : Room} {Pc : Array Value → State → Prop} {Qc : Array Value → State → Outcome → State → Prop} {XC : String → State → State → Prop} {mc ms : Nat} {free : Addr → Prop} {cc : ByteArray} {maxL : Nat} {ret : Option FieldType}
    (hy : plainFor y = true) (hw : ws = Cond.code y cc maxL ret :: ws')
    (body : ∀ p e s m args below meth c s₁, BodyLoose p l y (headSpec ws rm) cc maxL ret e s m args below meth c s₁ → c.maxLocals = maxL → (∀ x ∈ c.exceptionTable.toList, False) → Pc args s →
      W p l e (headSpec ws rm).room s m args below meth c s.heap [] 0 0 (vx_MQ below Qc XC args s mc ms free) (entryFrame m args maxL)) : vx_Met l y ws rm Pc Qc XC mc ms free := by
  refine MetFree.of_bodySF (code := cc) (maxLocals := maxL) (ret := ret) hy ?_ ?_
  · intro args s m h hn
    obtain ⟨meth, c, h1, h2, h3, h4, h5, h6, -, -⟩ := Cond.code_spec hn (atoms_spec (ws := ws) h _ (by rw [hw]; exact List.mem_cons_self))
    exact ⟨meth, c, h1, h2, h3, h4, h5, h6⟩
  · intro p e s m args below meth c s₁ B hml hP _
    have hh0 : s₁.heap = s.heap := by rw [B.state]; rfl
    have ht : ∀ x ∈ c.exceptionTable.toList, False := by
      obtain ⟨meth9, c9, h1, h2, -, -, -, -, h7, -⟩ := Cond.code_spec B.named (atoms_spec (ws := ws) B.pre _ (by rw [hw]; exact List.mem_cons_self))
      cases Option.some.inj (h1.symm.trans B.method)
      cases Option.some.inj (h2.symm.trans (Stand.of_body B).code)
      intro x hx
      rw [Array.isEmpty_iff.mp h7] at hx
      cases hx
    obtain ⟨t, a1, o, b1, b2, b3⟩ := body p e s m args below meth c s₁ B hml ht hP s₁ hh0 (Stand.of_body B)
    exact ⟨t, o, a1, b1, b2, b3⟩
theorem og_start {y : MethodName} {ret : Option FieldType} {As : List Value} {Po : Option Value → Nat → og_H → Prop} {Px : String → Nat → og_H → Prop} (hy : plainFor y = true) (hlv : lv_args 0 (As.map (og_rv E)) = og_list E 0 lv) (hlen : lv.length = nL) (hsl : (lg_sl (As.map (og_rv E))).length ≤ nL)
    (body : ∀ X : og_X, og_ret X = ret → og_nm X = y.name → og_tb X = [] → og_G E y.cls cc d mc ms nL X (og_Q E Po Px mc ms X) 0 0 n h 0 lv []) : og_M E y (.code y cc nL ret) d As n h mc ms Po Px := by
  intro l hl
  refine og_ofW (cc := cc) (maxL := nL) (ret := ret) hy rfl ?_
  intro p e s m args below meth c s₁ B hml ht hv
  obtain ⟨rfl, hW, hSt⟩ := hv
  have htb : c.exceptionTable.toList = [] := by
    cases hq : c.exceptionTable.toList with
    | nil => rfl
    | cons a t => exact (ht a (by rw [hq]; exact List.mem_cons_self)).elim
  have hnm : meth.name = y.name := (name_of_methodNamed B.named B.method).1
  have hts := atoms_spec (ws := .code y cc nL ret :: BW) B.pre
  have hown : s.vm.findClass y.cls = some m.cls := findClass_of_methodNamed B.named
  have g := body (p, l, e, (headSpec (.code y cc nL ret :: BW) (og_R d mc ms)).room, s, m, (As.map (og_rv E)).toArray, below, meth, c) B.returns hnm htb
    ⟨B.exec, B.bytes, hml, hown, fun w hw => hts w (List.mem_cons_of_mem _ hw), B.notSynchronized, hSt, hl, ⟨Nat.le_refl _, Nat.le_refl _, Nat.le_refl _, Nat.le_refl _⟩⟩ s.heap [] ((lg_sl (As.map (og_rv E)) ++ List.replicate (nL - (lg_sl (As.map (og_rv E))).length) Slot.unset).toArray) hW va_S.rf
    (by
      have hl2 := lv_entry (As.map (og_rv E)) (n := nL) hsl
      rw [hlv] at hl2
      refine ⟨hl2.1, hlen, hl2.2.1, fun i v hv => ?_⟩
      have := og_list_mem E lv 0 i v hv
      rw [Nat.zero_add] at this
      exact hl2.2.2 _ this)
  rw [lg_entry_eq]
  exact g
theorem og_iret {Po : Option Value → Nat → og_H → Prop} {Px : String → Nat → og_H → Prop} {x : Int32} (hr : og_ret X = some .int) (hd : decode cc pc = .ok (.ireturn, 1)) (hc : cells ≤ mc) (hs : slots ≤ ms) (hp : Po (some (.int x)) n h) : og_G E own cc d mc ms nL X (og_Q E Po Px mc ms X) cells slots n h pc lv [.int x] := by
  obtain ⟨p, l, e, R, s, m, args, below, meth, c⟩ := X
  intro C H locs ls hW hS hL
  refine vx_ret (W.widen hc hs ?_)
  exact W.iret C.1 C.2.1 hr (fun t ht hW2 => ⟨⟨(some (.int x)), n, h, rfl, hp, by rw [ht]; exact hW.moved hW2.alike⟩, hS.F ht⟩) hS.2.2 hd C.2.2.2.2.2.1
theorem og_zret {Po : Option Value → Nat → og_H → Prop} {Px : String → Nat → og_H → Prop} {x : Int32} (hr : og_ret X = some .boolean) (hn : narrow .boolean (.int x) = .int x) (hd : decode cc pc = .ok (.ireturn, 1)) (hc : cells ≤ mc) (hs : slots ≤ ms) (hp : Po (some (.int x)) n h) : og_G E own cc d mc ms nL X (og_Q E Po Px mc ms X) cells slots n h pc lv [.int x] := by
  obtain ⟨p, l, e, R, s, m, args, below, meth, c⟩ := X
  intro C H locs ls hW hS hL
  refine vx_ret (W.widen hc hs ?_)
  exact W.zret C.1 C.2.1 hr hn (fun t ht hW2 => ⟨⟨(some (.int x)), n, h, rfl, hp, by rw [ht]; exact hW.moved hW2.alike⟩, hS.F ht⟩) hS.2.2 hd C.2.2.2.2.2.1
theorem og_lret {Po : Option Value → Nat → og_H → Prop} {Px : String → Nat → og_H → Prop} {x : Int64} (hr : og_ret X = some .long) (hd : decode cc pc = .ok (.lreturn, 1)) (hc : cells ≤ mc) (hs : slots ≤ ms) (hp : Po (some (.long x)) n h) : og_G E own cc d mc ms nL X (og_Q E Po Px mc ms X) cells slots n h pc lv [.long x] := by
  obtain ⟨p, l, e, R, s, m, args, below, meth, c⟩ := X
  intro C H locs ls hW hS hL
  refine vx_ret (W.widen hc hs ?_)
  exact W.lret C.1 C.2.1 hr (fun t ht hW2 => ⟨⟨(some (.long x)), n, h, rfl, hp, by rw [ht]; exact hW.moved hW2.alike⟩, hS.F ht⟩) hS.2.2 hd C.2.2.2.2.2.1
theorem og_vret {Po : Option Value → Nat → og_H → Prop} {Px : String → Nat → og_H → Prop}  (hr : og_ret X = none) (hd : decode cc pc = .ok (.return_, 1)) (hc : cells ≤ mc) (hs : slots ≤ ms) (hp : Po none n h) : og_G E own cc d mc ms nL X (og_Q E Po Px mc ms X) cells slots n h pc lv [] := by
  obtain ⟨p, l, e, R, s, m, args, below, meth, c⟩ := X
  intro C H locs ls hW hS hL
  refine vx_ret (W.widen hc hs ?_)
  exact W.vret C.1 C.2.1 hr (fun t ht hW2 => ⟨⟨none, n, h, rfl, hp, by rw [ht]; exact hW.moved hW2.alike⟩, hS.F ht⟩) hS.2.2 hd C.2.2.2.2.2.1
theorem og_aret {Po : Option Value → Nat → og_H → Prop} {Px : String → Nat → og_H → Prop} {a : Nat} {cn : String} (hr : og_ret X = some (.object cn)) (hd : decode cc pc = .ok (.areturn, 1)) (hc : cells ≤ mc) (hs : slots ≤ ms) (hp : Po (some (.ref a)) n h) : og_G E own cc d mc ms nL X (og_Q E Po Px mc ms X) cells slots n h pc lv [.ref a] := by
  obtain ⟨p, l, e, R, s, m, args, below, meth, c⟩ := X
  intro C H locs ls hW hS hL
  refine vx_ret (W.widen hc hs ?_)
  exact W.aret C.1 C.2.1 hr (Or.inl ⟨_, rfl⟩) (Or.inr ⟨_, rfl⟩) (fun t ht hW2 => ⟨⟨(some (.ref a)), n, h, rfl, hp, by rw [ht]; exact hW.moved hW2.alike⟩, hS.F ht⟩) hS.2.2 hd C.2.2.2.2.2.1
end OA
