/-! ===== calls of methods that throw, where a handler takes it; helpers with tables ===== -/
def og_as (cc : ByteArray) (pc i len : Nat) : Prop := (decode cc pc = .ok (.astore i, 2) ∧ len = 2) ∨ (∃ k : Fin 4, decode cc pc = .ok (.astore_n k, 1) ∧ (k : Nat) = i ∧ len = 1)
theorem og_L.drop {E : og_E} {ls ls' : Array Slot} {nL : Nat} {lv : List (Option Value)} {i q9 : Nat} (h : og_L E ls nL lv) (hn2 : og_n2 lv i)
    (h' : lv_has ls' nL ((i, Value.ref q9) :: (og_list E 0 lv).filter (fun q => !(q.1 == i) && !(q.1 + 1 == i && q.2.category == 2)))) : og_L E ls' nL (lv.set i none) := by
  refine ⟨h'.1, by rw [List.length_set]; exact h.2.1, h'.2.1, fun j w hj => ?_⟩
  by_cases hji : j = i
  · subst hji
    have hl : j < lv.length := by
      have := (List.getElem?_eq_some_iff.mp hj).1
      rwa [List.length_set] at this
    rw [List.getElem?_set_self hl] at hj
    cases hj
  · rw [List.getElem?_set_ne (Ne.symm hji)] at hj
    refine h'.2.2 (j, og_rv E w) (List.mem_cons_of_mem _ (List.mem_filter.mpr ⟨?_, ?_⟩))
    · have := og_list_mem E lv 0 j w hj
      rwa [Nat.zero_add] at this
    · simp only [Bool.and_eq_true, Bool.not_eq_true', beq_eq_false_iff_ne, ne_eq, Bool.and_eq_false_iff]
      refine ⟨hji, ?_⟩
      by_cases hji1 : j + 1 = i
      · right
        rw [og_rv_cat]
        exact hn2 j w hji1 hj
      · left
        exact hji1
section OH
variable {E : og_E} {own : String} {cc : ByteArray} {d mc ms nL : Nat} {X : og_X} {Q : State → Prop} {cells slots n : Nat} {h : og_H} {pc : Nat} {lv : List (Option Value)} {st : List Value}
variable {y : MethodName} {bytes : ByteArray} {maxL : Nat} {ret : Option FieldType} {na d1 mc1 ms1 index : Nat} {As rest : List Value} {Po1 : Option Value → Nat → og_H → Prop} {Px1 : String → Nat → og_H → Prop}
theorem og_callVC {a ci : Nat} {fs : List Value} {r : vw_C} (hM : og_M E y (.code y bytes maxL ret) d1 (.ref a :: As) n h mc1 ms1 Po1 Px1) (hy : og_Y y bytes maxL ret na) (hyi : Cond.instanceMethod y ∈ BW) (hys : Cond.selects y.cls y y ∈ BW) (ha : h a = some (.inr (ci, fs))) (h3 : 3 ≤ a) (hc : og_cl[ci]? = some r) (hr : r.1 = y.cls) (hlink : Cond.methodLink own index y ∈ BW) (hd : decode cc pc = .ok (.invokevirtual index, 3)) (hst : st = As.reverse ++ .ref a :: rest) (hna : As.length = na) (hcat : (rest.map fun v => v.category).sum ≤ 8) (hdd : d1 < d) (hmc : cells + mc1 ≤ mc) (hms : slots + ms1 ≤ ms)
    (kx : ∀ (En : String) (n1 : Nat) (h1 : og_H), Px1 En n1 h1 → ∃ (pre : List ExceptionTableEntry) (x : ExceptionTableEntry) (suf : List ExceptionTableEntry) (i len : Nat), og_tb X = pre ++ x :: suf ∧ (∀ z ∈ pre, covers z pc = false ∨ (z.catchType ≠ 0 ∧ ∃ nm : String, Cond.classLink own z.catchType nm ∈ BW ∧ nm ∈ og_exc ∧ En ≠ nm)) ∧ covers x pc = true ∧ x.catchType ≠ 0 ∧ En ∈ og_exc ∧ Cond.classLink own x.catchType En ∈ BW ∧ og_as cc x.handlerPc i len ∧ i < nL ∧ og_n2 lv i ∧ og_G E own cc d mc ms nL X Q (cells + mc1) (slots + ms1) n1 h1 (x.handlerPc + len) (lv.set i none) [])
    (kk : ∀ (v : Option Value) (n1 : Nat) (h1 : og_H), Po1 v n1 h1 → og_G E own cc d mc ms nL X Q (cells + mc1) (slots + ms1) n1 h1 (pc + 3) lv (v.toList ++ rest)) : og_G E own cc d mc ms nL X Q cells slots n h pc lv st := by
  obtain ⟨p, l, e, R, s, m, args, below, meth, c⟩ := X
  intro C H locs ls hW hS hL
  subst hst
  have hts := C.2.2.2.2.1
  obtain ⟨hRf, hRl, hRc, hRs⟩ := C.2.2.2.2.2.2.2.2
  have cb := hy.B (d := d) (d1 := d1) (mc1 := mc1) (ms1 := ms1) hts hlink hRf hRl hdd
  have hSt := C.2.2.2.2.2.2.1
  refine og_back (Po := Po1) (Px := Px1) (rest := rest.map (og_rv E)) (vx_runV (b := og_rho E a) (C := y.cls) (As := As.map (og_rv E)) (rest := rest.map (og_rv E)) (Ts := BW) (nL := nL) ⟨C.1, C.2.1, C.2.2.1, C.2.2.2.1, hts⟩ (hM l C.2.2.2.2.2.2.2.1) ⟨cb, hts _ hyi, hts _ hys⟩ ⟨og_blind E _ n h, by rw [← hr]; exact va_recv hSt.1 (og_P1 hW ha h3) hc (q0 := 0) rfl, fun U hU hwm => og_pre (.ref a :: As) hW hS hSt hU hwm⟩ rfl (by rw [List.length_map]; exact hna) hL.1 (by simp [List.map_append, List.map_reverse, og_rv]) (lv_room (by rw [og_rest]; exact hcat)) hd ⟨by omega, by omega⟩) hS ?_ ?_
  · intro En ce q9 n1 h1 H1 locs1 hp hw hs1 hce hcv hcl
    obtain ⟨pre, x, suf, i, len, ht, hpass, hx, h0, hex, hln, has, hi, hn2, g⟩ := kx En n1 h1 hp
    refine vx_catch C.2.2.2.1 pre x suf ht (fun z hz => ?_) hx h0 (hts _ hln) ((hSt.2.2.2.2.2.2.2.ng (List.mem_append_right _ (List.mem_map.mpr ⟨En, hex, rfl⟩))).1) hce hcv hcl ?_
    · rcases hpass z hz with q | ⟨q1, nm, q2, q3, q4⟩
      · exact Or.inl q
      · exact Or.inr ⟨q1, nm, hts _ q2, hSt.2.2.2.2.2.2.2.2.2.2.2.2.2.1 En hex nm q3 q4⟩
    · rcases has with ⟨a1, rfl⟩ | ⟨k, a1, a2, rfl⟩
      · exact lv_astore C.1 C.2.1 a1 hL.has hi rfl (fun ls2 hl2 => g C H1 locs1 ls2 hw hs1 (hL.drop hn2 hl2))
      · subst a2
        exact lv_astore_n C.1 C.2.1 a1 rfl hL.has hi rfl (fun ls2 hl2 => g C H1 locs1 ls2 hw hs1 (hL.drop hn2 hl2))
  · intro v n1 h1 H1 locs1 hp hw hs1
    rw [og_vl]
    exact kk v n1 h1 hp C H1 locs1 ls hw hs1 hL
/-- an own static method with a table of handlers -/
def og_YH (y : MethodName) (bytes : ByteArray) (maxL : Nat) (ret : Option FieldType) (hh : List (Nat × Nat × Nat × Nat)) (na : Nat) : Prop := Cond.initialized y.cls ∈ BW ∧ Cond.codeWith y bytes maxL ret hh ∈ BW ∧ (y.cls ≠ "java/lang/invoke/MethodHandle" ∧ y.cls ≠ "java/lang/invoke/VarHandle") ∧ (parseMethodDescriptor y.desc).map (fun d => d.parameters.length) = some na ∧ maxL ≤ 21 ∧ Cond.static y ∈ BW
theorem og_YH.B {hh : List (Nat × Nat × Nat × Nat)} {R : Room} {s : State} {args : Array Value} (hy : og_YH y bytes maxL ret hh na) (hts : ∀ w ∈ BW, w.before args s = true) (hlink : Cond.methodLink own index y ∈ BW) (hf : d + 12 ≤ R.frames) (hl : 40 * d + 200 ≤ R.locals) (hdd : d1 < d) :
    vx_CSW R s args own index y bytes maxL ret hh (.codeWith y bytes maxL ret hh :: BW) (og_R d1 mc1 ms1) mc1 ms1 na := by
  obtain ⟨h1, h2, h3, h4, h5, h6⟩ := hy
  have hG : GoodIn BW (.codeWith y bytes maxL ret hh :: BW) := fun w hw => (List.mem_cons.mp hw).elim (fun e => by rw [e]; exact og_good _ h2) (og_good w)
  refine ⟨⟨rfl, rfl, by show d1 + 12 + 1 ≤ _; omega, by show 8 + (maxL + 11) + (40 * d1 + 200) ≤ _; omega, pay_in hts hG, List.mem_cons_self⟩, hts _ h2, hts _ h1, h3, fun sig hs => ?_, hts _ hlink, hts _ h6⟩
  rw [hs] at h4
  exact (Option.some.inj h4).symm
theorem og_callSH {hh : List (Nat × Nat × Nat × Nat)} (hM : og_M E y (.codeWith y bytes maxL ret hh) d1 As n h mc1 ms1 Po1 no_x) (hy : og_YH y bytes maxL ret hh na) (hlink : Cond.methodLink own index y ∈ BW) (hd : decode cc pc = .ok (.invokestatic index, 3)) (hst : st = As.reverse ++ rest) (hna : As.length = na) (hcat : (rest.map fun v => v.category).sum ≤ 8) (hdd : d1 < d) (hmc : cells + mc1 ≤ mc) (hms : slots + ms1 ≤ ms)
    (kk : ∀ (v : Option Value) (n1 : Nat) (h1 : og_H), Po1 v n1 h1 → og_G E own cc d mc ms nL X Q (cells + mc1) (slots + ms1) n1 h1 (pc + 3) lv (v.toList ++ rest)) : og_G E own cc d mc ms nL X Q cells slots n h pc lv st := by
  obtain ⟨p, l, e, R, s, m, args, below, meth, c⟩ := X
  intro C H locs ls hW hS hL
  subst hst
  have hts := C.2.2.2.2.1
  obtain ⟨hRf, hRl, hRc, hRs⟩ := C.2.2.2.2.2.2.2.2
  have cb := hy.B (d := d) (d1 := d1) (mc1 := mc1) (ms1 := ms1) hts hlink hRf hRl hdd
  have hSt := C.2.2.2.2.2.2.1
  refine og_back (Po := Po1) (Px := no_x) (rest := rest.map (og_rv E)) (vx_runSX (As := As.map (og_rv E)) (rest := rest.map (og_rv E)) (Ts := BW) (nL := nL) ⟨C.1, C.2.1, C.2.2.1, C.2.2.2.1, hts⟩ (hM l C.2.2.2.2.2.2.2.1) cb ⟨og_blind E _ n h, fun U hU hwm => og_pre As hW hS hSt hU hwm⟩ rfl (by rw [List.length_map]; exact hna) hL.1 (by simp [List.map_append, List.map_reverse]) (lv_room (by rw [og_rest]; exact hcat)) hd ⟨by omega, by omega⟩) hS ?_ ?_
  · intro En ce q9 n1 h1 H1 locs1 hp
    exact absurd hp (fun z => z)
  · intro v n1 h1 H1 locs1 hp hw hs1
    rw [og_vl]
    exact kk v n1 h1 hp C H1 locs1 ls hw hs1 hL
theorem og_startH {hh : List (Nat × Nat × Nat × Nat)} {Po : Option Value → Nat → og_H → Prop} {Px : String → Nat → og_H → Prop} (hy : plainName y.cls = true) (hlv : lv_args 0 (As.map (og_rv E)) = og_list E 0 lv) (hlen : lv.length = nL) (hsl : (lg_sl (As.map (og_rv E))).length ≤ nL)
    (body : ∀ X : og_X, og_ret X = ret → og_nm X = y.name → og_tb X = tableOf hh → og_G E y.cls cc d mc ms nL X (og_Q E Po Px mc ms X) 0 0 n h 0 lv []) : og_M E y (.codeWith y cc nL ret hh) d As n h mc ms Po Px := by
  intro l hl
  refine vx_ofWH (cc := cc) (maxL := nL) (ret := ret) (hh := hh) hy rfl ?_
  intro p e s m args below meth c s₁ B hml hv
  obtain ⟨rfl, hW, hSt⟩ := hv
  have hnm : meth.name = y.name := (name_of_methodNamed B.named B.method).1
  have hts := atoms_spec (ws := .codeWith y cc nL ret hh :: BW) B.pre
  have htb : c.exceptionTable.toList = tableOf hh := vx_table (x := y) B (hts _ List.mem_cons_self)
  have hown : s.vm.findClass y.cls = some m.cls := findClass_of_methodNamed B.named
  have g := body (p, l, e, (headSpec (.codeWith y cc nL ret hh :: BW) (og_R d mc ms)).room, s, m, (As.map (og_rv E)).toArray, below, meth, c) B.returns hnm htb
    ⟨B.exec, B.bytes, hml, hown, fun w hw => hts w (List.mem_cons_of_mem _ hw), B.notSynchronized, hSt, hl, ⟨Nat.le_refl _, Nat.le_refl _, Nat.le_refl _, Nat.le_refl _⟩⟩ s.heap [] ((lg_sl (As.map (og_rv E)) ++ List.replicate (nL - (lg_sl (As.map (og_rv E))).length) Slot.unset).toArray) hW va_S.rf
    (by
      have hl2 := lv_entry (As.map (og_rv E)) (n := nL) hsl
      rw [hlv] at hl2
      refine ⟨hl2.1, hlen, hl2.2.1, fun i v hv => ?_⟩
      have := og_list_mem E lv 0 i v hv
      rw [Nat.zero_add] at this
      exact hl2.2.2 _ this)
  rw [lg_entry_eq]
  exact g
end OH
