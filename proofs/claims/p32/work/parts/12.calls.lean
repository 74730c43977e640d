/-! ===== calls ===== -/
theorem og_blind (E : og_E) (As : List Value) (n : Nat) (h : og_H) : FrameBlind (og_Pc E As n h) := fun a U g mk q =>
  ⟨q.1, q.2.1.moved (u := U) (U := U.calling g mk a) (Vm.Alike.refl U.vm), q.2.2.to (u := U) (U := U.calling g mk a) (State.WarmedH.refl U) (fun _ _ _ => rfl) (Nat.le_refl _)⟩
theorem og_pre {E : og_E} {s : State} {n : Nat} {h : og_H} {H : Heap} {locs : List Loc} (As : List Value) (hW : og_Wd E s n h H) (hS : va_S (og_A E) s.heap H locs) (hSt : og_St E s s.heap) {U : State} (hU : U.heap = H) (hwm : s.WarmedH U.vm) : og_Pc E As n h (As.map (og_rv E)).toArray U :=
  ⟨rfl, by rw [hU]; exact hW.moved hwm.alike, by rw [hU]; exact hSt.to hwm hS.2.1 hS.1⟩
theorem og_back {p : Program} {l : Launch} {e : Env} {R : Room} {s : State} {m : MethodId} {args : Array Value} {below : List Frame} {meth : Method} {c : Code} {H : Heap} {locs : List Loc} {cells slots mc1 ms1 : Nat} {Q : State → Prop} {pc : Nat} {ls : Array Slot} {st0 rest : List Value} {a : Array Value} {E : og_E} {Po : Option Value → Nat → og_H → Prop} {Px : String → Nat → og_H → Prop}
    (hr : vx_Run p l e R s m args below meth c H locs cells slots mc1 ms1 (F0 m pc ls st0) rest (og_Qc E Po a) (og_XC E Px) (og_A E)) (hS : va_S (og_A E) s.heap H locs)
    (kx : ∀ (En : String) (ce : Cell) (q9 : Addr) (n1 : Nat) (h1 : og_H) (H1 : Heap) (locs1 : List Loc), Px En n1 h1 → og_Wd E s n1 h1 H1 → va_S (og_A E) s.heap H1 locs1 → H1[q9]? = some ce → ce.vm = .none → s.vm.findClass En = some ce.cls → vx_W p l e R s m args below meth c H1 locs1 (cells + mc1) (slots + ms1) Q (F0 m pc ls rest) q9)
    (kk : ∀ (v : Option Value) (n1 : Nat) (h1 : og_H) (H1 : Heap) (locs1 : List Loc), Po v n1 h1 → og_Wd E s n1 h1 H1 → va_S (og_A E) s.heap H1 locs1 → W p l e R s m args below meth c H1 locs1 (cells + mc1) (slots + ms1) Q (F0 m (pc + 3) ls ((v.map (og_rv E)).toList ++ rest))) : W p l e R s m args below meth c H locs cells slots Q (F0 m pc ls st0) := by
  intro T hT X
  rcases hr T hT X with ⟨v, st₀, t, T', L, h0, X', hL, e1, e2, ⟨⟨v1, n1, h1, hv, hp, hw⟩, hF⟩, st⟩ | ⟨q, st₀, t, T', L, En, ce, h0, X', hL, e1, e2, ⟨⟨n1, h1, hp, hw⟩, hF⟩, hce, hcv, hcl, st⟩
  · cases hv
    obtain ⟨k1, k2, k3⟩ := vx_keep h0 e1 hS (fun _ _ z => z) (fun _ z => z) hL hF
    have hal : t.vm.Alike s.vm := by
      have := X'.warmed.alike
      rw [e2] at this
      exact this.symm
    obtain ⟨t2, a1, b1⟩ := kk v1 n1 h1 T'.heap (locs ++ L) hp (by rw [e1]; exact hw.moved hal) k3 T' rfl X'
    exact ⟨t2, st t2 a1, b1⟩
  · obtain ⟨k1, k2, k3⟩ := vx_keep h0 e1 hS (fun _ _ z => z) (fun _ z => z) hL hF
    have hal : t.vm.Alike s.vm := by
      have := X'.warmed.alike
      rw [e2] at this
      exact this.symm
    obtain ⟨t2, a1, b1⟩ := kx En ce q n1 h1 T'.heap (locs ++ L) hp (by rw [e1]; exact hw.moved hal) k3 (by rw [e1]; exact hce) hcv hcl T' rfl X'
    exact ⟨t2, st.trans a1, b1⟩
/-- an own method that can be called: its code's word, how many arguments, how many locals -/
def og_Y (y : MethodName) (bytes : ByteArray) (maxL : Nat) (ret : Option FieldType) (na : Nat) : Prop := Cond.initialized y.cls ∈ BW ∧ Cond.code y bytes maxL ret ∈ BW ∧ (y.cls ≠ "java/lang/invoke/MethodHandle" ∧ y.cls ≠ "java/lang/invoke/VarHandle") ∧ (parseMethodDescriptor y.desc).map (fun d => d.parameters.length) = some na ∧ maxL ≤ 21
theorem og_Y.B {y : MethodName} {bytes : ByteArray} {maxL : Nat} {ret : Option FieldType} {na d d1 mc1 ms1 index : Nat} {own : String} {R : Room} {s : State} {args : Array Value} (hy : og_Y y bytes maxL ret na) (hts : ∀ w ∈ BW, w.before args s = true) (hlink : Cond.methodLink own index y ∈ BW) (hf : d + 12 ≤ R.frames) (hl : 40 * d + 200 ≤ R.locals) (hdd : d1 < d) :
    CallB R s args own index y bytes maxL ret (.code y bytes maxL ret :: BW) (og_R d1 mc1 ms1) mc1 ms1 na := by
  obtain ⟨h1, h2, h3, h4, h5⟩ := hy
  have hG : GoodIn BW (.code y bytes maxL ret :: BW) := fun w hw => (List.mem_cons.mp hw).elim (fun e => by rw [e]; exact og_good _ h2) (og_good w)
  refine ⟨rfl, rfl, by show d1 + 12 + 1 ≤ _; omega, by show 8 + (maxL + 11) + (40 * d1 + 200) ≤ _; omega, pay_in hts hG, List.mem_cons_self, hts _ h2, hts _ h1, h3, fun sig hs => ?_, hts _ hlink⟩
  rw [hs] at h4
  exact (Option.some.inj h4).symm
section OC
variable {E : og_E} {own : String} {cc : ByteArray} {d mc ms nL : Nat} {X : og_X} {Q : State → Prop} {cells slots n : Nat} {h : og_H} {pc : Nat} {lv : List (Option Value)} {st : List Value}
variable {y : MethodName} {bytes : ByteArray} {maxL : Nat} {ret : Option FieldType} {na d1 mc1 ms1 index : Nat} {As rest : List Value} {Po1 : Option Value → Nat → og_H → Prop} {Px1 : String → Nat → og_H → Prop}
theorem og_rest {E : og_E} (rest : List Value) : ((rest.map (og_rv E)).map fun v => v.category).sum = (rest.map fun v => v.category).sum := by
  rw [List.map_map]
  congr 1
  exact List.map_congr_left (fun v _ => og_rv_cat E v)
theorem og_vl (E : og_E) (v : Option Value) (rest : List Value) : (v.map (og_rv E)).toList ++ rest.map (og_rv E) = (v.toList ++ rest).map (og_rv E) := by cases v <;> rfl
theorem og_callS (hM : og_M E y (.code y bytes maxL ret) d1 As n h mc1 ms1 Po1 Px1) (hy : og_Y y bytes maxL ret na) (hys : Cond.static y ∈ BW) (hlink : Cond.methodLink own index y ∈ BW) (hd : decode cc pc = .ok (.invokestatic index, 3)) (hst : st = As.reverse ++ rest) (hna : As.length = na) (hcat : (rest.map fun v => v.category).sum ≤ 8) (hdd : d1 < d) (hmc : cells + mc1 ≤ mc) (hms : slots + ms1 ≤ ms)
    (kx : ∀ (En : String) (n1 : Nat) (h1 : og_H), Px1 En n1 h1 → False)
    (kk : ∀ (v : Option Value) (n1 : Nat) (h1 : og_H), Po1 v n1 h1 → og_G E own cc d mc ms nL X Q (cells + mc1) (slots + ms1) n1 h1 (pc + 3) lv (v.toList ++ rest)) : og_G E own cc d mc ms nL X Q cells slots n h pc lv st := by
  obtain ⟨p, l, e, R, s, m, args, below, meth, c⟩ := X
  intro C H locs ls hW hS hL
  subst hst
  have hts := C.2.2.2.2.1
  obtain ⟨hRf, hRl, hRc, hRs⟩ := C.2.2.2.2.2.2.2.2
  have cb := hy.B (d := d) (d1 := d1) (mc1 := mc1) (ms1 := ms1) hts hlink hRf hRl hdd
  have hSt := C.2.2.2.2.2.2.1
  refine og_back (Po := Po1) (Px := Px1) (rest := rest.map (og_rv E)) (vx_runS (As := As.map (og_rv E)) (rest := rest.map (og_rv E)) (Ts := BW) (nL := nL) ⟨C.1, C.2.1, C.2.2.1, C.2.2.2.1, hts⟩ (hM l C.2.2.2.2.2.2.2.1) ⟨cb, hts _ hys⟩ ⟨og_blind E _ n h, fun U hU hwm => og_pre As hW hS hSt hU hwm⟩ rfl (by rw [List.length_map]; exact hna) hL.1 (by simp [List.map_append, List.map_reverse, og_rv]) (lv_room (by rw [og_rest]; exact hcat)) hd ⟨by omega, by omega⟩) hS ?_ ?_
  · intro En ce q9 n1 h1 H1 locs1 hp
    exact (kx En n1 h1 hp).elim
  · intro v n1 h1 H1 locs1 hp hw hs1
    rw [og_vl]
    exact kk v n1 h1 hp C H1 locs1 ls hw hs1 hL
theorem og_callV {a ci : Nat} {fs : List Value} {r : vw_C} (hM : og_M E y (.code y bytes maxL ret) d1 (.ref a :: As) n h mc1 ms1 Po1 Px1) (hy : og_Y y bytes maxL ret na) (hyi : Cond.instanceMethod y ∈ BW) (hys : Cond.selects y.cls y y ∈ BW) (ha : h a = some (.inr (ci, fs))) (h3 : 3 ≤ a) (hc : og_cl[ci]? = some r) (hr : r.1 = y.cls) (hlink : Cond.methodLink own index y ∈ BW) (hd : decode cc pc = .ok (.invokevirtual index, 3)) (hst : st = As.reverse ++ .ref a :: rest) (hna : As.length = na) (hcat : (rest.map fun v => v.category).sum ≤ 8) (hdd : d1 < d) (hmc : cells + mc1 ≤ mc) (hms : slots + ms1 ≤ ms)
    (kx : ∀ (En : String) (n1 : Nat) (h1 : og_H), Px1 En n1 h1 → False)
    (kk : ∀ (v : Option Value) (n1 : Nat) (h1 : og_H), Po1 v n1 h1 → og_G E own cc d mc ms nL X Q (cells + mc1) (slots + ms1) n1 h1 (pc + 3) lv (v.toList ++ rest)) : og_G E own cc d mc ms nL X Q cells slots n h pc lv st := by
  obtain ⟨p, l, e, R, s, m, args, below, meth, c⟩ := X
  intro C H locs ls hW hS hL
  subst hst
  have hts := C.2.2.2.2.1
  obtain ⟨hRf, hRl, hRc, hRs⟩ := C.2.2.2.2.2.2.2.2
  have cb := hy.B (d := d) (d1 := d1) (mc1 := mc1) (ms1 := ms1) hts hlink hRf hRl hdd
  have hSt := C.2.2.2.2.2.2.1
  refine og_back (Po := Po1) (Px := Px1) (rest := rest.map (og_rv E)) (vx_runV (b := og_rho E a) (C := y.cls) (As := As.map (og_rv E)) (rest := rest.map (og_rv E)) (Ts := BW) (nL := nL) ⟨C.1, C.2.1, C.2.2.1, C.2.2.2.1, hts⟩ (hM l C.2.2.2.2.2.2.2.1) ⟨cb, hts _ hyi, hts _ hys⟩ ⟨og_blind E _ n h, by rw [← hr]; exact va_recv hSt.1 (og_P1 hW ha h3) hc (q0 := 0) rfl, fun U hU hwm => og_pre (.ref a :: As) hW hS hSt hU hwm⟩ rfl (by rw [List.length_map]; exact hna) hL.1 (by simp [List.map_append, List.map_reverse, og_rv]) (lv_room (by rw [og_rest]; exact hcat)) hd ⟨by omega, by omega⟩) hS ?_ ?_
  · intro En ce q9 n1 h1 H1 locs1 hp
    exact (kx En n1 h1 hp).elim
  · intro v n1 h1 H1 locs1 hp hw hs1
    rw [og_vl]
    exact kk v n1 h1 hp C H1 locs1 ls hw hs1 hL
theorem og_callSX {Po : Option Value → Nat → og_H → Prop} {Px : String → Nat → og_H → Prop} (hM : og_M E y (.code y bytes maxL ret) d1 As n h mc1 ms1 Po1 Px1) (hy : og_Y y bytes maxL ret na) (hys : Cond.static y ∈ BW) (hlink : Cond.methodLink own index y ∈ BW) (hd : decode cc pc = .ok (.invokestatic index, 3)) (hst : st = As.reverse ++ rest) (hna : As.length = na) (hcat : (rest.map fun v => v.category).sum ≤ 8) (hdd : d1 < d) (hmc : cells + mc1 ≤ mc) (hms : slots + ms1 ≤ ms)
    (htb : og_tb X = []) (hmcx : mc1 ≤ mc - cells ∧ cells ≤ mc) (hmsx : ms1 ≤ ms - slots ∧ slots ≤ ms) (kx : ∀ (En : String) (n1 : Nat) (h1 : og_H), Px1 En n1 h1 → Px En n1 h1)
    (kk : ∀ (v : Option Value) (n1 : Nat) (h1 : og_H), Po1 v n1 h1 → og_G E own cc d mc ms nL X (og_Q E Po Px mc ms X) (cells + mc1) (slots + ms1) n1 h1 (pc + 3) lv (v.toList ++ rest)) : og_G E own cc d mc ms nL X (og_Q E Po Px mc ms X) cells slots n h pc lv st := by
  obtain ⟨p, l, e, R, s, m, args, below, meth, c⟩ := X
  intro C H locs ls hW hS hL
  subst hst
  have hts := C.2.2.2.2.1
  obtain ⟨hRf, hRl, hRc, hRs⟩ := C.2.2.2.2.2.2.2.2
  have cb := hy.B (d := d) (d1 := d1) (mc1 := mc1) (ms1 := ms1) hts hlink hRf hRl hdd
  have hSt := C.2.2.2.2.2.2.1
  refine og_back (Po := Po1) (Px := Px1) (rest := rest.map (og_rv E)) (vx_runS (As := As.map (og_rv E)) (rest := rest.map (og_rv E)) (Ts := BW) (nL := nL) ⟨C.1, C.2.1, C.2.2.1, C.2.2.2.1, hts⟩ (hM l C.2.2.2.2.2.2.2.1) ⟨cb, hts _ hys⟩ ⟨og_blind E _ n h, fun U hU hwm => og_pre As hW hS hSt hU hwm⟩ rfl (by rw [List.length_map]; exact hna) hL.1 (by simp [List.map_append, List.map_reverse, og_rv]) (lv_room (by rw [og_rest]; exact hcat)) hd ⟨by omega, by omega⟩) hS ?_ ?_
  · intro En ce q9 n1 h1 H1 locs1 hp hw hs1 hce hcv hcl
    refine vx_out (fun x hx => ?_) C.2.2.2.2.2.1 hce hcv hcl (fun t ht hal => ⟨⟨n1, h1, kx En n1 h1 hp, by rw [ht]; exact hw.moved hal⟩, hs1.F ht⟩) hs1.2.2 hmc hms
    rw [show c.exceptionTable.toList = [] from htb] at hx
    cases hx
  · intro v n1 h1 H1 locs1 hp hw hs1
    rw [og_vl]
    exact kk v n1 h1 hp C H1 locs1 ls hw hs1 hL
theorem og_callVX {Po : Option Value → Nat → og_H → Prop} {Px : String → Nat → og_H → Prop} {a ci : Nat} {fs : List Value} {r : vw_C} (hM : og_M E y (.code y bytes maxL ret) d1 (.ref a :: As) n h mc1 ms1 Po1 Px1) (hy : og_Y y bytes maxL ret na) (hyi : Cond.instanceMethod y ∈ BW) (hys : Cond.selects y.cls y y ∈ BW) (ha : h a = some (.inr (ci, fs))) (h3 : 3 ≤ a) (hc : og_cl[ci]? = some r) (hr : r.1 = y.cls) (hlink : Cond.methodLink own index y ∈ BW) (hd : decode cc pc = .ok (.invokevirtual index, 3)) (hst : st = As.reverse ++ .ref a :: rest) (hna : As.length = na) (hcat : (rest.map fun v => v.category).sum ≤ 8) (hdd : d1 < d) (hmc : cells + mc1 ≤ mc) (hms : slots + ms1 ≤ ms)
    (htb : og_tb X = []) (hmcx : mc1 ≤ mc - cells ∧ cells ≤ mc) (hmsx : ms1 ≤ ms - slots ∧ slots ≤ ms) (kx : ∀ (En : String) (n1 : Nat) (h1 : og_H), Px1 En n1 h1 → Px En n1 h1)
    (kk : ∀ (v : Option Value) (n1 : Nat) (h1 : og_H), Po1 v n1 h1 → og_G E own cc d mc ms nL X (og_Q E Po Px mc ms X) (cells + mc1) (slots + ms1) n1 h1 (pc + 3) lv (v.toList ++ rest)) : og_G E own cc d mc ms nL X (og_Q E Po Px mc ms X) cells slots n h pc lv st := by
  obtain ⟨p, l, e, R, s, m, args, below, meth, c⟩ := X
  intro C H locs ls hW hS hL
  subst hst
  have hts := C.2.2.2.2.1
  obtain ⟨hRf, hRl, hRc, hRs⟩ := C.2.2.2.2.2.2.2.2
  have cb := hy.B (d := d) (d1 := d1) (mc1 := mc1) (ms1 := ms1) hts hlink hRf hRl hdd
  have hSt := C.2.2.2.2.2.2.1
  refine og_back (Po := Po1) (Px := Px1) (rest := rest.map (og_rv E)) (vx_runV (b := og_rho E a) (C := y.cls) (As := As.map (og_rv E)) (rest := rest.map (og_rv E)) (Ts := BW) (nL := nL) ⟨C.1, C.2.1, C.2.2.1, C.2.2.2.1, hts⟩ (hM l C.2.2.2.2.2.2.2.1) ⟨cb, hts _ hyi, hts _ hys⟩ ⟨og_blind E _ n h, by rw [← hr]; exact va_recv hSt.1 (og_P1 hW ha h3) hc (q0 := 0) rfl, fun U hU hwm => og_pre (.ref a :: As) hW hS hSt hU hwm⟩ rfl (by rw [List.length_map]; exact hna) hL.1 (by simp [List.map_append, List.map_reverse, og_rv]) (lv_room (by rw [og_rest]; exact hcat)) hd ⟨by omega, by omega⟩) hS ?_ ?_
  · intro En ce q9 n1 h1 H1 locs1 hp hw hs1 hce hcv hcl
    refine vx_out (fun x hx => ?_) C.2.2.2.2.2.1 hce hcv hcl (fun t ht hal => ⟨⟨n1, h1, kx En n1 h1 hp, by rw [ht]; exact hw.moved hal⟩, hs1.F ht⟩) hs1.2.2 hmc hms
    rw [show c.exceptionTable.toList = [] from htb] at hx
    cases hx
  · intro v n1 h1 H1 locs1 hp hw hs1
    rw [og_vl]
    exact kk v n1 h1 hp C H1 locs1 ls hw hs1 hL
theorem og_callI {a : Nat} (hM : og_M E y (.code y bytes maxL ret) d1 (.ref a :: As) n h mc1 ms1 Po1 Px1) (hy : og_Y y bytes maxL ret na) (hyi : Cond.instanceMethod y ∈ BW) (hnm : y.name = "<init>") (hret : ret = none) (hlink : Cond.methodLink own index y ∈ BW) (hd : decode cc pc = .ok (.invokespecial index, 3)) (hst : st = As.reverse ++ .ref a :: rest) (hna : As.length = na) (hcat : (rest.map fun v => v.category).sum ≤ 8) (hdd : d1 < d) (hmc : cells + mc1 ≤ mc) (hms : slots + ms1 ≤ ms)
    (kx : ∀ (En : String) (n1 : Nat) (h1 : og_H), Px1 En n1 h1 → False)
    (kk : ∀ (v : Option Value) (n1 : Nat) (h1 : og_H), Po1 v n1 h1 → og_G E own cc d mc ms nL X Q (cells + mc1) (slots + ms1) n1 h1 (pc + 3) lv (v.toList ++ rest)) : og_G E own cc d mc ms nL X Q cells slots n h pc lv st := by
  obtain ⟨p, l, e, R, s, m, args, below, meth, c⟩ := X
  intro C H locs ls hW hS hL
  subst hst
  have hts := C.2.2.2.2.1
  obtain ⟨hRf, hRl, hRc, hRs⟩ := C.2.2.2.2.2.2.2.2
  have cb := hy.B (d := d) (d1 := d1) (mc1 := mc1) (ms1 := ms1) hts hlink hRf hRl hdd
  have hSt := C.2.2.2.2.2.2.1
  refine og_back (Po := Po1) (Px := Px1) (rest := rest.map (og_rv E)) (vx_runI (b := og_rho E a) (As := As.map (og_rv E)) (rest := rest.map (og_rv E)) (Ts := BW) (nL := nL) ⟨C.1, C.2.1, C.2.2.1, C.2.2.2.1, hts⟩ (hM l C.2.2.2.2.2.2.2.1) ⟨by rw [← hret]; exact cb, hnm, hts _ hyi⟩ ⟨og_blind E _ n h, fun U hU hwm => og_pre (.ref a :: As) hW hS hSt hU hwm⟩ rfl (by rw [List.length_map]; exact hna) hL.1 (by simp [List.map_append, List.map_reverse, og_rv]) (lv_room (by rw [og_rest]; exact hcat)) hd ⟨by omega, by omega⟩) hS ?_ ?_
  · intro En ce q9 n1 h1 H1 locs1 hp
    exact (kx En n1 h1 hp).elim
  · intro v n1 h1 H1 locs1 hp hw hs1
    rw [og_vl]
    exact kk v n1 h1 hp C H1 locs1 ls hw hs1 hL
theorem og_callIN {a : Nat} {host : String} (hM : og_M E y (.code y bytes maxL none) d1 (.ref a :: As) n h mc1 ms1 Po1 Px1) (hy : og_Y y bytes maxL none na) (hyi : Cond.instanceMethod y ∈ BW) (hnm : y.name = "<init>") (hlink : ∀ U, og_U U → va_Nw (.methodLinkNest own index y host) U) (hd : decode cc pc = .ok (.invokespecial index, 3)) (hst : st = As.reverse ++ .ref a :: rest) (hna : As.length = na) (hcat : (rest.map fun v => v.category).sum ≤ 8) (hdd : d1 < d) (hmc : cells + mc1 ≤ mc) (hms : slots + ms1 ≤ ms)
    (kx : ∀ (En : String) (n1 : Nat) (h1 : og_H), Px1 En n1 h1 → False)
    (kk : ∀ (v : Option Value) (n1 : Nat) (h1 : og_H), Po1 v n1 h1 → og_G E own cc d mc ms nL X Q (cells + mc1) (slots + ms1) n1 h1 (pc + 3) lv (v.toList ++ rest)) : og_G E own cc d mc ms nL X Q cells slots n h pc lv st := by
  obtain ⟨p, l, e, R, s, m, args, below, meth, c⟩ := X
  intro C H locs ls hW hS hL
  subst hst
  have hts := C.2.2.2.2.1
  obtain ⟨hRf, hRl, hRc, hRs⟩ := C.2.2.2.2.2.2.2.2
  have hSt := C.2.2.2.2.2.2.1
  obtain ⟨g1, g2, g3, g4, g5⟩ := hy
  have hG : GoodIn BW (.code y bytes maxL none :: BW) := fun w hw => (List.mem_cons.mp hw).elim (fun e => by rw [e]; exact og_good _ g2) (og_good w)
  refine og_back (Po := Po1) (Px := Px1) (rest := rest.map (og_rv E)) (vx_runIN (b := og_rho E a) (host := host) (As := As.map (og_rv E)) (rest := rest.map (og_rv E)) (Ts := BW) (nL := nL) (n := na) ⟨C.1, C.2.1, C.2.2.1, C.2.2.2.1, hts⟩ (hM l C.2.2.2.2.2.2.2.1) ⟨va_cnB na hts hG rfl rfl rfl (hlink s hSt.2.2.2.2.2.2.2) (hts _ g1) ⟨g3.1, g3.2, g4⟩ ⟨by show d1 + 12 + 1 ≤ _; omega, by show 8 + (maxL + 11) + (40 * d1 + 200) ≤ _; omega⟩, hnm, hts _ hyi⟩ ⟨og_blind E _ n h, fun U hU hwm => og_pre (.ref a :: As) hW hS hSt hU hwm⟩ rfl (by rw [List.length_map]; exact hna) hL.1 (by simp [List.map_append, List.map_reverse, og_rv]) (lv_room (by rw [og_rest]; exact hcat)) hd ⟨by omega, by omega⟩) hS ?_ ?_
  · intro En ce q9 n1 h1 H1 locs1 hp
    exact (kx En n1 h1 hp).elim
  · intro v n1 h1 H1 locs1 hp hw hs1
    rw [og_vl]
    exact kk v n1 h1 hp C H1 locs1 ls hw hs1 hL
theorem og_objInit {a : Nat} (hlink : Cond.methodLink own index Lib.objectInit ∈ BW) (hinst : Cond.instanceMethod Lib.objectInit ∈ BW) (hcode : Cond.code Lib.objectInit ⟨#[0xb1]⟩ 1 none ∈ BW) (hd : decode cc pc = .ok (.invokespecial index, 3)) (hcat : (rest.map fun v => v.category).sum ≤ 8)
    (kk : og_G E own cc d mc ms nL X Q cells slots n h (pc + 3) lv rest) : og_G E own cc d mc ms nL X Q cells slots n h pc lv (.ref a :: rest) := by
  obtain ⟨p, l, e, R, s, m, args, below, meth, c⟩ := X
  intro C H locs ls hW hS hL
  have hts := C.2.2.2.2.1
  obtain ⟨hRf, hRl, hRc, hRs⟩ := C.2.2.2.2.2.2.2.2
  refine W.objInit (rest := rest.map (og_rv E)) C.1 C.2.1 C.2.2.2.1 (hts _ hlink) (hts _ hinst) (hts _ hcode) rfl (hL.1.trans C.2.2.1.symm) rfl hd (by omega) (by rw [og_rest]; show 2 * 0 + _ + 12 ≤ _; omega) ?_
  exact kk C H locs ls hW hS hL
theorem og_Wd.grow {E : og_E} {s t : State} {n : Nat} {h : og_H} {H : Heap} (w : og_Wd E s n h H) (hal : s.vm.Alike t.vm) (hz : H.size ≤ t.heap.size) (oq : ∀ q : Nat, q < H.size → t.heap[q]? = H[q]?) : ∃ n1, n ≤ n1 ∧ og_Wd E t n1 h t.heap := by
  refine ⟨n + (t.heap.size - H.size), by omega, ?_⟩
  have w2 := w.moved hal
  refine ⟨by have := w.1; omega, by have := w.2.1; omega, fun a e ha => ⟨by have := (w2.2.2 a e ha).1; omega, fun h3 => ((w2.2.2 a e ha).2.1 h3).kept (oq _ ((w2.2.2 a e ha).2.1 h3).lt), fun h3 => ((w2.2.2 a e ha).2.2 h3).kept (fun q _ hq => oq q hq)⟩⟩
/-- 'throw new E("text")' -/
def og_T (own cls : String) (ik ic : Nat) (names : List String) : Prop := Bundle.fit cls = true ∧ (∀ n ∈ names, Bundle.fit n = true) ∧ Cond.classLink own ik cls ∈ BW ∧ Cond.initialized cls ∈ BW ∧ (∀ w ∈ vx_atS own ic cls names, w ∈ BW ∨ w ∈ og_NG) ∧ names.length ≤ 4
theorem og_throw {Po : Option Value → Nat → og_H → Prop} {Px : String → Nat → og_H → Prop} {cls text : String} {ik is ic : Nat} {names : List String} (hT : og_T own cls ik ic names) (hstr : (own, is, text) ∈ og_strs) (htb : og_tb X = [])
    (d0 : decode cc pc = .ok (.new ik, 3)) (d3 : decode cc (pc + 3) = .ok (.dup, 1)) (d4 : decode cc (pc + 4) = .ok (.ldc is, 2)) (d6 : decode cc (pc + 6) = .ok (.invokespecial ic, 3)) (d9 : decode cc (pc + 9) = .ok (.athrow, 1)) (hcat : (st.map fun v => v.category).sum ≤ 8) (hmc : cells + 1 ≤ mc) (hms : slots + 6 ≤ ms)
    (hp : ∀ n1, n ≤ n1 → Px cls n1 h) : og_G E own cc d mc ms nL X (og_Q E Po Px mc ms X) cells slots n h pc lv st := by
  obtain ⟨p, l, e, R, s, m, args, below, meth, c⟩ := X
  intro C H locs ls hW hS hL
  obtain ⟨t1, t2, t3, t4, t5, t6⟩ := hT
  have hts := C.2.2.2.2.1
  obtain ⟨hRf, hRl, hRc, hRs⟩ := C.2.2.2.2.2.2.2.2
  have hSt := C.2.2.2.2.2.2.1
  obtain ⟨sa, hsa⟩ := hSt.2.2.2.2.2.1 _ hstr
  have hot : ∀ w : Cond, w ∈ BW → vx_ot w = true := fun w hw => by
    have := (List.mem_filter.mp hw).2
    unfold vx_ot
    rw [this, Bool.or_true]
  refine vx_throwS (sa := sa) (text := text) (names := names) C.1 C.2.1 C.2.2.2.2.2.2.2.1 C.2.2.2.1 t1 t2 (hts _ t3) (hts _ t4) hsa (fun w hw => (t5 w hw).elim (fun z => hts _ z) (fun z => (hSt.2.2.2.2.2.2.2.ng z).1)) (fun w hw => ?_) hSt.2.2.2.1 hSt.2.2.2.2.1 hS (hL.1.trans C.2.2.1.symm) d0 d3 d4 d6 d9 (fun x hx => ?_) (by omega) (by rw [og_rest]; omega) (by omega) (by omega) C.2.2.2.2.2.1 (fun t hal hz oq => ?_) hS.2.2 hmc hms
  · rcases List.mem_cons.mp hw with e | hw
    · rw [e]; exact hot _ t3
    · rcases List.mem_cons.mp hw with e | hw
      · rw [e]; exact hot _ t4
      · rcases t5 w hw with z | z
        · exact hot _ z
        · have := (hSt.2.2.2.2.2.2.2.ng (args := args) z).2
          unfold vx_ot
          rw [this, Bool.true_or]
  · rw [show c.exceptionTable.toList = [] from htb] at hx
    cases hx
  · obtain ⟨n1, hn1, w1⟩ := hW.grow hal hz oq
    exact ⟨⟨n1, h, hp n1 hn1, w1⟩, ⟨Nat.le_trans hS.1 hz, fun q h1 h2 => (oq q (Nat.lt_of_lt_of_le h1 hS.1)).trans (hS.2.1 q h1 h2)⟩⟩
theorem og_throwW {Po : Option Value → Nat → og_H → Prop} {Px : String → Nat → og_H → Prop} {cls text : String} {ik is ic : Nat} {names : List String} (hT : og_T own cls ik ic names) (hstr : (own, is, text) ∈ og_strs) (htb : og_tb X = [])
    (d0 : decode cc pc = .ok (.new ik, 3)) (d3 : decode cc (pc + 3) = .ok (.dup, 1)) (d4 : decode cc (pc + 4) = .ok (.ldc_w is, 3)) (d7 : decode cc (pc + 7) = .ok (.invokespecial ic, 3)) (d10 : decode cc (pc + 10) = .ok (.athrow, 1)) (hcat : (st.map fun v => v.category).sum ≤ 8) (hmc : cells + 1 ≤ mc) (hms : slots + 6 ≤ ms)
    (hp : ∀ n1, n ≤ n1 → Px cls n1 h) : og_G E own cc d mc ms nL X (og_Q E Po Px mc ms X) cells slots n h pc lv st := by
  obtain ⟨p, l, e, R, s, m, args, below, meth, c⟩ := X
  intro C H locs ls hW hS hL
  obtain ⟨t1, t2, t3, t4, t5, t6⟩ := hT
  have hts := C.2.2.2.2.1
  obtain ⟨hRf, hRl, hRc, hRs⟩ := C.2.2.2.2.2.2.2.2
  have hSt := C.2.2.2.2.2.2.1
  obtain ⟨sa, hsa⟩ := hSt.2.2.2.2.2.1 _ hstr
  have hot : ∀ w : Cond, w ∈ BW → vx_ot w = true := fun w hw => by
    have := (List.mem_filter.mp hw).2
    unfold vx_ot
    rw [this, Bool.or_true]
  refine vx_throwSW (sa := sa) (text := text) (names := names) C.1 C.2.1 C.2.2.2.2.2.2.2.1 C.2.2.2.1 t1 t2 (hts _ t3) (hts _ t4) hsa (fun w hw => (t5 w hw).elim (fun z => hts _ z) (fun z => (hSt.2.2.2.2.2.2.2.ng z).1)) (fun w hw => ?_) hSt.2.2.2.1 hSt.2.2.2.2.1 hS (hL.1.trans C.2.2.1.symm) d0 d3 d4 d7 d10 (fun x hx => ?_) (by omega) (by rw [og_rest]; omega) (by omega) (by omega) C.2.2.2.2.2.1 (fun t hal hz oq => ?_) hS.2.2 hmc hms
  · rcases List.mem_cons.mp hw with e | hw
    · rw [e]; exact hot _ t3
    · rcases List.mem_cons.mp hw with e | hw
      · rw [e]; exact hot _ t4
      · rcases t5 w hw with z | z
        · exact hot _ z
        · have := (hSt.2.2.2.2.2.2.2.ng (args := args) z).2
          unfold vx_ot
          rw [this, Bool.true_or]
  · rw [show c.exceptionTable.toList = [] from htb] at hx
    cases hx
  · obtain ⟨n1, hn1, w1⟩ := hW.grow hal hz oq
    exact ⟨⟨n1, h, hp n1 hn1, w1⟩, ⟨Nat.le_trans hS.1 hz, fun q h1 h2 => (oq q (Nat.lt_of_lt_of_le h1 hS.1)).trans (hS.2.1 q h1 h2)⟩⟩
end OC
