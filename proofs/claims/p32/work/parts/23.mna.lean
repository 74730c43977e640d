/-! ===== new long[N][K] ===== -/
def og_zrow (K : Nat) : og_N := .inl (2, K, .inr (.inl (fun _ => 0)))
def og_mh (h : og_H) (n N K : Nat) : og_H := fun a => if a = n then some (og_grid n N) else if n < a ∧ a < n + 1 + N then some (og_zrow K) else h a
section OM
variable {E : og_E} {own : String} {cc : ByteArray} {d mc ms nL : Nat} {X : og_X} {Q : State → Prop} {cells slots n : Nat} {h : og_H} {pc : Nat} {lv : List (Option Value)} {st : List Value}
set_option maxHeartbeats 1000000 in
theorem og_mna {index : Nat} (N K : Nat) {i k : Int32} (hw : Cond.classLink own index "[[J" ∈ BW) (hac : Cond.arrayClass .long ∈ BW) (hd : decode cc pc = .ok (.multianewarray index 2, 4)) (hi : ¬ i < 0) (hk : ¬ k < 0) (hN : i.toNatClampNeg = N) (hK : k.toNatClampNeg = K) (hb1 : N * 4 ≤ 536870912) (hb2 : K * 8 ≤ 536870912) (hcells : cells + (1 + N) ≤ mc) (hslots : slots + (N + N * K) ≤ ms)
    (kk : og_G E own cc d mc ms nL X Q (cells + 1 + N) (slots + N + N * K) (n + 1 + N) (og_mh h n N K) (pc + 4) lv (.ref n :: st)) : og_G E own cc d mc ms nL X Q cells slots n h pc lv (.int k :: .int i :: st) := by
  obtain ⟨p, l, e, R, s, m, args, below, meth, c⟩ := X
  intro C H locs ls hW hS hL
  have hts := C.2.2.2.2.1
  have hSt := C.2.2.2.2.2.2.1
  obtain ⟨-, -, hRc, hRs⟩ := C.2.2.2.2.2.2.2.2
  subst hN
  subst hK
  have hA6 := (hSt.1.2 6 _ (og_tyAt E (by decide))).2
  have hA2 := (hSt.1.2 2 _ (og_tyAt E (by decide))).2
  intro T hT Xs
  obtain ⟨vm₁, cA, comp, -, fA, fC, hO, -, X', step⟩ := Jvm.Stand.multianewarray2F Xs C.1 (ty := .long) C.2.2.2.1 (hts _ hw) hSt.2.2.2.2.2.2.2.2.2.1 (hts _ hac) (g := F0 m pc ls (.int k :: .int i :: st.map (og_rv E))) rfl (by rw [C.2.1]; exact hd) rfl hi hk hb1 hb2 (by omega) rfl rfl (by omega) (by omega)
  have e6 : s.vm.findClass ("[" ++ (FieldType.array .long).toString) = some (E.2.2.1 6) := hA6
  have e2 : s.vm.findClass ("[" ++ FieldType.long.toString) = some (E.2.2.1 2) := hA2
  have ec : comp = E.2.2.1 2 := Option.some.inj (fC.symm.trans e2)
  have ea : cA = E.2.2.1 6 := Option.some.inj (fA.symm.trans e6)
  subst ec
  subst ea
  generalize hF : Jvm.Free.Multi.fill (T.setVm vm₁) (E.2.2.1 6) (E.2.2.1 2) i.toNatClampNeg k.toNatClampNeg (defaultValue .long) i.toNatClampNeg = F at X' step
  have hTh : (T.setVm vm₁).heap = H := hT
  obtain ⟨f1, f2, -, -⟩ := Jvm.Free.Multi.fill_facts (T.setVm vm₁) (E.2.2.1 6) (E.2.2.1 2) i.toNatClampNeg k.toNatClampNeg (defaultValue .long) i.toNatClampNeg
  rw [hF, hTh] at f1 f2
  have hold : ∀ x : Nat, x < H.size → F.heap[x]? = H[x]? := fun x hx => by
    have := Jvm.Free.Multi.fill_old (T.setVm vm₁) (E.2.2.1 6) (E.2.2.1 2) i.toNatClampNeg k.toNatClampNeg (defaultValue .long) (a := x) (by rw [hTh]; exact hx) i.toNatClampNeg
    rw [hF, hTh] at this
    exact this
  have hrow : ∀ j : Nat, j < i.toNatClampNeg → F.heap[H.size + 1 + j]? = some (arrV (E.2.2.1 2) k.toNatClampNeg (fun _ => .long 0)) := fun j hj => by
    have := Jvm.Free.Multi.fill_inner (T.setVm vm₁) (E.2.2.1 6) (E.2.2.1 2) i.toNatClampNeg k.toNatClampNeg (defaultValue .long) i.toNatClampNeg j hj
    rw [hF, hTh] at this
    rw [this]
    exact congrArg some (arrV_new _ _ _)
  have hsz := hW.1
  have h3 := hW.2.1
  have hr : ∀ j, H.size + j = og_rho E (n + j) := fun j => by rw [og_rho3 E (by omega)]; omega
  have hout : ∀ t : Nat, Jvm.Free.Multi.outerC (E.2.2.1 6) i.toNatClampNeg H.size t = arrV (E.2.2.1 6) i.toNatClampNeg (fun j => va_rf ((if j < t then some (n + 1 + j) else none).map (og_rho E))) := by
    intro t
    induction t with
    | zero =>
      show ({ cls := E.2.2.1 6, slots := Array.replicate i.toNatClampNeg .null, vm := .none } : Cell) = _
      rw [arrV_new]
      refine congrArg (arrV (E.2.2.1 6) i.toNatClampNeg) (funext fun j => ?_)
      simp [va_rf]
    | succ t ih =>
      show (Jvm.Free.Multi.outerC (E.2.2.1 6) i.toNatClampNeg H.size t).setSlot t (.ref (H.size + 1 + t)) = _
      rw [ih, arrV_store]
      refine congrArg (arrV (E.2.2.1 6) i.toNatClampNeg) (funext fun j => ?_)
      by_cases e : j = t
      · subst e
        have hq : H.size + 1 + j = og_rho E (n + 1 + j) := by rw [og_rho3 E (by omega)]; omega
        simp [updV, va_rf, hq]
      · by_cases h : j < t
        · simp [updV, e, h, Nat.lt_succ_of_lt h]
        · simp [updV, e, h, show ¬ j < t + 1 by omega]
  rw [hout] at f2
  have w2 : og_Wd E s (n + 1 + i.toNatClampNeg) (og_mh h n i.toNatClampNeg k.toNatClampNeg) F.heap := by
    refine ⟨by omega, by omega, fun a e0 ha => ?_⟩
    unfold og_mh at ha
    by_cases h1 : a = n
    · rw [if_pos h1] at ha
      cases ha
      subst h1
      refine ⟨by omega, fun _ => ?_, fun z => absurd z (by omega)⟩
      show F.heap[og_rho E a]? = some (vp_cell _ _)
      have := hr 0
      rw [Nat.add_zero, Nat.add_zero] at this
      rw [← this]
      exact f2
    · rw [if_neg h1] at ha
      by_cases h2 : n < a ∧ a < n + 1 + i.toNatClampNeg
      · rw [if_pos h2] at ha
        cases ha
        refine ⟨by omega, fun _ => ?_, fun z => absurd z (by omega)⟩
        show F.heap[og_rho E a]? = some (vp_cell _ _)
        have := hrow (a - n - 1) (by omega)
        rw [show H.size + 1 + (a - n - 1) = og_rho E a by rw [og_rho3 E (by omega)]; omega] at this
        exact this
      · rw [if_neg h2] at ha
        obtain ⟨w1, w3, w4⟩ := hW.2.2 a e0 ha
        exact ⟨by omega, fun z => (w3 z).kept (hold _ (w3 z).lt), fun z => (w4 z).kept (fun x _ hx => hold x hx)⟩
  have k2 := kk C F.heap locs ls w2 (og_S.grow hS (by omega) hold) hL
  obtain ⟨t, a1, b1⟩ := k2 F rfl X'
  refine ⟨t, step t ?_, b1⟩
  have e : T.heap.size = og_rho E n := by
    have := hr 0
    rw [Nat.add_zero, Nat.add_zero] at this
    rw [hT, this]
  rw [e]
  exact a1
end OM
