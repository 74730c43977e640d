/-! ===== the abstract world: cells by numbers from 3 on (the real address is the base and the number less 3); 0 the script, 1 TRIPLES, 2 SETS ===== -/
def BW : List Cond := lw_tbl.filter goodWord
theorem og_in {w : Cond} (i : Nat) (h : lw_tbl[i]? = some w) (hg : goodWord w = true) : w ∈ BW := List.mem_filter.mpr ⟨List.mem_of_getElem? h, hg⟩
theorem og_good : GoodIn BW BW := fun w h => ⟨h, good_of_word (List.mem_filter.mp h).2⟩
abbrev og_N : Type := (Nat × vp_A) ⊕ (Nat × List Value)
abbrev og_H : Type := Nat → Option og_N
def og_set (h : og_H) (a : Nat) (e : og_N) : og_H := fun q => if q = a then some e else h q
theorem og_set_eq (h : og_H) (a : Nat) (e : og_N) : og_set h a e a = some e := if_pos rfl
theorem og_set_ne (h : og_H) {a q : Nat} (e : og_N) (hq : q ≠ a) : og_set h a e q = h q := if_neg hq
abbrev og_E : Type := (Nat → ClassId) × (Nat → Nat → Nat) × (Nat → ClassId) × Nat × Nat × Nat × Nat
def og_b (E : og_E) : Nat := E.2.2.2.1
def og_rho (E : og_E) (a : Nat) : Nat := if a = 0 then E.2.2.2.2.1 else if a = 1 then E.2.2.2.2.2.1 else if a = 2 then E.2.2.2.2.2.2 else og_b E + (a - 3)
theorem og_rho3 (E : og_E) {a : Nat} (h : 3 ≤ a) : og_rho E a = og_b E + (a - 3) := by
  unfold og_rho
  rw [if_neg (by omega), if_neg (by omega), if_neg (by omega)]
def og_rv (E : og_E) : Value → Value
  | .ref a => .ref (og_rho E a)
  | v => v
theorem og_rv_cat (E : og_E) (v : Value) : (og_rv E v).category = v.category := by cases v <;> rfl
def og_ct (E : og_E) : vp_A → vp_A
  | (n, .inl f) => (n, .inl f)
  | (n, .inr (.inl f)) => (n, .inr (.inl f))
  | (n, .inr (.inr (.inl f))) => (n, .inr (.inr (.inl f)))
  | (n, .inr (.inr (.inr (.inl f)))) => (n, .inr (.inr (.inr (.inl f))))
  | (n, .inr (.inr (.inr (.inr f)))) => (n, .inr (.inr (.inr (.inr (fun i => (f i).map (og_rho E))))))
def og_cn (E : og_E) : og_N → va_E
  | .inl (k, x) => .inl (E.2.2.1 k, og_ct E x)
  | .inr (c, fs) => .inr (c, fs.map (og_rv E))
def og_ty : Nat → FieldType
  | 0 => .byte
  | 1 => .int
  | 2 => .long
  | 3 => .int
  | 4 => .object RX4
  | 5 => .object RX6
  | _ => .array .long
def og_tys (E : og_E) : List (ClassId × FieldType) := (List.range 7).map (fun k => (E.2.2.1 k, og_ty k))
theorem og_tyAt (E : og_E) {k : Nat} (h : k < 7) : (og_tys E)[k]? = some (E.2.2.1 k, og_ty k) := by
  unfold og_tys
  rw [List.getElem?_map, List.getElem?_range h]
  rfl
def og_cl : List vw_C := [(RX0, TX0, 7), (RX1, TX1, 9), (RX4, TX4, 4), (RX5, TX5, 3), (RX6, TX6, 2), (RX7, TX7, 10)]
abbrev og_D (E : og_E) : va_G := (E.1, E.2.1)
def og_A (E : og_E) : Nat → Prop := fun q => og_b E ≤ q
/-- a fixed array of ints below the base -/
def og_ro (E : og_E) (U : State) (a : Nat) (e : og_N) (H : Heap) : Prop := ∃ (n : Nat) (f : Nat → Int32) (cell : Cell), e = .inl (1, n, .inl f) ∧ H[og_rho E a]? = some cell ∧ og_rho E a < og_b E ∧ U.isArrayOf cell .int ∧ cell.vm ≠ .unknown ∧ n ≤ cell.slots.size ∧ cell.slots.size.toInt32 = Int32.ofNat n ∧ ∀ j, j < n → cell.slots[j]? = some (.int (f j))
def og_at (E : og_E) (U : State) (a : Nat) (e : og_N) (H : Heap) : Prop := (3 ≤ a → va_at (og_D E) og_cl (og_rho E a, og_cn E e) H) ∧ (a < 3 → og_ro E U a e H)
def og_Wd (E : og_E) (U : State) (n : Nat) (h : og_H) (H : Heap) : Prop := H.size + 3 = og_b E + n ∧ 3 ≤ n ∧ ∀ a e, h a = some e → a < n ∧ og_at E U a e H
theorem og_ro.moved {E : og_E} {u U : State} {a : Nat} {e : og_N} {H : Heap} (hvm : u.vm.Alike U.vm) (h : og_ro E u a e H) : og_ro E U a e H := by
  obtain ⟨n, f, cell, h1, h2, h3, h4, h5⟩ := h
  exact ⟨n, f, cell, h1, h2, h3, State.isArrayOf_alike hvm h4, h5⟩
theorem og_Wd.moved {E : og_E} {u U : State} {n : Nat} {h : og_H} {H : Heap} (hvm : u.vm.Alike U.vm) (w : og_Wd E u n h H) : og_Wd E U n h H :=
  ⟨w.1, w.2.1, fun a e he => ⟨(w.2.2 a e he).1, (w.2.2 a e he).2.1, fun ha => ((w.2.2 a e he).2.2 ha).moved hvm⟩⟩
theorem og_ro.kept {E : og_E} {U : State} {a : Nat} {e : og_N} {H H1 : Heap} (h : og_ro E U a e H) (hk : ∀ q : Nat, q < og_b E → q < H.size → H1[q]? = H[q]?) : og_ro E U a e H1 := by
  obtain ⟨n, f, cell, h1, h2, h3, h4⟩ := h
  exact ⟨n, f, cell, h1, by rw [hk _ h3 (Array.getElem?_eq_some_iff.mp h2).1]; exact h2, h3, h4⟩
/-- one cell has changed -/
theorem og_Wd.put {E : og_E} {U : State} {n : Nat} {h : og_H} {H H1 : Heap} {a : Nat} {e : og_N} (w : og_Wd E U n h H) (ha : 3 ≤ a) (hn : a < n) (hz : H1.size = H.size) (he : va_at (og_D E) og_cl (og_rho E a, og_cn E e) H1) (oq : ∀ q : Nat, q ≠ og_rho E a → H1[q]? = H[q]?) : og_Wd E U n (og_set h a e) H1 := by
  have ra := og_rho3 E ha
  refine ⟨by rw [hz]; exact w.1, w.2.1, fun q e' hq => ?_⟩
  by_cases hqa : q = a
  · subst hqa
    rw [og_set_eq] at hq
    cases hq
    exact ⟨hn, fun _ => he, fun h3 => absurd h3 (by omega)⟩
  · rw [og_set_ne _ _ hqa] at hq
    obtain ⟨w1, w2, w3⟩ := w.2.2 q e' hq
    refine ⟨w1, fun h3 => (w2 h3).kept (oq _ ?_), fun h3 => (w3 h3).kept (fun x hx _ => oq x (by rw [ra]; omega))⟩
    rw [og_rho3 E h3, ra]
    omega
/-- a cell is new -/
theorem og_Wd.push {E : og_E} {U : State} {n : Nat} {h : og_H} {H H1 : Heap} {e : og_N} (w : og_Wd E U n h H) (hz : H1.size = H.size + 1) (he : va_at (og_D E) og_cl (H.size, og_cn E e) H1) (oq : ∀ q : Nat, q < H.size → H1[q]? = H[q]?) : og_Wd E U (n + 1) (og_set h n e) H1 ∧ H.size = og_rho E n := by
  have hr : H.size = og_rho E n := by
    rw [og_rho3 E w.2.1]
    have := w.1
    have := w.2.1
    omega
  refine ⟨⟨by have := w.1; omega, by have := w.2.1; omega, fun q e' hq => ?_⟩, hr⟩
  by_cases hqa : q = n
  · subst hqa
    rw [og_set_eq] at hq
    cases hq
    exact ⟨Nat.lt_succ_self _, fun _ => by rw [← hr]; exact he, fun h3 => absurd h3 (by have := w.2.1; omega)⟩
  · rw [og_set_ne _ _ hqa] at hq
    obtain ⟨w1, w2, w3⟩ := w.2.2 q e' hq
    refine ⟨by omega, fun h3 => (w2 h3).kept (oq _ (w2 h3).lt), fun h3 => (w3 h3).kept (fun x _ hx => oq x hx)⟩
def og_strs : List (String × Nat × String) := [(RX7, 193, "no such value"), (RX7, 270, "no such register"), (RX7, 272, "no such coordinate"), (RX7, 274, "halves out of range"), (RX7, 88, "no such order"), (RX7, 102, "no such unit"), (RX7, 278, "the result cannot be put into a register"), (RX7, 144, "quotient and remainder are the same register"), (RX7, 288, "not in the present order, or the divisor is 0")]
def og_exc : List String := ["java/lang/IndexOutOfBoundsException", "java/lang/IllegalArgumentException", "java/lang/IllegalStateException", "java/lang/ArithmeticException"]
def og_dec : List MethodName := [⟨"java/lang/RuntimeException", "<init>", "()V"⟩, ⟨"java/lang/RuntimeException", "<init>", "(Ljava/lang/String;)V"⟩, ⟨"java/lang/Exception", "<init>", "()V"⟩, ⟨"java/lang/Exception", "<init>", "(Ljava/lang/String;)V"⟩, ⟨"java/lang/Throwable", "<init>", "()V"⟩, ⟨"java/lang/Throwable", "<init>", "(Ljava/lang/String;)V"⟩, ⟨"java/lang/IndexOutOfBoundsException", "<init>", "()V"⟩, ⟨"java/lang/IndexOutOfBoundsException", "<init>", "(Ljava/lang/String;)V"⟩]
def og_NG : List Cond := og_dec.map Cond.declares ++ og_exc.map (fun c => Cond.castable c c)
def og_AOA (U : State) : Prop := (Cond.arrayOver (.array .long)).before #[] U = true
/-- what the tables alone say, beside the good words -/
def og_U (U : State) : Prop := va_AO RX4 U ∧ va_AO RX6 U ∧ og_AOA U ∧ va_Nw (.methodLinkNest RX7 32 yX1_init RX7) U ∧ va_Nw (.methodLinkNest RX7 39 yX5_init RX7) U ∧ (∀ c ∈ og_exc, va_Nw (.castable c c) U) ∧ (∀ c ∈ og_exc, ∀ c2 ∈ og_exc, c ≠ c2 → va_Nc c c2 U) ∧ (∀ y ∈ og_dec, va_Nw (.declares y) U)
theorem og_idx_bare (vm : Vm) (comp : ClassId) : (vm.bare.classes.findIdx? fun (x : Class) => match x.kind with | .array component _ => component == comp | _ => false) = (vm.classes.findIdx? fun (x : Class) => match x.kind with | .array component _ => component == comp | _ => false) := by
  simp only [Vm.bare, Array.findIdx?_map]
  rfl
theorem og_AOA.spec {s : State} (h : og_AOA s) :
    ∃ comp c k, s.vm.findClass (FieldType.array .long).toString = some comp ∧ (s.vm.classes.findIdx? fun (x : Class) => match x.kind with | .array component _ => component == comp | _ => false) = some c ∧ s.vm.classes[c]? = some k ∧ k.kind = .array comp (.array .long) ∧ s.vm.findClass ("[" ++ (FieldType.array .long).toString) = some c := by
  simp only [og_AOA, Cond.before, Cond.holds, Cond.value, beq_iff_eq] at h
  cases hc : s.vm.findClass (FieldType.array .long).toString with
  | none => simp [hc] at h
  | some comp =>
    simp only [hc, Option.bind_some, Option.bind_eq_some_iff, Option.map_eq_some_iff] at h
    obtain ⟨c, hi, k, hk, hb⟩ := h
    obtain ⟨hlt, hp, -⟩ := Array.findIdx?_eq_some_iff_getElem.mp hi
    have hkk : s.vm.classes[c] = k := (Array.getElem?_eq_some_iff.mp hk).2
    rw [hkk] at hp
    cases hkind : k.kind with
    | array component ty =>
      rw [hkind] at hb hp
      simp at hb hp
      exact ⟨comp, c, k, rfl, hi, hk, by rw [hkind, hp, hb.1], hb.2⟩
    | _ => rw [hkind] at hb; simp at hb
theorem og_AOA.moved {u U : State} (hvm : u.vm.Alike U.vm) (h : og_AOA u) : og_AOA U := by
  obtain ⟨comp, c, k, h1, h2, h3, h4, h5⟩ := h.spec
  obtain ⟨k', hk', he⟩ := hvm.2.2 _ _ h3
  have hi : (U.vm.classes.findIdx? fun (x : Class) => match x.kind with | .array component _ => component == comp | _ => false) = some c := by
    rw [← og_idx_bare]
    first | rw [hvm.bare_eq] | rw [← hvm.bare_eq]
    rw [og_idx_bare]
    exact h2
  have hkind : k'.kind = .array comp (.array .long) := by rw [he]; exact h4
  have f1 : U.vm.findClass (FieldType.array .long).toString = some comp := by rw [hvm.findClass]; exact h1
  have f2 : U.vm.findClass ("[" ++ (FieldType.array .long).toString) = some c := by rw [hvm.findClass]; exact h5
  unfold og_AOA Cond.before Cond.holds
  simp only [Cond.value]
  rw [f1, Option.bind_some]
  refine (congrArg (fun o : Option Nat => (o.bind (fun c => (U.vm.classes[c]?).map fun (k : Class) => match k.kind with | .array _ ty => decide (ty = FieldType.array .long) && decide (U.vm.findClass ("[" ++ (FieldType.array .long).toString) = some c) | _ => false) == some true)) hi).trans ?_
  simp [hk', hkind, f2]
theorem og_U.warm {u U : State} (hW : u.WarmedH U.vm) (h : og_U u) : og_U U := by
  obtain ⟨h1, h2, h3, h4, h5, h6, h7, h8⟩ := h
  exact ⟨va_AO.moved hW.alike h1, va_AO.moved hW.alike h2, og_AOA.moved hW.alike h3, va_Nw.warmM hW h4, va_Nw.warmM hW h5, fun c hc => va_Nw.warmC hW (h6 c hc), fun c hc c2 hc2 hn => va_Nc.moved hW.alike (h7 c hc c2 hc2 hn), fun y hy => va_Nw.warmD hW (h8 y hy)⟩
theorem og_U.ng {U : State} (h : og_U U) {args : Array Value} {w : Cond} (hw : w ∈ og_NG) : w.before args U = true ∧ w.onTables = true := by
  rcases List.mem_append.mp hw with hw | hw
  · obtain ⟨y, hy, rfl⟩ := List.mem_map.mp hw
    exact ⟨va_Nw.use rfl (h.2.2.2.2.2.2.2 y hy), rfl⟩
  · obtain ⟨y, hy, rfl⟩ := List.mem_map.mp hw
    exact ⟨va_Nw.use rfl (h.2.2.2.2.2.1 y hy), rfl⟩
/-- what stands below the base, and what the tables say -/
def og_St (E : og_E) (U : State) (H : Heap) : Prop := va_K (og_D E) og_cl (og_tys E) U ∧ va_Z RX3 "TRIPLES" "[I" (.ref (og_rho E 1)) (og_A E) U H ∧ va_Z RX2 "SETS" "[I" (.ref (og_rho E 2)) (og_A E) U H ∧
  vx_Zq Bundle.tN "UNASSIGNED_STACK" Bundle.steD (og_A E) U H ∧ vx_Zq Bundle.tN "SUPPRESSED_SENTINEL" Bundle.listD (og_A E) U H ∧ (∀ q ∈ og_strs, ∃ sa : Nat, vk_R q.1 q.2.1 q.2.2 sa U) ∧ og_b E ≤ H.size ∧ og_U U
theorem og_St.to {E : og_E} {u U : State} {H H1 : Heap} (hW : u.WarmedH U.vm) (hk : ∀ q : Nat, q < H.size → ¬ og_A E q → H1[q]? = H[q]?) (hz : H.size ≤ H1.size) (h : og_St E u H) : og_St E U H1 := by
  obtain ⟨h1, h2, h3, h4, h5, h6, h7, h8⟩ := h
  exact ⟨va_K.moved hW.alike h1, (va_Z.moved hW.alike h2).kept hk, (va_Z.moved hW.alike h3).kept hk, (vx_Zq.moved hW.alike h4).kept hk, (vx_Zq.moved hW.alike h5).kept hk, fun q hq => by
    obtain ⟨sa, hs⟩ := h6 q hq
    exact ⟨sa, vk_R.warm hW hs⟩, Nat.le_trans h7 hz, h8.warm hW⟩
/-- the locals: by their places; none: nothing is said -/
def og_L (E : og_E) (ls : Array Slot) (nL : Nat) (lv : List (Option Value)) : Prop := ls.size = nL ∧ lv.length = nL ∧ lv_wf ls ∧ ∀ (i : Nat) (v : Value), lv[i]? = some (some v) → ls[i]? = some (.val (og_rv E v))
def og_list (E : og_E) : Nat → List (Option Value) → List (Nat × Value)
  | _, [] => []
  | k, none :: r => og_list E (k + 1) r
  | k, some v :: r => (k, og_rv E v) :: og_list E (k + 1) r
theorem og_list_mem (E : og_E) : ∀ (lv : List (Option Value)) (k i : Nat) (v : Value), lv[i]? = some (some v) → (k + i, og_rv E v) ∈ og_list E k lv
  | [], _, _, _, h => by simp at h
  | none :: r, k, 0, v, h => by simp at h
  | none :: r, k, i + 1, v, h => by
    have := og_list_mem E r (k + 1) i v (by simpa using h)
    rw [show k + (i + 1) = k + 1 + i by omega]
    exact this
  | some w :: r, k, 0, v, h => by
    simp at h
    subst h
    exact List.mem_cons_self
  | some w :: r, k, i + 1, v, h => by
    have := og_list_mem E r (k + 1) i v (by simpa using h)
    rw [show k + (i + 1) = k + 1 + i by omega]
    exact List.mem_cons_of_mem _ this
theorem og_list_lt (E : og_E) : ∀ (lv : List (Option Value)) (k : Nat) (q : Nat × Value), q ∈ og_list E k lv → ∃ (i : Nat) (v : Value), q = (k + i, og_rv E v) ∧ lv[i]? = some (some v)
  | [], _, _, h => by simp [og_list] at h
  | none :: r, k, q, h => by
    obtain ⟨i, v, h1, h2⟩ := og_list_lt E r (k + 1) q h
    exact ⟨i + 1, v, by rw [h1]; congr 1; omega, by simpa using h2⟩
  | some w :: r, k, q, h => by
    rcases List.mem_cons.mp h with h | h
    · exact ⟨0, w, h, rfl⟩
    · obtain ⟨i, v, h1, h2⟩ := og_list_lt E r (k + 1) q h
      exact ⟨i + 1, v, by rw [h1]; congr 1; omega, by simpa using h2⟩
theorem og_L.has {E : og_E} {ls : Array Slot} {nL : Nat} {lv : List (Option Value)} (h : og_L E ls nL lv) : lv_has ls nL (og_list E 0 lv) := by
  refine ⟨h.1, h.2.2.1, fun q hq => ?_⟩
  obtain ⟨i, v, rfl, h2⟩ := og_list_lt E lv 0 q hq
  rw [Nat.zero_add]
  exact h.2.2.2 i v h2
theorem og_L.at {E : og_E} {ls : Array Slot} {nL : Nat} {lv : List (Option Value)} (h : og_L E ls nL lv) {i : Nat} {v : Value} (hv : lv[i]? = some (some v)) : ls[i]? = some (.val (og_rv E v)) := h.2.2.2 i v hv
/-- a value that takes one slot: what stands ahead takes one, or nothing is said of it -/
def og_n2 (lv : List (Option Value)) (i : Nat) : Prop := ∀ (j : Nat) (v : Value), j + 1 = i → lv[j]? = some (some v) → v.category ≠ 2
theorem og_L.store1 {E : og_E} {ls ls' : Array Slot} {nL : Nat} {lv : List (Option Value)} {i : Nat} {v : Value} (h : og_L E ls nL lv) (hn2 : og_n2 lv i)
    (h' : lv_has ls' nL ((i, og_rv E v) :: (og_list E 0 lv).filter (fun q => !(q.1 == i) && !(q.1 + 1 == i && q.2.category == 2)))) : og_L E ls' nL (lv.set i (some v)) := by
  refine ⟨h'.1, by rw [List.length_set]; exact h.2.1, h'.2.1, fun j w hj => ?_⟩
  by_cases hji : j = i
  · subst hji
    have hl : j < lv.length := by
      have := (List.getElem?_eq_some_iff.mp hj).1
      rwa [List.length_set] at this
    rw [List.getElem?_set_self hl] at hj
    cases hj
    exact h'.2.2 (j, og_rv E v) List.mem_cons_self
  · rw [List.getElem?_set_ne (Ne.symm hji)] at hj
    refine h'.2.2 (j, og_rv E w) (List.mem_cons_of_mem _ (List.mem_filter.mpr ⟨?_, ?_⟩))
    · have := og_list_mem E lv 0 j w hj
      rwa [Nat.zero_add] at this
    · simp only [Bool.and_eq_true, Bool.not_eq_true', beq_eq_false_iff_ne, ne_eq, Bool.and_eq_false_iff]
      refine ⟨hji, ?_⟩
      by_cases hji1 : j + 1 = i
      · right
        rw [og_rv_cat]
        exact hn2 j w hji1 hj
      · left
        exact hji1
theorem og_L.store2 {E : og_E} {ls ls' : Array Slot} {nL : Nat} {lv : List (Option Value)} {i : Nat} {v : Value} (h : og_L E ls nL lv) (hn2 : og_n2 lv i) (hn1 : lv[i + 1]? = some none)
    (h' : lv_has ls' nL ((i, og_rv E v) :: (og_list E 0 lv).filter (fun q => !(q.1 == i) && (!(q.1 == i + 1) && !(q.1 + 1 == i && q.2.category == 2))))) : og_L E ls' nL (lv.set i (some v)) := by
  refine ⟨h'.1, by rw [List.length_set]; exact h.2.1, h'.2.1, fun j w hj => ?_⟩
  by_cases hji : j = i
  · subst hji
    have hl : j < lv.length := by
      have := (List.getElem?_eq_some_iff.mp hj).1
      rwa [List.length_set] at this
    rw [List.getElem?_set_self hl] at hj
    cases hj
    exact h'.2.2 (j, og_rv E v) List.mem_cons_self
  · rw [List.getElem?_set_ne (Ne.symm hji)] at hj
    refine h'.2.2 (j, og_rv E w) (List.mem_cons_of_mem _ (List.mem_filter.mpr ⟨?_, ?_⟩))
    · have := og_list_mem E lv 0 j w hj
      rwa [Nat.zero_add] at this
    · simp only [Bool.and_eq_true, Bool.not_eq_true', beq_eq_false_iff_ne, ne_eq, Bool.and_eq_false_iff]
      refine ⟨hji, fun hq => ?_, ?_⟩
      · subst hq
        rw [hn1] at hj
        cases hj
      · by_cases hji1 : j + 1 = i
        · right
          rw [og_rv_cat]
          exact hn2 j w hji1 hj
        · left
          exact hji1
theorem og_L.forget {E : og_E} {ls : Array Slot} {nL : Nat} {lv lv' : List (Option Value)} (h : og_L E ls nL lv) (hl : lv'.length = lv.length) (hs : ∀ (i : Nat) (v : Value), lv'[i]? = some (some v) → lv[i]? = some (some v)) : og_L E ls nL lv' :=
  ⟨h.1, hl.trans h.2.1, h.2.2.1, fun i v hv => h.2.2.2 i v (hs i v hv)⟩
