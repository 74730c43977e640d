/-! ===== rules that read and write the abstract heap ===== -/
/-- the field k of the objects of kind ci, by the constant pool's place -/
def og_F (own : String) (index ci k : Nat) : Prop := ∃ (r : vw_C), og_cl[ci]? = some r ∧ k < r.2.2 ∧ Cond.fieldLink own index (r.2.1 k).1 (r.2.1 k).2.1 (r.2.1 k).2.2.1 ∈ BW ∧ (∀ w ∈ u_ws r.1 r.2.1 r.2.2, w ∈ BW)
/-- what is put into it: its type; not final, or in its class's constructor -/
def og_FP (own : String) (index ci k : Nat) (ty : FieldType) (fin : Bool) : Prop := ∃ (r : vw_C) (ty0 : Nat → FieldType), og_cl[ci]? = some r ∧ k < r.2.2 ∧ Cond.fieldLink own index (r.2.1 k).1 (r.2.1 k).2.1 (r.2.1 k).2.2.1 ∈ BW ∧ (∀ w ∈ u_ws r.1 r.2.1 r.2.2, w ∈ BW) ∧ (∀ k, k < r.2.2 → parseFieldDescriptor (r.2.1 k).2.2.1 = some (ty0 k)) ∧ (∀ a, a < r.2.2 → ∀ b, b < r.2.2 → a ≠ b → (r.2.1 a).2.1 ≠ (r.2.1 b).2.1) ∧ parseFieldDescriptor (r.2.1 k).2.2.1 = some ty ∧ (r.2.1 k).2.2.2 = fin ∧ (fin = true → (r.2.1 k).1 = own)
section OH
variable {E : og_E} {own : String} {cc : ByteArray} {d mc ms nL : Nat} {X : og_X} {Q : State → Prop} {cells slots n : Nat} {h : og_H} {pc : Nat} {lv : List (Option Value)} {st : List Value}
theorem og_P1 {E : og_E} {s : State} {n : Nat} {h : og_H} {H : Heap} {a : Nat} {e : og_N} (hW : og_Wd E s n h H) (ha : h a = some e) (h3 : 3 ≤ a) : va_P (og_D E) og_cl [(og_rho E a, og_cn E e)] H := by
  intro k q hk
  have hz : k < 1 := (List.getElem?_eq_some_iff.mp hk).1
  rw [show k = 0 by omega] at hk
  cases hk
  exact (hW.2.2 a e ha).2.1 h3
theorem og_D1 {E : og_E} {a : Nat} {e : va_E} (h3 : 3 ≤ a) : va_D (og_A E) [(og_rho E a, e)] := by
  refine ⟨fun i j p q hi hj _ => ?_, fun k q hk => ?_⟩
  · have := (List.getElem?_eq_some_iff.mp hi).1
    have := (List.getElem?_eq_some_iff.mp hj).1
    simp only [List.length_cons, List.length_nil] at *
    omega
  · have hz : k < 1 := (List.getElem?_eq_some_iff.mp hk).1
    rw [show k = 0 by omega] at hk
    cases hk
    show og_b E ≤ og_rho E a
    rw [og_rho3 E h3]
    omega
theorem og_get {index ci k a : Nat} {fs : List Value} {v : Value} (hf : og_F own index ci k) (hd : decode cc pc = .ok (.getfield index, 3)) (ha : h a = some (.inr (ci, fs))) (h3 : 3 ≤ a) (hv : fs[k]? = some v)
    (kk : og_G E own cc d mc ms nL X Q cells slots n h (pc + 3) lv (v :: st)) : og_G E own cc d mc ms nL X Q cells slots n h pc lv (.ref a :: st) := by
  obtain ⟨p, l, e, R, s, m, args, below, meth, c⟩ := X
  intro C H locs ls hW hS hL
  obtain ⟨r, f1, f2, f3, f4⟩ := hf
  exact va_get (C := r.1) (T := r.2.1) (N := r.2.2) C.1 C.2.1 C.2.2.2.2.1 f4 C.2.2.2.1 C.2.2.2.2.2.2.1.1 (og_P1 hW ha h3) 0 rfl f1 k f2 (C.2.2.2.2.1 _ f3) (fun _ z => z) (v := og_rv E v) (by rw [List.getElem?_map, hv]; rfl) hd (kk C H locs ls hW hS hL)
theorem og_put {index ci k a : Nat} {fs : List Value} {v : Value} {ty : FieldType} (hf : og_FP own index ci k ty false) (hd : decode cc pc = .ok (.putfield index, 3)) (ha : h a = some (.inr (ci, fs))) (h3 : 3 ≤ a) (hn : narrow ty (og_rv E v) = og_rv E v) (hfit : fits ty (og_rv E v) = true) (hl : k < fs.length)
    (kk : og_G E own cc d mc ms nL X Q cells slots n (og_set h a (.inr (ci, fs.set k v))) (pc + 3) lv st) : og_G E own cc d mc ms nL X Q cells slots n h pc lv (v :: .ref a :: st) := by
  obtain ⟨p, l, e, R, s, m, args, below, meth, c⟩ := X
  intro C H locs ls hW hS hL
  obtain ⟨r, ty0, f1, f2, f3, f4, f5, f6, f7, f8, f9⟩ := hf
  have hln : k < (fs.map (og_rv E)).length := by rw [List.length_map]; exact hl
  have hK := C.2.2.2.2.2.2.1.1
  have hts := C.2.2.2.2.1
  have hap := va_apart (own := own) hts f4 ty0 f5 f6 hK f1
  obtain ⟨r9, h1, cell, q1, q2, q3, q4⟩ := (hW.2.2 a _ ha).2.1 h3
  cases Option.some.inj (h1.symm.trans f1)
  obtain ⟨hSl, hfc, kC, hkC, hkind⟩ := hK.1 ci _ f1
  obtain ⟨cf, kf, fi, f, hi, hsl⟩ := hSl k f2
  have hlay := hts _ (f4 _ (u_in_lay f2))
  unfold u_lay at hlay
  rw [if_neg (by rw [f8]; decide)] at hlay
  have hst := (u_facts hfc hkC (u_lays hts f4 f2) hi).1
  have h6 := u_store hfc hkC hkind hlay hi f7 hn hfit
  refine W.putK (v := og_rv E v) C.1 C.2.1 (f := f) ⟨C.2.2.2.1, hts _ f3, ⟨_, _, _, hi⟩, hst⟩ (by rw [q2]; exact h6) q1 q3 (by rw [hsl]; exact k2_hasslot (q4 k f2)) rfl rfl hd fun H1 e1 e2 e3 => ?_
  rw [hsl] at e1 ⊢
  refine kk C H1 _ ls (hW.put h3 (hW.2.2 a _ ha).1 e2 ⟨r, f1, ?_⟩ e3) (hS.put e2 e3 (by show og_b E ≤ _; rw [og_rho3 E h3]; omega)) hL
  exact t_OB.to (V := updV (vp_V (fs.map (og_rv E))) k (og_rv E v)) ⟨_, e1, q2, q3, t_set q4 hap f2 (og_rv E v)⟩ (fun j _ => by
    show _ = vp_V ((fs.set k v).map (og_rv E)) j
    rw [List.map_set]
    exact vp_updV_set hln (og_rv E v) j)
theorem og_putF {index ci k a : Nat} {fs : List Value} {v : Value} {ty : FieldType} (hf : og_FP own index ci k ty true) (hd : decode cc pc = .ok (.putfield index, 3)) (ha : h a = some (.inr (ci, fs))) (h3 : 3 ≤ a) (hin : og_nm X = "<init>") (hn : narrow ty (og_rv E v) = og_rv E v) (hfit : fits ty (og_rv E v) = true) (hl : k < fs.length)
    (kk : og_G E own cc d mc ms nL X Q cells slots n (og_set h a (.inr (ci, fs.set k v))) (pc + 3) lv st) : og_G E own cc d mc ms nL X Q cells slots n h pc lv (v :: .ref a :: st) := by
  obtain ⟨p, l, e, R, s, m, args, below, meth, c⟩ := X
  intro C H locs ls hW hS hL
  obtain ⟨r, ty0, f1, f2, f3, f4, f5, f6, f7, f8, f9⟩ := hf
  have hln : k < (fs.map (og_rv E)).length := by rw [List.length_map]; exact hl
  have hK := C.2.2.2.2.2.2.1.1
  have hts := C.2.2.2.2.1
  have hap := va_apart (own := own) hts f4 ty0 f5 f6 hK f1
  obtain ⟨r9, h1, cell, q1, q2, q3, q4⟩ := (hW.2.2 a _ ha).2.1 h3
  cases Option.some.inj (h1.symm.trans f1)
  obtain ⟨hSl, hfc, kC, hkC, hkind⟩ := hK.1 ci _ f1
  obtain ⟨cf, kf, fi, f, hi, hsl⟩ := hSl k f2
  have hlay := hts _ (f4 _ (u_in_lay f2))
  unfold u_lay at hlay
  rw [if_pos f8] at hlay
  have hst := (u_facts hfc hkC (u_lays hts f4 f2) hi).1
  have hcf : m.cls = cf := by
    obtain ⟨_, _, c2, _, _, _, -, -, hf2, -, -, -, hown2, -⟩ := Cond.laysFinal_spec hlay
    have e1 : c2 = cf := by have := hi.symm.trans hf2; simp at this; exact this.1.symm
    rw [f9 rfl] at hown2
    rw [← e1]; exact Option.some.inj (C.2.2.2.1.symm.trans hown2)
  have h6 := u_fits hfc hkC hkind (Or.inr hlay) hi f7 hn hfit
  refine W.putFinK (v := og_rv E v) C.1 C.2.1 C.2.2.2.1 (hts _ f3) hi hst hcf hin (by rw [q2]; exact h6) q1 q3 (by rw [hsl]; exact k2_hasslot (q4 k f2)) rfl rfl hd fun H1 e1 e2 e3 => ?_
  rw [hsl] at e1 ⊢
  refine kk C H1 _ ls (hW.put h3 (hW.2.2 a _ ha).1 e2 ⟨r, f1, ?_⟩ e3) (hS.put e2 e3 (by show og_b E ≤ _; rw [og_rho3 E h3]; omega)) hL
  exact t_OB.to (V := updV (vp_V (fs.map (og_rv E))) k (og_rv E v)) ⟨_, e1, q2, q3, t_set q4 hap f2 (og_rv E v)⟩ (fun j _ => by
    show _ = vp_V ((fs.set k v).map (og_rv E)) j
    rw [List.map_set]
    exact vp_updV_set hln (og_rv E v) j)
theorem og_iald {a N : Nat} {f : Nat → Int32} {i : Int32} (hd : decode cc pc = .ok (.iaload, 1)) (ha : h a = some (.inl (1, N, .inl f))) (h3 : 3 ≤ a) (hin : vp_in i N)
    (kk : og_G E own cc d mc ms nL X Q cells slots n h (pc + 1) lv (.int (f i.toNatClampNeg) :: st)) : og_G E own cc d mc ms nL X Q cells slots n h pc lv (.int i :: .ref a :: st) := by
  obtain ⟨p, l, e, R, s, m, args, below, meth, c⟩ := X
  intro C H locs ls hW hS hL
  exact va_iald C.1 C.2.1 C.2.2.2.2.2.2.1.1 (og_P1 hW ha h3) 0 1 rfl (og_tyAt E (by decide)) hin hd (kk C H locs ls hW hS hL)
theorem og_bald {a N : Nat} {f : Nat → Int32} {i : Int32} (hd : decode cc pc = .ok (.baload, 1)) (ha : h a = some (.inl (0, N, .inl f))) (h3 : 3 ≤ a) (hin : vp_in i N)
    (kk : og_G E own cc d mc ms nL X Q cells slots n h (pc + 1) lv (.int (f i.toNatClampNeg) :: st)) : og_G E own cc d mc ms nL X Q cells slots n h pc lv (.int i :: .ref a :: st) := by
  obtain ⟨p, l, e, R, s, m, args, below, meth, c⟩ := X
  intro C H locs ls hW hS hL
  exact va_bald C.1 C.2.1 C.2.2.2.2.2.2.1.1 (og_P1 hW ha h3) 0 0 rfl (og_tyAt E (by decide)) hin hd (kk C H locs ls hW hS hL)
theorem og_lald {a N : Nat} {f : Nat → Int64} {i : Int32} (hd : decode cc pc = .ok (.laload, 1)) (ha : h a = some (.inl (2, N, .inr (.inl f)))) (h3 : 3 ≤ a) (hin : vp_in i N)
    (kk : og_G E own cc d mc ms nL X Q cells slots n h (pc + 1) lv (.long (f i.toNatClampNeg) :: st)) : og_G E own cc d mc ms nL X Q cells slots n h pc lv (.int i :: .ref a :: st) := by
  obtain ⟨p, l, e, R, s, m, args, below, meth, c⟩ := X
  intro C H locs ls hW hS hL
  exact va_lald C.1 C.2.1 C.2.2.2.2.2.2.1.1 (og_P1 hW ha h3) 0 2 rfl (og_tyAt E (by decide)) hin hd (kk C H locs ls hW hS hL)
theorem og_sald {a N : Nat} {f : Nat → Int32} {i : Int32} (hd : decode cc pc = .ok (.iaload, 1)) (ha : h a = some (.inl (1, N, .inl f))) (h3 : a < 3) (hin : vp_in i N)
    (kk : og_G E own cc d mc ms nL X Q cells slots n h (pc + 1) lv (.int (f i.toNatClampNeg) :: st)) : og_G E own cc d mc ms nL X Q cells slots n h pc lv (.int i :: .ref a :: st) := by
  obtain ⟨p, l, e, R, s, m, args, below, meth, c⟩ := X
  intro C H locs ls hW hS hL
  obtain ⟨n9, f9, cell, e1, e2, e3, e4, e5, e6, e7, e8⟩ := (hW.2.2 a _ ha).2.2 h3
  cases e1
  have hlt : i.toNatClampNeg < N := Nat.not_le.mp fun q => hin (Or.inr q)
  exact W.iald (v := .int (f i.toNatClampNeg)) C.1 C.2.1 e2 e4 e5 (fun z => z.elim (fun z => hin (Or.inl z)) (fun z => by omega)) (e8 _ hlt) rfl rfl hd (kk C H locs ls hW hS hL)
theorem og_slen {a N : Nat} {f : Nat → Int32} (hd : decode cc pc = .ok (.arraylength, 1)) (ha : h a = some (.inl (1, N, .inl f))) (h3 : a < 3)
    (kk : og_G E own cc d mc ms nL X Q cells slots n h (pc + 1) lv (.int (Int32.ofNat N) :: st)) : og_G E own cc d mc ms nL X Q cells slots n h pc lv (.ref a :: st) := by
  obtain ⟨p, l, e, R, s, m, args, below, meth, c⟩ := X
  intro C H locs ls hW hS hL
  obtain ⟨n9, f9, cell, e1, e2, e3, e4, e5, e6, e7, e8⟩ := (hW.2.2 a _ ha).2.2 h3
  cases e1
  exact W.alen (n := Int32.ofNat N) C.1 C.2.1 e2 e4 e7 rfl rfl hd (kk C H locs ls hW hS hL)
theorem og_alen {a k : Nat} {x : vp_A} {v : Int32} (hd : decode cc pc = .ok (.arraylength, 1)) (ha : h a = some (.inl (k, x))) (h3 : 3 ≤ a) (hk : k < 7) (hv : Int32.ofNat x.1 = v)
    (kk : og_G E own cc d mc ms nL X Q cells slots n h (pc + 1) lv (.int v :: st)) : og_G E own cc d mc ms nL X Q cells slots n h pc lv (.ref a :: st) := by
  obtain ⟨p, l, e, R, s, m, args, below, meth, c⟩ := X
  intro C H locs ls hW hS hL
  exact va_alen C.1 C.2.1 C.2.2.2.2.2.2.1.1 (og_P1 hW ha h3) 0 k rfl (og_tyAt E hk) (by rw [← hv]; obtain ⟨n, f | f | f | f | f⟩ := x <;> rfl) hd (kk C H locs ls hW hS hL)
theorem og_rvq (E : og_E) (x : Option Nat) : og_rv E (va_rf x) = va_rf (x.map (og_rho E)) := by cases x <;> rfl
theorem og_aald {a N k : Nat} {f : Nat → Option Nat} {i : Int32} (hd : decode cc pc = .ok (.aaload, 1)) (ha : h a = some (.inl (k, N, .inr (.inr (.inr (.inr f)))))) (h3 : 3 ≤ a) (hk : k < 7) (hk4 : 4 ≤ k) (hin : vp_in i N)
    (kk : og_G E own cc d mc ms nL X Q cells slots n h (pc + 1) lv (va_rf (f i.toNatClampNeg) :: st)) : og_G E own cc d mc ms nL X Q cells slots n h pc lv (.int i :: .ref a :: st) := by
  obtain ⟨p, l, e, R, s, m, args, below, meth, c⟩ := X
  intro C H locs ls hW hS hL
  have hlt : i.toNatClampNeg < N := Nat.not_le.mp fun q => hin (Or.inr q)
  have hr : (og_ty k).isReference = true := by
    match k, hk, hk4 with
    | 4, _, _ => rfl
    | 5, _, _ => rfl
    | 6, _, _ => rfl
  have hc := (hW.2.2 a _ ha).2.1 h3
  exact W.aald (v := og_rv E (va_rf (f i.toNatClampNeg))) (ty := og_ty k) C.1 C.2.1 hc ((C.2.2.2.2.2.2.1.1.2 k _ (og_tyAt E hk)).1 N (fun j => va_rf ((f j).map (og_rho E)))) hr (fun q => by cases q) (by show ¬ (i < 0 ∨ (arrV _ _ _).slots.size ≤ _); rw [arrV_size]; exact hin) (by rw [og_rvq]; show (arrV (E.2.2.1 k) N (fun j => va_rf ((f j).map (og_rho E)))).slots[i.toNatClampNeg]? = _; rw [arrV_read _ _ hlt]) rfl rfl hd (kk C H locs ls hW hS hL)
theorem og_iast {a N : Nat} {f : Nat → Int32} {i : Int32} {x : Int32} (hd : decode cc pc = .ok (.iastore, 1)) (ha : h a = some (.inl (1, N, .inl f))) (h3 : 3 ≤ a) (hin : vp_in i N)
    (kk : og_G E own cc d mc ms nL X Q cells slots n (og_set h a (.inl (1, N, .inl (upd f i.toNatClampNeg x)))) (pc + 1) lv st) : og_G E own cc d mc ms nL X Q cells slots n h pc lv (.int x :: .int i :: .ref a :: st) := by
  obtain ⟨p, l, e, R, s, m, args, below, meth, c⟩ := X
  intro C H locs ls hW hS hL
  have hc := (hW.2.2 a _ ha).2.1 h3
  refine W.iast C.1 C.2.1 hc ((C.2.2.2.2.2.2.1.1.2 1 _ (og_tyAt E (by decide))).1 N (fun j => .int (f j))) (fun q => by cases q) (by show ¬ (i < 0 ∨ (arrV _ _ _).slots.size ≤ _); rw [arrV_size]; exact hin) rfl rfl hd fun H1 e z oq => ?_
  refine kk C H1 _ ls (hW.put h3 (hW.2.2 a _ ha).1 z ?_ oq) (hS.put z oq (by show og_b E ≤ _; rw [og_rho3 E h3]; omega)) hL
  show H1[og_rho E a]? = some (vp_cell _ _)
  rw [e]
  show some ((arrV (E.2.2.1 1) N (fun j => .int (f j))).setSlot _ _) = some (arrV (E.2.2.1 1) N (fun j => .int (upd f i.toNatClampNeg x j)))
  rw [arrV_store]
  congr 2
  funext q
  by_cases hq : q = i.toNatClampNeg
  · subst hq
    simp [updV, upd]
  · simp [updV, upd, hq]
theorem og_bast {a N : Nat} {f : Nat → Int32} {i : Int32} {x : Int32} (hd : decode cc pc = .ok (.bastore, 1)) (ha : h a = some (.inl (0, N, .inl f))) (h3 : 3 ≤ a) (hin : vp_in i N)
    (kk : og_G E own cc d mc ms nL X Q cells slots n (og_set h a (.inl (0, N, .inl (upd f i.toNatClampNeg (vp_nar .byte x))))) (pc + 1) lv st) : og_G E own cc d mc ms nL X Q cells slots n h pc lv (.int x :: .int i :: .ref a :: st) := by
  obtain ⟨p, l, e, R, s, m, args, below, meth, c⟩ := X
  intro C H locs ls hW hS hL
  have hc := (hW.2.2 a _ ha).2.1 h3
  refine W.bast C.1 C.2.1 hc ((C.2.2.2.2.2.2.1.1.2 0 _ (og_tyAt E (by decide))).1 N (fun j => .int (f j))) (fun q => by cases q) (by show ¬ (i < 0 ∨ (arrV _ _ _).slots.size ≤ _); rw [arrV_size]; exact hin) rfl rfl hd fun H1 e z oq => ?_
  refine kk C H1 _ ls (hW.put h3 (hW.2.2 a _ ha).1 z ?_ oq) (hS.put z oq (by show og_b E ≤ _; rw [og_rho3 E h3]; omega)) hL
  show H1[og_rho E a]? = some (vp_cell _ _)
  rw [e]
  show some ((arrV (E.2.2.1 0) N (fun j => .int (f j))).setSlot _ _) = some (arrV (E.2.2.1 0) N (fun j => .int (upd f i.toNatClampNeg (vp_nar .byte x) j)))
  rw [arrV_store]
  congr 2
  funext q
  by_cases hq : q = i.toNatClampNeg
  · subst hq
    simp [updV, upd, vp_nar]
    try rfl
  · simp [updV, upd, hq]
theorem og_last {a N : Nat} {f : Nat → Int64} {i : Int32} {x : Int64} (hd : decode cc pc = .ok (.lastore, 1)) (ha : h a = some (.inl (2, N, .inr (.inl f)))) (h3 : 3 ≤ a) (hin : vp_in i N)
    (kk : og_G E own cc d mc ms nL X Q cells slots n (og_set h a (.inl (2, N, .inr (.inl (vp_updL f i.toNatClampNeg x))))) (pc + 1) lv st) : og_G E own cc d mc ms nL X Q cells slots n h pc lv (.long x :: .int i :: .ref a :: st) := by
  obtain ⟨p, l, e, R, s, m, args, below, meth, c⟩ := X
  intro C H locs ls hW hS hL
  have hc := (hW.2.2 a _ ha).2.1 h3
  refine W.last C.1 C.2.1 hc ((C.2.2.2.2.2.2.1.1.2 2 _ (og_tyAt E (by decide))).1 N (fun j => .long (f j))) (fun q => by cases q) (by show ¬ (i < 0 ∨ (arrV _ _ _).slots.size ≤ _); rw [arrV_size]; exact hin) rfl rfl hd fun H1 e z oq => ?_
  refine kk C H1 _ ls (hW.put h3 (hW.2.2 a _ ha).1 z ?_ oq) (hS.put z oq (by show og_b E ≤ _; rw [og_rho3 E h3]; omega)) hL
  show H1[og_rho E a]? = some (vp_cell _ _)
  rw [e]
  show some ((arrV (E.2.2.1 2) N (fun j => .long (f j))).setSlot _ _) = some (arrV (E.2.2.1 2) N (fun j => .long (vp_updL f i.toNatClampNeg x j)))
  rw [arrV_store]
  congr 2
  funext q
  by_cases hq : q = i.toNatClampNeg
  · subst hq
    simp [updV, vp_updL]
  · simp [updV, vp_updL, hq]
theorem og_aast {a N ka ci b : Nat} {r : vw_C} {fs : List Value} {f : Nat → Option Nat} {i : Int32} (hd : decode cc pc = .ok (.aastore, 1)) (ha : h a = some (.inl (ka, N, .inr (.inr (.inr (.inr f)))))) (h3 : 3 ≤ a) (hka : ka < 7) (hc : og_cl[ci]? = some r) (hty : og_ty ka = .object r.1) (hb : h b = some (.inr (ci, fs))) (hb3 : 3 ≤ b) (hin : vp_in i N)
    (kk : og_G E own cc d mc ms nL X Q cells slots n (og_set h a (.inl (ka, N, .inr (.inr (.inr (.inr (va_up f i.toNatClampNeg (some b)))))))) (pc + 1) lv st) : og_G E own cc d mc ms nL X Q cells slots n h pc lv (.ref b :: .int i :: .ref a :: st) := by
  obtain ⟨p, l, e, R, s, m, args, below, meth, c⟩ := X
  intro C H locs ls hW hS hL
  have hcA := (hW.2.2 a _ ha).2.1 h3
  have hlt : i.toNatClampNeg < N := Nat.not_le.mp fun q => hin (Or.inr q)
  have h0 : ¬ i < 0 := fun q => hin (Or.inl q)
  obtain ⟨r', hr', cellV, g1, g2, g3, -⟩ := (hW.2.2 b _ hb).2.1 hb3
  have hK := C.2.2.2.2.2.2.1.1
  have hcls := (hK.1 ci r hc).2
  have hRA := (hK.2 ka _ (og_tyAt E hka)).2
  rw [show (E.2.2.1 ka, og_ty ka).2 = FieldType.object r.1 from hty] at hRA
  obtain ⟨kA, comp, k1, k2, k3, -⟩ := hRA
  have hcomp : comp = (og_D E).1 ci := Option.some.inj (k3.symm.trans hcls.1)
  subst hcomp
  obtain ⟨kC, hkC, -⟩ := hcls.2
  refine W.aast C.1 C.2.1 hcA (fun q h => by cases h) (fun h => by cases h) k1 k2 rfl hkC ⟨h0, by show _ < (arrV _ _ _).slots.size; rw [arrV_size]; exact hlt⟩ g1 (fun q h => by rw [g3] at h; cases h) (by rw [g2]; exact hkC) (by rw [g2]; exact va_assign hcls) rfl rfl hd fun H1 e z oq => ?_
  refine kk C H1 _ ls (hW.put h3 (hW.2.2 a _ ha).1 z ?_ oq) (hS.put z oq (by show og_b E ≤ _; rw [og_rho3 E h3]; omega)) hL
  show H1[og_rho E a]? = some (vp_cell _ _)
  rw [e]
  show some ((arrV (E.2.2.1 ka) N (fun j => va_rf ((f j).map (og_rho E)))).setSlot _ _) = some (arrV (E.2.2.1 ka) N (fun j => va_rf ((va_up f i.toNatClampNeg (some b) j).map (og_rho E))))
  rw [arrV_store]
  congr 2
  funext q
  by_cases hq : q = i.toNatClampNeg
  · subst hq
    simp [updV, va_up, va_rf]
  · simp [updV, va_up, hq]
end OH
