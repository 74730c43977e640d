/-! ===== the model: behind, fault ===== -/
def m_wD (M : q_M) (dp : Nat) : q_M := m_wO M (m_ps M) (m_ty M) (m_rf M) (m_la M) (m_un M) (m_ls M) (nI dp) (m_wl M) (m_ct M)
theorem og_MK.deep {h0 h : og_H} {M : q_M} {dp : Nat} (w : og_MK h0 h (m_wD M dp)) (dp2 : Nat) : og_MK h0 (og_set h 101 (og_mM (m_wD M dp2))) (m_wD M dp2) :=
  w.sO (m_ps M) (m_ty M) (m_rf M) (m_la M) (m_un M) (m_ls M) (nI dp2) (m_wl M) (m_ct M) w.ok.1 w.ok.2
theorem q_dig_let {x : Int32} (h : q_digit x) : ¬ q_letter x := fun z => absurd (Int32.le_trans z.1 h.2) (by decide)
theorem q_dig_40 {x : Int32} (h : q_digit x) : x ≠ 40 := fun z => by
  rw [z] at h
  exact absurd h.1 (by decide)
set_option maxRecDepth 4000 in
theorem c_X8_behind (E : og_E) (d n st dp : Nat) (h : og_H) (x : Int32) {h0 : og_H} {M : q_M} (w : og_MK h0 h (m_wD M dp)) (hdp : dp ≤ 6) (hst : st ≤ 4) :
    og_M E yX8_behind (.code yX8_behind cX8_behind 4 (some .int)) (d + 1) [.ref 101, .int (nI st), .int x] n h 0 0 (fun v nn h1 => nn = n ∧ v = some (.int (q_rs (q_fol st dp x))) ∧ og_MK h0 h1 (m_wD M (q_rd dp (q_fol st dp x)))) no_x := by
  refine og_start (lv := [some (.ref 101), some (.int (nI st)), some (.int x), none]) (by decide) rfl rfl (Nat.le_of_ble_eq_true rfl) fun X hr hnm htb => ?_
  have wm := w.m
  refine og_iload_n (pc := 0) dX8_behind_0 rfl ?_
  refine og_bipush (pc := 1) (v := 97) dX8_behind_1 (by decide) ?_
  refine og_bipush (pc := 3) (v := 104) dX8_behind_3 (by decide) ?_
  refine og_callS (pc := 5) (As := [.int x, .int 97, .int 104]) (rest := []) (c_X8_in E d n h x 97 104) Y_X8_in S_X8_in K_X8_86 dX8_behind_5 rfl rfl (Nat.le_of_ble_eq_true rfl) (by omega) (by omega) (by omega) (fun _ _ _ z => z) (fun v n1 h1 z => ?_)
  obtain ⟨hn, hh, z⟩ := z
  subst hn hh
  have z : ∃ y : Int32, v = some (.int y) ∧ ((y = 1 ∧ q_letter x) ∨ (y = 0 ∧ ¬ q_letter x)) := by
    rcases z with ⟨z1, z2⟩ | ⟨z1, z2⟩
    · exact ⟨1, z1, Or.inl ⟨rfl, z2⟩⟩
    · exact ⟨0, z1, Or.inr ⟨rfl, z2⟩⟩
  obtain ⟨y, rfl, hy⟩ := z
  refine og_istore_n_3 (pc := 8) dX8_behind_8 rfl ?_
  refine og_iload_n (pc := 9) dX8_behind_9 rfl ?_
  match st, hst with
  | 0, _ =>
    refine og_tableIn (pc := 10) (tgt := 40) (off := 30) dX8_behind_10 (by decide) (by decide) (by decide) (by decide) ?_
    refine og_iload_n (pc := 40) dX8_behind_40 rfl ?_
    rcases hy with ⟨rfl, hy⟩ | ⟨rfl, hy⟩
    · refine og_if_eq (pc := 41) (tgt := 48) dX8_behind_41 (by decide) (fun c => absurd c (by decide)) (fun _ => ?_)
      refine og_iconst (pc := 44) (v := 1) dX8_behind_44 (by decide) ?_
      refine og_goto (pc := 45) (tgt := 49) dX8_behind_45 (by decide) ?_
      have e : q_fol 0 dp x = some (1, dp) := q_if_pos hy
      exact og_iret (pc := 49) hr dX8_behind_49 (by omega) (by omega) ⟨rfl, by rw [e]; rfl, by rw [e]; exact w⟩
    · refine og_if_eq (pc := 41) (tgt := 48) dX8_behind_41 (by decide) (fun _ => ?_) (fun c => absurd rfl c)
      refine og_iconst (pc := 48) (v := (-1)) dX8_behind_48 (by decide) ?_
      have e : q_fol 0 dp x = none := q_if_neg hy
      exact og_iret (pc := 49) hr dX8_behind_49 (by omega) (by omega) ⟨rfl, by rw [e]; rfl, by rw [e]; exact w⟩
  | 1, _ =>
    refine og_tableIn (pc := 10) (tgt := 50) (off := 40) dX8_behind_10 (by decide) (by decide) (by decide) (by decide) ?_
    refine og_iload_n (pc := 50) dX8_behind_50 rfl ?_
    refine og_bipush (pc := 51) (v := 61) dX8_behind_51 (by decide) ?_
    refine og_icmp_ne (pc := 53) (tgt := 60) dX8_behind_53 (by decide) (fun c => ?_) (fun c => ?_)
    · refine og_iconst (pc := 60) (v := (-1)) dX8_behind_60 (by decide) ?_
      have e : q_fol 1 dp x = none := q_if_neg c
      exact og_iret (pc := 61) hr dX8_behind_61 (by omega) (by omega) ⟨rfl, by rw [e]; rfl, by rw [e]; exact w⟩
    · refine og_iconst (pc := 56) (v := 2) dX8_behind_56 (by decide) ?_
      refine og_goto (pc := 57) (tgt := 61) dX8_behind_57 (by decide) ?_
      have e : q_fol 1 dp x = some (2, dp) := q_if_pos c
      exact og_iret (pc := 61) hr dX8_behind_61 (by omega) (by omega) ⟨rfl, by rw [e]; rfl, by rw [e]; exact w⟩
  | 2, _ =>
    refine og_tableIn (pc := 10) (tgt := 62) (off := 52) dX8_behind_10 (by decide) (by decide) (by decide) (by decide) ?_
    have nop : ¬ (x = 40 ∧ dp < 6) → og_G E yX8_behind.cls cX8_behind (d + 1) 0 0 4 X (og_Q E (fun v nn h1 => nn = n1 ∧ v = some (.int (q_rs (q_fol 2 dp x))) ∧ og_MK h0 h1 (m_wD M (q_rd dp (q_fol 2 dp x)))) no_x 0 0 X) 0 0 n1 h1 89 [some (.ref 101), some (.int (nI 2)), some (.int x), some (.int y)] [] := by
      intro h40
      refine og_iload_n (pc := 89) dX8_behind_89 rfl ?_
      rcases hy with ⟨rfl, hy⟩ | ⟨rfl, hy⟩
      · refine og_if_eq (pc := 90) (tgt := 97) dX8_behind_90 (by decide) (fun c => absurd c (by decide)) (fun _ => ?_)
        refine og_iconst (pc := 93) (v := 4) dX8_behind_93 (by decide) ?_
        refine og_goto (pc := 94) (tgt := 118) dX8_behind_94 (by decide) ?_
        have f : q_fop dp x = some (4, dp) := by rw [q_fop, q_if_neg h40, q_if_pos hy]
        have e : q_fol 2 dp x = some (4, dp) := (q_if_neg (fun z => q_dig_let z hy)).trans f
        exact og_iret (pc := 118) hr dX8_behind_118 (by omega) (by omega) ⟨rfl, by rw [e]; rfl, by rw [e]; exact w⟩
      · refine og_if_eq (pc := 90) (tgt := 97) dX8_behind_90 (by decide) (fun _ => ?_) (fun c => absurd rfl c)
        refine og_iload_n (pc := 97) dX8_behind_97 rfl ?_
        refine og_iconst (pc := 98) (v := 2) dX8_behind_98 (by decide) ?_
        have f : q_fop dp x = none := by rw [q_fop, q_if_neg h40, q_if_neg hy]
        refine og_icmp_ne (pc := 99) (tgt := 117) dX8_behind_99 (by decide) (fun c => absurd rfl c) (fun _ => ?_)
        refine og_iload_n (pc := 102) dX8_behind_102 rfl ?_
        refine og_bipush (pc := 103) (v := 49) dX8_behind_103 (by decide) ?_
        refine og_bipush (pc := 105) (v := 57) dX8_behind_105 (by decide) ?_
        refine og_callS (pc := 107) (As := [.int x, .int 49, .int 57]) (rest := []) (c_X8_in E d n1 h1 x 49 57) Y_X8_in S_X8_in K_X8_86 dX8_behind_107 rfl rfl (Nat.le_of_ble_eq_true rfl) (by omega) (by omega) (by omega) (fun _ _ _ z => z) (fun v n2 h2 z => ?_)
        obtain ⟨hn, hh, z⟩ := z
        subst hn hh
        rcases z with ⟨rfl, z⟩ | ⟨rfl, z⟩
        · refine og_if_eq (pc := 110) (tgt := 117) dX8_behind_110 (by decide) (fun c => absurd c (by decide)) (fun _ => ?_)
          refine og_iconst (pc := 113) (v := 3) dX8_behind_113 (by decide) ?_
          refine og_goto (pc := 114) (tgt := 118) dX8_behind_114 (by decide) ?_
          have e : q_fol 2 dp x = some (3, dp) := q_if_pos z
          exact og_iret (pc := 118) hr dX8_behind_118 (by omega) (by omega) ⟨rfl, by rw [e]; rfl, by rw [e]; exact w⟩
        · refine og_if_eq (pc := 110) (tgt := 117) dX8_behind_110 (by decide) (fun _ => ?_) (fun c => absurd rfl c)
          refine og_iconst (pc := 117) (v := (-1)) dX8_behind_117 (by decide) ?_
          have e : q_fol 2 dp x = none := (q_if_neg z).trans f
          exact og_iret (pc := 118) hr dX8_behind_118 (by omega) (by omega) ⟨rfl, by rw [e]; rfl, by rw [e]; exact w⟩
    refine og_iload_n (pc := 62) dX8_behind_62 rfl ?_
    refine og_bipush (pc := 63) (v := 40) dX8_behind_63 (by decide) ?_
    refine og_icmp_ne (pc := 65) (tgt := 89) dX8_behind_65 (by decide) (fun c => nop (fun z => c z.1)) (fun c => ?_)
    refine og_aload_n (pc := 68) dX8_behind_68 rfl ?_
    refine og_get (pc := 69) F_X8_214 dX8_behind_69 wm (by omega) rfl ?_
    refine og_bipush (pc := 72) (v := 6) dX8_behind_72 (by decide) ?_
    refine og_geN (pc := 74) (tgt := 89) (i := dp) (N := 6) dX8_behind_74 (by decide) rfl rfl (by omega) (by omega) (fun c_74 => ?_) (fun c_74 => ?_)
    · exact nop (fun z => by omega)
    have hlt : dp < 6 := by omega
    refine og_aload_n (pc := 77) dX8_behind_77 rfl ?_
    refine og_dup (pc := 78) dX8_behind_78 rfl ?_
    refine og_get (pc := 79) F_X8_214 dX8_behind_79 wm (by omega) rfl ?_
    refine og_iconst (pc := 82) (v := 1) dX8_behind_82 (by decide) ?_
    refine og_iadd (pc := 83) dX8_behind_83 ?_
    rw [show m_dp (m_wD M dp) = nI dp from rfl, nI_1]
    refine og_put (pc := 84) P_X8_214 dX8_behind_84 wm (by omega) rfl rfl (Nat.le_of_ble_eq_true rfl) ?_
    refine og_iconst (pc := 87) (v := 2) dX8_behind_87 (by decide) ?_
    have f : q_fop dp x = some (2, dp + 1) := q_if_pos ⟨c, hlt⟩
    have e : q_fol 2 dp x = some (2, dp + 1) := (q_if_neg (fun z => q_dig_40 z c)).trans f
    exact og_iret (pc := 88) hr dX8_behind_88 (by omega) (by omega) ⟨rfl, by rw [e]; rfl, by rw [e]; exact (w.deep (dp + 1))⟩
  | 3, _ =>
    refine og_tableIn (pc := 10) (tgt := 62) (off := 52) dX8_behind_10 (by decide) (by decide) (by decide) (by decide) ?_
    have nop : ¬ (x = 40 ∧ dp < 6) → og_G E yX8_behind.cls cX8_behind (d + 1) 0 0 4 X (og_Q E (fun v nn h1 => nn = n1 ∧ v = some (.int (q_rs (q_fol 3 dp x))) ∧ og_MK h0 h1 (m_wD M (q_rd dp (q_fol 3 dp x)))) no_x 0 0 X) 0 0 n1 h1 89 [some (.ref 101), some (.int (nI 3)), some (.int x), some (.int y)] [] := by
      intro h40
      refine og_iload_n (pc := 89) dX8_behind_89 rfl ?_
      rcases hy with ⟨rfl, hy⟩ | ⟨rfl, hy⟩
      · refine og_if_eq (pc := 90) (tgt := 97) dX8_behind_90 (by decide) (fun c => absurd c (by decide)) (fun _ => ?_)
        refine og_iconst (pc := 93) (v := 4) dX8_behind_93 (by decide) ?_
        refine og_goto (pc := 94) (tgt := 118) dX8_behind_94 (by decide) ?_
        have f : q_fop dp x = some (4, dp) := by rw [q_fop, q_if_neg h40, q_if_pos hy]
        have e : q_fol 3 dp x = some (4, dp) := f
        exact og_iret (pc := 118) hr dX8_behind_118 (by omega) (by omega) ⟨rfl, by rw [e]; rfl, by rw [e]; exact w⟩
      · refine og_if_eq (pc := 90) (tgt := 97) dX8_behind_90 (by decide) (fun _ => ?_) (fun c => absurd rfl c)
        refine og_iload_n (pc := 97) dX8_behind_97 rfl ?_
        refine og_iconst (pc := 98) (v := 2) dX8_behind_98 (by decide) ?_
        have f : q_fop dp x = none := by rw [q_fop, q_if_neg h40, q_if_neg hy]
        refine og_icmp_ne (pc := 99) (tgt := 117) dX8_behind_99 (by decide) (fun _ => ?_) (fun c => absurd c (by decide))
        refine og_iconst (pc := 117) (v := (-1)) dX8_behind_117 (by decide) ?_
        have e : q_fol 3 dp x = none := f
        exact og_iret (pc := 118) hr dX8_behind_118 (by omega) (by omega) ⟨rfl, by rw [e]; rfl, by rw [e]; exact w⟩
    refine og_iload_n (pc := 62) dX8_behind_62 rfl ?_
    refine og_bipush (pc := 63) (v := 40) dX8_behind_63 (by decide) ?_
    refine og_icmp_ne (pc := 65) (tgt := 89) dX8_behind_65 (by decide) (fun c => nop (fun z => c z.1)) (fun c => ?_)
    refine og_aload_n (pc := 68) dX8_behind_68 rfl ?_
    refine og_get (pc := 69) F_X8_214 dX8_behind_69 wm (by omega) rfl ?_
    refine og_bipush (pc := 72) (v := 6) dX8_behind_72 (by decide) ?_
    refine og_geN (pc := 74) (tgt := 89) (i := dp) (N := 6) dX8_behind_74 (by decide) rfl rfl (by omega) (by omega) (fun c_74 => ?_) (fun c_74 => ?_)
    · exact nop (fun z => by omega)
    have hlt : dp < 6 := by omega
    refine og_aload_n (pc := 77) dX8_behind_77 rfl ?_
    refine og_dup (pc := 78) dX8_behind_78 rfl ?_
    refine og_get (pc := 79) F_X8_214 dX8_behind_79 wm (by omega) rfl ?_
    refine og_iconst (pc := 82) (v := 1) dX8_behind_82 (by decide) ?_
    refine og_iadd (pc := 83) dX8_behind_83 ?_
    rw [show m_dp (m_wD M dp) = nI dp from rfl, nI_1]
    refine og_put (pc := 84) P_X8_214 dX8_behind_84 wm (by omega) rfl rfl (Nat.le_of_ble_eq_true rfl) ?_
    refine og_iconst (pc := 87) (v := 2) dX8_behind_87 (by decide) ?_
    have f : q_fop dp x = some (2, dp + 1) := q_if_pos ⟨c, hlt⟩
    have e : q_fol 3 dp x = some (2, dp + 1) := f
    exact og_iret (pc := 88) hr dX8_behind_88 (by omega) (by omega) ⟨rfl, by rw [e]; rfl, by rw [e]; exact (w.deep (dp + 1))⟩
  | 4, _ =>
    refine og_tableOut (pc := 10) (tgt := 119) dX8_behind_10 (by decide) (by decide) ?_
    have nop : ¬ (x = 41 ∧ 0 < dp) → og_G E yX8_behind.cls cX8_behind (d + 1) 0 0 4 X (og_Q E (fun v nn h1 => nn = n1 ∧ v = some (.int (q_rs (q_fol 4 dp x))) ∧ og_MK h0 h1 (m_wD M (q_rd dp (q_fol 4 dp x)))) no_x 0 0 X) 0 0 n1 h1 144 [some (.ref 101), some (.int (nI 4)), some (.int x), some (.int y)] [] := by
      intro h41
      refine og_iload_n (pc := 144) dX8_behind_144 rfl ?_
      refine og_bipush (pc := 145) (v := 39) dX8_behind_145 (by decide) ?_
      refine og_icmp_ne (pc := 147) (tgt := 154) dX8_behind_147 (by decide) (fun c39 => ?_) (fun c39 => ?_)
      rotate_left
      · refine og_iconst (pc := 150) (v := 4) dX8_behind_150 (by decide) ?_
        refine og_goto (pc := 151) (tgt := 194) dX8_behind_151 (by decide) ?_
        have e : q_fol 4 dp x = some (4, dp) := q_if_pos c39
        exact og_iret (pc := 194) hr dX8_behind_194 (by omega) (by omega) ⟨rfl, by rw [e]; rfl, by rw [e]; exact w⟩
      have mul : (x = 42 ∨ x = 43 ∨ x = 45) → og_G E yX8_behind.cls cX8_behind (d + 1) 0 0 4 X (og_Q E (fun v nn h1 => nn = n1 ∧ v = some (.int (q_rs (q_fol 4 dp x))) ∧ og_MK h0 h1 (m_wD M (q_rd dp (q_fol 4 dp x)))) no_x 0 0 X) 0 0 n1 h1 172 [some (.ref 101), some (.int (nI 4)), some (.int x), some (.int y)] [] := by
        intro hx
        refine og_iconst (pc := 172) (v := 2) dX8_behind_172 (by decide) ?_
        refine og_goto (pc := 173) (tgt := 194) dX8_behind_173 (by decide) ?_
        have e : q_fol 4 dp x = some (2, dp) := (q_if_neg c39).trans (q_if_pos hx)
        exact og_iret (pc := 194) hr dX8_behind_194 (by omega) (by omega) ⟨rfl, by rw [e]; rfl, by rw [e]; exact w⟩
      refine og_iload_n (pc := 154) dX8_behind_154 rfl ?_
      refine og_bipush (pc := 155) (v := 42) dX8_behind_155 (by decide) ?_
      refine og_icmp_eq (pc := 157) (tgt := 172) dX8_behind_157 (by decide) (fun c => mul (Or.inl c)) (fun c42 => ?_)
      refine og_iload_n (pc := 160) dX8_behind_160 rfl ?_
      refine og_bipush (pc := 161) (v := 43) dX8_behind_161 (by decide) ?_
      refine og_icmp_eq (pc := 163) (tgt := 172) dX8_behind_163 (by decide) (fun c => mul (Or.inr (Or.inl c))) (fun c43 => ?_)
      refine og_iload_n (pc := 166) dX8_behind_166 rfl ?_
      refine og_bipush (pc := 167) (v := 45) dX8_behind_167 (by decide) ?_
      refine og_icmp_ne (pc := 169) (tgt := 176) dX8_behind_169 (by decide) (fun c45 => ?_) (fun c => mul (Or.inr (Or.inr c)))
      have cm : ¬ (x = 42 ∨ x = 43 ∨ x = 45) := fun z => by
        rcases z with z | z | z
        · exact c42 z
        · exact c43 z
        · exact c45 z
      refine og_iload_n (pc := 176) dX8_behind_176 rfl ?_
      refine og_bipush (pc := 177) (v := 59) dX8_behind_177 (by decide) ?_
      refine og_icmp_ne (pc := 179) (tgt := 193) dX8_behind_179 (by decide) (fun c59 => ?_) (fun c59 => ?_)
      · refine og_iconst (pc := 193) (v := (-1)) dX8_behind_193 (by decide) ?_
        have e : q_fol 4 dp x = none := (q_if_neg c39).trans ((q_if_neg cm).trans ((q_if_neg h41).trans (q_if_neg (fun z => c59 z.1))))
        exact og_iret (pc := 194) hr dX8_behind_194 (by omega) (by omega) ⟨rfl, by rw [e]; rfl, by rw [e]; exact w⟩
      refine og_aload_n (pc := 182) dX8_behind_182 rfl ?_
      refine og_get (pc := 183) F_X8_214 dX8_behind_183 wm (by omega) rfl ?_
      refine og_if_ne (pc := 186) (tgt := 193) dX8_behind_186 (by decide) (fun cd => ?_) (fun cd => ?_)
      · refine og_iconst (pc := 193) (v := (-1)) dX8_behind_193 (by decide) ?_
        have e : q_fol 4 dp x = none := (q_if_neg c39).trans ((q_if_neg cm).trans ((q_if_neg h41).trans (q_if_neg (fun z => cd (by show nI dp = 0; rw [z.2]; rfl)))))
        exact og_iret (pc := 194) hr dX8_behind_194 (by omega) (by omega) ⟨rfl, by rw [e]; rfl, by rw [e]; exact w⟩
      · have d0 : dp = 0 := by
          rcases Nat.eq_zero_or_pos dp with q | q
          · exact q
          · exact absurd cd (nI_ne0 q (by omega))
        refine og_iconst (pc := 189) (v := 0) dX8_behind_189 (by decide) ?_
        refine og_goto (pc := 190) (tgt := 194) dX8_behind_190 (by decide) ?_
        have e : q_fol 4 dp x = some (0, dp) := (q_if_neg c39).trans ((q_if_neg cm).trans ((q_if_neg h41).trans (q_if_pos ⟨c59, d0⟩)))
        exact og_iret (pc := 194) hr dX8_behind_194 (by omega) (by omega) ⟨rfl, by rw [e]; rfl, by rw [e]; exact w⟩
    refine og_iload_n (pc := 119) dX8_behind_119 rfl ?_
    refine og_bipush (pc := 120) (v := 41) dX8_behind_120 (by decide) ?_
    refine og_icmp_ne (pc := 122) (tgt := 144) dX8_behind_122 (by decide) (fun c => nop (fun z => c z.1)) (fun c => ?_)
    refine og_aload_n (pc := 125) dX8_behind_125 rfl ?_
    refine og_get (pc := 126) F_X8_214 dX8_behind_126 wm (by omega) rfl ?_
    refine og_if_le (pc := 129) (tgt := 144) dX8_behind_129 (by decide) (fun c2 => nop (fun z => ?_)) (fun c2 => ?_)
    · exact absurd c2 (nI_nle z.2 (by omega))
    have hpos : 0 < dp := by
      rcases Nat.eq_zero_or_pos dp with q | q
      · rw [q] at c2
        exact absurd (show nI 0 ≤ 0 by decide) c2
      · exact q
    obtain ⟨k, rfl⟩ : ∃ k, dp = k + 1 := ⟨dp - 1, by omega⟩
    refine og_aload_n (pc := 132) dX8_behind_132 rfl ?_
    refine og_dup (pc := 133) dX8_behind_133 rfl ?_
    refine og_get (pc := 134) F_X8_214 dX8_behind_134 wm (by omega) rfl ?_
    refine og_iconst (pc := 137) (v := 1) dX8_behind_137 (by decide) ?_
    refine og_isub (pc := 138) dX8_behind_138 ?_
    rw [show m_dp (m_wD M (k + 1)) = nI (k + 1) from rfl, nI_s1]
    refine og_put (pc := 139) P_X8_214 dX8_behind_139 wm (by omega) rfl rfl (Nat.le_of_ble_eq_true rfl) ?_
    refine og_iconst (pc := 142) (v := 4) dX8_behind_142 (by decide) ?_
    have e : q_fol 4 (k + 1) x = some (4, k) := (q_if_neg (fun z => by rw [c] at z; exact absurd z (by decide))).trans ((q_if_neg (fun z => by rw [c] at z; exact absurd z (by decide))).trans (q_if_pos ⟨c, hpos⟩))
    exact og_iret (pc := 143) hr dX8_behind_143 (by omega) (by omega) ⟨rfl, by rw [e]; rfl, by rw [e]; exact w.deep k⟩
  | st + 5, hst => exact absurd hst (by omega)
set_option maxRecDepth 4000 in
theorem c_X8_fault (E : og_E) (d n : Nat) (h : og_H) {h0 : og_H} {M : q_M} (w : og_MK h0 h M) :
    og_M E yX8_fault (.code yX8_fault cX8_fault 3 (some .int)) (d + 2) [.ref 101] n h 0 0 (fun v nn h1 => nn = n ∧ (∃ dp, dp ≤ 6 ∧ og_MK h0 h1 (m_wD M dp)) ∧ ((∃ i, i < m_ty M ∧ (∃ q, q_syn (m_t M) i = some q) ∧ q_syn (m_t M) (i + 1) = none ∧ v = some (.int (nI i))) ∨ (∃ dp, q_syn (m_t M) (m_ty M) = some (0, dp) ∧ v = some (.int (-1))) ∨ (∃ s dp, s ≠ 0 ∧ q_syn (m_t M) (m_ty M) = some (s, dp) ∧ v = some (.int (nI (m_ty M)))))) no_x := by
  refine og_start (lv := [some (.ref 101), none, none]) (by decide) rfl rfl (Nat.le_of_ble_eq_true rfl) fun X hr hnm htb => ?_
  have wm := w.m
  have hL : m_ty M ≤ 100 := w.ok.2
  refine og_aload_n (pc := 0) dX8_fault_0 rfl ?_
  refine og_iconst (pc := 1) (v := 0) dX8_fault_1 (by decide) ?_
  refine og_put (pc := 2) P_X8_214 dX8_fault_2 (by repeat (first | exact og_set_eq _ _ _ | assumption | refine (og_set_ne _ _ (by first | assumption | omega)).trans ?_)) (by omega) rfl rfl (Nat.le_of_ble_eq_true rfl) ?_
  have w2 : og_MK h0 (og_set h 101 (og_mM (m_wD M 0))) (m_wD M 0) := w.sO (m_ps M) (m_ty M) (m_rf M) (m_la M) (m_un M) (m_ls M) (nI 0) (m_wl M) (m_ct M) w.ok.1 w.ok.2
  refine og_abs (P := fun g => og_MK h0 g (m_wD M 0)) w2 fun g w => ?_
  refine og_iconst (pc := 5) (v := 0) dX8_fault_5 (by decide) ?_
  refine og_istore_n_1 (pc := 6) dX8_fault_6 rfl ?_
  refine og_iconst (pc := 7) (v := 0) dX8_fault_7 (by decide) ?_
  refine og_istore_n_2 (pc := 8) dX8_fault_8 rfl ?_
  have loop : ∀ k i : Nat, i + k = m_ty M → ∀ s dp g, q_syn (m_t M) i = some (s, dp) → s ≤ 4 → dp ≤ 6 → og_MK h0 g (m_wD M dp) → og_G E yX8_fault.cls cX8_fault (d + 2) 0 0 3 X (og_Q E (fun v nn h1 => nn = n ∧ (∃ dp, dp ≤ 6 ∧ og_MK h0 h1 (m_wD M dp)) ∧ ((∃ i, i < m_ty M ∧ (∃ q, q_syn (m_t M) i = some q) ∧ q_syn (m_t M) (i + 1) = none ∧ v = some (.int (nI i))) ∨ (∃ dp, q_syn (m_t M) (m_ty M) = some (0, dp) ∧ v = some (.int (-1))) ∨ (∃ s dp, s ≠ 0 ∧ q_syn (m_t M) (m_ty M) = some (s, dp) ∧ v = some (.int (nI (m_ty M)))))) no_x 0 0 X) 0 0 n g 9 [some (.ref 101), some (.int (nI s)), some (.int (nI i))] [] := by
    intro k
    induction k with
    | zero =>
      intro i hi s dp g hq hs hdp w
      have hiL : i = m_ty M := by omega
      have wm := w.m
      refine og_iload_n (pc := 9) dX8_fault_9 rfl ?_
      refine og_aload_n (pc := 10) dX8_fault_10 rfl ?_
      refine og_get (pc := 11) F_X8_211 dX8_fault_11 wm (by omega) rfl ?_
      refine og_geN (pc := 14) (tgt := 42) (i := i) (N := (m_ty M)) dX8_fault_14 (by decide) rfl rfl (by omega) (by omega) (fun c_14 => ?_) (fun c_14 => ?_)
      · refine og_iload_n (pc := 42) dX8_fault_42 rfl ?_
        refine og_if_ne (pc := 43) (tgt := 50) dX8_fault_43 (by decide) (fun c => ?_) (fun c => ?_)
        · refine og_aload_n (pc := 50) dX8_fault_50 rfl ?_
          refine og_get (pc := 51) F_X8_211 dX8_fault_51 wm (by omega) rfl ?_
          exact og_iret (pc := 54) hr dX8_fault_54 (by omega) (by omega) ⟨rfl, ⟨dp, hdp, w⟩, Or.inr (Or.inr ⟨s, dp, fun q => c (by rw [q]; rfl), hiL ▸ hq, rfl⟩)⟩
        · have s0 : s = 0 := by
            rcases Nat.eq_zero_or_pos s with q | q
            · exact q
            · exact absurd c (nI_ne0 q (by omega))
          subst s0
          refine og_iconst (pc := 46) (v := (-1)) dX8_fault_46 (by decide) ?_
          refine og_goto (pc := 47) (tgt := 54) dX8_fault_47 (by decide) ?_
          exact og_iret (pc := 54) hr dX8_fault_54 (by omega) (by omega) ⟨rfl, ⟨dp, hdp, w⟩, Or.inr (Or.inl ⟨dp, hiL ▸ hq, rfl⟩)⟩
      · omega
    | succ k ih =>
      intro i hi s dp g hq hs hdp w
      have wm := w.m
      have wt := w.t
      refine og_iload_n (pc := 9) dX8_fault_9 rfl ?_
      refine og_aload_n (pc := 10) dX8_fault_10 rfl ?_
      refine og_get (pc := 11) F_X8_211 dX8_fault_11 wm (by omega) rfl ?_
      refine og_geN (pc := 14) (tgt := 42) (i := i) (N := (m_ty M)) dX8_fault_14 (by decide) rfl rfl (by omega) (by omega) (fun c_14 => ?_) (fun c_14 => ?_)
      · omega
      refine og_aload_n (pc := 17) dX8_fault_17 rfl ?_
      refine og_iload_n (pc := 18) dX8_fault_18 rfl ?_
      refine og_aload_n (pc := 19) dX8_fault_19 rfl ?_
      refine og_get (pc := 20) F_X8_16 dX8_fault_20 wm (by omega) rfl ?_
      refine og_iload_n (pc := 23) dX8_fault_23 rfl ?_
      refine og_ialdN (pc := 24) rfl dX8_fault_24 wt (by omega) (by omega) (by first | decide | assumption | omega) ?_
      refine og_callV (pc := 25) (As := [.int (nI s), .int (m_t M i)]) (rest := []) (c_X8_behind E d n s dp g (m_t M i) w hdp hs) Y_X8_behind I_X8_behind V_X8_behind wm (by omega) rfl rfl K_X8_217 dX8_fault_25 rfl rfl (Nat.le_of_ble_eq_true rfl) (by omega) (by omega) (by omega) (fun _ _ _ z => z) (fun v n1 h1 z => ?_)
      obtain ⟨hn, rfl, w3⟩ := z
      subst hn
      have hstep : q_syn (m_t M) (i + 1) = q_fol s dp (m_t M i) := by
        show (match q_syn (m_t M) i with | none => none | some q => q_fol q.1 q.2 (m_t M i)) = _
        rw [hq]
      refine og_istore_n_1 (pc := 28) dX8_fault_28 rfl ?_
      refine og_iload_n (pc := 29) dX8_fault_29 rfl ?_
      refine og_iconst (pc := 30) (v := (-1)) dX8_fault_30 (by decide) ?_
      cases hf : q_fol s dp (m_t M i) with
      | none =>
        rw [hf] at w3
        refine og_icmp_ne (pc := 31) (tgt := 36) dX8_fault_31 (by decide) (fun c => absurd rfl c) (fun c => ?_)
        refine og_iload_n (pc := 34) dX8_fault_34 rfl ?_
        exact og_iret (pc := 35) hr dX8_fault_35 (by omega) (by omega) ⟨rfl, ⟨dp, hdp, w3⟩, Or.inl ⟨i, by omega, ⟨_, hq⟩, by rw [hstep, hf], rfl⟩⟩
      | some q =>
        obtain ⟨s2, dp2⟩ := q
        obtain ⟨b1, b2⟩ := q_fol_le hdp hf
        have b1 : s2 ≤ 4 := b1
        rw [hf] at w3
        refine og_icmp_ne (pc := 31) (tgt := 36) dX8_fault_31 (by decide) (fun _ => ?_) (fun c => absurd c (q_on_some (r := s2) (by omega)))
        refine og_iinc_2 (pc := 36) dX8_fault_36 (og_inc i) rfl ?_
        refine og_goto (pc := 39) (tgt := 9) dX8_fault_39 (by decide) ?_
        exact ih (i + 1) (by omega) s2 dp2 _ (by rw [hstep, hf]) b1 b2 w3
  exact loop (m_ty M) 0 (by omega) 0 0 g rfl (by omega) (by omega) w
