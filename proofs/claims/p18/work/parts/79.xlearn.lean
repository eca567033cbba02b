/-- LINES 0 .. k - 1 are as the row G tells, six numbers each -/
def LN (k : Nat) (G : Nat → Int32) (h : ev_H) : Prop := ∀ i, i < k → h (100 + 8 * i) = cLn i (G (6 * i)) (G (6 * i + 1)) (G (6 * i + 2)) (G (6 * i + 3)) (G (6 * i + 4)) (G (6 * i + 5))
theorem LN_kx {l : List Nat} {k : Nat} {G : Nat → Int32} {h h' : ev_H} (hl : ∀ z ∈ l, z < 100) (hk : KX l h h') (hn : k ≤ 40) (hL : LN k G h) : LN k G h' := fun i hi => (hk _ (fun z => by have := hl _ z; omega) (nSP_ln (by omega))).trans (hL i hi)
/-- LETTERS of side one; of the other -/
def ltO (G : Nat → Int32) : Nat → Int32
  | 0 => 0
  | k + 1 => if G (6 * k + 2) = 1 then ltO G k ||| (G (6 * k) ||| G (6 * k + 1)) else ltO G k
def ltE (G : Nat → Int32) : Nat → Int32
  | 0 => 0
  | k + 1 => if G (6 * k + 2) = 1 then ltE G k else ltE G k ||| (G (6 * k) ||| G (6 * k + 1))
set_option maxRecDepth 20000 in
set_option maxHeartbeats 1000000 in
theorem x_sl_z {xs : Nat → Int32} {L d : Nat} {h : ev_H} {h0 : ev_H} {c k : Nat} {G : Nat → Int32} {fk fs : Int32} (hS : SH h) (hck : c ≤ 40) (hF : KX [13] h0 h) (f13 : h 13 = c13 (ltO G k) (ltE G k) fk fs) (hLN : LN c G h) (hk : k = c) : EV xs L (d + 4) 0 0 M_X7_learn 434 h 26 [some (.ref 13), some (.ref 12), some (.int (nI c)), some (.int (nI k))] [] (fun sz' h' r => sz' = 434 ∧ SH h' ∧ KX [13] h0 h' ∧ (∃ fs, h' 13 = c13 (ltO G c) (ltE G c) 0 fs) ∧ r = []) := by
  refine r_iload_n rfl dX7_learn_26 rfl ?_
  refine r_iload_n rfl dX7_learn_27 rfl ?_
  refine r_icmp_ge (tgt := 121) rfl rfl dX7_learn_28 (fun _ => ?_) (fun zc => absurd (show nI c ≤ nI k from nI_le (a := c) (b := k) (by omega) (by omega)) zc)
  refine r_aload_n rfl dX7_learn_121 rfl ?_
  refine r_getv 2 rfl dX7_learn_122 (show 2 ≤ 13 ∧ 13 < 434 by decide) f13 fl_X7_21 rfl ?_
  refine r_aload_n rfl dX7_learn_125 rfl ?_
  refine r_getv 0 rfl dX7_learn_126 (show 2 ≤ 13 ∧ 13 < 434 by decide) f13 fl_X7_12 rfl ?_
  obtain ⟨g51, hw52⟩ := hS.ws wsAt_18
  obtain ⟨g53, hw54⟩ := hS.ws wsAt_14
  refine cl_X7_57 rfl rfl dX7_learn_129 (show 2 ≤ 18 ∧ 18 < 434 by decide).1 (show 2 ≤ 18 ∧ 18 < 434 by decide).2 hw52.2.2.1 (Nat.le_of_ble_eq_true rfl) (s_X10_become hw52 hw54 (by omega)) ?_
  rintro _ h55 _ ⟨rfl, eh56, rfl⟩
  have hS57 := SH_p hS wsAt_18 eh56
  have hk58 : KX [] h h55 := KX_p wsAt_18 eh56
  have hF59 := KX_tr hF (KX_sb (l := [13]) (by first | decide | exact fun _ z => z | simp) hk58)
  have f60 : h55 (13) = .inr (7, [.ref 14, .ref 16, .ref 18, .ref 20, .ref 22, .int (ltO G k), .int (ltE G k), .int fk, .int fs]) := (hk58 _ (by decide) nSP_13).trans f13
  have LN61 := LN_kx (by decide) hk58 (by omega) hLN
  refine r_aload_n rfl dX7_learn_132 rfl ?_
  refine r_getv 2 rfl dX7_learn_133 (show 2 ≤ 13 ∧ 13 < 434 by decide) f60 fl_X7_21 rfl ?_
  refine r_aload_n rfl dX7_learn_136 rfl ?_
  refine cl_X7_60 rfl rfl dX7_learn_137 (show 2 ≤ 13 ∧ 13 < 434 by decide).1 (show 2 ≤ 13 ∧ 13 < 434 by decide).2 f60 (Nat.le_of_ble_eq_true rfl) (x_X7_sharedLetters hS57 f60) ?_
  rintro _ h62 _ ⟨rfl, e63, rfl⟩
  replace e63 := e63.symm
  subst e63
  obtain ⟨g65, hw66⟩ := hS57.ws wsAt_18
  refine cl_X7_63 rfl rfl dX7_learn_140 (show 2 ≤ 18 ∧ 18 < 434 by decide).1 (show 2 ≤ 18 ∧ 18 < 434 by decide).2 hw66.2.2.1 (Nat.le_of_ble_eq_true rfl) (s_X10_spreadBut hw66) ?_
  rintro _ h67 _ ⟨rfl, eh68, rfl⟩
  have hS69 := SH_p hS57 wsAt_18 eh68
  have hk70 : KX [] h55 h67 := KX_p wsAt_18 eh68
  have hF71 := KX_tr hF59 (KX_sb (l := [13]) (by first | decide | exact fun _ z => z | simp) hk70)
  have f72 : h67 (13) = .inr (7, [.ref 14, .ref 16, .ref 18, .ref 20, .ref 22, .int (ltO G k), .int (ltE G k), .int fk, .int fs]) := (hk70 _ (by decide) nSP_13).trans f60
  have LN73 := LN_kx (by decide) hk70 (by omega) LN61
  refine r_aload_n rfl dX7_learn_143 rfl ?_
  refine r_getv 3 rfl dX7_learn_144 (show 2 ≤ 13 ∧ 13 < 434 by decide) f72 fl_X7_24 rfl ?_
  refine r_aload_n rfl dX7_learn_147 rfl ?_
  refine r_getv 1 rfl dX7_learn_148 (show 2 ≤ 13 ∧ 13 < 434 by decide) f72 fl_X7_18 rfl ?_
  obtain ⟨g74, hw75⟩ := hS69.ws wsAt_20
  obtain ⟨g76, hw77⟩ := hS69.ws wsAt_16
  refine cl_X7_57 rfl rfl dX7_learn_151 (show 2 ≤ 20 ∧ 20 < 434 by decide).1 (show 2 ≤ 20 ∧ 20 < 434 by decide).2 hw75.2.2.1 (Nat.le_of_ble_eq_true rfl) (s_X10_become hw75 hw77 (by omega)) ?_
  rintro _ h78 _ ⟨rfl, eh79, rfl⟩
  have hS80 := SH_p hS69 wsAt_20 eh79
  have hk81 : KX [] h67 h78 := KX_p wsAt_20 eh79
  have hF82 := KX_tr hF71 (KX_sb (l := [13]) (by first | decide | exact fun _ z => z | simp) hk81)
  have f83 : h78 (13) = .inr (7, [.ref 14, .ref 16, .ref 18, .ref 20, .ref 22, .int (ltO G k), .int (ltE G k), .int fk, .int fs]) := (hk81 _ (by decide) nSP_13).trans f72
  have LN84 := LN_kx (by decide) hk81 (by omega) LN73
  refine r_aload_n rfl dX7_learn_154 rfl ?_
  refine r_getv 3 rfl dX7_learn_155 (show 2 ≤ 13 ∧ 13 < 434 by decide) f83 fl_X7_24 rfl ?_
  refine r_aload_n rfl dX7_learn_158 rfl ?_
  refine cl_X7_60 rfl rfl dX7_learn_159 (show 2 ≤ 13 ∧ 13 < 434 by decide).1 (show 2 ≤ 13 ∧ 13 < 434 by decide).2 f83 (Nat.le_of_ble_eq_true rfl) (x_X7_sharedLetters hS80 f83) ?_
  rintro _ h85 _ ⟨rfl, e86, rfl⟩
  replace e86 := e86.symm
  subst e86
  obtain ⟨g88, hw89⟩ := hS80.ws wsAt_20
  refine cl_X7_63 rfl rfl dX7_learn_162 (show 2 ≤ 20 ∧ 20 < 434 by decide).1 (show 2 ≤ 20 ∧ 20 < 434 by decide).2 hw89.2.2.1 (Nat.le_of_ble_eq_true rfl) (s_X10_spreadBut hw89) ?_
  rintro _ h90 _ ⟨rfl, eh91, rfl⟩
  have hS92 := SH_p hS80 wsAt_20 eh91
  have hk93 : KX [] h78 h90 := KX_p wsAt_20 eh91
  have hF94 := KX_tr hF82 (KX_sb (l := [13]) (by first | decide | exact fun _ z => z | simp) hk93)
  have f95 : h90 (13) = .inr (7, [.ref 14, .ref 16, .ref 18, .ref 20, .ref 22, .int (ltO G k), .int (ltE G k), .int fk, .int fs]) := (hk93 _ (by decide) nSP_13).trans f83
  have LN96 := LN_kx (by decide) hk93 (by omega) LN84
  refine r_aload_n rfl dX7_learn_165 rfl ?_
  refine r_getv 3 rfl dX7_learn_166 (show 2 ≤ 13 ∧ 13 < 434 by decide) f95 fl_X7_24 rfl ?_
  obtain ⟨g97, hw98⟩ := hS92.ws wsAt_20
  refine cl_X7_67 rfl rfl dX7_learn_169 (show 2 ≤ 20 ∧ 20 < 434 by decide).1 (show 2 ≤ 20 ∧ 20 < 434 by decide).2 hw98.2.2.1 (Nat.le_of_ble_eq_true rfl) (s_X10_turn hw98) ?_
  rintro _ h99 _ ⟨rfl, eh100, rfl⟩
  have hS101 := SH_p hS92 wsAt_20 eh100
  have hk102 : KX [] h90 h99 := KX_p wsAt_20 eh100
  have hF103 := KX_tr hF94 (KX_sb (l := [13]) (by first | decide | exact fun _ z => z | simp) hk102)
  have f104 : h99 (13) = .inr (7, [.ref 14, .ref 16, .ref 18, .ref 20, .ref 22, .int (ltO G k), .int (ltE G k), .int fk, .int fs]) := (hk102 _ (by decide) nSP_13).trans f95
  have LN105 := LN_kx (by decide) hk102 (by omega) LN96
  refine r_aload_n rfl dX7_learn_172 rfl ?_
  refine r_iconst (v := 0) rfl dX7_learn_173 (by decide) ?_
  refine e_put 7 (fs' := [.ref 14, .ref 16, .ref 18, .ref 20, .ref 22, .int (ltO G k), .int (ltE G k), .int 0, .int fs]) rfl dX7_learn_174 (show 2 ≤ 13 ∧ 13 < 434 by decide) hS101 (KM_rf (Mod := [13]) _) (List.mem_singleton.mpr rfl) f104 (fp_X7_70 rfl _ (Or.inl rfl)) (Nat.le_of_ble_eq_true rfl) rfl (fun h106 hS107 _ hN108 f109 => ?_)
  have hk110 : KX [13] h99 h106 := KX_M (fun _ z => z) hN108
  have hF111 := KX_tr hF103 (KX_sb (l := [13]) (by first | decide | exact fun _ z => z | simp) hk110)
  have LN112 := LN_kx (by decide) hk110 (by omega) LN105
  exact r_ret dX7_learn_177 (rt_v rfl) ⟨rfl, hS107, hF111, ⟨_, by rw [← hk]; exact f109⟩, rfl⟩
set_option maxRecDepth 20000 in
set_option maxHeartbeats 1000000 in
theorem x_sl_s {xs : Nat → Int32} {L d : Nat} {h : ev_H} {h0 : ev_H} {c k : Nat} {G : Nat → Int32} {fk fs : Int32} (hS : SH h) (hck : c ≤ 40) (hF : KX [13] h0 h) (f13 : h 13 = c13 (ltO G k) (ltE G k) fk fs) (hLN : LN c G h) (hk : k < c) (ih : ∀ (h' : ev_H), SH h' → KX [13] h0 h' → h' 13 = c13 (ltO G (k + 1)) (ltE G (k + 1)) fk fs → LN c G h' → EV xs L (d + 4) 0 0 M_X7_learn 434 h' 26 [some (.ref 13), some (.ref 12), some (.int (nI c)), some (.int (nI (k + 1)))] [] (fun sz' h' r => sz' = 434 ∧ SH h' ∧ KX [13] h0 h' ∧ (∃ fs, h' 13 = c13 (ltO G c) (ltE G c) 0 fs) ∧ r = [])) : EV xs L (d + 4) 0 0 M_X7_learn 434 h 26 [some (.ref 13), some (.ref 12), some (.int (nI c)), some (.int (nI k))] [] (fun sz' h' r => sz' = 434 ∧ SH h' ∧ KX [13] h0 h' ∧ (∃ fs, h' 13 = c13 (ltO G c) (ltE G c) 0 fs) ∧ r = []) := by
  refine r_iload_n rfl dX7_learn_26 rfl ?_
  refine r_iload_n rfl dX7_learn_27 rfl ?_
  refine r_icmp_ge (tgt := 121) rfl rfl dX7_learn_28 (fun zc => absurd zc (show ¬ nI c ≤ nI k from nI_ge (a := k) (b := c) (by omega) (by omega))) (fun _ => ?_)
  refine r_iload_n rfl dX7_learn_31 rfl ?_
  refine r_aload_n rfl dX7_learn_32 rfl ?_
  refine r_alen (v := 40) rfl dX7_learn_33 (by decide) (by decide) hS.o12 (by decide) rfl ?_
  refine r_icmp_ge (tgt := 121) rfl rfl dX7_learn_34 (fun zc => absurd zc (show ¬ (40 : Int32) ≤ nI k from nI_ge (a := k) (b := 40) (by omega) (by decide))) (fun _ => ?_)
  refine r_aload_n rfl dX7_learn_37 rfl ?_
  refine r_iload_n rfl dX7_learn_38 rfl ?_
  refine r_aald (jn := k) (v := .ref (100 + 8 * k)) rfl dX7_learn_39 (show 2 ≤ 12 ∧ 12 < 434 by decide).1 (show 2 ≤ 12 ∧ 12 < 434 by decide).2 hS.o12 (by decide) (vp_in_nI (n := k) (by omega) (by decide)) (nI_clamp (n := k) (by omega)) (by show va_rf (if _ < _ then _ else _) = _; rw [if_pos (show k < 40 by omega)]; rfl) ?_
  refine r_aload_n rfl dX7_learn_40 rfl ?_
  refine r_getv 4 rfl dX7_learn_41 (show 2 ≤ 13 ∧ 13 < 434 by decide) f13 fl_X7_27 rfl ?_
  refine r_sipush (v := 255) rfl dX7_learn_44 (by decide) ?_
  refine cl_X7_40 rfl rfl dX7_learn_47 (show 2 ≤ 100 + 8 * k ∧ 100 + 8 * k < 434 by omega).1 (show 2 ≤ 100 + 8 * k ∧ 100 + 8 * k < 434 by omega).2 (hLN k (by omega)) (Nat.le_of_ble_eq_true rfl) (x_X3_gatherWorlds hS (i := k) (by omega) wsAt_22 (hLN k (by omega))) ?_
  rintro _ h51 _ ⟨rfl, hS52, hk53, rfl⟩
  have hF54 := KX_tr hF (KX_sb (l := [13]) (by first | decide | exact fun _ z => z | simp) hk53)
  have f55 : h51 (13) = .inr (7, [.ref 14, .ref 16, .ref 18, .ref 20, .ref 22, .int (ltO G k), .int (ltE G k), .int fk, .int fs]) := (hk53 _ (by decide) nSP_13).trans f13
  have LN56 := LN_kx (by decide) hk53 (by omega) hLN
  refine r_aload_n rfl dX7_learn_50 rfl ?_
  refine r_iload_n rfl dX7_learn_51 rfl ?_
  refine r_aald (jn := k) (v := .ref (100 + 8 * k)) rfl dX7_learn_52 (show 2 ≤ 12 ∧ 12 < 434 by decide).1 (show 2 ≤ 12 ∧ 12 < 434 by decide).2 hS52.o12 (by decide) (vp_in_nI (n := k) (by omega) (by decide)) (nI_clamp (n := k) (by omega)) (by show va_rf (if _ < _ then _ else _) = _; rw [if_pos (show k < 40 by omega)]; rfl) ?_
  refine r_getv 3 rfl dX7_learn_53 (show 2 ≤ 100 + 8 * k ∧ 100 + 8 * k < 434 by omega) (LN56 k (by omega)) fl_X7_46 rfl ?_
  refine r_iconst (v := 1) rfl dX7_learn_56 (by decide) ?_
  refine r_icmp_ne (tgt := 89) rfl rfl dX7_learn_57 (fun c57 => ?_) (fun c57 => ?_)
  · refine r_aload_n rfl dX7_learn_89 rfl ?_
    refine r_getv 1 rfl dX7_learn_90 (show 2 ≤ 13 ∧ 13 < 434 by decide) f55 fl_X7_18 rfl ?_
    refine r_aload_n rfl dX7_learn_93 rfl ?_
    refine r_getv 4 rfl dX7_learn_94 (show 2 ≤ 13 ∧ 13 < 434 by decide) f55 fl_X7_27 rfl ?_
    obtain ⟨g58, hw59⟩ := hS52.ws wsAt_16
    obtain ⟨g60, hw61⟩ := hS52.ws wsAt_22
    refine cl_X7_49 rfl rfl dX7_learn_97 (show 2 ≤ 16 ∧ 16 < 434 by decide).1 (show 2 ≤ 16 ∧ 16 < 434 by decide).2 hw59.2.2.1 (Nat.le_of_ble_eq_true rfl) (s_X10_meet hw59 hw61 (by omega)) ?_
    rintro _ h62 _ ⟨rfl, eh63, rfl⟩
    have hS64 := SH_p hS52 wsAt_16 eh63
    have hk65 : KX [] h51 h62 := KX_p wsAt_16 eh63
    have hF66 := KX_tr hF54 (KX_sb (l := [13]) (by first | decide | exact fun _ z => z | simp) hk65)
    have f67 : h62 (13) = .inr (7, [.ref 14, .ref 16, .ref 18, .ref 20, .ref 22, .int (ltO G k), .int (ltE G k), .int fk, .int fs]) := (hk65 _ (by decide) nSP_13).trans f55
    have LN68 := LN_kx (by decide) hk65 (by omega) LN56
    refine r_aload_n rfl dX7_learn_100 rfl ?_
    refine r_dup rfl dX7_learn_101 rfl ?_
    refine r_getv 6 rfl dX7_learn_102 (show 2 ≤ 13 ∧ 13 < 434 by decide) f67 fl_X7_37 rfl ?_
    refine r_aload_n rfl dX7_learn_105 rfl ?_
    refine r_iload_n rfl dX7_learn_106 rfl ?_
    refine r_aald (jn := k) (v := .ref (100 + 8 * k)) rfl dX7_learn_107 (show 2 ≤ 12 ∧ 12 < 434 by decide).1 (show 2 ≤ 12 ∧ 12 < 434 by decide).2 hS64.o12 (by decide) (vp_in_nI (n := k) (by omega) (by decide)) (nI_clamp (n := k) (by omega)) (by show va_rf (if _ < _ then _ else _) = _; rw [if_pos (show k < 40 by omega)]; rfl) ?_
    refine cl_X7_53 rfl rfl dX7_learn_108 (show 2 ≤ 100 + 8 * k ∧ 100 + 8 * k < 434 by omega).1 (show 2 ≤ 100 + 8 * k ∧ 100 + 8 * k < 434 by omega).2 (LN68 k (by omega)) (Nat.le_of_ble_eq_true rfl) (x_X3_letters hS64 (i := k) (by omega) (LN68 k (by omega))) ?_
    rintro _ h69 _ ⟨rfl, e70, rfl⟩
    replace e70 := e70.symm
    subst e70
    refine r_ior rfl dX7_learn_111 ?_
    refine e_put 6 (fs' := [.ref 14, .ref 16, .ref 18, .ref 20, .ref 22, .int (ltO G k), .int ((ltE G k) ||| ((G (6 * k)) ||| (G (6 * k + 1)))), .int fk, .int fs]) rfl dX7_learn_112 (show 2 ≤ 13 ∧ 13 < 434 by decide) hS64 (KM_rf (Mod := [13]) _) (List.mem_singleton.mpr rfl) f67 (fp_X7_37 rfl _) (Nat.le_of_ble_eq_true rfl) rfl (fun h72 hS73 _ hN74 f75 => ?_)
    have hk76 : KX [13] h62 h72 := KX_M (fun _ z => z) hN74
    have hF77 := KX_tr hF66 (KX_sb (l := [13]) (by first | decide | exact fun _ z => z | simp) hk76)
    have LN78 := LN_kx (by decide) hk76 (by omega) LN68
    refine r_iinc (y := nI (k + 1)) (ls' := [some (.ref 13), some (.ref 12), some (.int (nI c)), some (.int (nI (k + 1)))]) rfl dX7_learn_115 rfl (nI_1 k) (Nat.le_of_ble_eq_true rfl) rfl ?_
    refine r_goto (pc' := 26) rfl dX7_learn_118 ?_
    exact ih h72 hS73 hF77 (by rw [ltO, ltE, if_neg c57, if_neg c57]; exact f75) LN78
  · refine r_aload_n rfl dX7_learn_60 rfl ?_
    refine r_getv 0 rfl dX7_learn_61 (show 2 ≤ 13 ∧ 13 < 434 by decide) f55 fl_X7_12 rfl ?_
    refine r_aload_n rfl dX7_learn_64 rfl ?_
    refine r_getv 4 rfl dX7_learn_65 (show 2 ≤ 13 ∧ 13 < 434 by decide) f55 fl_X7_27 rfl ?_
    obtain ⟨g79, hw80⟩ := hS52.ws wsAt_14
    obtain ⟨g81, hw82⟩ := hS52.ws wsAt_22
    refine cl_X7_49 rfl rfl dX7_learn_68 (show 2 ≤ 14 ∧ 14 < 434 by decide).1 (show 2 ≤ 14 ∧ 14 < 434 by decide).2 hw80.2.2.1 (Nat.le_of_ble_eq_true rfl) (s_X10_meet hw80 hw82 (by omega)) ?_
    rintro _ h83 _ ⟨rfl, eh84, rfl⟩
    have hS85 := SH_p hS52 wsAt_14 eh84
    have hk86 : KX [] h51 h83 := KX_p wsAt_14 eh84
    have hF87 := KX_tr hF54 (KX_sb (l := [13]) (by first | decide | exact fun _ z => z | simp) hk86)
    have f88 : h83 (13) = .inr (7, [.ref 14, .ref 16, .ref 18, .ref 20, .ref 22, .int (ltO G k), .int (ltE G k), .int fk, .int fs]) := (hk86 _ (by decide) nSP_13).trans f55
    have LN89 := LN_kx (by decide) hk86 (by omega) LN56
    refine r_aload_n rfl dX7_learn_71 rfl ?_
    refine r_dup rfl dX7_learn_72 rfl ?_
    refine r_getv 5 rfl dX7_learn_73 (show 2 ≤ 13 ∧ 13 < 434 by decide) f88 fl_X7_33 rfl ?_
    refine r_aload_n rfl dX7_learn_76 rfl ?_
    refine r_iload_n rfl dX7_learn_77 rfl ?_
    refine r_aald (jn := k) (v := .ref (100 + 8 * k)) rfl dX7_learn_78 (show 2 ≤ 12 ∧ 12 < 434 by decide).1 (show 2 ≤ 12 ∧ 12 < 434 by decide).2 hS85.o12 (by decide) (vp_in_nI (n := k) (by omega) (by decide)) (nI_clamp (n := k) (by omega)) (by show va_rf (if _ < _ then _ else _) = _; rw [if_pos (show k < 40 by omega)]; rfl) ?_
    refine cl_X7_53 rfl rfl dX7_learn_79 (show 2 ≤ 100 + 8 * k ∧ 100 + 8 * k < 434 by omega).1 (show 2 ≤ 100 + 8 * k ∧ 100 + 8 * k < 434 by omega).2 (LN89 k (by omega)) (Nat.le_of_ble_eq_true rfl) (x_X3_letters hS85 (i := k) (by omega) (LN89 k (by omega))) ?_
    rintro _ h90 _ ⟨rfl, e91, rfl⟩
    replace e91 := e91.symm
    subst e91
    refine r_ior rfl dX7_learn_82 ?_
    refine e_put 5 (fs' := [.ref 14, .ref 16, .ref 18, .ref 20, .ref 22, .int ((ltO G k) ||| ((G (6 * k)) ||| (G (6 * k + 1)))), .int (ltE G k), .int fk, .int fs]) rfl dX7_learn_83 (show 2 ≤ 13 ∧ 13 < 434 by decide) hS85 (KM_rf (Mod := [13]) _) (List.mem_singleton.mpr rfl) f88 (fp_X7_33 rfl _) (Nat.le_of_ble_eq_true rfl) rfl (fun h93 hS94 _ hN95 f96 => ?_)
    have hk97 : KX [13] h83 h93 := KX_M (fun _ z => z) hN95
    have hF98 := KX_tr hF87 (KX_sb (l := [13]) (by first | decide | exact fun _ z => z | simp) hk97)
    have LN99 := LN_kx (by decide) hk97 (by omega) LN89
    refine r_goto (pc' := 115) rfl dX7_learn_86 ?_
    refine r_iinc (y := nI (k + 1)) (ls' := [some (.ref 13), some (.ref 12), some (.int (nI c)), some (.int (nI (k + 1)))]) rfl dX7_learn_115 rfl (nI_1 k) (Nat.le_of_ble_eq_true rfl) rfl ?_
    refine r_goto (pc' := 26) rfl dX7_learn_118 ?_
    exact ih h93 hS94 hF98 (by rw [ltO, ltE, if_pos c57, if_pos c57]; exact f96) LN99
theorem x_sl {xs : Nat → Int32} {L d : Nat} {h0 : ev_H} {c : Nat} {G : Nat → Int32} {fk fs : Int32} (hck : c ≤ 40) : ∀ (n k : Nat) (h : ev_H), k + n = c → SH h → KX [13] h0 h → h 13 = c13 (ltO G k) (ltE G k) fk fs → LN c G h → EV xs L (d + 4) 0 0 M_X7_learn 434 h 26 [some (.ref 13), some (.ref 12), some (.int (nI c)), some (.int (nI k))] [] (fun sz' h' r => sz' = 434 ∧ SH h' ∧ KX [13] h0 h' ∧ (∃ fs, h' 13 = c13 (ltO G c) (ltE G c) 0 fs) ∧ r = []) := by
  intro n
  induction n with
  | zero => intro k h hk hS hF f13 hLN; obtain rfl : k = c := (by omega); exact x_sl_z hS hck hF f13 hLN rfl
  | succ n ih => intro k h hk hS hF f13 hLN; exact x_sl_s hS hck hF f13 hLN (by omega) (fun h' q1 q2 q3 q4 => ih (k + 1) h' (by omega) q1 q2 q3 q4)
set_option maxRecDepth 20000 in
set_option maxHeartbeats 1000000 in
theorem x_X7_learn {xs : Nat → Int32} {L d : Nat} {h : ev_H} {c : Nat} {G : Nat → Int32} {lo lt fk fs : Int32} (hS : SH h) (hck : c ≤ 40) (f13 : h 13 = c13 lo lt fk fs) (hLN : LN c G h) : EV xs L (d + 4) 0 0 M_X7_learn 434 h 0 [some (.ref 13), some (.ref 12), some (.int (nI c)), none] [] (fun sz' h' r => sz' = 434 ∧ SH h' ∧ KX [13] h h' ∧ (∃ fs, h' 13 = c13 (ltO G c) (ltE G c) 0 fs) ∧ r = []) := by
  refine r_aload_n rfl dX7_learn_0 rfl ?_
  refine r_getv 0 rfl dX7_learn_1 (show 2 ≤ 13 ∧ 13 < 434 by decide) f13 fl_X7_12 rfl ?_
  obtain ⟨g51, hw52⟩ := hS.ws wsAt_14
  refine cl_X7_30 rfl rfl dX7_learn_4 (show 2 ≤ 14 ∧ 14 < 434 by decide).1 (show 2 ≤ 14 ∧ 14 < 434 by decide).2 hw52.2.2.1 (Nat.le_of_ble_eq_true rfl) (s_X10_fill hw52) ?_
  rintro _ h53 _ ⟨rfl, eh54, rfl⟩
  have hS55 := SH_p hS wsAt_14 eh54
  have hk56 : KX [] h h53 := KX_p wsAt_14 eh54
  have hF57 := KX_tr (KX_rf (l := [13]) h) (KX_sb (l := [13]) (by first | decide | exact fun _ z => z | simp) hk56)
  have f58 : h53 (13) = .inr (7, [.ref 14, .ref 16, .ref 18, .ref 20, .ref 22, .int lo, .int lt, .int fk, .int fs]) := (hk56 _ (by decide) nSP_13).trans f13
  have LN59 := LN_kx (by decide) hk56 (by omega) hLN
  refine r_aload_n rfl dX7_learn_7 rfl ?_
  refine r_getv 1 rfl dX7_learn_8 (show 2 ≤ 13 ∧ 13 < 434 by decide) f58 fl_X7_18 rfl ?_
  obtain ⟨g60, hw61⟩ := hS55.ws wsAt_16
  refine cl_X7_30 rfl rfl dX7_learn_11 (show 2 ≤ 16 ∧ 16 < 434 by decide).1 (show 2 ≤ 16 ∧ 16 < 434 by decide).2 hw61.2.2.1 (Nat.le_of_ble_eq_true rfl) (s_X10_fill hw61) ?_
  rintro _ h62 _ ⟨rfl, eh63, rfl⟩
  have hS64 := SH_p hS55 wsAt_16 eh63
  have hk65 : KX [] h53 h62 := KX_p wsAt_16 eh63
  have hF66 := KX_tr hF57 (KX_sb (l := [13]) (by first | decide | exact fun _ z => z | simp) hk65)
  have f67 : h62 (13) = .inr (7, [.ref 14, .ref 16, .ref 18, .ref 20, .ref 22, .int lo, .int lt, .int fk, .int fs]) := (hk65 _ (by decide) nSP_13).trans f58
  have LN68 := LN_kx (by decide) hk65 (by omega) LN59
  refine r_aload_n rfl dX7_learn_14 rfl ?_
  refine r_iconst (v := 0) rfl dX7_learn_15 (by decide) ?_
  refine e_put 5 (fs' := [.ref 14, .ref 16, .ref 18, .ref 20, .ref 22, .int 0, .int lt, .int fk, .int fs]) rfl dX7_learn_16 (show 2 ≤ 13 ∧ 13 < 434 by decide) hS64 (KM_rf (Mod := [13]) _) (List.mem_singleton.mpr rfl) f67 (fp_X7_33 rfl _) (Nat.le_of_ble_eq_true rfl) rfl (fun h69 hS70 _ hN71 f72 => ?_)
  have hk73 : KX [13] h62 h69 := KX_M (fun _ z => z) hN71
  have hF74 := KX_tr hF66 (KX_sb (l := [13]) (by first | decide | exact fun _ z => z | simp) hk73)
  have LN75 := LN_kx (by decide) hk73 (by omega) LN68
  refine r_aload_n rfl dX7_learn_19 rfl ?_
  refine r_iconst (v := 0) rfl dX7_learn_20 (by decide) ?_
  refine e_put 6 (fs' := [.ref 14, .ref 16, .ref 18, .ref 20, .ref 22, .int 0, .int 0, .int fk, .int fs]) rfl dX7_learn_21 (show 2 ≤ 13 ∧ 13 < 434 by decide) hS70 (KM_rf (Mod := [13]) _) (List.mem_singleton.mpr rfl) f72 (fp_X7_37 rfl _) (Nat.le_of_ble_eq_true rfl) rfl (fun h76 hS77 _ hN78 f79 => ?_)
  have hk80 : KX [13] h69 h76 := KX_M (fun _ z => z) hN78
  have hF81 := KX_tr hF74 (KX_sb (l := [13]) (by first | decide | exact fun _ z => z | simp) hk80)
  have LN82 := LN_kx (by decide) hk80 (by omega) LN75
  refine r_iconst (v := 0) rfl dX7_learn_24 (by decide) ?_
  refine r_istore_n (ls' := [some (.ref 13), some (.ref 12), some (.int (nI c)), some (.int 0)]) rfl dX7_learn_25 (Nat.le_of_ble_eq_true rfl) rfl ?_
  exact x_sl hck c 0 h76 (by omega) hS77 hF81 f79 LN82
set_option maxRecDepth 20000 in
set_option maxHeartbeats 1000000 in
theorem x_cl_z {xs : Nat → Int32} {L d : Nat} {h : ev_H} {h0 : ev_H} {c k : Nat} {G : Nat → Int32} {kn bs bz : Int32} (hS : SH h) (hc : c ≤ 16) (hck : c ≤ 40) (hF : KX [24] h0 h) (f24 : h 24 = c24 (nI c) kn bs bz) (hLN : LN c G h) (hk : k = c) : EV xs L (d + 3) 0 0 M_X0_learn 434 h 12 [some (.ref 24), some (.ref 12), some (.int (nI c)), some (.int (nI k))] [] (fun sz' h' r => sz' = 434 ∧ SH h' ∧ KX [24] h0 h' ∧ (∃ bs bz, h' 24 = c24 (nI c) 0 bs bz) ∧ r = []) := by
  refine r_iload_n rfl dX0_learn_12 rfl ?_
  refine r_aload_n rfl dX0_learn_13 rfl ?_
  refine r_getv 2 rfl dX0_learn_14 (show 2 ≤ 24 ∧ 24 < 434 by decide) f24 fl_X0_27 rfl ?_
  refine r_icmp_ge (tgt := 47) rfl rfl dX0_learn_17 (fun _ => ?_) (fun zc => absurd (show nI c ≤ nI k from nI_le (a := c) (b := k) (by omega) (by omega)) zc)
  refine r_aload_n rfl dX0_learn_47 rfl ?_
  refine r_iconst (v := 0) rfl dX0_learn_48 (by decide) ?_
  refine e_put 3 (fs' := [.ref 25, .ref 26, .int (nI c), .int 0, .int bs, .int bz]) rfl dX0_learn_49 (show 2 ≤ 24 ∧ 24 < 434 by decide) hS (KM_rf (Mod := [24]) _) (List.mem_singleton.mpr rfl) f24 (fp_X0_37 rfl _ (Or.inl rfl)) (Nat.le_of_ble_eq_true rfl) rfl (fun h51 hS52 _ hN53 f54 => ?_)
  have hk55 : KX [24] h h51 := KX_M (fun _ z => z) hN53
  have hF56 := KX_tr hF (KX_sb (l := [24]) (by first | decide | exact fun _ z => z | simp) hk55)
  have LN57 := LN_kx (by decide) hk55 (by omega) hLN
  exact r_ret dX0_learn_52 (rt_v rfl) ⟨rfl, hS52, hF56, ⟨_, _, f54⟩, rfl⟩
set_option maxRecDepth 20000 in
set_option maxHeartbeats 1000000 in
theorem x_cl_s {xs : Nat → Int32} {L d : Nat} {h : ev_H} {h0 : ev_H} {c k : Nat} {G : Nat → Int32} {kn bs bz : Int32} (hS : SH h) (hc : c ≤ 16) (hck : c ≤ 40) (hF : KX [24] h0 h) (f24 : h 24 = c24 (nI c) kn bs bz) (hLN : LN c G h) (hk : k < c) (ih : ∀ (h' : ev_H), SH h' → KX [24] h0 h' → h' 24 = c24 (nI c) kn bs bz → LN c G h' → EV xs L (d + 3) 0 0 M_X0_learn 434 h' 12 [some (.ref 24), some (.ref 12), some (.int (nI c)), some (.int (nI (k + 1)))] [] (fun sz' h' r => sz' = 434 ∧ SH h' ∧ KX [24] h0 h' ∧ (∃ bs bz, h' 24 = c24 (nI c) 0 bs bz) ∧ r = [])) : EV xs L (d + 3) 0 0 M_X0_learn 434 h 12 [some (.ref 24), some (.ref 12), some (.int (nI c)), some (.int (nI k))] [] (fun sz' h' r => sz' = 434 ∧ SH h' ∧ KX [24] h0 h' ∧ (∃ bs bz, h' 24 = c24 (nI c) 0 bs bz) ∧ r = []) := by
  refine r_iload_n rfl dX0_learn_12 rfl ?_
  refine r_aload_n rfl dX0_learn_13 rfl ?_
  refine r_getv 2 rfl dX0_learn_14 (show 2 ≤ 24 ∧ 24 < 434 by decide) f24 fl_X0_27 rfl ?_
  refine r_icmp_ge (tgt := 47) rfl rfl dX0_learn_17 (fun zc => absurd zc (show ¬ nI c ≤ nI k from nI_ge (a := k) (b := c) (by omega) (by omega))) (fun _ => ?_)
  refine r_iload_n rfl dX0_learn_20 rfl ?_
  refine r_aload_n rfl dX0_learn_21 rfl ?_
  refine r_alen (v := 40) rfl dX0_learn_22 (by decide) (by decide) hS.o12 (by decide) rfl ?_
  refine r_icmp_ge (tgt := 47) rfl rfl dX0_learn_23 (fun zc => absurd zc (show ¬ (40 : Int32) ≤ nI k from nI_ge (a := k) (b := 40) (by omega) (by decide))) (fun _ => ?_)
  refine r_aload_n rfl dX0_learn_26 rfl ?_
  refine r_iload_n rfl dX0_learn_27 rfl ?_
  refine r_aald (jn := k) (v := .ref (100 + 8 * k)) rfl dX0_learn_28 (show 2 ≤ 12 ∧ 12 < 434 by decide).1 (show 2 ≤ 12 ∧ 12 < 434 by decide).2 hS.o12 (by decide) (vp_in_nI (n := k) (by omega) (by decide)) (nI_clamp (n := k) (by omega)) (by show va_rf (if _ < _ then _ else _) = _; rw [if_pos (show k < 40 by omega)]; rfl) ?_
  refine r_aload_n rfl dX0_learn_29 rfl ?_
  refine r_getv 0 rfl dX0_learn_30 (show 2 ≤ 24 ∧ 24 < 434 by decide) f24 fl_X0_11 rfl ?_
  refine r_iload_n rfl dX0_learn_33 rfl ?_
  refine r_aald (jn := k) (v := .ref (27 + 2 * k)) rfl dX0_learn_34 (show 2 ≤ 25 ∧ 25 < 434 by decide).1 (show 2 ≤ 25 ∧ 25 < 434 by decide).2 hS.o25 (by decide) (vp_in_nI (n := k) (by omega) (by decide)) (nI_clamp (n := k) (by omega)) (by show va_rf (if _ < _ then _ else _) = _; rw [if_pos (show k < 16 by omega)]; rfl) ?_
  refine r_sipush (v := 255) rfl dX0_learn_35 (by decide) ?_
  refine cl_X0_31 rfl rfl dX0_learn_38 (show 2 ≤ 100 + 8 * k ∧ 100 + 8 * k < 434 by omega).1 (show 2 ≤ 100 + 8 * k ∧ 100 + 8 * k < 434 by omega).2 (hLN k (by omega)) (Nat.le_of_ble_eq_true rfl) (x_X3_gatherWorlds hS (i := k) (by omega) (wsAt_hold (j := k) (by omega)) (hLN k (by omega))) ?_
  rintro _ h51 _ ⟨rfl, hS52, hk53, rfl⟩
  have hF54 := KX_tr hF (KX_sb (l := [24]) (by first | decide | exact fun _ z => z | simp) hk53)
  have f55 : h51 (24) = .inr (0, [.ref 25, .ref 26, .int (nI c), .int kn, .int bs, .int bz]) := (hk53 _ (by decide) nSP_24).trans f24
  have LN56 := LN_kx (by decide) hk53 (by omega) hLN
  refine r_iinc (y := nI (k + 1)) (ls' := [some (.ref 24), some (.ref 12), some (.int (nI c)), some (.int (nI (k + 1)))]) rfl dX0_learn_41 rfl (nI_1 k) (Nat.le_of_ble_eq_true rfl) rfl ?_
  refine r_goto (pc' := 12) rfl dX0_learn_44 ?_
  exact ih h51 hS52 hF54 f55 LN56
theorem x_cl {xs : Nat → Int32} {L d : Nat} {h0 : ev_H} {c : Nat} {G : Nat → Int32} {kn bs bz : Int32} (hc : c ≤ 16) (hck : c ≤ 40) : ∀ (n k : Nat) (h : ev_H), k + n = c → SH h → KX [24] h0 h → h 24 = c24 (nI c) kn bs bz → LN c G h → EV xs L (d + 3) 0 0 M_X0_learn 434 h 12 [some (.ref 24), some (.ref 12), some (.int (nI c)), some (.int (nI k))] [] (fun sz' h' r => sz' = 434 ∧ SH h' ∧ KX [24] h0 h' ∧ (∃ bs bz, h' 24 = c24 (nI c) 0 bs bz) ∧ r = []) := by
  intro n
  induction n with
  | zero => intro k h hk hS hF f24 hLN; exact x_cl_z hS hc hck hF f24 hLN (by omega)
  | succ n ih => intro k h hk hS hF f24 hLN; exact x_cl_s hS hc hck hF f24 hLN (by omega) (fun h' q1 q2 q3 q4 => ih (k + 1) h' (by omega) q1 q2 q3 q4)
set_option maxRecDepth 20000 in
set_option maxHeartbeats 1000000 in
theorem x_X0_learn {xs : Nat → Int32} {L d : Nat} {h : ev_H} {c : Nat} {G : Nat → Int32} {cc0 kn bs bz : Int32} (hS : SH h) (hc : c ≤ 16) (hck : c ≤ 40) (f24 : h 24 = c24 cc0 kn bs bz) (hLN : LN c G h) : EV xs L (d + 3) 0 0 M_X0_learn 434 h 0 [some (.ref 24), some (.ref 12), some (.int (nI c)), none] [] (fun sz' h' r => sz' = 434 ∧ SH h' ∧ KX [24] h h' ∧ (∃ bs bz, h' 24 = c24 (nI c) 0 bs bz) ∧ r = []) := by
  refine r_aload_n rfl dX0_learn_0 rfl ?_
  refine r_iload_n rfl dX0_learn_1 rfl ?_
  refine r_bipush (v := 16) rfl dX0_learn_2 (by decide) ?_
  refine r_min rfl dX0_learn_4 (Nat.succ_pos _) (Nat.le_of_ble_eq_true rfl) mm_X0_21 mm_st mm_in mm_co ?_
  refine r_eqi (y := nI c) (if_neg (show ¬ (16 : Int32) < nI c from nI_nlt (a := 16) (b := c) (by omega) (by decide))) ?_
  refine e_put 2 (fs' := [.ref 25, .ref 26, .int (nI c), .int kn, .int bs, .int bz]) rfl dX0_learn_7 (show 2 ≤ 24 ∧ 24 < 434 by decide) hS (KM_rf (Mod := [24]) _) (List.mem_singleton.mpr rfl) f24 (fp_X0_27 rfl _) (Nat.le_of_ble_eq_true rfl) rfl (fun h51 hS52 _ hN53 f54 => ?_)
  have hk55 : KX [24] h h51 := KX_M (fun _ z => z) hN53
  have hF56 := KX_tr (KX_rf (l := [24]) h) (KX_sb (l := [24]) (by first | decide | exact fun _ z => z | simp) hk55)
  have LN57 := LN_kx (by decide) hk55 (by omega) hLN
  refine r_iconst (v := 0) rfl dX0_learn_10 (by decide) ?_
  refine r_istore_n (ls' := [some (.ref 24), some (.ref 12), some (.int (nI c)), some (.int 0)]) rfl dX0_learn_11 (Nat.le_of_ble_eq_true rfl) rfl ?_
  exact x_cl hc hck c 0 h51 (by omega) hS52 hF56 f54 LN57
/-- THE END of the first k LINES -/
def enF (G : Nat → Int32) : Nat → Nat → Int32
  | 0, _ => -9
  | n + 1, i => if bc32 (G (6 * i)) + bc32 (G (6 * i + 1)) = 0 then nI i else enF G n (i + 1)
set_option maxRecDepth 20000 in
set_option maxHeartbeats 1000000 in
theorem x_fe_z {xs : Nat → Int32} {L d : Nat} {h : ev_H} {k i : Nat} {G : Nat → Int32} {cc sc wr el : Int32} (hS : SH h) (hck : k ≤ 40) (h2 : h 2 = c2 cc (nI k) sc wr el) (hLN : LN k G h) (hi : i = k) : EV xs L (d + 2) 0 0 M_X11_firstEmptyLine 434 h 2 [some (.ref 2), some (.int (nI i))] [] (fun sz' h' r => sz' = 434 ∧ h' = h ∧ r = [.int (enF G 0 i)]) := by
  refine r_iload_n rfl dX11_firstEmptyLine_2 rfl ?_
  refine r_aload_n rfl dX11_firstEmptyLine_3 rfl ?_
  refine r_getv 12 rfl dX11_firstEmptyLine_4 (show 2 ≤ 2 ∧ 2 < 434 by decide) h2 fl_X11_118 rfl ?_
  refine r_icmp_ge (tgt := 39) rfl rfl dX11_firstEmptyLine_7 (fun _ => ?_) (fun zc => absurd (show nI k ≤ nI i from nI_le (a := k) (b := i) (by omega) (by omega)) zc)
  refine r_bipush (v := (-9)) rfl dX11_firstEmptyLine_39 (by decide) ?_
  exact r_ret dX11_firstEmptyLine_41 (rt_i rfl) ⟨rfl, rfl, rfl⟩
set_option maxRecDepth 20000 in
set_option maxHeartbeats 1000000 in
theorem x_fe_s {xs : Nat → Int32} {L d : Nat} {h : ev_H} {k i n : Nat} {G : Nat → Int32} {cc sc wr el : Int32} (hS : SH h) (hck : k ≤ 40) (h2 : h 2 = c2 cc (nI k) sc wr el) (hLN : LN k G h) (hi : i + (n + 1) = k) (ih : EV xs L (d + 2) 0 0 M_X11_firstEmptyLine 434 h 2 [some (.ref 2), some (.int (nI (i + 1)))] [] (fun sz' h' r => sz' = 434 ∧ h' = h ∧ r = [.int (enF G n (i + 1))])) : EV xs L (d + 2) 0 0 M_X11_firstEmptyLine 434 h 2 [some (.ref 2), some (.int (nI i))] [] (fun sz' h' r => sz' = 434 ∧ h' = h ∧ r = [.int (enF G (n + 1) i)]) := by
  refine r_iload_n rfl dX11_firstEmptyLine_2 rfl ?_
  refine r_aload_n rfl dX11_firstEmptyLine_3 rfl ?_
  refine r_getv 12 rfl dX11_firstEmptyLine_4 (show 2 ≤ 2 ∧ 2 < 434 by decide) h2 fl_X11_118 rfl ?_
  refine r_icmp_ge (tgt := 39) rfl rfl dX11_firstEmptyLine_7 (fun zc => absurd zc (show ¬ nI k ≤ nI i from nI_ge (a := i) (b := k) (by omega) (by omega))) (fun _ => ?_)
  refine r_iload_n rfl dX11_firstEmptyLine_10 rfl ?_
  refine r_aload_n rfl dX11_firstEmptyLine_11 rfl ?_
  refine r_getv 2 rfl dX11_firstEmptyLine_12 (show 2 ≤ 2 ∧ 2 < 434 by decide) h2 fl_X11_25 rfl ?_
  refine r_alen (v := 40) rfl dX11_firstEmptyLine_15 (by decide) (by decide) hS.o12 (by decide) rfl ?_
  refine r_icmp_ge (tgt := 39) rfl rfl dX11_firstEmptyLine_16 (fun zc => absurd zc (show ¬ (40 : Int32) ≤ nI i from nI_ge (a := i) (b := 40) (by omega) (by decide))) (fun _ => ?_)
  refine r_aload_n rfl dX11_firstEmptyLine_19 rfl ?_
  refine r_getv 2 rfl dX11_firstEmptyLine_20 (show 2 ≤ 2 ∧ 2 < 434 by decide) h2 fl_X11_25 rfl ?_
  refine r_iload_n rfl dX11_firstEmptyLine_23 rfl ?_
  refine r_aald (jn := i) (v := .ref (100 + 8 * i)) rfl dX11_firstEmptyLine_24 (show 2 ≤ 12 ∧ 12 < 434 by decide).1 (show 2 ≤ 12 ∧ 12 < 434 by decide).2 hS.o12 (by decide) (vp_in_nI (n := i) (by omega) (by decide)) (nI_clamp (n := i) (by omega)) (by show va_rf (if _ < _ then _ else _) = _; rw [if_pos (show i < 40 by omega)]; rfl) ?_
  refine cl_X11_289 rfl rfl dX11_firstEmptyLine_25 (show 2 ≤ 100 + 8 * i ∧ 100 + 8 * i < 434 by omega).1 (show 2 ≤ 100 + 8 * i ∧ 100 + 8 * i < 434 by omega).2 (hLN i (by omega)) (Nat.le_of_ble_eq_true rfl) (x_X3_literals hS (i := i) (by omega) (hLN i (by omega))) ?_
  rintro _ h51 _ ⟨rfl, e52, rfl⟩
  replace e52 := e52.symm
  subst e52
  refine r_if_ne (tgt := 33) rfl rfl dX11_firstEmptyLine_28 (fun c54 => ?_) (fun c54 => ?_)
  · refine r_iinc (y := nI (i + 1)) (ls' := [some (.ref 2), some (.int (nI (i + 1)))]) rfl dX11_firstEmptyLine_33 rfl (nI_1 i) (Nat.le_of_ble_eq_true rfl) rfl ?_
    refine r_goto (pc' := 2) rfl dX11_firstEmptyLine_36 ?_
    rw [enF, if_neg c54]
    exact ih
  · refine r_iload_n rfl dX11_firstEmptyLine_31 rfl ?_
    exact r_ret dX11_firstEmptyLine_32 (rt_i rfl) ⟨rfl, rfl, by rw [enF, if_pos c54]; rfl⟩
theorem x_fe {xs : Nat → Int32} {L d : Nat} {h : ev_H} {k : Nat} {G : Nat → Int32} {cc sc wr el : Int32} (hS : SH h) (hck : k ≤ 40) (h2 : h 2 = c2 cc (nI k) sc wr el) (hLN : LN k G h) : ∀ (n i : Nat), i + n = k → EV xs L (d + 2) 0 0 M_X11_firstEmptyLine 434 h 2 [some (.ref 2), some (.int (nI i))] [] (fun sz' h' r => sz' = 434 ∧ h' = h ∧ r = [.int (enF G n i)]) := by
  intro n
  induction n with
  | zero => intro i hi; exact x_fe_z hS hck h2 hLN (by omega)
  | succ n ih => intro i hi; exact x_fe_s hS hck h2 hLN hi (ih (i + 1) (by omega))
set_option maxRecDepth 20000 in
set_option maxHeartbeats 1000000 in
theorem x_X11_firstEmptyLine {xs : Nat → Int32} {L d : Nat} {h : ev_H} {k : Nat} {G : Nat → Int32} {cc sc wr el : Int32} (hS : SH h) (hck : k ≤ 40) (h2 : h 2 = c2 cc (nI k) sc wr el) (hLN : LN k G h) : EV xs L (d + 2) 0 0 M_X11_firstEmptyLine 434 h 0 [some (.ref 2), none] [] (fun sz' h' r => sz' = 434 ∧ h' = h ∧ r = [.int (enF G k 0)]) := by
  refine r_iconst (v := 0) rfl dX11_firstEmptyLine_0 (by decide) ?_
  refine r_istore_n (ls' := [some (.ref 2), some (.int 0)]) rfl dX11_firstEmptyLine_1 (Nat.le_of_ble_eq_true rfl) rfl ?_
  exact x_fe hS hck h2 hLN k 0 (by omega)
