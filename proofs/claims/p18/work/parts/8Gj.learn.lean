/-- all but Sides and its sets is as it was -/
def KG (h h' : ev_H) : Prop := ∀ q, q ≠ 13 → q ≠ 15 → q ≠ 17 → q ≠ 19 → q ≠ 21 → q ≠ 23 → h' q = h q
theorem KG_rf (h : ev_H) : KG h h := fun _ _ _ _ _ _ _ => rfl
theorem KG_1 {a : Nat} {h h' h'' : ev_H} (ha : a = 14 ∨ a = 16 ∨ a = 18 ∨ a = 20 ∨ a = 22) (h1 : KG h h') (h2 : K1 a h' h'') : KG h h'' := fun q x1 x2 x3 x4 x5 x6 => (h2 q (by omega)).trans (h1 q x1 x2 x3 x4 x5 x6)
theorem KG_M {h h' h'' : ev_H} (h1 : KG h h') (h2 : KM [13] h' h'') : KG h h'' := fun q x1 x2 x3 x4 x5 x6 => (h2 q (by simp only [List.mem_singleton]; exact x1)).trans (h1 q x1 x2 x3 x4 x5 x6)
/-- what side one leaves open, by the class; side two -/
def aC (G : Nat → Int32) : Nat → Nat → Int64
  | 0, _ => -1
  | k + 1, z => if G (6 * k + 2) = 1 then aC G k z &&& gwV (G (6 * k)) (G (6 * k + 1)) 255 8 z else aC G k z
def aD (G : Nat → Int32) : Nat → Nat → Int64
  | 0, _ => -1
  | k + 1, z => if G (6 * k + 2) = 1 then aD G k z else aD G k z &&& gwV (G (6 * k)) (G (6 * k + 1)) 255 8 z
def sb4 (ls : Int32) (V : Nat → Int64) : Nat → Int64 := fn4 (spb 8 0 ls (V 0) (V 1) (V 2) (V 3)).1 (spb 8 0 ls (V 0) (V 1) (V 2) (V 3)).2.1 (spb 8 0 ls (V 0) (V 1) (V 2) (V 3)).2.2.1 (spb 8 0 ls (V 0) (V 1) (V 2) (V 3)).2.2.2
set_option maxRecDepth 20000 in
set_option maxHeartbeats 1000000 in
theorem v_sl_z {xs : Nat → Int32} {L d : Nat} {h : ev_H} {h0 : ev_H} {c k : Nat} {G : Nat → Int32} {fk fs : Int32} (hS : SH h) (hck : c ≤ 40) (hK : KG h0 h) (f13 : h 13 = c13 (ltO G k) (ltE G k) fk fs) (hLN : LN c G h) (w1 : WD h 14 (aC G k)) (w2 : WD h 16 (aD G k)) (hk : k = c) : EV xs L (d + 4) 0 0 M_X7_learn 434 h 26 [some (.ref 13), some (.ref 12), some (.int (nI c)), some (.int (nI k))] [] (fun sz' h' r => sz' = 434 ∧ SH h' ∧ KG h0 h' ∧ (∃ fs, h' 13 = c13 (ltO G c) (ltE G c) 0 fs) ∧ WD h' 14 (aC G c) ∧ WD h' 16 (aD G c) ∧ WD h' 18 (sb4 (ltO G c &&& ltE G c) (aC G c)) ∧ WD h' 20 (fun z => sb4 (ltO G c &&& ltE G c) (aD G c) z ^^^ (-1)) ∧ r = []) := by
  refine r_iload_n rfl dX7_learn_26 rfl ?_
  refine r_iload_n rfl dX7_learn_27 rfl ?_
  refine r_icmp_ge (tgt := 121) rfl rfl dX7_learn_28 (fun _ => ?_) (fun zc => absurd (show nI c ≤ nI k from nI_le (a := c) (b := k) (by omega) (by omega)) zc)
  refine r_aload_n rfl dX7_learn_121 rfl ?_
  refine r_getv 2 rfl dX7_learn_122 (show 2 ≤ 13 ∧ 13 < 434 by decide) f13 fl_X7_21 rfl ?_
  refine r_aload_n rfl dX7_learn_125 rfl ?_
  refine r_getv 0 rfl dX7_learn_126 (show 2 ≤ 13 ∧ 13 < 434 by decide) f13 fl_X7_12 rfl ?_
  obtain ⟨g51, hw52⟩ := hS.ws wsAt_18
  obtain ⟨t53, hw54⟩ := w1.is hS wsAt_14
  refine cl_X7_57 rfl rfl dX7_learn_129 (show 2 ≤ 18 ∧ 18 < 434 by decide).1 (show 2 ≤ 18 ∧ 18 < 434 by decide).2 hw52.2.2.1 (Nat.le_of_ble_eq_true rfl) (s_X10_become hw52 hw54 (by omega)) ?_
  rintro _ h55 _ ⟨rfl, eh56, rfl⟩
  have hS57 := SH_p hS wsAt_18 eh56
  have hk58 : K1 (18) h h55 := K1_up eh56
  have w59 : WD h55 (18) (fun z => (aC G k) z) := WD_up eh56 rfl rfl rfl rfl
  have LN60 : LN c G h55 := fun i hi => (hk58 _ (by omega)).trans (hLN i hi)
  have f61 : h55 (13) = .inr (7, [.ref 14, .ref 16, .ref 18, .ref 20, .ref 22, .int (ltO G k), .int (ltE G k), .int fk, .int fs]) := (hk58 _ (fun z => nSP_13 ⟨_, wsAt_18, z⟩)).trans f13
  have w62 : WD h55 (14) (aC G k) := WD_1 hk58 (by omega) w1
  have w63 : WD h55 (16) (aD G k) := WD_1 hk58 (by omega) w2
  have hK64 := KG_1 (by decide) hK hk58
  refine r_aload_n rfl dX7_learn_132 rfl ?_
  refine r_getv 2 rfl dX7_learn_133 (show 2 ≤ 13 ∧ 13 < 434 by decide) f61 fl_X7_21 rfl ?_
  refine r_aload_n rfl dX7_learn_136 rfl ?_
  refine cl_X7_60 rfl rfl dX7_learn_137 (show 2 ≤ 13 ∧ 13 < 434 by decide).1 (show 2 ≤ 13 ∧ 13 < 434 by decide).2 f61 (Nat.le_of_ble_eq_true rfl) (x_X7_sharedLetters hS57 f61) ?_
  rintro _ h65 _ ⟨rfl, e66, rfl⟩
  replace e66 := e66.symm
  subst e66
  obtain ⟨t68, hw69⟩ := w59.is hS57 wsAt_18
  refine cl_X7_63 rfl rfl dX7_learn_140 (show 2 ≤ 18 ∧ 18 < 434 by decide).1 (show 2 ≤ 18 ∧ 18 < 434 by decide).2 hw69.2.2.1 (Nat.le_of_ble_eq_true rfl) (s_X10_spreadBut hw69) ?_
  rintro _ h70 _ ⟨rfl, eh71, rfl⟩
  have hS72 := SH_p hS57 wsAt_18 eh71
  have hk73 : K1 (18) h55 h70 := K1_up eh71
  have w74 : WD h70 (18) (sb4 ((ltO G k) &&& (ltE G k)) (fun z => (aC G k) z)) := WD_up eh71 rfl rfl rfl rfl
  have LN75 : LN c G h70 := fun i hi => (hk73 _ (by omega)).trans (LN60 i hi)
  have f76 : h70 (13) = .inr (7, [.ref 14, .ref 16, .ref 18, .ref 20, .ref 22, .int (ltO G k), .int (ltE G k), .int fk, .int fs]) := (hk73 _ (fun z => nSP_13 ⟨_, wsAt_18, z⟩)).trans f61
  have w77 : WD h70 (14) (aC G k) := WD_1 hk73 (by omega) w62
  have w78 : WD h70 (16) (aD G k) := WD_1 hk73 (by omega) w63
  have hK79 := KG_1 (by decide) hK64 hk73
  refine r_aload_n rfl dX7_learn_143 rfl ?_
  refine r_getv 3 rfl dX7_learn_144 (show 2 ≤ 13 ∧ 13 < 434 by decide) f76 fl_X7_24 rfl ?_
  refine r_aload_n rfl dX7_learn_147 rfl ?_
  refine r_getv 1 rfl dX7_learn_148 (show 2 ≤ 13 ∧ 13 < 434 by decide) f76 fl_X7_18 rfl ?_
  obtain ⟨g80, hw81⟩ := hS72.ws wsAt_20
  obtain ⟨t82, hw83⟩ := w78.is hS72 wsAt_16
  refine cl_X7_57 rfl rfl dX7_learn_151 (show 2 ≤ 20 ∧ 20 < 434 by decide).1 (show 2 ≤ 20 ∧ 20 < 434 by decide).2 hw81.2.2.1 (Nat.le_of_ble_eq_true rfl) (s_X10_become hw81 hw83 (by omega)) ?_
  rintro _ h84 _ ⟨rfl, eh85, rfl⟩
  have hS86 := SH_p hS72 wsAt_20 eh85
  have hk87 : K1 (20) h70 h84 := K1_up eh85
  have w88 : WD h84 (20) (fun z => (aD G k) z) := WD_up eh85 rfl rfl rfl rfl
  have LN89 : LN c G h84 := fun i hi => (hk87 _ (by omega)).trans (LN75 i hi)
  have f90 : h84 (13) = .inr (7, [.ref 14, .ref 16, .ref 18, .ref 20, .ref 22, .int (ltO G k), .int (ltE G k), .int fk, .int fs]) := (hk87 _ (fun z => nSP_13 ⟨_, wsAt_20, z⟩)).trans f76
  have w91 : WD h84 (14) (aC G k) := WD_1 hk87 (by omega) w77
  have w92 : WD h84 (16) (aD G k) := WD_1 hk87 (by omega) w78
  have w93 : WD h84 (18) (sb4 ((ltO G k) &&& (ltE G k)) (fun z => (aC G k) z)) := WD_1 hk87 (by omega) w74
  have hK94 := KG_1 (by decide) hK79 hk87
  refine r_aload_n rfl dX7_learn_154 rfl ?_
  refine r_getv 3 rfl dX7_learn_155 (show 2 ≤ 13 ∧ 13 < 434 by decide) f90 fl_X7_24 rfl ?_
  refine r_aload_n rfl dX7_learn_158 rfl ?_
  refine cl_X7_60 rfl rfl dX7_learn_159 (show 2 ≤ 13 ∧ 13 < 434 by decide).1 (show 2 ≤ 13 ∧ 13 < 434 by decide).2 f90 (Nat.le_of_ble_eq_true rfl) (x_X7_sharedLetters hS86 f90) ?_
  rintro _ h95 _ ⟨rfl, e96, rfl⟩
  replace e96 := e96.symm
  subst e96
  obtain ⟨t98, hw99⟩ := w88.is hS86 wsAt_20
  refine cl_X7_63 rfl rfl dX7_learn_162 (show 2 ≤ 20 ∧ 20 < 434 by decide).1 (show 2 ≤ 20 ∧ 20 < 434 by decide).2 hw99.2.2.1 (Nat.le_of_ble_eq_true rfl) (s_X10_spreadBut hw99) ?_
  rintro _ h100 _ ⟨rfl, eh101, rfl⟩
  have hS102 := SH_p hS86 wsAt_20 eh101
  have hk103 : K1 (20) h84 h100 := K1_up eh101
  have w104 : WD h100 (20) (sb4 ((ltO G k) &&& (ltE G k)) (fun z => (aD G k) z)) := WD_up eh101 rfl rfl rfl rfl
  have LN105 : LN c G h100 := fun i hi => (hk103 _ (by omega)).trans (LN89 i hi)
  have f106 : h100 (13) = .inr (7, [.ref 14, .ref 16, .ref 18, .ref 20, .ref 22, .int (ltO G k), .int (ltE G k), .int fk, .int fs]) := (hk103 _ (fun z => nSP_13 ⟨_, wsAt_20, z⟩)).trans f90
  have w107 : WD h100 (14) (aC G k) := WD_1 hk103 (by omega) w91
  have w108 : WD h100 (16) (aD G k) := WD_1 hk103 (by omega) w92
  have w109 : WD h100 (18) (sb4 ((ltO G k) &&& (ltE G k)) (fun z => (aC G k) z)) := WD_1 hk103 (by omega) w93
  have hK110 := KG_1 (by decide) hK94 hk103
  refine r_aload_n rfl dX7_learn_165 rfl ?_
  refine r_getv 3 rfl dX7_learn_166 (show 2 ≤ 13 ∧ 13 < 434 by decide) f106 fl_X7_24 rfl ?_
  obtain ⟨t111, hw112⟩ := w104.is hS102 wsAt_20
  refine cl_X7_67 rfl rfl dX7_learn_169 (show 2 ≤ 20 ∧ 20 < 434 by decide).1 (show 2 ≤ 20 ∧ 20 < 434 by decide).2 hw112.2.2.1 (Nat.le_of_ble_eq_true rfl) (s_X10_turn hw112) ?_
  rintro _ h113 _ ⟨rfl, eh114, rfl⟩
  have hS115 := SH_p hS102 wsAt_20 eh114
  have hk116 : K1 (20) h100 h113 := K1_up eh114
  have w117 : WD h113 (20) (fun z => (sb4 ((ltO G k) &&& (ltE G k)) (fun z => (aD G k) z)) z ^^^ (-1)) := WD_up eh114 rfl rfl rfl rfl
  have LN118 : LN c G h113 := fun i hi => (hk116 _ (by omega)).trans (LN105 i hi)
  have f119 : h113 (13) = .inr (7, [.ref 14, .ref 16, .ref 18, .ref 20, .ref 22, .int (ltO G k), .int (ltE G k), .int fk, .int fs]) := (hk116 _ (fun z => nSP_13 ⟨_, wsAt_20, z⟩)).trans f106
  have w120 : WD h113 (14) (aC G k) := WD_1 hk116 (by omega) w107
  have w121 : WD h113 (16) (aD G k) := WD_1 hk116 (by omega) w108
  have w122 : WD h113 (18) (sb4 ((ltO G k) &&& (ltE G k)) (fun z => (aC G k) z)) := WD_1 hk116 (by omega) w109
  have hK123 := KG_1 (by decide) hK110 hk116
  refine r_aload_n rfl dX7_learn_172 rfl ?_
  refine r_iconst (v := 0) rfl dX7_learn_173 (by decide) ?_
  refine e_put 7 (fs' := [.ref 14, .ref 16, .ref 18, .ref 20, .ref 22, .int (ltO G k), .int (ltE G k), .int 0, .int fs]) rfl dX7_learn_174 (show 2 ≤ 13 ∧ 13 < 434 by decide) hS115 (KM_rf (Mod := [13]) _) (List.mem_singleton.mpr rfl) f119 (fp_X7_70 rfl _ (Or.inl rfl)) (Nat.le_of_ble_eq_true rfl) rfl (fun h124 hS125 _ hN126 f127 => ?_)
  have w128 : WD h124 (14) (aC G k) := WD_M hN126 (by decide) w120
  have w129 : WD h124 (16) (aD G k) := WD_M hN126 (by decide) w121
  have w130 : WD h124 (18) (sb4 ((ltO G k) &&& (ltE G k)) (fun z => (aC G k) z)) := WD_M hN126 (by decide) w122
  have w131 : WD h124 (20) (fun z => (sb4 ((ltO G k) &&& (ltE G k)) (fun z => (aD G k) z)) z ^^^ (-1)) := WD_M hN126 (by decide) w117
  have LN132 : LN c G h124 := fun i hi => (hN126 _ (by simp <;> omega)).trans (LN118 i hi)
  have hK133 := KG_M hK123 hN126
  subst hk
  exact r_ret dX7_learn_177 (rt_v rfl) ⟨rfl, hS125, hK133, ⟨_, f127⟩, w128, w129, (WD_cg (fun z _ => rfl) w130), (WD_cg (fun z _ => rfl) w131), rfl⟩
set_option maxRecDepth 20000 in
set_option maxHeartbeats 1000000 in
theorem v_sl_s {xs : Nat → Int32} {L d : Nat} {h : ev_H} {h0 : ev_H} {c k : Nat} {G : Nat → Int32} {fk fs : Int32} (hS : SH h) (hck : c ≤ 40) (hK : KG h0 h) (f13 : h 13 = c13 (ltO G k) (ltE G k) fk fs) (hLN : LN c G h) (w1 : WD h 14 (aC G k)) (w2 : WD h 16 (aD G k)) (hk : k < c) (ih : ∀ (h' : ev_H), SH h' → KG h0 h' → h' 13 = c13 (ltO G (k + 1)) (ltE G (k + 1)) fk fs → LN c G h' → WD h' 14 (aC G (k + 1)) → WD h' 16 (aD G (k + 1)) → EV xs L (d + 4) 0 0 M_X7_learn 434 h' 26 [some (.ref 13), some (.ref 12), some (.int (nI c)), some (.int (nI (k + 1)))] [] (fun sz' h' r => sz' = 434 ∧ SH h' ∧ KG h0 h' ∧ (∃ fs, h' 13 = c13 (ltO G c) (ltE G c) 0 fs) ∧ WD h' 14 (aC G c) ∧ WD h' 16 (aD G c) ∧ WD h' 18 (sb4 (ltO G c &&& ltE G c) (aC G c)) ∧ WD h' 20 (fun z => sb4 (ltO G c &&& ltE G c) (aD G c) z ^^^ (-1)) ∧ r = [])) : EV xs L (d + 4) 0 0 M_X7_learn 434 h 26 [some (.ref 13), some (.ref 12), some (.int (nI c)), some (.int (nI k))] [] (fun sz' h' r => sz' = 434 ∧ SH h' ∧ KG h0 h' ∧ (∃ fs, h' 13 = c13 (ltO G c) (ltE G c) 0 fs) ∧ WD h' 14 (aC G c) ∧ WD h' 16 (aD G c) ∧ WD h' 18 (sb4 (ltO G c &&& ltE G c) (aC G c)) ∧ WD h' 20 (fun z => sb4 (ltO G c &&& ltE G c) (aD G c) z ^^^ (-1)) ∧ r = []) := by
  refine r_iload_n rfl dX7_learn_26 rfl ?_
  refine r_iload_n rfl dX7_learn_27 rfl ?_
  refine r_icmp_ge (tgt := 121) rfl rfl dX7_learn_28 (fun zc => absurd zc (show ¬ nI c ≤ nI k from nI_ge (a := k) (b := c) (by omega) (by omega))) (fun _ => ?_)
  refine r_iload_n rfl dX7_learn_31 rfl ?_
  refine r_aload_n rfl dX7_learn_32 rfl ?_
  refine r_alen (v := 40) rfl dX7_learn_33 (by decide) (by decide) hS.o12 (by decide) rfl ?_
  refine r_icmp_ge (tgt := 121) rfl rfl dX7_learn_34 (fun zc => absurd zc (show ¬ (40 : Int32) ≤ nI k from nI_ge (a := k) (b := 40) (by omega) (by decide))) (fun _ => ?_)
  refine r_aload_n rfl dX7_learn_37 rfl ?_
  refine r_iload_n rfl dX7_learn_38 rfl ?_
  refine r_aald (jn := k) (v := .ref (100 + 8 * k)) rfl dX7_learn_39 (show 2 ≤ 12 ∧ 12 < 434 by decide).1 (show 2 ≤ 12 ∧ 12 < 434 by decide).2 hS.o12 (by decide) (vp_in_nI (n := k) (by omega) (by decide)) (nI_clamp (n := k) (by omega)) (by show va_rf (if _ < _ then _ else _) = _; rw [if_pos (show k < 40 by omega)]; rfl) ?_
  refine r_aload_n rfl dX7_learn_40 rfl ?_
  refine r_getv 4 rfl dX7_learn_41 (show 2 ≤ 13 ∧ 13 < 434 by decide) f13 fl_X7_27 rfl ?_
  refine r_sipush (v := 255) rfl dX7_learn_44 (by decide) ?_
  refine cl_X7_40 rfl rfl dX7_learn_47 (show 2 ≤ 100 + 8 * k ∧ 100 + 8 * k < 434 by omega).1 (show 2 ≤ 100 + 8 * k ∧ 100 + 8 * k < 434 by omega).2 (hLN k (by omega)) (Nat.le_of_ble_eq_true rfl) (v_X3_gatherWorlds hS (i := k) (by omega) wsAt_22 (hLN k (by omega))) ?_
  rintro _ h51 _ ⟨rfl, hS52, hk53, w54, rfl⟩
  have LN55 : LN c G h51 := fun i hi => (hk53 _ (by omega)).trans (hLN i hi)
  have f56 : h51 (13) = .inr (7, [.ref 14, .ref 16, .ref 18, .ref 20, .ref 22, .int (ltO G k), .int (ltE G k), .int fk, .int fs]) := (hk53 _ (fun z => nSP_13 ⟨_, wsAt_22, z⟩)).trans f13
  have w57 : WD h51 (14) (aC G k) := WD_1 hk53 (by omega) w1
  have w58 : WD h51 (16) (aD G k) := WD_1 hk53 (by omega) w2
  have hK59 := KG_1 (by decide) hK hk53
  refine r_aload_n rfl dX7_learn_50 rfl ?_
  refine r_iload_n rfl dX7_learn_51 rfl ?_
  refine r_aald (jn := k) (v := .ref (100 + 8 * k)) rfl dX7_learn_52 (show 2 ≤ 12 ∧ 12 < 434 by decide).1 (show 2 ≤ 12 ∧ 12 < 434 by decide).2 hS52.o12 (by decide) (vp_in_nI (n := k) (by omega) (by decide)) (nI_clamp (n := k) (by omega)) (by show va_rf (if _ < _ then _ else _) = _; rw [if_pos (show k < 40 by omega)]; rfl) ?_
  refine r_getv 3 rfl dX7_learn_53 (show 2 ≤ 100 + 8 * k ∧ 100 + 8 * k < 434 by omega) (LN55 k (by omega)) fl_X7_46 rfl ?_
  refine r_iconst (v := 1) rfl dX7_learn_56 (by decide) ?_
  refine r_icmp_ne (tgt := 89) rfl rfl dX7_learn_57 (fun c60 => ?_) (fun c60 => ?_)
  · refine r_aload_n rfl dX7_learn_89 rfl ?_
    refine r_getv 1 rfl dX7_learn_90 (show 2 ≤ 13 ∧ 13 < 434 by decide) f56 fl_X7_18 rfl ?_
    refine r_aload_n rfl dX7_learn_93 rfl ?_
    refine r_getv 4 rfl dX7_learn_94 (show 2 ≤ 13 ∧ 13 < 434 by decide) f56 fl_X7_27 rfl ?_
    obtain ⟨t61, hw62⟩ := w58.is hS52 wsAt_16
    obtain ⟨t63, hw64⟩ := w54.is hS52 wsAt_22
    refine cl_X7_49 rfl rfl dX7_learn_97 (show 2 ≤ 16 ∧ 16 < 434 by decide).1 (show 2 ≤ 16 ∧ 16 < 434 by decide).2 hw62.2.2.1 (Nat.le_of_ble_eq_true rfl) (s_X10_meet hw62 hw64 (by omega)) ?_
    rintro _ h65 _ ⟨rfl, eh66, rfl⟩
    have hS67 := SH_p hS52 wsAt_16 eh66
    have hk68 : K1 (16) h51 h65 := K1_up eh66
    have w69 : WD h65 (16) (fun z => (aD G k) z &&& (gwV (G (6 * k)) (G (6 * k + 1)) 255 8) z) := WD_up eh66 rfl rfl rfl rfl
    have LN70 : LN c G h65 := fun i hi => (hk68 _ (by omega)).trans (LN55 i hi)
    have f71 : h65 (13) = .inr (7, [.ref 14, .ref 16, .ref 18, .ref 20, .ref 22, .int (ltO G k), .int (ltE G k), .int fk, .int fs]) := (hk68 _ (fun z => nSP_13 ⟨_, wsAt_16, z⟩)).trans f56
    have w72 : WD h65 (14) (aC G k) := WD_1 hk68 (by omega) w57
    have w73 : WD h65 (22) (gwV (G (6 * k)) (G (6 * k + 1)) 255 8) := WD_1 hk68 (by omega) w54
    have hK74 := KG_1 (by decide) hK59 hk68
    refine r_aload_n rfl dX7_learn_100 rfl ?_
    refine r_dup rfl dX7_learn_101 rfl ?_
    refine r_getv 6 rfl dX7_learn_102 (show 2 ≤ 13 ∧ 13 < 434 by decide) f71 fl_X7_37 rfl ?_
    refine r_aload_n rfl dX7_learn_105 rfl ?_
    refine r_iload_n rfl dX7_learn_106 rfl ?_
    refine r_aald (jn := k) (v := .ref (100 + 8 * k)) rfl dX7_learn_107 (show 2 ≤ 12 ∧ 12 < 434 by decide).1 (show 2 ≤ 12 ∧ 12 < 434 by decide).2 hS67.o12 (by decide) (vp_in_nI (n := k) (by omega) (by decide)) (nI_clamp (n := k) (by omega)) (by show va_rf (if _ < _ then _ else _) = _; rw [if_pos (show k < 40 by omega)]; rfl) ?_
    refine cl_X7_53 rfl rfl dX7_learn_108 (show 2 ≤ 100 + 8 * k ∧ 100 + 8 * k < 434 by omega).1 (show 2 ≤ 100 + 8 * k ∧ 100 + 8 * k < 434 by omega).2 (LN70 k (by omega)) (Nat.le_of_ble_eq_true rfl) (x_X3_letters hS67 (i := k) (by omega) (LN70 k (by omega))) ?_
    rintro _ h75 _ ⟨rfl, e76, rfl⟩
    replace e76 := e76.symm
    subst e76
    refine r_ior rfl dX7_learn_111 ?_
    refine e_put 6 (fs' := [.ref 14, .ref 16, .ref 18, .ref 20, .ref 22, .int (ltO G k), .int ((ltE G k) ||| ((G (6 * k)) ||| (G (6 * k + 1)))), .int fk, .int fs]) rfl dX7_learn_112 (show 2 ≤ 13 ∧ 13 < 434 by decide) hS67 (KM_rf (Mod := [13]) _) (List.mem_singleton.mpr rfl) f71 (fp_X7_37 rfl _) (Nat.le_of_ble_eq_true rfl) rfl (fun h78 hS79 _ hN80 f81 => ?_)
    have w82 : WD h78 (14) (aC G k) := WD_M hN80 (by decide) w72
    have w83 : WD h78 (22) (gwV (G (6 * k)) (G (6 * k + 1)) 255 8) := WD_M hN80 (by decide) w73
    have w84 : WD h78 (16) (fun z => (aD G k) z &&& (gwV (G (6 * k)) (G (6 * k + 1)) 255 8) z) := WD_M hN80 (by decide) w69
    have LN85 : LN c G h78 := fun i hi => (hN80 _ (by simp <;> omega)).trans (LN70 i hi)
    have hK86 := KG_M hK74 hN80
    refine r_iinc (y := nI (k + 1)) (ls' := [some (.ref 13), some (.ref 12), some (.int (nI c)), some (.int (nI (k + 1)))]) rfl dX7_learn_115 rfl (nI_1 k) (Nat.le_of_ble_eq_true rfl) rfl ?_
    refine r_goto (pc' := 26) rfl dX7_learn_118 ?_
    exact ih h78 hS79 hK86 (by rw [ltO, ltE, if_neg c60, if_neg c60]; exact f81) LN85 (WD_cg (fun z _ => by rw [aC, if_neg c60]) w82) (WD_cg (fun z _ => by rw [aD, if_neg c60]) w84)
  · refine r_aload_n rfl dX7_learn_60 rfl ?_
    refine r_getv 0 rfl dX7_learn_61 (show 2 ≤ 13 ∧ 13 < 434 by decide) f56 fl_X7_12 rfl ?_
    refine r_aload_n rfl dX7_learn_64 rfl ?_
    refine r_getv 4 rfl dX7_learn_65 (show 2 ≤ 13 ∧ 13 < 434 by decide) f56 fl_X7_27 rfl ?_
    obtain ⟨t87, hw88⟩ := w57.is hS52 wsAt_14
    obtain ⟨t89, hw90⟩ := w54.is hS52 wsAt_22
    refine cl_X7_49 rfl rfl dX7_learn_68 (show 2 ≤ 14 ∧ 14 < 434 by decide).1 (show 2 ≤ 14 ∧ 14 < 434 by decide).2 hw88.2.2.1 (Nat.le_of_ble_eq_true rfl) (s_X10_meet hw88 hw90 (by omega)) ?_
    rintro _ h91 _ ⟨rfl, eh92, rfl⟩
    have hS93 := SH_p hS52 wsAt_14 eh92
    have hk94 : K1 (14) h51 h91 := K1_up eh92
    have w95 : WD h91 (14) (fun z => (aC G k) z &&& (gwV (G (6 * k)) (G (6 * k + 1)) 255 8) z) := WD_up eh92 rfl rfl rfl rfl
    have LN96 : LN c G h91 := fun i hi => (hk94 _ (by omega)).trans (LN55 i hi)
    have f97 : h91 (13) = .inr (7, [.ref 14, .ref 16, .ref 18, .ref 20, .ref 22, .int (ltO G k), .int (ltE G k), .int fk, .int fs]) := (hk94 _ (fun z => nSP_13 ⟨_, wsAt_14, z⟩)).trans f56
    have w98 : WD h91 (16) (aD G k) := WD_1 hk94 (by omega) w58
    have w99 : WD h91 (22) (gwV (G (6 * k)) (G (6 * k + 1)) 255 8) := WD_1 hk94 (by omega) w54
    have hK100 := KG_1 (by decide) hK59 hk94
    refine r_aload_n rfl dX7_learn_71 rfl ?_
    refine r_dup rfl dX7_learn_72 rfl ?_
    refine r_getv 5 rfl dX7_learn_73 (show 2 ≤ 13 ∧ 13 < 434 by decide) f97 fl_X7_33 rfl ?_
    refine r_aload_n rfl dX7_learn_76 rfl ?_
    refine r_iload_n rfl dX7_learn_77 rfl ?_
    refine r_aald (jn := k) (v := .ref (100 + 8 * k)) rfl dX7_learn_78 (show 2 ≤ 12 ∧ 12 < 434 by decide).1 (show 2 ≤ 12 ∧ 12 < 434 by decide).2 hS93.o12 (by decide) (vp_in_nI (n := k) (by omega) (by decide)) (nI_clamp (n := k) (by omega)) (by show va_rf (if _ < _ then _ else _) = _; rw [if_pos (show k < 40 by omega)]; rfl) ?_
    refine cl_X7_53 rfl rfl dX7_learn_79 (show 2 ≤ 100 + 8 * k ∧ 100 + 8 * k < 434 by omega).1 (show 2 ≤ 100 + 8 * k ∧ 100 + 8 * k < 434 by omega).2 (LN96 k (by omega)) (Nat.le_of_ble_eq_true rfl) (x_X3_letters hS93 (i := k) (by omega) (LN96 k (by omega))) ?_
    rintro _ h101 _ ⟨rfl, e102, rfl⟩
    replace e102 := e102.symm
    subst e102
    refine r_ior rfl dX7_learn_82 ?_
    refine e_put 5 (fs' := [.ref 14, .ref 16, .ref 18, .ref 20, .ref 22, .int ((ltO G k) ||| ((G (6 * k)) ||| (G (6 * k + 1)))), .int (ltE G k), .int fk, .int fs]) rfl dX7_learn_83 (show 2 ≤ 13 ∧ 13 < 434 by decide) hS93 (KM_rf (Mod := [13]) _) (List.mem_singleton.mpr rfl) f97 (fp_X7_33 rfl _) (Nat.le_of_ble_eq_true rfl) rfl (fun h104 hS105 _ hN106 f107 => ?_)
    have w108 : WD h104 (16) (aD G k) := WD_M hN106 (by decide) w98
    have w109 : WD h104 (22) (gwV (G (6 * k)) (G (6 * k + 1)) 255 8) := WD_M hN106 (by decide) w99
    have w110 : WD h104 (14) (fun z => (aC G k) z &&& (gwV (G (6 * k)) (G (6 * k + 1)) 255 8) z) := WD_M hN106 (by decide) w95
    have LN111 : LN c G h104 := fun i hi => (hN106 _ (by simp <;> omega)).trans (LN96 i hi)
    have hK112 := KG_M hK100 hN106
    refine r_goto (pc' := 115) rfl dX7_learn_86 ?_
    refine r_iinc (y := nI (k + 1)) (ls' := [some (.ref 13), some (.ref 12), some (.int (nI c)), some (.int (nI (k + 1)))]) rfl dX7_learn_115 rfl (nI_1 k) (Nat.le_of_ble_eq_true rfl) rfl ?_
    refine r_goto (pc' := 26) rfl dX7_learn_118 ?_
    exact ih h104 hS105 hK112 (by rw [ltO, ltE, if_pos c60, if_pos c60]; exact f107) LN111 (WD_cg (fun z _ => by rw [aC, if_pos c60]) w110) (WD_cg (fun z _ => by rw [aD, if_pos c60]) w108)
theorem v_sl {xs : Nat → Int32} {L d : Nat} {h0 : ev_H} {c : Nat} {G : Nat → Int32} {fk fs : Int32} (hck : c ≤ 40) : ∀ (n k : Nat) (h : ev_H), k + n = c → SH h → KG h0 h → h 13 = c13 (ltO G k) (ltE G k) fk fs → LN c G h → WD h 14 (aC G k) → WD h 16 (aD G k) → EV xs L (d + 4) 0 0 M_X7_learn 434 h 26 [some (.ref 13), some (.ref 12), some (.int (nI c)), some (.int (nI k))] [] (fun sz' h' r => sz' = 434 ∧ SH h' ∧ KG h0 h' ∧ (∃ fs, h' 13 = c13 (ltO G c) (ltE G c) 0 fs) ∧ WD h' 14 (aC G c) ∧ WD h' 16 (aD G c) ∧ WD h' 18 (sb4 (ltO G c &&& ltE G c) (aC G c)) ∧ WD h' 20 (fun z => sb4 (ltO G c &&& ltE G c) (aD G c) z ^^^ (-1)) ∧ r = []) := by
  intro n
  induction n with
  | zero => intro k h hk hS hK f13 hLN w1 w2; exact v_sl_z hS hck hK f13 hLN w1 w2 (by omega)
  | succ n ih => intro k h hk hS hK f13 hLN w1 w2; exact v_sl_s hS hck hK f13 hLN w1 w2 (by omega) (fun h' q1 q2 q3 q4 q5 q6 => ih (k + 1) h' (by omega) q1 q2 q3 q4 q5 q6)
set_option maxRecDepth 20000 in
set_option maxHeartbeats 1000000 in
theorem v_X7_learn {xs : Nat → Int32} {L d : Nat} {h : ev_H} {c : Nat} {G : Nat → Int32} {lo lt fk fs : Int32} (hS : SH h) (hck : c ≤ 40) (f13 : h 13 = c13 lo lt fk fs) (hLN : LN c G h) : EV xs L (d + 4) 0 0 M_X7_learn 434 h 0 [some (.ref 13), some (.ref 12), some (.int (nI c)), none] [] (fun sz' h' r => sz' = 434 ∧ SH h' ∧ KG h h' ∧ (∃ fs, h' 13 = c13 (ltO G c) (ltE G c) 0 fs) ∧ WD h' 14 (aC G c) ∧ WD h' 16 (aD G c) ∧ WD h' 18 (sb4 (ltO G c &&& ltE G c) (aC G c)) ∧ WD h' 20 (fun z => sb4 (ltO G c &&& ltE G c) (aD G c) z ^^^ (-1)) ∧ r = []) := by
  refine r_aload_n rfl dX7_learn_0 rfl ?_
  refine r_getv 0 rfl dX7_learn_1 (show 2 ≤ 13 ∧ 13 < 434 by decide) f13 fl_X7_12 rfl ?_
  obtain ⟨g51, hw52⟩ := hS.ws wsAt_14
  refine cl_X7_30 rfl rfl dX7_learn_4 (show 2 ≤ 14 ∧ 14 < 434 by decide).1 (show 2 ≤ 14 ∧ 14 < 434 by decide).2 hw52.2.2.1 (Nat.le_of_ble_eq_true rfl) (s_X10_fill hw52) ?_
  rintro _ h53 _ ⟨rfl, eh54, rfl⟩
  have hS55 := SH_p hS wsAt_14 eh54
  have hk56 : K1 (14) h h53 := K1_up eh54
  have w57 : WD h53 (14) (fun _ => (-1)) := WD_up eh54 rfl rfl rfl rfl
  have LN58 : LN c G h53 := fun i hi => (hk56 _ (by omega)).trans (hLN i hi)
  have f59 : h53 (13) = .inr (7, [.ref 14, .ref 16, .ref 18, .ref 20, .ref 22, .int lo, .int lt, .int fk, .int fs]) := (hk56 _ (fun z => nSP_13 ⟨_, wsAt_14, z⟩)).trans f13
  have hK60 := KG_1 (by decide) (KG_rf h) hk56
  refine r_aload_n rfl dX7_learn_7 rfl ?_
  refine r_getv 1 rfl dX7_learn_8 (show 2 ≤ 13 ∧ 13 < 434 by decide) f59 fl_X7_18 rfl ?_
  obtain ⟨g61, hw62⟩ := hS55.ws wsAt_16
  refine cl_X7_30 rfl rfl dX7_learn_11 (show 2 ≤ 16 ∧ 16 < 434 by decide).1 (show 2 ≤ 16 ∧ 16 < 434 by decide).2 hw62.2.2.1 (Nat.le_of_ble_eq_true rfl) (s_X10_fill hw62) ?_
  rintro _ h63 _ ⟨rfl, eh64, rfl⟩
  have hS65 := SH_p hS55 wsAt_16 eh64
  have hk66 : K1 (16) h53 h63 := K1_up eh64
  have w67 : WD h63 (16) (fun _ => (-1)) := WD_up eh64 rfl rfl rfl rfl
  have LN68 : LN c G h63 := fun i hi => (hk66 _ (by omega)).trans (LN58 i hi)
  have f69 : h63 (13) = .inr (7, [.ref 14, .ref 16, .ref 18, .ref 20, .ref 22, .int lo, .int lt, .int fk, .int fs]) := (hk66 _ (fun z => nSP_13 ⟨_, wsAt_16, z⟩)).trans f59
  have w70 : WD h63 (14) (fun _ => (-1)) := WD_1 hk66 (by omega) w57
  have hK71 := KG_1 (by decide) hK60 hk66
  refine r_aload_n rfl dX7_learn_14 rfl ?_
  refine r_iconst (v := 0) rfl dX7_learn_15 (by decide) ?_
  refine e_put 5 (fs' := [.ref 14, .ref 16, .ref 18, .ref 20, .ref 22, .int 0, .int lt, .int fk, .int fs]) rfl dX7_learn_16 (show 2 ≤ 13 ∧ 13 < 434 by decide) hS65 (KM_rf (Mod := [13]) _) (List.mem_singleton.mpr rfl) f69 (fp_X7_33 rfl _) (Nat.le_of_ble_eq_true rfl) rfl (fun h72 hS73 _ hN74 f75 => ?_)
  have w76 : WD h72 (14) (fun _ => (-1)) := WD_M hN74 (by decide) w70
  have w77 : WD h72 (16) (fun _ => (-1)) := WD_M hN74 (by decide) w67
  have LN78 : LN c G h72 := fun i hi => (hN74 _ (by simp <;> omega)).trans (LN68 i hi)
  have hK79 := KG_M hK71 hN74
  refine r_aload_n rfl dX7_learn_19 rfl ?_
  refine r_iconst (v := 0) rfl dX7_learn_20 (by decide) ?_
  refine e_put 6 (fs' := [.ref 14, .ref 16, .ref 18, .ref 20, .ref 22, .int 0, .int 0, .int fk, .int fs]) rfl dX7_learn_21 (show 2 ≤ 13 ∧ 13 < 434 by decide) hS73 (KM_rf (Mod := [13]) _) (List.mem_singleton.mpr rfl) f75 (fp_X7_37 rfl _) (Nat.le_of_ble_eq_true rfl) rfl (fun h80 hS81 _ hN82 f83 => ?_)
  have w84 : WD h80 (14) (fun _ => (-1)) := WD_M hN82 (by decide) w76
  have w85 : WD h80 (16) (fun _ => (-1)) := WD_M hN82 (by decide) w77
  have LN86 : LN c G h80 := fun i hi => (hN82 _ (by simp <;> omega)).trans (LN78 i hi)
  have hK87 := KG_M hK79 hN82
  refine r_iconst (v := 0) rfl dX7_learn_24 (by decide) ?_
  refine r_istore_n (ls' := [some (.ref 13), some (.ref 12), some (.int (nI c)), some (.int 0)]) rfl dX7_learn_25 (Nat.le_of_ble_eq_true rfl) rfl ?_
  exact v_sl hck c 0 h80 (by omega) hS81 hK87 f83 LN86 (WD_cg (fun z _ => rfl) w84) (WD_cg (fun z _ => rfl) w85)
theorem by255 {u : Int32} (h : BY u) : u &&& 255 = u := by
  obtain ⟨a, ha, rfl⟩ := h
  rw [show (255 : Int32) = nI 255 from rfl, nI_and (by omega) (by decide), show (255 : Nat) = 2 ^ 8 - 1 from rfl, Nat.and_two_pow_sub_one_eq_mod, Nat.mod_eq_of_lt ha]
theorem aC_wO {G : Nat → Int32} {z : Nat} (hz : z < 4) : ∀ k, (∀ i, i < k → BY (G (6 * i)) ∧ BY (G (6 * i + 1))) → aC G k z = wO (onP G 1 k) z
  | 0, _ => tb_ext (fun j hj => by rw [aC, wO_tb _ z hj, tb_m1 ⟨j, hj⟩]; rfl)
  | k + 1, h => tb_ext (fun j hj => by
    have hb := h k (by omega)
    rw [aC, wO_tb _ z hj, onP]
    by_cases e : G (6 * k + 2) = 1
    · rw [if_pos e, if_pos e, tb_and, aC_wO hz k (fun i hi => h i (by omega)), wO_tb _ z hj, gw_wO hb.1 hb.2 hz, wO_tb _ z hj, by255 hb.1, by255 hb.2]
    · rw [if_neg e, if_neg e, aC_wO hz k (fun i hi => h i (by omega)), wO_tb _ z hj, Bool.and_true])
theorem aD_wO {G : Nat → Int32} {z : Nat} (hz : z < 4) : ∀ k, (∀ i, i < k → BY (G (6 * i)) ∧ BY (G (6 * i + 1))) → (∀ i, i < k → G (6 * i + 2) = 1 ∨ G (6 * i + 2) = 2) → aD G k z = wO (onP G 2 k) z
  | 0, _, _ => tb_ext (fun j hj => by rw [aD, wO_tb _ z hj, tb_m1 ⟨j, hj⟩]; rfl)
  | k + 1, h, h2 => tb_ext (fun j hj => by
    have hb := h k (by omega)
    rw [aD, wO_tb _ z hj, onP]
    rcases h2 k (by omega) with e | e
    · rw [if_pos e, aD_wO hz k (fun i hi => h i (by omega)) (fun i hi => h2 i (by omega)), wO_tb _ z hj, e, if_neg (by decide), Bool.and_true]
    · rw [e, if_neg (by decide), if_pos rfl, tb_and, aD_wO hz k (fun i hi => h i (by omega)) (fun i hi => h2 i (by omega)), wO_tb _ z hj, gw_wO hb.1 hb.2 hz, wO_tb _ z hj, by255 hb.1, by255 hb.2])
theorem wO_256 {P Q : Nat → Bool} {p : Nat} (hp : p < 4) (h : ∀ w, w < 256 → P w = Q w) : wO P p = wO Q p := wO_ext (fun j hj => h _ (by omega))
theorem sb4_wO {l : Nat} {V : Nat → Int64} {P : Nat → Bool} (hl : l < 256) (hV : ∀ p, p < 4 → V p = wO P p) {p : Nat} (hp : p < 4) : sb4 (nI l) V p = wO (spP P l) p := by
  obtain ⟨q0, q1, q2, q3⟩ := spb_wO (nI l) 8 0 P (V 0) (V 1) (V 2) (V 3) rfl (hV 0 (by decide)) (hV 1 (by decide)) (hV 2 (by decide)) (hV 3 (by decide))
  rw [← wO_256 hp (fun w hw => spL_P hl P hw)]
  unfold sb4
  match p, hp with
  | 0, _ => exact q0
  | 1, _ => exact q1
  | 2, _ => exact q2
  | 3, _ => exact q3
/-- Sides' sets are as the LINES' numbers tell -/
def SDc (G : Nat → Int32) (c l : Nat) (h : ev_H) : Prop := WD h 14 (wO (onP G 1 c)) ∧ WD h 16 (wO (onP G 2 c)) ∧ WD h 18 (wO (spP (onP G 1 c) l)) ∧ WD h 20 (wO (fun w => !spP (onP G 2 c) l w))
theorem SD_mk {G : Nat → Int32} {c m l : Nat} {h : ev_H} (hG : GV c m G) (hl : l < 256) (hs : ltO G c &&& ltE G c = nI l) (w1 : WD h 14 (aC G c)) (w2 : WD h 16 (aD G c)) (w3 : WD h 18 (sb4 (ltO G c &&& ltE G c) (aC G c))) (w4 : WD h 20 (fun z => sb4 (ltO G c &&& ltE G c) (aD G c) z ^^^ (-1))) : SDc G c l h := by
  have e1 : ∀ z, z < 4 → aC G c z = wO (onP G 1 c) z := fun z hz => aC_wO hz c (fun i hi => hG.1 i (by omega))
  have e2 : ∀ z, z < 4 → aD G c z = wO (onP G 2 c) z := fun z hz => aD_wO hz c (fun i hi => hG.1 i (by omega)) hG.2.1
  rw [hs] at w3 w4
  exact ⟨WD_cg e1 w1, WD_cg e2 w2, WD_cg (fun z hz => sb4_wO hl e1 hz) w3, WD_cg (fun z hz => by rw [sb4_wO hl e2 hz, wO_not]) w4⟩
