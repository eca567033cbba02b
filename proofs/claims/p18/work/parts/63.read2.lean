theorem dX4_readClauses_0 : decode cX4_readClauses 0 = .ok (.aload_n 0, 1) := by decide +kernel
theorem dX4_readClauses_1 : decode cX4_readClauses 1 = .ok (.iconst 0, 1) := by decide +kernel
theorem dX4_readClauses_2 : decode cX4_readClauses 2 = .ok (.putfield 30, 3) := by decide +kernel
theorem dX4_readClauses_5 : decode cX4_readClauses 5 = .ok (.aload_n 1, 1) := by decide +kernel
theorem dX4_readClauses_6 : decode cX4_readClauses 6 = .ok (.invokevirtual 41, 3) := by decide +kernel
theorem dX4_readClauses_9 : decode cX4_readClauses 9 = .ok (.iconst 0, 1) := by decide +kernel
theorem dX4_readClauses_10 : decode cX4_readClauses 10 = .ok (.istore_n 2, 1) := by decide +kernel
theorem dX4_readClauses_11 : decode cX4_readClauses 11 = .ok (.iload_n 2, 1) := by decide +kernel
theorem dX4_readClauses_12 : decode cX4_readClauses 12 = .ok (.bipush 16, 2) := by decide +kernel
theorem dX4_readClauses_14 : decode cX4_readClauses 14 = .ok (.if_icmp .ge 40, 3) := by decide +kernel
theorem dX4_readClauses_17 : decode cX4_readClauses 17 = .ok (.aload_n 1, 1) := by decide +kernel
theorem dX4_readClauses_18 : decode cX4_readClauses 18 = .ok (.invokevirtual 46, 3) := by decide +kernel
theorem dX4_readClauses_21 : decode cX4_readClauses 21 = .ok (.ifCond .eq 33, 3) := by decide +kernel
theorem dX4_readClauses_24 : decode cX4_readClauses 24 = .ok (.aload_n 0, 1) := by decide +kernel
theorem dX4_readClauses_25 : decode cX4_readClauses 25 = .ok (.aload_n 1, 1) := by decide +kernel
theorem dX4_readClauses_26 : decode cX4_readClauses 26 = .ok (.iload_n 2, 1) := by decide +kernel
theorem dX4_readClauses_27 : decode cX4_readClauses 27 = .ok (.invokevirtual 50, 3) := by decide +kernel
theorem dX4_readClauses_30 : decode cX4_readClauses 30 = .ok (.ifCond .ne 8, 3) := by decide +kernel
theorem dX4_readClauses_33 : decode cX4_readClauses 33 = .ok (.aload_n 1, 1) := by decide +kernel
theorem dX4_readClauses_34 : decode cX4_readClauses 34 = .ok (.invokevirtual 54, 3) := by decide +kernel
theorem dX4_readClauses_37 : decode cX4_readClauses 37 = .ok (.ireturn, 1) := by decide +kernel
theorem dX4_readClauses_38 : decode cX4_readClauses 38 = .ok (.aload_n 0, 1) := by decide +kernel
theorem dX4_readClauses_39 : decode cX4_readClauses 39 = .ok (.dup, 1) := by decide +kernel
theorem dX4_readClauses_40 : decode cX4_readClauses 40 = .ok (.getfield 30, 3) := by decide +kernel
theorem dX4_readClauses_43 : decode cX4_readClauses 43 = .ok (.iconst 1, 1) := by decide +kernel
theorem dX4_readClauses_44 : decode cX4_readClauses 44 = .ok (.iadd, 1) := by decide +kernel
theorem dX4_readClauses_45 : decode cX4_readClauses 45 = .ok (.putfield 30, 3) := by decide +kernel
theorem dX4_readClauses_48 : decode cX4_readClauses 48 = .ok (.iinc 2 1, 3) := by decide +kernel
theorem dX4_readClauses_51 : decode cX4_readClauses 51 = .ok (.goto (-40), 3) := by decide +kernel
theorem dX4_readClauses_54 : decode cX4_readClauses 54 = .ok (.aload_n 1, 1) := by decide +kernel
theorem dX4_readClauses_55 : decode cX4_readClauses 55 = .ok (.invokevirtual 46, 3) := by decide +kernel
theorem dX4_readClauses_58 : decode cX4_readClauses 58 = .ok (.ifCond .ne 7, 3) := by decide +kernel
theorem dX4_readClauses_61 : decode cX4_readClauses 61 = .ok (.iconst (-1), 1) := by decide +kernel
theorem dX4_readClauses_62 : decode cX4_readClauses 62 = .ok (.goto 7, 3) := by decide +kernel
theorem dX4_readClauses_65 : decode cX4_readClauses 65 = .ok (.aload_n 1, 1) := by decide +kernel
theorem dX4_readClauses_66 : decode cX4_readClauses 66 = .ok (.invokevirtual 54, 3) := by decide +kernel
theorem dX4_readClauses_69 : decode cX4_readClauses 69 = .ok (.ireturn, 1) := by decide +kernel
set_option maxRecDepth 20000 in
set_option maxHeartbeats 1000000 in
theorem s_X4_readClause {xs : Nat → Int32} {L d : Nat} {h : ev_H} {f g : Nat → Int32} {n p i : Nat} {cr pl tu sr : Int32} {A B C : Nat → Int32} (hS : SH h) (hn : n ≤ 300) (hp : p ≤ n) (h3 : h 3 = cT f n p) (h4 : h 4 = c4 f) (h5 : h 5 = c5 cr pl tu sr) (h6 : h 6 = cI 16 A) (h7 : h 7 = cI 16 B) (h8 : h 8 = cI 16 C) (hi : i < 16) (hX : TXR f g n) : EV xs L (d + 5) 0 0 M_X4_readClause 434 h 0 [some (.ref 5), some (.ref 3), some (.int (nI i)), none] [] (fun sz' h' r => sz' = 434 ∧ SH h' ∧ KM [3, 5, 6, 7, 8] h h' ∧ ((tK f n p = 1 ∧ (clL f n 8 (rdP f n p) 0 0).1 = true ∧ h' 3 = cT f n (rdP f n (clL f n 8 (rdP f n p) 0 0).2.1) ∧ (∃ a b, h' 5 = c5 cr a b sr) ∧ h' 6 = cI 16 (upd A i (tV f n p)) ∧ h' 7 = cI 16 (upd B i (clL f n 8 (rdP f n p) 0 0).2.2.1) ∧ h' 8 = cI 16 (upd C i (clL f n 8 (rdP f n p) 0 0).2.2.2) ∧ r = [.int 1]) ∨ (tK f n p = 1 ∧ (clL f n 8 (rdP f n p) 0 0).1 = false ∧ h' 3 = cT f n (clL f n 8 (rdP f n p) 0 0).2.1 ∧ (∃ a b, h' 5 = c5 cr a b sr) ∧ r = [.int 0]) ∨ (¬ tK f n p = 1 ∧ h' 3 = cT f n p ∧ (∃ a b, h' 5 = c5 cr a b sr) ∧ r = [.int 0]))) := by
  refine r_iload_n rfl dX4_readClause_0 rfl ?_
  refine r_if_lt (tgt := 18) rfl rfl dX4_readClause_1 (fun zc => absurd zc (nI_pos (by omega))) (fun _ => ?_)
  refine r_iload_n rfl dX4_readClause_4 rfl ?_
  refine r_bipush (v := 16) rfl dX4_readClause_5 (by decide) ?_
  refine r_icmp_ge (tgt := 18) rfl rfl dX4_readClause_7 (fun zc => absurd zc (show ¬ (16 : Int32) ≤ nI i from nI_ge (a := i) (b := 16) (by omega) (by decide))) (fun _ => ?_)
  refine r_aload_n rfl dX4_readClause_10 rfl ?_
  refine cl_X4_46 rfl rfl dX4_readClause_11 (show 2 ≤ 3 ∧ 3 < 434 by decide).1 (show 2 ≤ 3 ∧ 3 < 434 by decide).2 h3 (Nat.le_of_ble_eq_true rfl) (s_X8_kind h3) ?_
  rintro _ h51 _ ⟨rfl, e52, rfl⟩
  replace e52 := e52.symm
  subst e52
  refine r_iconst (v := 1) rfl dX4_readClause_14 (by decide) ?_
  refine r_icmp_eq (tgt := 20) rfl rfl dX4_readClause_15 (fun c53 => ?_) (fun c53 => ?_)
  · refine r_aload_n rfl dX4_readClause_20 rfl ?_
    refine r_getv 0 rfl dX4_readClause_21 (show 2 ≤ 5 ∧ 5 < 434 by decide) h5 fl_X4_9 rfl ?_
    refine r_iload_n rfl dX4_readClause_24 rfl ?_
    refine r_aload_n rfl dX4_readClause_25 rfl ?_
    refine cl_X4_57 rfl rfl dX4_readClause_26 (show 2 ≤ 3 ∧ 3 < 434 by decide).1 (show 2 ≤ 3 ∧ 3 < 434 by decide).2 h3 (Nat.le_of_ble_eq_true rfl) (s_X8_value h3) ?_
    rintro _ h54 _ ⟨rfl, e55, rfl⟩
    replace e55 := e55.symm
    subst e55
    refine e_iast (jn := i) rfl dX4_readClause_29 (show 2 ≤ 6 ∧ 6 < 434 by decide) hS (KM_rf (Mod := [3, 5, 6, 7, 8]) h) (by decide) h6 (vp_in_nI (n := i) (by omega) (by decide)) (nI_clamp (n := i) (by omega)) (fun h56 hS57 hF58 hN59 f60 => ?_)
    have f61 : h56 3 = .inr (8, [.ref 4, .int (nI n), .int (nI (rdP f n p)), .int (nI (rdS f n p)), .int (tK f n p), .int (tV f n p)]) := (hN59 3 (by decide)).trans h3
    have f62 : h56 4 = .inl (2, 300, .inl f) := (hN59 4 (by decide)).trans h4
    have f63 : h56 5 = .inr (4, [.ref 6, .ref 7, .ref 8, .int cr, .int pl, .int tu, .ref 9, .ref 10, .ref 11, .int sr]) := (hN59 5 (by decide)).trans h5
    have f64 : h56 7 = .inl (0, 16, .inl B) := (hN59 7 (by decide)).trans h7
    have f65 : h56 8 = .inl (0, 16, .inl C) := (hN59 8 (by decide)).trans h8
    refine r_aload_n rfl dX4_readClause_30 rfl ?_
    refine r_iconst (v := 0) rfl dX4_readClause_31 (by decide) ?_
    refine e_put 4 (fs' := [.ref 6, .ref 7, .ref 8, .int cr, .int 0, .int tu, .ref 9, .ref 10, .ref 11, .int sr]) rfl dX4_readClause_32 (show 2 ≤ 5 ∧ 5 < 434 by decide) hS57 hF58 (by decide) f63 (fp_X4_60 rfl _) (Nat.le_of_ble_eq_true rfl) rfl (fun h66 hS67 hF68 hN69 f70 => ?_)
    have f71 : h66 3 = .inr (8, [.ref 4, .int (nI n), .int (nI (rdP f n p)), .int (nI (rdS f n p)), .int (tK f n p), .int (tV f n p)]) := (hN69 3 (by decide)).trans f61
    have f72 : h66 4 = .inl (2, 300, .inl f) := (hN69 4 (by decide)).trans f62
    have f73 : h66 7 = .inl (0, 16, .inl B) := (hN69 7 (by decide)).trans f64
    have f74 : h66 8 = .inl (0, 16, .inl C) := (hN69 8 (by decide)).trans f65
    have f75 : h66 6 = .inl (0, 16, .inl (upd A i (tV f n p))) := (hN69 6 (by decide)).trans f60
    refine r_aload_n rfl dX4_readClause_35 rfl ?_
    refine r_iconst (v := 0) rfl dX4_readClause_36 (by decide) ?_
    refine e_put 5 (fs' := [.ref 6, .ref 7, .ref 8, .int cr, .int 0, .int 0, .ref 9, .ref 10, .ref 11, .int sr]) rfl dX4_readClause_37 (show 2 ≤ 5 ∧ 5 < 434 by decide) hS67 hF68 (by decide) f70 (fp_X4_63 rfl _) (Nat.le_of_ble_eq_true rfl) rfl (fun h76 hS77 hF78 hN79 f80 => ?_)
    have f81 : h76 3 = .inr (8, [.ref 4, .int (nI n), .int (nI (rdP f n p)), .int (nI (rdS f n p)), .int (tK f n p), .int (tV f n p)]) := (hN79 3 (by decide)).trans f71
    have f82 : h76 4 = .inl (2, 300, .inl f) := (hN79 4 (by decide)).trans f72
    have f83 : h76 7 = .inl (0, 16, .inl B) := (hN79 7 (by decide)).trans f73
    have f84 : h76 8 = .inl (0, 16, .inl C) := (hN79 8 (by decide)).trans f74
    have f85 : h76 6 = .inl (0, 16, .inl (upd A i (tV f n p))) := (hN79 6 (by decide)).trans f75
    refine r_aload_n rfl dX4_readClause_40 rfl ?_
    refine cl_X4_66 rfl rfl dX4_readClause_41 (show 2 ≤ 3 ∧ 3 < 434 by decide).1 (show 2 ≤ 3 ∧ 3 < 434 by decide).2 f81 (Nat.le_of_ble_eq_true rfl) (t_next hS77 hp hn f81 f82) ?_
    rintro _ h86 _ ⟨rfl, hS87, hK88, f89, rfl⟩
    have hF90 := KM_tr hF78 (KM_sb (by decide) hK88)
    have f91 : h86 4 = .inl (2, 300, .inl f) := (hK88 4 (by decide)).trans f82
    have f92 : h86 7 = .inl (0, 16, .inl B) := (hK88 7 (by decide)).trans f83
    have f93 : h86 8 = .inl (0, 16, .inl C) := (hK88 8 (by decide)).trans f84
    have f94 : h86 6 = .inl (0, 16, .inl (upd A i (tV f n p))) := (hK88 6 (by decide)).trans f85
    have f95 : h86 5 = .inr (4, [.ref 6, .ref 7, .ref 8, .int cr, .int 0, .int 0, .ref 9, .ref 10, .ref 11, .int sr]) := (hK88 5 (by decide)).trans f80
    refine r_iconst (v := 0) rfl dX4_readClause_44 (by decide) ?_
    refine r_istore_n (ls' := [some (.ref 5), some (.ref 3), some (.int (nI i)), some (.int 0)]) rfl dX4_readClause_45 (Nat.le_of_ble_eq_true rfl) rfl ?_
    refine EV.post ?_ (s_X4_readClause_loop hn hi hX 8 _ 0 0 h86 (by decide) (rdP_le f hp) UI_8 hS87 f89 f91 f95 f92 f93)
    rintro a1 a2 a3 ⟨b1, b2, b3, ⟨g1, g2, g3, g4, g5, g6, g7⟩ | ⟨g1, g2, g3, g4⟩⟩
    · exact ⟨b1, b2, KM_tr hF90 b3, Or.inl ⟨c53, g1, g2, g3, g4.trans f94, g5, g6, g7⟩⟩
    · exact ⟨b1, b2, KM_tr hF90 b3, Or.inr (Or.inl ⟨c53, g1, g2, g3, g4⟩)⟩
  · refine r_iconst (v := 0) rfl dX4_readClause_18 (by decide) ?_
    exact r_ret dX4_readClause_19 (rt_z rfl (Or.inl rfl)) ⟨rfl, hS, (KM_rf (Mod := [3, 5, 6, 7, 8]) h), Or.inr (Or.inr ⟨c53, h3, ⟨_, _, h5⟩, rfl⟩)⟩
theorem nI_nm1 {n : Nat} (h : n < 2 ^ 31) : ¬ nI n = -1 := fun z => nI_pos h (by rw [z]; decide)
/-- what readClauses leaves -/
def csQ (n : Nat) (sr : Int32) (h0 : ev_H) (q : Int32 × Nat × (Nat → Int32) × (Nat → Int32) × (Nat → Int32)) : ev_Q := fun sz' h' r => sz' = 434 ∧ SH h' ∧ KM [3, 5, 6, 7, 8] h0 h' ∧ r = [.int q.1] ∧ (∃ p s k v, h' 3 = c3 (nI n) p s k v) ∧ (∃ cr a b, h' 5 = c5 cr a b sr) ∧ (q.1 = -1 → (∃ a b, h' 5 = c5 (nI q.2.1) a b sr) ∧ h' 6 = cI 16 q.2.2.1 ∧ h' 7 = cI 16 q.2.2.2.1 ∧ h' 8 = cI 16 q.2.2.2.2)
set_option maxRecDepth 20000 in
set_option maxHeartbeats 1000000 in
theorem s_X4_readClauses_z {xs : Nat → Int32} {L d : Nat} {h : ev_H} {f g : Nat → Int32} {n p i : Nat} {pl tu sr : Int32} {A B C : Nat → Int32} (hS : SH h) (hn : n ≤ 300) (hp : p ≤ n) (h3 : h 3 = cT f n p) (h4 : h 4 = c4 f) (h5 : h 5 = c5 (nI i) pl tu sr) (h6 : h 6 = cI 16 A) (h7 : h 7 = cI 16 B) (h8 : h 8 = cI 16 C) (hX : TXR f g n) (hr : i = 16) : EV xs L (d + 6) 0 0 M_X4_readClauses 434 h 11 [some (.ref 5), some (.ref 3), some (.int 16)] [] (csQ n sr h (csL f n 0 p i A B C)) := by
  refine r_iload_n rfl dX4_readClauses_11 rfl ?_
  refine r_bipush (v := 16) rfl dX4_readClauses_12 (by decide) ?_
  refine r_icmp_ge (tgt := 54) rfl rfl dX4_readClauses_14 (fun _ => ?_) (fun zc => absurd zc (by decide))
  refine r_aload_n rfl dX4_readClauses_54 rfl ?_
  refine cl_X4_46 rfl rfl dX4_readClauses_55 (show 2 ≤ 3 ∧ 3 < 434 by decide).1 (show 2 ≤ 3 ∧ 3 < 434 by decide).2 h3 (Nat.le_of_ble_eq_true rfl) (s_X8_kind h3) ?_
  rintro _ h51 _ ⟨rfl, e52, rfl⟩
  replace e52 := e52.symm
  subst e52
  refine r_if_ne (tgt := 65) rfl rfl dX4_readClauses_58 (fun c53 => ?_) (fun c53 => ?_)
  · refine r_aload_n rfl dX4_readClauses_65 rfl ?_
    refine cl_X4_54 rfl rfl dX4_readClauses_66 (show 2 ≤ 3 ∧ 3 < 434 by decide).1 (show 2 ≤ 3 ∧ 3 < 434 by decide).2 h3 (Nat.le_of_ble_eq_true rfl) (s_X8_start h3) ?_
    rintro _ h54 _ ⟨rfl, e55, rfl⟩
    replace e55 := e55.symm
    subst e55
    have hsl := (rdS_le f hp).2
    have e56 : csL f n 0 p i A B C = (nI (rdS f n p), i, A, B, C) := by rw [csL, if_neg c53]
    exact r_ret dX4_readClauses_69 (rt_i rfl) (by rw [e56]; exact ⟨rfl, hS, (KM_rf (Mod := [3, 5, 6, 7, 8]) h), rfl, ⟨_, _, _, _, h3⟩, ⟨_, _, _, h5⟩, fun z => absurd z (nI_nm1 (by omega))⟩)
  · refine r_iconst (v := (-1)) rfl dX4_readClauses_61 (by decide) ?_
    refine r_goto (pc' := 69) rfl dX4_readClauses_62 ?_
    have hsl := (rdS_le f hp).2
    have e57 : csL f n 0 p i A B C = (-1, i, A, B, C) := by rw [csL, if_pos c53]
    exact r_ret dX4_readClauses_69 (rt_i rfl) (by rw [e57]; exact ⟨rfl, hS, (KM_rf (Mod := [3, 5, 6, 7, 8]) h), rfl, ⟨_, _, _, _, h3⟩, ⟨_, _, _, h5⟩, fun _ => ⟨⟨_, _, h5⟩, h6, h7, h8⟩⟩)
set_option maxRecDepth 20000 in
set_option maxHeartbeats 1000000 in
theorem s_X4_readClauses_s {xs : Nat → Int32} {L d : Nat} {h : ev_H} {f g : Nat → Int32} {n p i : Nat} {pl tu sr : Int32} {A B C : Nat → Int32} {r : Nat} (hS : SH h) (hn : n ≤ 300) (hp : p ≤ n) (h3 : h 3 = cT f n p) (h4 : h 4 = c4 f) (h5 : h 5 = c5 (nI i) pl tu sr) (h6 : h 6 = cI 16 A) (h7 : h 7 = cI 16 B) (h8 : h 8 = cI 16 C) (hX : TXR f g n) (hr : i + (r + 1) = 16) (ih : ∀ (p' : Nat) (A' B' C' : Nat → Int32) (a b : Int32) (h' : ev_H), p' ≤ n → SH h' → h' 3 = cT f n p' → h' 4 = c4 f → h' 5 = c5 (nI (i + 1)) a b sr → h' 6 = cI 16 A' → h' 7 = cI 16 B' → h' 8 = cI 16 C' → EV xs L (d + 6) 0 0 M_X4_readClauses 434 h' 11 [some (.ref 5), some (.ref 3), some (.int (nI (i + 1)))] [] (csQ n sr h' (csL f n r p' (i + 1) A' B' C'))) : EV xs L (d + 6) 0 0 M_X4_readClauses 434 h 11 [some (.ref 5), some (.ref 3), some (.int (nI i))] [] (csQ n sr h (csL f n (r + 1) p i A B C)) := by
  refine r_iload_n rfl dX4_readClauses_11 rfl ?_
  refine r_bipush (v := 16) rfl dX4_readClauses_12 (by decide) ?_
  refine r_icmp_ge (tgt := 54) rfl rfl dX4_readClauses_14 (fun zc => absurd zc (show ¬ (16 : Int32) ≤ nI i from nI_ge (a := i) (b := 16) (by omega) (by decide))) (fun _ => ?_)
  refine r_aload_n rfl dX4_readClauses_17 rfl ?_
  refine cl_X4_46 rfl rfl dX4_readClauses_18 (show 2 ≤ 3 ∧ 3 < 434 by decide).1 (show 2 ≤ 3 ∧ 3 < 434 by decide).2 h3 (Nat.le_of_ble_eq_true rfl) (s_X8_kind h3) ?_
  rintro _ h51 _ ⟨rfl, e52, rfl⟩
  replace e52 := e52.symm
  subst e52
  refine r_if_eq (tgt := 54) rfl rfl dX4_readClauses_21 (fun c53 => ?_) (fun c53 => ?_)
  · refine r_aload_n rfl dX4_readClauses_54 rfl ?_
    refine cl_X4_46 rfl rfl dX4_readClauses_55 (show 2 ≤ 3 ∧ 3 < 434 by decide).1 (show 2 ≤ 3 ∧ 3 < 434 by decide).2 h3 (Nat.le_of_ble_eq_true rfl) (s_X8_kind h3) ?_
    rintro _ h54 _ ⟨rfl, e55, rfl⟩
    replace e55 := e55.symm
    subst e55
    refine r_if_ne (tgt := 65) rfl rfl dX4_readClauses_58 (fun zc => absurd zc (fun z => z c53)) (fun _ => ?_)
    refine r_iconst (v := (-1)) rfl dX4_readClauses_61 (by decide) ?_
    refine r_goto (pc' := 69) rfl dX4_readClauses_62 ?_
    have hsl := (rdS_le f hp).2
    have e56 : csL f n (r + 1) p i A B C = (-1, i, A, B, C) := by rw [csL, if_pos c53]
    exact r_ret dX4_readClauses_69 (rt_i rfl) (by rw [e56]; exact ⟨rfl, hS, (KM_rf (Mod := [3, 5, 6, 7, 8]) h), rfl, ⟨_, _, _, _, h3⟩, ⟨_, _, _, h5⟩, fun _ => ⟨⟨_, _, h5⟩, h6, h7, h8⟩⟩)
  · refine r_aload_n rfl dX4_readClauses_24 rfl ?_
    refine r_aload_n rfl dX4_readClauses_25 rfl ?_
    refine r_iload_n rfl dX4_readClauses_26 rfl ?_
    refine cl_X4_50 rfl rfl dX4_readClauses_27 (show 2 ≤ 5 ∧ 5 < 434 by decide).1 (show 2 ≤ 5 ∧ 5 < 434 by decide).2 h5 (Nat.le_of_ble_eq_true rfl) (s_X4_readClause hS hn hp h3 h4 h5 h6 h7 h8 (i := i) (by omega) hX) ?_
    rintro _ h57 _ ⟨rfl, hS58, hK59, ⟨c60, c61, f62, ⟨a68, b69, f63⟩, f64, f65, f66, rfl⟩ | ⟨c60, c61, f62, ⟨a68, b69, f63⟩, rfl⟩ | ⟨c60, f62, ⟨a68, b69, f63⟩, rfl⟩⟩
    · have hF67 := KM_tr (KM_rf (Mod := [3, 5, 6, 7, 8]) h) (KM_sb (by decide) hK59)
      have f70 : h57 4 = .inl (2, 300, .inl f) := (hK59 4 (by decide)).trans h4
      refine r_if_ne (tgt := 38) rfl rfl dX4_readClauses_30 (fun _ => ?_) (fun zc => absurd zc (by decide))
      refine r_aload_n rfl dX4_readClauses_38 rfl ?_
      refine r_dup rfl dX4_readClauses_39 rfl ?_
      refine r_getv 3 rfl dX4_readClauses_40 (show 2 ≤ 5 ∧ 5 < 434 by decide) f63 fl_X4_30 rfl ?_
      refine r_iconst (v := 1) rfl dX4_readClauses_43 (by decide) ?_
      refine r_iadd rfl dX4_readClauses_44 ?_
      refine r_eqi (y := nI (i + 1)) (show (nI i) + 1 = nI (i + 1) from nI_add i 1) ?_
      refine e_put 3 (fs' := [.ref 6, .ref 7, .ref 8, .int (nI (i + 1)), .int a68, .int b69, .ref 9, .ref 10, .ref 11, .int sr]) rfl dX4_readClauses_45 (show 2 ≤ 5 ∧ 5 < 434 by decide) hS58 hF67 (by decide) f63 (fp_X4_30 rfl _) (Nat.le_of_ble_eq_true rfl) rfl (fun h71 hS72 hF73 hN74 f75 => ?_)
      have f76 : h71 4 = .inl (2, 300, .inl f) := (hN74 4 (by decide)).trans f70
      have f77 : h71 6 = .inl (0, 16, .inl (upd A i (tV f n p))) := (hN74 6 (by decide)).trans f64
      have f78 : h71 7 = .inl (0, 16, .inl (upd B i (clL f n 8 (rdP f n p) 0 0).2.2.1)) := (hN74 7 (by decide)).trans f65
      have f79 : h71 8 = .inl (0, 16, .inl (upd C i (clL f n 8 (rdP f n p) 0 0).2.2.2)) := (hN74 8 (by decide)).trans f66
      have f80 : h71 3 = .inr (8, [.ref 4, .int (nI n), .int (nI (rdP f n (rdP f n (clL f n 8 (rdP f n p) 0 0).2.1))), .int (nI (rdS f n (rdP f n (clL f n 8 (rdP f n p) 0 0).2.1))), .int (tK f n (rdP f n (clL f n 8 (rdP f n p) 0 0).2.1)), .int (tV f n (rdP f n (clL f n 8 (rdP f n p) 0 0).2.1))]) := (hN74 3 (by decide)).trans f62
      refine r_iinc (y := nI (i + 1)) (ls' := [some (.ref 5), some (.ref 3), some (.int (nI (i + 1)))]) rfl dX4_readClauses_48 rfl (nI_1 i) (Nat.le_of_ble_eq_true rfl) rfl ?_
      refine r_goto (pc' := 11) rfl dX4_readClauses_51 ?_
      refine EV.post ?_ (ih _ _ _ _ _ _ h71 (rdP_le f (clL_le f n 8 _ 0 0 (rdP_le f hp)).1) hS72 f80 f76 f75 f77 f78 f79)
      rintro a1 a2 a3 ⟨b1, b2, b3, b4⟩
      rw [show csL f n (r + 1) p i A B C = csL f n r (rdP f n (clL f n 8 (rdP f n p) 0 0).2.1) (i + 1) (upd A i (tV f n p)) (upd B i (clL f n 8 (rdP f n p) 0 0).2.2.1) (upd C i (clL f n 8 (rdP f n p) 0 0).2.2.2) from by rw [csL, if_neg c53, if_pos c60, if_pos c61]]
      exact ⟨b1, b2, KM_tr hF73 b3, b4⟩
    · have hF67 := KM_tr (KM_rf (Mod := [3, 5, 6, 7, 8]) h) (KM_sb (by decide) hK59)
      have f81 : h57 4 = .inl (2, 300, .inl f) := (hK59 4 (by decide)).trans h4
      refine r_if_ne (tgt := 38) rfl rfl dX4_readClauses_30 (fun zc => absurd zc (by decide)) (fun _ => ?_)
      refine r_aload_n rfl dX4_readClauses_33 rfl ?_
      refine cl_X4_54 rfl rfl dX4_readClauses_34 (show 2 ≤ 3 ∧ 3 < 434 by decide).1 (show 2 ≤ 3 ∧ 3 < 434 by decide).2 f62 (Nat.le_of_ble_eq_true rfl) (s_X8_start f62) ?_
      rintro _ h82 _ ⟨rfl, e83, rfl⟩
      replace e83 := e83.symm
      subst e83
      have hsl := (rdS_le f (clL_le f n 8 _ 0 0 (rdP_le f hp)).1).2
      have e84 : csL f n (r + 1) p i A B C = (nI (rdS f n (clL f n 8 (rdP f n p) 0 0).2.1), i, A, B, C) := by rw [csL, if_neg c53, if_pos c60, if_neg (by rw [c61]; decide)]
      exact r_ret dX4_readClauses_37 (rt_i rfl) (by rw [e84]; exact ⟨rfl, hS58, hF67, rfl, ⟨_, _, _, _, f62⟩, ⟨_, _, _, f63⟩, fun z => absurd z (nI_nm1 (by omega))⟩)
    · have hF67 := KM_tr (KM_rf (Mod := [3, 5, 6, 7, 8]) h) (KM_sb (by decide) hK59)
      have f85 : h57 4 = .inl (2, 300, .inl f) := (hK59 4 (by decide)).trans h4
      refine r_if_ne (tgt := 38) rfl rfl dX4_readClauses_30 (fun zc => absurd zc (by decide)) (fun _ => ?_)
      refine r_aload_n rfl dX4_readClauses_33 rfl ?_
      refine cl_X4_54 rfl rfl dX4_readClauses_34 (show 2 ≤ 3 ∧ 3 < 434 by decide).1 (show 2 ≤ 3 ∧ 3 < 434 by decide).2 f62 (Nat.le_of_ble_eq_true rfl) (s_X8_start f62) ?_
      rintro _ h86 _ ⟨rfl, e87, rfl⟩
      replace e87 := e87.symm
      subst e87
      have hsl := (rdS_le f hp).2
      have e88 : csL f n (r + 1) p i A B C = (nI (rdS f n p), i, A, B, C) := by rw [csL, if_neg c53, if_neg c60]
      exact r_ret dX4_readClauses_37 (rt_i rfl) (by rw [e88]; exact ⟨rfl, hS58, hF67, rfl, ⟨_, _, _, _, f62⟩, ⟨_, _, _, f63⟩, fun z => absurd z (nI_nm1 (by omega))⟩)
theorem s_X4_readClauses_loop {xs : Nat → Int32} {L d : Nat} {f g : Nat → Int32} {n : Nat} {sr : Int32} (hn : n ≤ 300) (hX : TXR f g n) : ∀ (r i p : Nat) (A B C : Nat → Int32) (a b : Int32) (h : ev_H), i + r = 16 → p ≤ n → SH h → h 3 = cT f n p → h 4 = c4 f → h 5 = c5 (nI i) a b sr → h 6 = cI 16 A → h 7 = cI 16 B → h 8 = cI 16 C → EV xs L (d + 6) 0 0 M_X4_readClauses 434 h 11 [some (.ref 5), some (.ref 3), some (.int (nI i))] [] (csQ n sr h (csL f n r p i A B C)) := by
  intro r
  induction r with
  | zero =>
    intro i p A B C a b h hr hp hS h3 h4 h5 h6 h7 h8
    obtain rfl : i = 16 := by omega
    exact s_X4_readClauses_z hS hn hp h3 h4 h5 h6 h7 h8 hX rfl
  | succ r ih =>
    intro i p A B C a b h hr hp hS h3 h4 h5 h6 h7 h8
    exact s_X4_readClauses_s hS hn hp h3 h4 h5 h6 h7 h8 hX hr (fun p' A' B' C' a b h' q1 q2 q3 q4 q5 q6 q7 q8 => ih (i + 1) p' A' B' C' a b h' (by omega) q1 q2 q3 q4 q5 q6 q7 q8)
set_option maxRecDepth 20000 in
set_option maxHeartbeats 1000000 in
theorem s_X4_readClauses {xs : Nat → Int32} {L d : Nat} {h : ev_H} {f g : Nat → Int32} {n : Nat} {cr pl tu sr pp ss kk vv : Int32} {A B C : Nat → Int32} (hS : SH h) (hn : n ≤ 300) (h3 : h 3 = c3 (nI n) pp ss kk vv) (h4 : h 4 = c4 f) (h5 : h 5 = c5 cr pl tu sr) (h6 : h 6 = cI 16 A) (h7 : h 7 = cI 16 B) (h8 : h 8 = cI 16 C) (hX : TXR f g n) : EV xs L (d + 6) 0 0 M_X4_readClauses 434 h 0 [some (.ref 5), some (.ref 3), none] [] (csQ n sr h (csL f n 16 0 0 A B C)) := by
  refine r_aload_n rfl dX4_readClauses_0 rfl ?_
  refine r_iconst (v := 0) rfl dX4_readClauses_1 (by decide) ?_
  refine e_put 3 (fs' := [.ref 6, .ref 7, .ref 8, .int 0, .int pl, .int tu, .ref 9, .ref 10, .ref 11, .int sr]) rfl dX4_readClauses_2 (show 2 ≤ 5 ∧ 5 < 434 by decide) hS (KM_rf (Mod := [3, 5, 6, 7, 8]) h) (by decide) h5 (fp_X4_30 rfl _) (Nat.le_of_ble_eq_true rfl) rfl (fun h51 hS52 hF53 hN54 f55 => ?_)
  have f56 : h51 3 = .inr (8, [.ref 4, .int (nI n), .int pp, .int ss, .int kk, .int vv]) := (hN54 3 (by decide)).trans h3
  have f57 : h51 4 = .inl (2, 300, .inl f) := (hN54 4 (by decide)).trans h4
  have f58 : h51 6 = .inl (0, 16, .inl A) := (hN54 6 (by decide)).trans h6
  have f59 : h51 7 = .inl (0, 16, .inl B) := (hN54 7 (by decide)).trans h7
  have f60 : h51 8 = .inl (0, 16, .inl C) := (hN54 8 (by decide)).trans h8
  refine r_aload_n rfl dX4_readClauses_5 rfl ?_
  refine cl_X4_41 rfl rfl dX4_readClauses_6 (show 2 ≤ 3 ∧ 3 < 434 by decide).1 (show 2 ≤ 3 ∧ 3 < 434 by decide).2 f56 (Nat.le_of_ble_eq_true rfl) (t_first hS52 hn f56 f57) ?_
  rintro _ h61 _ ⟨rfl, hS62, hK63, f64, rfl⟩
  have hF65 := KM_tr hF53 (KM_sb (by decide) hK63)
  have f66 : h61 4 = .inl (2, 300, .inl f) := (hK63 4 (by decide)).trans f57
  have f67 : h61 6 = .inl (0, 16, .inl A) := (hK63 6 (by decide)).trans f58
  have f68 : h61 7 = .inl (0, 16, .inl B) := (hK63 7 (by decide)).trans f59
  have f69 : h61 8 = .inl (0, 16, .inl C) := (hK63 8 (by decide)).trans f60
  have f70 : h61 5 = .inr (4, [.ref 6, .ref 7, .ref 8, .int 0, .int pl, .int tu, .ref 9, .ref 10, .ref 11, .int sr]) := (hK63 5 (by decide)).trans f55
  refine r_iconst (v := 0) rfl dX4_readClauses_9 (by decide) ?_
  refine r_istore_n (ls' := [some (.ref 5), some (.ref 3), some (.int 0)]) rfl dX4_readClauses_10 (Nat.le_of_ble_eq_true rfl) rfl ?_
  refine EV.post ?_ (s_X4_readClauses_loop hn hX 16 0 0 A B C pl tu h61 rfl (Nat.zero_le n) hS62 f64 f66 f70 f67 f68 f69)
  rintro a1 a2 a3 ⟨b1, b2, b3, b4⟩
  exact ⟨b1, b2, KM_tr hF65 b3, b4⟩
