theorem dX11_makeLine_0 : decode cX11_makeLine 0 = .ok (.aload_n 0, 1) := by decide +kernel
theorem dX11_makeLine_1 : decode cX11_makeLine 1 = .ok (.getfield 19, 3) := by decide +kernel
theorem dX11_makeLine_4 : decode cX11_makeLine 4 = .ok (.iload_n 1, 1) := by decide +kernel
theorem dX11_makeLine_5 : decode cX11_makeLine 5 = .ok (.invokevirtual 269, 3) := by decide +kernel
theorem dX11_makeLine_8 : decode cX11_makeLine 8 = .ok (.istore_n 2, 1) := by decide +kernel
theorem dX11_makeLine_9 : decode cX11_makeLine 9 = .ok (.aload_n 0, 1) := by decide +kernel
theorem dX11_makeLine_10 : decode cX11_makeLine 10 = .ok (.getfield 19, 3) := by decide +kernel
theorem dX11_makeLine_13 : decode cX11_makeLine 13 = .ok (.iload_n 1, 1) := by decide +kernel
theorem dX11_makeLine_14 : decode cX11_makeLine 14 = .ok (.invokevirtual 272, 3) := by decide +kernel
theorem dX11_makeLine_17 : decode cX11_makeLine 17 = .ok (.istore_n 3, 1) := by decide +kernel
theorem dX11_makeLine_18 : decode cX11_makeLine 18 = .ok (.aload_n 0, 1) := by decide +kernel
theorem dX11_makeLine_19 : decode cX11_makeLine 19 = .ok (.getfield 19, 3) := by decide +kernel
theorem dX11_makeLine_22 : decode cX11_makeLine 22 = .ok (.iload_n 1, 1) := by decide +kernel
theorem dX11_makeLine_23 : decode cX11_makeLine 23 = .ok (.invokevirtual 275, 3) := by decide +kernel
theorem dX11_makeLine_26 : decode cX11_makeLine 26 = .ok (.istore 4, 2) := by decide +kernel
theorem dX11_makeLine_28 : decode cX11_makeLine 28 = .ok (.aload_n 0, 1) := by decide +kernel
theorem dX11_makeLine_29 : decode cX11_makeLine 29 = .ok (.iload_n 2, 1) := by decide +kernel
theorem dX11_makeLine_30 : decode cX11_makeLine 30 = .ok (.invokevirtual 121, 3) := by decide +kernel
theorem dX11_makeLine_33 : decode cX11_makeLine 33 = .ok (.astore 5, 2) := by decide +kernel
theorem dX11_makeLine_35 : decode cX11_makeLine 35 = .ok (.aload_n 0, 1) := by decide +kernel
theorem dX11_makeLine_36 : decode cX11_makeLine 36 = .ok (.iload_n 3, 1) := by decide +kernel
theorem dX11_makeLine_37 : decode cX11_makeLine 37 = .ok (.invokevirtual 121, 3) := by decide +kernel
theorem dX11_makeLine_40 : decode cX11_makeLine 40 = .ok (.astore 6, 2) := by decide +kernel
theorem dX11_makeLine_42 : decode cX11_makeLine 42 = .ok (.aload 5, 2) := by decide +kernel
theorem dX11_makeLine_44 : decode cX11_makeLine 44 = .ok (.ifnull 20, 3) := by decide +kernel
theorem dX11_makeLine_47 : decode cX11_makeLine 47 = .ok (.aload 6, 2) := by decide +kernel
theorem dX11_makeLine_49 : decode cX11_makeLine 49 = .ok (.ifnull 15, 3) := by decide +kernel
theorem dX11_makeLine_52 : decode cX11_makeLine 52 = .ok (.aload_n 0, 1) := by decide +kernel
theorem dX11_makeLine_53 : decode cX11_makeLine 53 = .ok (.getfield 118, 3) := by decide +kernel
theorem dX11_makeLine_56 : decode cX11_makeLine 56 = .ok (.aload_n 0, 1) := by decide +kernel
theorem dX11_makeLine_57 : decode cX11_makeLine 57 = .ok (.getfield 25, 3) := by decide +kernel
theorem dX11_makeLine_60 : decode cX11_makeLine 60 = .ok (.arraylength, 1) := by decide +kernel
theorem dX11_makeLine_61 : decode cX11_makeLine 61 = .ok (.if_icmp .lt 5, 3) := by decide +kernel
theorem dX11_makeLine_64 : decode cX11_makeLine 64 = .ok (.iconst 0, 1) := by decide +kernel
theorem dX11_makeLine_65 : decode cX11_makeLine 65 = .ok (.ireturn, 1) := by decide +kernel
theorem dX11_makeLine_66 : decode cX11_makeLine 66 = .ok (.aload_n 0, 1) := by decide +kernel
theorem dX11_makeLine_67 : decode cX11_makeLine 67 = .ok (.getfield 25, 3) := by decide +kernel
theorem dX11_makeLine_70 : decode cX11_makeLine 70 = .ok (.aload_n 0, 1) := by decide +kernel
theorem dX11_makeLine_71 : decode cX11_makeLine 71 = .ok (.getfield 118, 3) := by decide +kernel
theorem dX11_makeLine_74 : decode cX11_makeLine 74 = .ok (.aaload, 1) := by decide +kernel
theorem dX11_makeLine_75 : decode cX11_makeLine 75 = .ok (.astore 7, 2) := by decide +kernel
theorem dX11_makeLine_77 : decode cX11_makeLine 77 = .ok (.aload 7, 2) := by decide +kernel
theorem dX11_makeLine_79 : decode cX11_makeLine 79 = .ok (.aload 5, 2) := by decide +kernel
theorem dX11_makeLine_81 : decode cX11_makeLine 81 = .ok (.aload 6, 2) := by decide +kernel
theorem dX11_makeLine_83 : decode cX11_makeLine 83 = .ok (.iload 4, 2) := by decide +kernel
theorem dX11_makeLine_85 : decode cX11_makeLine 85 = .ok (.invokevirtual 278, 3) := by decide +kernel
theorem dX11_makeLine_88 : decode cX11_makeLine 88 = .ok (.ifCond .ne 5, 3) := by decide +kernel
theorem dX11_makeLine_91 : decode cX11_makeLine 91 = .ok (.iconst 0, 1) := by decide +kernel
theorem dX11_makeLine_92 : decode cX11_makeLine 92 = .ok (.ireturn, 1) := by decide +kernel
theorem dX11_makeLine_93 : decode cX11_makeLine 93 = .ok (.aload 7, 2) := by decide +kernel
theorem dX11_makeLine_95 : decode cX11_makeLine 95 = .ok (.iload_n 2, 1) := by decide +kernel
theorem dX11_makeLine_96 : decode cX11_makeLine 96 = .ok (.iload_n 3, 1) := by decide +kernel
theorem dX11_makeLine_97 : decode cX11_makeLine 97 = .ok (.iload 4, 2) := by decide +kernel
theorem dX11_makeLine_99 : decode cX11_makeLine 99 = .ok (.invokevirtual 282, 3) := by decide +kernel
theorem dX11_makeLine_102 : decode cX11_makeLine 102 = .ok (.aload 7, 2) := by decide +kernel
theorem dX11_makeLine_104 : decode cX11_makeLine 104 = .ok (.aload 5, 2) := by decide +kernel
theorem dX11_makeLine_106 : decode cX11_makeLine 106 = .ok (.aload 6, 2) := by decide +kernel
theorem dX11_makeLine_108 : decode cX11_makeLine 108 = .ok (.aload_n 0, 1) := by decide +kernel
theorem dX11_makeLine_109 : decode cX11_makeLine 109 = .ok (.getfield 32, 3) := by decide +kernel
theorem dX11_makeLine_112 : decode cX11_makeLine 112 = .ok (.iload 4, 2) := by decide +kernel
theorem dX11_makeLine_114 : decode cX11_makeLine 114 = .ok (.invokevirtual 129, 3) := by decide +kernel
theorem dX11_makeLine_117 : decode cX11_makeLine 117 = .ok (.invokevirtual 285, 3) := by decide +kernel
theorem dX11_makeLine_120 : decode cX11_makeLine 120 = .ok (.iconst 1, 1) := by decide +kernel
theorem dX11_makeLine_121 : decode cX11_makeLine 121 = .ok (.ireturn, 1) := by decide +kernel
theorem la_of {x lc : Int32} (h1 : ¬ x < 0) (h2 : x < 40) : ∃ n : Nat, n < 40 ∧ x = nI n := by
  rcases pk_ix x (n := 40) (by decide) with z | z | ⟨j, hj, e⟩
  · exact absurd z h1
  · exact absurd h2 (Int32.not_lt.mpr z)
  · exact ⟨j, hj, e⟩
set_option maxRecDepth 20000 in
set_option maxHeartbeats 1000000 in
theorem s_X11_lineAtx {xs : Nat → Int32} {L d : Nat} {h : ev_H} {cc lc sc wr el : Int32} {x : Int32} (hS : SH h) (h2 : h 2 = c2 cc lc sc wr el) : EV xs L (d + 0) 0 0 M_X11_lineAt 434 h 0 [some (.ref 2), some (.int x)] [] (fun sz' h' r => sz' = 434 ∧ h' = h ∧ (r = [.null] ∨ ∃ n : Nat, n < 40 ∧ x = nI n ∧ nI n < lc ∧ r = [.ref (100 + 8 * n)])) := by
  refine r_iload_n rfl dX11_lineAt_0 rfl ?_
  refine r_if_lt (tgt := 21) rfl rfl dX11_lineAt_1 (fun c51 => ?_) (fun c51 => ?_)
  · refine r_null rfl dX11_lineAt_21 ?_
    refine r_goto (pc' := 31) rfl dX11_lineAt_22 ?_
    exact r_ret dX11_lineAt_31 (rt_n rfl) ⟨rfl, rfl, Or.inl rfl⟩
  · refine r_iload_n rfl dX11_lineAt_4 rfl ?_
    refine r_aload_n rfl dX11_lineAt_5 rfl ?_
    refine r_getv 12 rfl dX11_lineAt_6 (show 2 ≤ 2 ∧ 2 < 434 by decide) h2 fl_X11_118 rfl ?_
    refine r_icmp_ge (tgt := 21) rfl rfl dX11_lineAt_9 (fun c52 => ?_) (fun c52 => ?_)
    · refine r_null rfl dX11_lineAt_21 ?_
      refine r_goto (pc' := 31) rfl dX11_lineAt_22 ?_
      exact r_ret dX11_lineAt_31 (rt_n rfl) ⟨rfl, rfl, Or.inl rfl⟩
    · refine r_iload_n rfl dX11_lineAt_12 rfl ?_
      refine r_aload_n rfl dX11_lineAt_13 rfl ?_
      refine r_getv 2 rfl dX11_lineAt_14 (show 2 ≤ 2 ∧ 2 < 434 by decide) h2 fl_X11_25 rfl ?_
      refine r_alen (v := 40) rfl dX11_lineAt_17 (by decide) (by decide) hS.o12 (by decide) (by decide) ?_
      refine r_icmp_lt (tgt := 25) rfl rfl dX11_lineAt_18 (fun c53 => ?_) (fun c53 => ?_)
      · obtain ⟨n, hn, en⟩ := la_of (lc := lc) c51 c53
        subst en
        refine r_aload_n rfl dX11_lineAt_25 rfl ?_
        refine r_getv 2 rfl dX11_lineAt_26 (show 2 ≤ 2 ∧ 2 < 434 by decide) h2 fl_X11_25 rfl ?_
        refine r_iload_n rfl dX11_lineAt_29 rfl ?_
        refine r_aald (jn := n) (v := .ref (100 + 8 * n)) rfl dX11_lineAt_30 (by decide) (by decide) hS.o12 (by decide) (vp_in_nI (n := n) (by omega) (by decide)) (nI_clamp (n := n) (by omega)) (by show va_rf (if _ < _ then _ else _) = _; rw [if_pos (show n < 40 by omega)]; rfl) ?_
        exact r_ret dX11_lineAt_31 (rt_a rfl) ⟨rfl, rfl, Or.inr ⟨n, hn, rfl, Int32.not_le.mp c52, rfl⟩⟩
      · refine r_null rfl dX11_lineAt_21 ?_
        refine r_goto (pc' := 31) rfl dX11_lineAt_22 ?_
        exact r_ret dX11_lineAt_31 (rt_n rfl) ⟨rfl, rfl, Or.inl rfl⟩
theorem lc_of {lc : Int32} {n : Nat} (hn : n < 40) (h1 : nI n < lc) (h2 : lc < 40) : ∃ l : Nat, l < 40 ∧ n < l ∧ lc = nI l := by
  have h0 : ¬ lc < 0 := by
    rw [Int32.lt_iff_toInt_lt] at h1 ⊢
    rw [nI_toInt (by omega)] at h1
    have e : (0 : Int32).toInt = 0 := rfl
    omega
  obtain ⟨l, hl, rfl⟩ := la_of (lc := lc) h0 h2
  exact ⟨l, hl, (nI_ltI (by omega) (by omega)).mp h1, rfl⟩
set_option maxRecDepth 20000 in
set_option maxHeartbeats 1000000 in
theorem s_X11_makeLine {xs : Nat → Int32} {L d : Nat} {h : ev_H} {cc lc sc wr el : Int32} {cr pl tu sr : Int32} {A B C : Nat → Int32} {s : Nat} (hS : SH h) (h2 : h 2 = c2 cc lc sc wr el) (h5 : h 5 = c5 cr pl tu sr) (h9 : h 9 = cI 24 A) (h10 : h 10 = cI 24 B) (h11 : h 11 = cI 24 C) (hs : s < 24) : EV xs L (d + 3) 0 0 M_X11_makeLine 434 h 0 [some (.ref 2), some (.int (nI s)), none, none, none, none, none, none] [] (fun sz' h' r => sz' = 434 ∧ SH h' ∧ KQ h h' ∧ h' 2 = c2 cc lc sc wr el ∧ h' 24 = h 24 ∧ ∃ z : Int32, (z = 0 ∨ z = 1) ∧ r = [.int z]) := by
  refine r_aload_n rfl dX11_makeLine_0 rfl ?_
  refine r_getv 1 rfl dX11_makeLine_1 (show 2 ≤ 2 ∧ 2 < 434 by decide) h2 fl_X11_19 rfl ?_
  refine r_iload_n rfl dX11_makeLine_4 rfl ?_
  refine cl_X11_269 rfl rfl dX11_makeLine_5 (show 2 ≤ 5 ∧ 5 < 434 by decide).1 (show 2 ≤ 5 ∧ 5 < 434 by decide).2 h5 (Nat.le_of_ble_eq_true rfl) (s_X4_firstOf hS h5 h9 (k := s) (by omega)) ?_
  rintro _ h51 _ ⟨rfl, e52, rfl⟩
  replace e52 := e52.symm
  subst e52
  refine r_topi (fun x53 e54 => ?_)
  refine r_istore_n (ls' := [some (.ref 2), some (.int (nI s)), some (.int x53), none, none, none, none, none]) rfl dX11_makeLine_8 (Nat.le_of_ble_eq_true rfl) rfl ?_
  refine r_aload_n rfl dX11_makeLine_9 rfl ?_
  refine r_getv 1 rfl dX11_makeLine_10 (show 2 ≤ 2 ∧ 2 < 434 by decide) h2 fl_X11_19 rfl ?_
  refine r_iload_n rfl dX11_makeLine_13 rfl ?_
  refine cl_X11_272 rfl rfl dX11_makeLine_14 (show 2 ≤ 5 ∧ 5 < 434 by decide).1 (show 2 ≤ 5 ∧ 5 < 434 by decide).2 h5 (Nat.le_of_ble_eq_true rfl) (s_X4_secondOf hS h5 h10 (k := s) (by omega)) ?_
  rintro _ h55 _ ⟨rfl, e56, rfl⟩
  replace e56 := e56.symm
  subst e56
  refine r_topi (fun x57 e58 => ?_)
  refine r_istore_n (ls' := [some (.ref 2), some (.int (nI s)), some (.int x53), some (.int x57), none, none, none, none]) rfl dX11_makeLine_17 (Nat.le_of_ble_eq_true rfl) rfl ?_
  refine r_aload_n rfl dX11_makeLine_18 rfl ?_
  refine r_getv 1 rfl dX11_makeLine_19 (show 2 ≤ 2 ∧ 2 < 434 by decide) h2 fl_X11_19 rfl ?_
  refine r_iload_n rfl dX11_makeLine_22 rfl ?_
  refine cl_X11_275 rfl rfl dX11_makeLine_23 (show 2 ≤ 5 ∧ 5 < 434 by decide).1 (show 2 ≤ 5 ∧ 5 < 434 by decide).2 h5 (Nat.le_of_ble_eq_true rfl) (s_X4_letterOf hS h5 h11 (k := s) (by omega)) ?_
  rintro _ h59 _ ⟨rfl, e60, rfl⟩
  replace e60 := e60.symm
  subst e60
  refine r_topi (fun x61 e62 => ?_)
  refine r_istore (ls' := [some (.ref 2), some (.int (nI s)), some (.int x53), some (.int x57), some (.int x61), none, none, none]) rfl dX11_makeLine_26 (Nat.le_of_ble_eq_true rfl) rfl ?_
  refine r_aload_n rfl dX11_makeLine_28 rfl ?_
  refine r_iload_n rfl dX11_makeLine_29 rfl ?_
  refine cl_X11_121 rfl rfl dX11_makeLine_30 (show 2 ≤ 2 ∧ 2 < 434 by decide).1 (show 2 ≤ 2 ∧ 2 < 434 by decide).2 h2 (Nat.le_of_ble_eq_true rfl) (s_X11_lineAtx hS h2) ?_
  rintro _ h63 _ ⟨rfl, e64, rfl | ⟨n65, hn66, ex67, hl68, rfl⟩⟩
  · replace e64 := e64.symm
    subst e64
    refine r_astoreN (ls' := [some (.ref 2), some (.int (nI s)), some (.int x53), some (.int x57), some (.int x61), some (.null), none, none]) rfl dX11_makeLine_33 (Nat.le_of_ble_eq_true rfl) rfl ?_
    refine r_aload_n rfl dX11_makeLine_35 rfl ?_
    refine r_iload_n rfl dX11_makeLine_36 rfl ?_
    refine cl_X11_121 rfl rfl dX11_makeLine_37 (show 2 ≤ 2 ∧ 2 < 434 by decide).1 (show 2 ≤ 2 ∧ 2 < 434 by decide).2 h2 (Nat.le_of_ble_eq_true rfl) (s_X11_lineAtx hS h2) ?_
    rintro _ h69 _ ⟨rfl, e70, rfl | ⟨n71, hn72, ex73, hl74, rfl⟩⟩
    · replace e70 := e70.symm
      subst e70
      refine r_astoreN (ls' := [some (.ref 2), some (.int (nI s)), some (.int x53), some (.int x57), some (.int x61), some (.null), some (.null), none]) rfl dX11_makeLine_40 (Nat.le_of_ble_eq_true rfl) rfl ?_
      refine r_aloadN rfl dX11_makeLine_42 rfl ?_
      refine r_ifnullN (tgt := 64) rfl dX11_makeLine_44 ?_
      refine r_iconst (v := 0) rfl dX11_makeLine_64 (by decide) ?_
      exact r_ret dX11_makeLine_65 (rt_z rfl (Or.inl rfl)) ⟨rfl, hS, (KQ_rf h), h2, rfl, _, (Or.inl rfl), rfl⟩
    · replace e70 := e70.symm
      subst e70
      refine r_astore (ls' := [some (.ref 2), some (.int (nI s)), some (.int x53), some (.int x57), some (.int x61), some (.null), some (.ref (100 + 8 * n71)), none]) rfl dX11_makeLine_40 (Nat.le_of_ble_eq_true rfl) rfl ?_
      refine r_aloadN rfl dX11_makeLine_42 rfl ?_
      refine r_ifnullN (tgt := 64) rfl dX11_makeLine_44 ?_
      refine r_iconst (v := 0) rfl dX11_makeLine_64 (by decide) ?_
      exact r_ret dX11_makeLine_65 (rt_z rfl (Or.inl rfl)) ⟨rfl, hS, (KQ_rf h), h2, rfl, _, (Or.inl rfl), rfl⟩
  · replace e64 := e64.symm
    subst e64
    refine r_astore (ls' := [some (.ref 2), some (.int (nI s)), some (.int x53), some (.int x57), some (.int x61), some (.ref (100 + 8 * n65)), none, none]) rfl dX11_makeLine_33 (Nat.le_of_ble_eq_true rfl) rfl ?_
    refine r_aload_n rfl dX11_makeLine_35 rfl ?_
    refine r_iload_n rfl dX11_makeLine_36 rfl ?_
    refine cl_X11_121 rfl rfl dX11_makeLine_37 (show 2 ≤ 2 ∧ 2 < 434 by decide).1 (show 2 ≤ 2 ∧ 2 < 434 by decide).2 h2 (Nat.le_of_ble_eq_true rfl) (s_X11_lineAtx hS h2) ?_
    rintro _ h75 _ ⟨rfl, e76, rfl | ⟨n77, hn78, ex79, hl80, rfl⟩⟩
    · replace e76 := e76.symm
      subst e76
      refine r_astoreN (ls' := [some (.ref 2), some (.int (nI s)), some (.int x53), some (.int x57), some (.int x61), some (.ref (100 + 8 * n65)), some (.null), none]) rfl dX11_makeLine_40 (Nat.le_of_ble_eq_true rfl) rfl ?_
      refine r_aload rfl dX11_makeLine_42 rfl ?_
      refine r_ifnull rfl (by decide) dX11_makeLine_44 ?_
      refine r_aloadN rfl dX11_makeLine_47 rfl ?_
      refine r_ifnullN (tgt := 64) rfl dX11_makeLine_49 ?_
      refine r_iconst (v := 0) rfl dX11_makeLine_64 (by decide) ?_
      exact r_ret dX11_makeLine_65 (rt_z rfl (Or.inl rfl)) ⟨rfl, hS, (KQ_rf h), h2, rfl, _, (Or.inl rfl), rfl⟩
    · replace e76 := e76.symm
      subst e76
      refine r_astore (ls' := [some (.ref 2), some (.int (nI s)), some (.int x53), some (.int x57), some (.int x61), some (.ref (100 + 8 * n65)), some (.ref (100 + 8 * n77)), none]) rfl dX11_makeLine_40 (Nat.le_of_ble_eq_true rfl) rfl ?_
      refine r_aload rfl dX11_makeLine_42 rfl ?_
      refine r_ifnull rfl (by decide) dX11_makeLine_44 ?_
      refine r_aload rfl dX11_makeLine_47 rfl ?_
      refine r_ifnull rfl (by decide) dX11_makeLine_49 ?_
      refine r_aload_n rfl dX11_makeLine_52 rfl ?_
      refine r_getv 12 rfl dX11_makeLine_53 (show 2 ≤ 2 ∧ 2 < 434 by decide) h2 fl_X11_118 rfl ?_
      refine r_aload_n rfl dX11_makeLine_56 rfl ?_
      refine r_getv 2 rfl dX11_makeLine_57 (show 2 ≤ 2 ∧ 2 < 434 by decide) h2 fl_X11_25 rfl ?_
      refine r_alen (v := 40) rfl dX11_makeLine_60 (by decide) (by decide) hS.o12 (by decide) (by decide) ?_
      refine r_icmp_lt (tgt := 66) rfl rfl dX11_makeLine_61 (fun c81 => ?_) (fun c81 => ?_)
      · obtain ⟨l, hl0, hnl, el0⟩ := lc_of hn66 hl68 c81
        have hnl2 : n77 < l := by rw [el0] at hl80; exact (nI_ltI (by omega) (by omega)).mp hl80
        subst el0
        refine r_aload_n rfl dX11_makeLine_66 rfl ?_
        refine r_getv 2 rfl dX11_makeLine_67 (show 2 ≤ 2 ∧ 2 < 434 by decide) h2 fl_X11_25 rfl ?_
        refine r_aload_n rfl dX11_makeLine_70 rfl ?_
        refine r_getv 12 rfl dX11_makeLine_71 (show 2 ≤ 2 ∧ 2 < 434 by decide) h2 fl_X11_118 rfl ?_
        refine r_aald (jn := l) (v := .ref (100 + 8 * l)) rfl dX11_makeLine_74 (by decide) (by decide) hS.o12 (by decide) (vp_in_nI (n := l) (by omega) (by decide)) (nI_clamp (n := l) (by omega)) (by show va_rf (if _ < _ then _ else _) = _; rw [if_pos (show l < 40 by omega)]; rfl) ?_
        refine r_astore (ls' := [some (.ref 2), some (.int (nI s)), some (.int x53), some (.int x57), some (.int x61), some (.ref (100 + 8 * n65)), some (.ref (100 + 8 * n77)), some (.ref (100 + 8 * l))]) rfl dX11_makeLine_75 (Nat.le_of_ble_eq_true rfl) rfl ?_
        refine r_aload rfl dX11_makeLine_77 rfl ?_
        refine r_aload rfl dX11_makeLine_79 rfl ?_
        refine r_aload rfl dX11_makeLine_81 rfl ?_
        refine r_iload rfl dX11_makeLine_83 rfl ?_
        obtain ⟨y82, y83, y84, y85, y86, y87, f88⟩ := hS.ln (i := l) (by omega)
        refine cl_X11_278 rfl rfl dX11_makeLine_85 (show 2 ≤ 100 + 8 * l ∧ 100 + 8 * l < 434 by omega).1 (show 2 ≤ 100 + 8 * l ∧ 100 + 8 * l < 434 by omega).2 f88 (Nat.le_of_ble_eq_true rfl) ((s_X3_becomeCut hS (i := l) (j := n65) (l := n77) (by omega) (by omega) (by omega)).shB hS (okl_c (vr_r (show RB (100 + 8 * l) from Or.inr ⟨by omega, by omega, by omega⟩)) (okl_c (vr_r (show RB (100 + 8 * n65) from Or.inr ⟨by omega, by omega, by omega⟩)) (okl_c (vr_r (show RB (100 + 8 * n77) from Or.inr ⟨by omega, by omega, by omega⟩)) (okl_c (vr_i _) (okl_o (okl_o (okl_o okl_n)))))))) ?_
        rintro _ h89 _ ⟨⟨x92, rfl⟩, rfl, hS90, hk91⟩
        have hF93 := KQ_tr (KQ_rf h) (KQ_B hk91)
        have f94 : h89 2 = .inr (11, [.ref 3, .ref 5, .ref 12, .ref 13, .ref 24, .ref 93, .ref 95, .ref 96, .ref 97, .ref 98, .ref 99, .int cc, .int (nI l), .int sc, .int wr, .int el]) := (hk91 2 (RB_n (by decide) (by decide))).trans h2
        have f95 : h89 5 = .inr (4, [.ref 6, .ref 7, .ref 8, .int cr, .int pl, .int tu, .ref 9, .ref 10, .ref 11, .int sr]) := (hk91 5 (RB_n (by decide) (by decide))).trans h5
        have f96 : h89 9 = .inl (0, 24, .inl A) := (hk91 9 (RB_n (by decide) (by decide))).trans h9
        have f97 : h89 10 = .inl (0, 24, .inl B) := (hk91 10 (RB_n (by decide) (by decide))).trans h10
        have f98 : h89 11 = .inl (0, 24, .inl C) := (hk91 11 (RB_n (by decide) (by decide))).trans h11
        have f99 : h89 24 = h 24 := (hk91 24 (RB_n (by decide) (by decide))).trans rfl
        refine r_if_ne (tgt := 93) rfl rfl dX11_makeLine_88 (fun c100 => ?_) (fun c100 => ?_)
        · refine r_aload rfl dX11_makeLine_93 rfl ?_
          refine r_iload_n rfl dX11_makeLine_95 rfl ?_
          refine r_iload_n rfl dX11_makeLine_96 rfl ?_
          refine r_iload rfl dX11_makeLine_97 rfl ?_
          obtain ⟨y101, y102, y103, y104, y105, y106, f107⟩ := hS90.ln (i := l) (by omega)
          refine cl_X11_282 rfl rfl dX11_makeLine_99 (show 2 ≤ 100 + 8 * l ∧ 100 + 8 * l < 434 by omega).1 (show 2 ≤ 100 + 8 * l ∧ 100 + 8 * l < 434 by omega).2 f107 (Nat.le_of_ble_eq_true rfl) ((s_X3_rememberCut hS90 (i := l) (by omega)).shB hS90 (okl_c (vr_r (show RB (100 + 8 * l) from Or.inr ⟨by omega, by omega, by omega⟩)) (okl_c (vr_i _) (okl_c (vr_i _) (okl_c (vr_i _) okl_n))))) ?_
          rintro _ h108 _ ⟨rfl, rfl, hS109, hk110⟩
          have hF111 := KQ_tr hF93 (KQ_B hk110)
          have f112 : h108 2 = .inr (11, [.ref 3, .ref 5, .ref 12, .ref 13, .ref 24, .ref 93, .ref 95, .ref 96, .ref 97, .ref 98, .ref 99, .int cc, .int (nI l), .int sc, .int wr, .int el]) := (hk110 2 (RB_n (by decide) (by decide))).trans f94
          have f113 : h108 5 = .inr (4, [.ref 6, .ref 7, .ref 8, .int cr, .int pl, .int tu, .ref 9, .ref 10, .ref 11, .int sr]) := (hk110 5 (RB_n (by decide) (by decide))).trans f95
          have f114 : h108 9 = .inl (0, 24, .inl A) := (hk110 9 (RB_n (by decide) (by decide))).trans f96
          have f115 : h108 10 = .inl (0, 24, .inl B) := (hk110 10 (RB_n (by decide) (by decide))).trans f97
          have f116 : h108 11 = .inl (0, 24, .inl C) := (hk110 11 (RB_n (by decide) (by decide))).trans f98
          have f117 : h108 24 = h 24 := (hk110 24 (RB_n (by decide) (by decide))).trans f99
          refine r_aload rfl dX11_makeLine_102 rfl ?_
          refine r_aload rfl dX11_makeLine_104 rfl ?_
          refine r_aload rfl dX11_makeLine_106 rfl ?_
          refine r_aload_n rfl dX11_makeLine_108 rfl ?_
          refine r_getv 3 rfl dX11_makeLine_109 (show 2 ≤ 2 ∧ 2 < 434 by decide) f112 fl_X11_32 rfl ?_
          refine r_iload rfl dX11_makeLine_112 rfl ?_
          obtain ⟨y118, y119, y120, y121, f122⟩ := hS109.o13
          refine cl_X11_129 rfl rfl dX11_makeLine_114 (show 2 ≤ 13 ∧ 13 < 434 by decide).1 (show 2 ≤ 13 ∧ 13 < 434 by decide).2 f122 (Nat.le_of_ble_eq_true rfl) ((s_X7_ownerOf hS109).shB hS109 (okl_c (vr_r (show RB (13) from Or.inr ⟨by omega, by omega, by omega⟩)) (okl_c (vr_i _) (okl_o (okl_o okl_n))))) ?_
          rintro _ h123 _ ⟨⟨x126, rfl⟩, rfl, hS124, hk125⟩
          have hF127 := KQ_tr hF111 (KQ_B hk125)
          have f128 : h123 2 = .inr (11, [.ref 3, .ref 5, .ref 12, .ref 13, .ref 24, .ref 93, .ref 95, .ref 96, .ref 97, .ref 98, .ref 99, .int cc, .int (nI l), .int sc, .int wr, .int el]) := (hk125 2 (RB_n (by decide) (by decide))).trans f112
          have f129 : h123 5 = .inr (4, [.ref 6, .ref 7, .ref 8, .int cr, .int pl, .int tu, .ref 9, .ref 10, .ref 11, .int sr]) := (hk125 5 (RB_n (by decide) (by decide))).trans f113
          have f130 : h123 9 = .inl (0, 24, .inl A) := (hk125 9 (RB_n (by decide) (by decide))).trans f114
          have f131 : h123 10 = .inl (0, 24, .inl B) := (hk125 10 (RB_n (by decide) (by decide))).trans f115
          have f132 : h123 11 = .inl (0, 24, .inl C) := (hk125 11 (RB_n (by decide) (by decide))).trans f116
          have f133 : h123 24 = h 24 := (hk125 24 (RB_n (by decide) (by decide))).trans f117
          obtain ⟨y134, y135, y136, y137, y138, y139, f140⟩ := hS124.ln (i := l) (by omega)
          refine cl_X11_285 rfl rfl dX11_makeLine_117 (show 2 ≤ 100 + 8 * l ∧ 100 + 8 * l < 434 by omega).1 (show 2 ≤ 100 + 8 * l ∧ 100 + 8 * l < 434 by omega).2 f140 (Nat.le_of_ble_eq_true rfl) ((s_X3_sayAsCut hS124 (i := l) (j := n65) (l := n77) (by omega) (by omega) (by omega) (by omega) (by omega)).shB hS124 (okl_c (vr_r (show RB (100 + 8 * l) from Or.inr ⟨by omega, by omega, by omega⟩)) (okl_c (vr_r (show RB (100 + 8 * n65) from Or.inr ⟨by omega, by omega, by omega⟩)) (okl_c (vr_r (show RB (100 + 8 * n77) from Or.inr ⟨by omega, by omega, by omega⟩)) (okl_c (vr_i _) (okl_o (okl_o (okl_o okl_n)))))))) ?_
          rintro _ h141 _ ⟨rfl, rfl, hS142, hk143⟩
          have hF144 := KQ_tr hF127 (KQ_B hk143)
          have f145 : h141 2 = .inr (11, [.ref 3, .ref 5, .ref 12, .ref 13, .ref 24, .ref 93, .ref 95, .ref 96, .ref 97, .ref 98, .ref 99, .int cc, .int (nI l), .int sc, .int wr, .int el]) := (hk143 2 (RB_n (by decide) (by decide))).trans f128
          have f146 : h141 5 = .inr (4, [.ref 6, .ref 7, .ref 8, .int cr, .int pl, .int tu, .ref 9, .ref 10, .ref 11, .int sr]) := (hk143 5 (RB_n (by decide) (by decide))).trans f129
          have f147 : h141 9 = .inl (0, 24, .inl A) := (hk143 9 (RB_n (by decide) (by decide))).trans f130
          have f148 : h141 10 = .inl (0, 24, .inl B) := (hk143 10 (RB_n (by decide) (by decide))).trans f131
          have f149 : h141 11 = .inl (0, 24, .inl C) := (hk143 11 (RB_n (by decide) (by decide))).trans f132
          have f150 : h141 24 = h 24 := (hk143 24 (RB_n (by decide) (by decide))).trans f133
          refine r_iconst (v := 1) rfl dX11_makeLine_120 (by decide) ?_
          exact r_ret dX11_makeLine_121 (rt_z rfl (Or.inr rfl)) ⟨rfl, hS142, hF144, f145, f150, _, (Or.inr rfl), rfl⟩
        · refine r_iconst (v := 0) rfl dX11_makeLine_91 (by decide) ?_
          exact r_ret dX11_makeLine_92 (rt_z rfl (Or.inl rfl)) ⟨rfl, hS90, hF93, f94, f99, _, (Or.inl rfl), rfl⟩
      · refine r_iconst (v := 0) rfl dX11_makeLine_64 (by decide) ?_
        exact r_ret dX11_makeLine_65 (rt_z rfl (Or.inl rfl)) ⟨rfl, hS, (KQ_rf h), h2, rfl, _, (Or.inl rfl), rfl⟩
