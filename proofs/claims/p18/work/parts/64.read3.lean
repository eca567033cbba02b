theorem dX4_readStep_0 : decode cX4_readStep 0 = .ok (.iload_n 2, 1) := by decide +kernel
theorem dX4_readStep_1 : decode cX4_readStep 1 = .ok (.ifCond .lt 17, 3) := by decide +kernel
theorem dX4_readStep_4 : decode cX4_readStep 4 = .ok (.iload_n 2, 1) := by decide +kernel
theorem dX4_readStep_5 : decode cX4_readStep 5 = .ok (.bipush 24, 2) := by decide +kernel
theorem dX4_readStep_7 : decode cX4_readStep 7 = .ok (.if_icmp .ge 11, 3) := by decide +kernel
theorem dX4_readStep_10 : decode cX4_readStep 10 = .ok (.aload_n 1, 1) := by decide +kernel
theorem dX4_readStep_11 : decode cX4_readStep 11 = .ok (.iconst 2, 1) := by decide +kernel
theorem dX4_readStep_12 : decode cX4_readStep 12 = .ok (.invokestatic 73, 3) := by decide +kernel
theorem dX4_readStep_15 : decode cX4_readStep 15 = .ok (.ifCond .ne 5, 3) := by decide +kernel
theorem dX4_readStep_18 : decode cX4_readStep 18 = .ok (.iconst 0, 1) := by decide +kernel
theorem dX4_readStep_19 : decode cX4_readStep 19 = .ok (.ireturn, 1) := by decide +kernel
theorem dX4_readStep_20 : decode cX4_readStep 20 = .ok (.aload_n 0, 1) := by decide +kernel
theorem dX4_readStep_21 : decode cX4_readStep 21 = .ok (.getfield 21, 3) := by decide +kernel
theorem dX4_readStep_24 : decode cX4_readStep 24 = .ok (.iload_n 2, 1) := by decide +kernel
theorem dX4_readStep_25 : decode cX4_readStep 25 = .ok (.aload_n 1, 1) := by decide +kernel
theorem dX4_readStep_26 : decode cX4_readStep 26 = .ok (.invokevirtual 57, 3) := by decide +kernel
theorem dX4_readStep_29 : decode cX4_readStep 29 = .ok (.iastore, 1) := by decide +kernel
theorem dX4_readStep_30 : decode cX4_readStep 30 = .ok (.aload_n 1, 1) := by decide +kernel
theorem dX4_readStep_31 : decode cX4_readStep 31 = .ok (.invokevirtual 57, 3) := by decide +kernel
theorem dX4_readStep_34 : decode cX4_readStep 34 = .ok (.iload_n 3, 1) := by decide +kernel
theorem dX4_readStep_35 : decode cX4_readStep 35 = .ok (.if_icmp .ge 11, 3) := by decide +kernel
theorem dX4_readStep_38 : decode cX4_readStep 38 = .ok (.aload_n 1, 1) := by decide +kernel
theorem dX4_readStep_39 : decode cX4_readStep 39 = .ok (.iconst 4, 1) := by decide +kernel
theorem dX4_readStep_40 : decode cX4_readStep 40 = .ok (.invokestatic 73, 3) := by decide +kernel
theorem dX4_readStep_43 : decode cX4_readStep 43 = .ok (.ifCond .ne 5, 3) := by decide +kernel
theorem dX4_readStep_46 : decode cX4_readStep 46 = .ok (.iconst 0, 1) := by decide +kernel
theorem dX4_readStep_47 : decode cX4_readStep 47 = .ok (.ireturn, 1) := by decide +kernel
theorem dX4_readStep_48 : decode cX4_readStep 48 = .ok (.aload_n 0, 1) := by decide +kernel
theorem dX4_readStep_49 : decode cX4_readStep 49 = .ok (.getfield 24, 3) := by decide +kernel
theorem dX4_readStep_52 : decode cX4_readStep 52 = .ok (.iload_n 2, 1) := by decide +kernel
theorem dX4_readStep_53 : decode cX4_readStep 53 = .ok (.aload_n 1, 1) := by decide +kernel
theorem dX4_readStep_54 : decode cX4_readStep 54 = .ok (.invokevirtual 57, 3) := by decide +kernel
theorem dX4_readStep_57 : decode cX4_readStep 57 = .ok (.iastore, 1) := by decide +kernel
theorem dX4_readStep_58 : decode cX4_readStep 58 = .ok (.aload_n 1, 1) := by decide +kernel
theorem dX4_readStep_59 : decode cX4_readStep 59 = .ok (.invokevirtual 57, 3) := by decide +kernel
theorem dX4_readStep_62 : decode cX4_readStep 62 = .ok (.iload_n 3, 1) := by decide +kernel
theorem dX4_readStep_63 : decode cX4_readStep 63 = .ok (.if_icmp .ge 11, 3) := by decide +kernel
theorem dX4_readStep_66 : decode cX4_readStep 66 = .ok (.aload_n 1, 1) := by decide +kernel
theorem dX4_readStep_67 : decode cX4_readStep 67 = .ok (.iconst 4, 1) := by decide +kernel
theorem dX4_readStep_68 : decode cX4_readStep 68 = .ok (.invokestatic 73, 3) := by decide +kernel
theorem dX4_readStep_71 : decode cX4_readStep 71 = .ok (.ifCond .ne 5, 3) := by decide +kernel
theorem dX4_readStep_74 : decode cX4_readStep 74 = .ok (.iconst 0, 1) := by decide +kernel
theorem dX4_readStep_75 : decode cX4_readStep 75 = .ok (.ireturn, 1) := by decide +kernel
theorem dX4_readStep_76 : decode cX4_readStep 76 = .ok (.aload_n 0, 1) := by decide +kernel
theorem dX4_readStep_77 : decode cX4_readStep 77 = .ok (.getfield 27, 3) := by decide +kernel
theorem dX4_readStep_80 : decode cX4_readStep 80 = .ok (.iload_n 2, 1) := by decide +kernel
theorem dX4_readStep_81 : decode cX4_readStep 81 = .ok (.aload_n 1, 1) := by decide +kernel
theorem dX4_readStep_82 : decode cX4_readStep 82 = .ok (.invokevirtual 57, 3) := by decide +kernel
theorem dX4_readStep_85 : decode cX4_readStep 85 = .ok (.iastore, 1) := by decide +kernel
theorem dX4_readStep_86 : decode cX4_readStep 86 = .ok (.aload_n 1, 1) := by decide +kernel
theorem dX4_readStep_87 : decode cX4_readStep 87 = .ok (.iconst 3, 1) := by decide +kernel
theorem dX4_readStep_88 : decode cX4_readStep 88 = .ok (.invokestatic 73, 3) := by decide +kernel
theorem dX4_readStep_91 : decode cX4_readStep 91 = .ok (.ifCond .eq 16, 3) := by decide +kernel
theorem dX4_readStep_94 : decode cX4_readStep 94 = .ok (.aload_n 1, 1) := by decide +kernel
theorem dX4_readStep_95 : decode cX4_readStep 95 = .ok (.bipush 6, 2) := by decide +kernel
theorem dX4_readStep_97 : decode cX4_readStep 97 = .ok (.invokestatic 73, 3) := by decide +kernel
theorem dX4_readStep_100 : decode cX4_readStep 100 = .ok (.ifCond .eq 7, 3) := by decide +kernel
theorem dX4_readStep_103 : decode cX4_readStep 103 = .ok (.iconst 1, 1) := by decide +kernel
theorem dX4_readStep_104 : decode cX4_readStep 104 = .ok (.goto 4, 3) := by decide +kernel
theorem dX4_readStep_107 : decode cX4_readStep 107 = .ok (.iconst 0, 1) := by decide +kernel
theorem dX4_readStep_108 : decode cX4_readStep 108 = .ok (.ireturn, 1) := by decide +kernel
theorem dX4_readSteps_0 : decode cX4_readSteps 0 = .ok (.aload_n 0, 1) := by decide +kernel
theorem dX4_readSteps_1 : decode cX4_readSteps 1 = .ok (.iconst 0, 1) := by decide +kernel
theorem dX4_readSteps_2 : decode cX4_readSteps 2 = .ok (.putfield 38, 3) := by decide +kernel
theorem dX4_readSteps_5 : decode cX4_readSteps 5 = .ok (.aload_n 1, 1) := by decide +kernel
theorem dX4_readSteps_6 : decode cX4_readSteps 6 = .ok (.invokevirtual 41, 3) := by decide +kernel
theorem dX4_readSteps_9 : decode cX4_readSteps 9 = .ok (.iconst 0, 1) := by decide +kernel
theorem dX4_readSteps_10 : decode cX4_readSteps 10 = .ok (.istore_n 3, 1) := by decide +kernel
theorem dX4_readSteps_11 : decode cX4_readSteps 11 = .ok (.iload_n 3, 1) := by decide +kernel
theorem dX4_readSteps_12 : decode cX4_readSteps 12 = .ok (.bipush 24, 2) := by decide +kernel
theorem dX4_readSteps_14 : decode cX4_readSteps 14 = .ok (.if_icmp .ge 43, 3) := by decide +kernel
theorem dX4_readSteps_17 : decode cX4_readSteps 17 = .ok (.aload_n 1, 1) := by decide +kernel
theorem dX4_readSteps_18 : decode cX4_readSteps 18 = .ok (.invokevirtual 46, 3) := by decide +kernel
theorem dX4_readSteps_21 : decode cX4_readSteps 21 = .ok (.ifCond .eq 36, 3) := by decide +kernel
theorem dX4_readSteps_24 : decode cX4_readSteps 24 = .ok (.aload_n 0, 1) := by decide +kernel
theorem dX4_readSteps_25 : decode cX4_readSteps 25 = .ok (.aload_n 1, 1) := by decide +kernel
theorem dX4_readSteps_26 : decode cX4_readSteps 26 = .ok (.iload_n 3, 1) := by decide +kernel
theorem dX4_readSteps_27 : decode cX4_readSteps 27 = .ok (.iload_n 2, 1) := by decide +kernel
theorem dX4_readSteps_28 : decode cX4_readSteps 28 = .ok (.iload_n 3, 1) := by decide +kernel
theorem dX4_readSteps_29 : decode cX4_readSteps 29 = .ok (.iadd, 1) := by decide +kernel
theorem dX4_readSteps_30 : decode cX4_readSteps 30 = .ok (.invokevirtual 76, 3) := by decide +kernel
theorem dX4_readSteps_33 : decode cX4_readSteps 33 = .ok (.ifCond .ne 8, 3) := by decide +kernel
theorem dX4_readSteps_36 : decode cX4_readSteps 36 = .ok (.aload_n 1, 1) := by decide +kernel
theorem dX4_readSteps_37 : decode cX4_readSteps 37 = .ok (.invokevirtual 54, 3) := by decide +kernel
theorem dX4_readSteps_40 : decode cX4_readSteps 40 = .ok (.ireturn, 1) := by decide +kernel
theorem dX4_readSteps_41 : decode cX4_readSteps 41 = .ok (.aload_n 0, 1) := by decide +kernel
theorem dX4_readSteps_42 : decode cX4_readSteps 42 = .ok (.dup, 1) := by decide +kernel
theorem dX4_readSteps_43 : decode cX4_readSteps 43 = .ok (.getfield 38, 3) := by decide +kernel
theorem dX4_readSteps_46 : decode cX4_readSteps 46 = .ok (.iconst 1, 1) := by decide +kernel
theorem dX4_readSteps_47 : decode cX4_readSteps 47 = .ok (.iadd, 1) := by decide +kernel
theorem dX4_readSteps_48 : decode cX4_readSteps 48 = .ok (.putfield 38, 3) := by decide +kernel
theorem dX4_readSteps_51 : decode cX4_readSteps 51 = .ok (.iinc 3 1, 3) := by decide +kernel
theorem dX4_readSteps_54 : decode cX4_readSteps 54 = .ok (.goto (-43), 3) := by decide +kernel
theorem dX4_readSteps_57 : decode cX4_readSteps 57 = .ok (.aload_n 1, 1) := by decide +kernel
theorem dX4_readSteps_58 : decode cX4_readSteps 58 = .ok (.invokevirtual 46, 3) := by decide +kernel
theorem dX4_readSteps_61 : decode cX4_readSteps 61 = .ok (.ifCond .ne 7, 3) := by decide +kernel
theorem dX4_readSteps_64 : decode cX4_readSteps 64 = .ok (.iconst (-1), 1) := by decide +kernel
theorem dX4_readSteps_65 : decode cX4_readSteps 65 = .ok (.goto 7, 3) := by decide +kernel
theorem dX4_readSteps_68 : decode cX4_readSteps 68 = .ok (.aload_n 1, 1) := by decide +kernel
theorem dX4_readSteps_69 : decode cX4_readSteps 69 = .ok (.invokevirtual 54, 3) := by decide +kernel
theorem dX4_readSteps_72 : decode cX4_readSteps 72 = .ok (.ireturn, 1) := by decide +kernel
set_option maxRecDepth 20000 in
set_option maxHeartbeats 1000000 in
theorem s_X4_readStep {xs : Nat → Int32} {L d : Nat} {h : ev_H} {f : Nat → Int32} {n p i : Nat} {z : Int32} {cr pl tu sr : Int32} {A B C : Nat → Int32} (hS : SH h) (hn : n ≤ 300) (hp : p ≤ n) (h3 : h 3 = cT f n p) (h4 : h 4 = c4 f) (h5 : h 5 = c5 cr pl tu sr) (h9 : h 9 = cI 24 A) (h10 : h 10 = cI 24 B) (h11 : h 11 = cI 24 C) (hi : i < 24) : EV xs L (d + 5) 0 0 M_X4_readStep 434 h 0 [some (.ref 5), some (.ref 3), some (.int (nI i)), some (.int z)] [] (fun sz' h' r => sz' = 434 ∧ SH h' ∧ KM [3, 5, 9, 10, 11] h h' ∧ (((stS f n z p).1 = true ∧ h' 3 = cT f n (stS f n z p).2 ∧ h' 5 = c5 cr pl tu sr ∧ h' 9 = cI 24 (upd A i (tV f n (rdP f n p))) ∧ h' 10 = cI 24 (upd B i (tV f n (rdP f n (rdP f n p)))) ∧ h' 11 = cI 24 (upd C i (tV f n (rdP f n (rdP f n (rdP f n p))))) ∧ r = [.int 1]) ∨ ((stS f n z p).1 = false ∧ h' 3 = cT f n (stS f n z p).2 ∧ h' 5 = c5 cr pl tu sr ∧ r = [.int 0]))) := by
  refine r_iload_n rfl dX4_readStep_0 rfl ?_
  refine r_if_lt (tgt := 18) rfl rfl dX4_readStep_1 (fun zc => absurd zc (nI_pos (by omega))) (fun _ => ?_)
  refine r_iload_n rfl dX4_readStep_4 rfl ?_
  refine r_bipush (v := 24) rfl dX4_readStep_5 (by decide) ?_
  refine r_icmp_ge (tgt := 18) rfl rfl dX4_readStep_7 (fun zc => absurd zc (show ¬ (24 : Int32) ≤ nI i from nI_ge (a := i) (b := 24) (by omega) (by decide))) (fun _ => ?_)
  refine r_aload_n rfl dX4_readStep_10 rfl ?_
  refine r_iconst (v := 2) rfl dX4_readStep_11 (by decide) ?_
  refine cl_X4_73 rfl rfl dX4_readStep_12 (Nat.le_of_ble_eq_true rfl) (s_X4_passed hS hn hp h3 h4) ?_
  rintro _ h51 _ ⟨rfl, hS52, hK53, ⟨c54, f55, rfl⟩ | ⟨c54, f55, rfl⟩⟩
  · have hF56 := KM_tr (KM_rf (Mod := [3, 5, 9, 10, 11]) h) (KM_sb (by decide) hK53)
    have f57 : h51 4 = .inl (2, 300, .inl f) := (hK53 4 (by decide)).trans h4
    have f58 : h51 5 = .inr (4, [.ref 6, .ref 7, .ref 8, .int cr, .int pl, .int tu, .ref 9, .ref 10, .ref 11, .int sr]) := (hK53 5 (by decide)).trans h5
    have f59 : h51 9 = .inl (0, 24, .inl A) := (hK53 9 (by decide)).trans h9
    have f60 : h51 10 = .inl (0, 24, .inl B) := (hK53 10 (by decide)).trans h10
    have f61 : h51 11 = .inl (0, 24, .inl C) := (hK53 11 (by decide)).trans h11
    refine r_if_ne (tgt := 20) rfl rfl dX4_readStep_15 (fun _ => ?_) (fun zc => absurd zc (by decide))
    refine r_aload_n rfl dX4_readStep_20 rfl ?_
    refine r_getv 6 rfl dX4_readStep_21 (show 2 ≤ 5 ∧ 5 < 434 by decide) f58 fl_X4_21 rfl ?_
    refine r_iload_n rfl dX4_readStep_24 rfl ?_
    refine r_aload_n rfl dX4_readStep_25 rfl ?_
    refine cl_X4_57 rfl rfl dX4_readStep_26 (show 2 ≤ 3 ∧ 3 < 434 by decide).1 (show 2 ≤ 3 ∧ 3 < 434 by decide).2 f55 (Nat.le_of_ble_eq_true rfl) (s_X8_value f55) ?_
    rintro _ h62 _ ⟨rfl, e63, rfl⟩
    replace e63 := e63.symm
    subst e63
    refine e_iast (jn := i) rfl dX4_readStep_29 (show 2 ≤ 9 ∧ 9 < 434 by decide) hS52 hF56 (by decide) f59 (vp_in_nI (n := i) (by omega) (by decide)) (nI_clamp (n := i) (by omega)) (fun h64 hS65 hF66 hN67 f68 => ?_)
    have f69 : h64 4 = .inl (2, 300, .inl f) := (hN67 4 (by decide)).trans f57
    have f70 : h64 5 = .inr (4, [.ref 6, .ref 7, .ref 8, .int cr, .int pl, .int tu, .ref 9, .ref 10, .ref 11, .int sr]) := (hN67 5 (by decide)).trans f58
    have f71 : h64 10 = .inl (0, 24, .inl B) := (hN67 10 (by decide)).trans f60
    have f72 : h64 11 = .inl (0, 24, .inl C) := (hN67 11 (by decide)).trans f61
    have f73 : h64 3 = .inr (8, [.ref 4, .int (nI n), .int (nI (rdP f n (rdP f n p))), .int (nI (rdS f n (rdP f n p))), .int (tK f n (rdP f n p)), .int (tV f n (rdP f n p))]) := (hN67 3 (by decide)).trans f55
    refine r_aload_n rfl dX4_readStep_30 rfl ?_
    refine cl_X4_57 rfl rfl dX4_readStep_31 (show 2 ≤ 3 ∧ 3 < 434 by decide).1 (show 2 ≤ 3 ∧ 3 < 434 by decide).2 f73 (Nat.le_of_ble_eq_true rfl) (s_X8_value f73) ?_
    rintro _ h74 _ ⟨rfl, e75, rfl⟩
    replace e75 := e75.symm
    subst e75
    refine r_iload_n rfl dX4_readStep_34 rfl ?_
    refine r_icmp_ge (tgt := 46) rfl rfl dX4_readStep_35 (fun c76 => ?_) (fun c76 => ?_)
    · refine r_iconst (v := 0) rfl dX4_readStep_46 (by decide) ?_
      have e77 : stS f n z p = (false, (rdP f n p)) := by unfold stS; rw [if_pos c54, if_neg (fun z => absurd z.1 (Int32.not_lt.mpr c76))]
      exact r_ret dX4_readStep_47 (rt_z rfl (Or.inl rfl)) (by rw [e77]; exact ⟨rfl, hS65, hF66, Or.inr ⟨rfl, f73, f70, rfl⟩⟩)
    · refine r_aload_n rfl dX4_readStep_38 rfl ?_
      refine r_iconst (v := 4) rfl dX4_readStep_39 (by decide) ?_
      refine cl_X4_73 rfl rfl dX4_readStep_40 (Nat.le_of_ble_eq_true rfl) (s_X4_passed hS65 hn (rdP_le f hp) f73 f69) ?_
      rintro _ h78 _ ⟨rfl, hS79, hK80, ⟨c81, f82, rfl⟩ | ⟨c81, f82, rfl⟩⟩
      · have hF83 := KM_tr hF66 (KM_sb (by decide) hK80)
        have f84 : h78 4 = .inl (2, 300, .inl f) := (hK80 4 (by decide)).trans f69
        have f85 : h78 5 = .inr (4, [.ref 6, .ref 7, .ref 8, .int cr, .int pl, .int tu, .ref 9, .ref 10, .ref 11, .int sr]) := (hK80 5 (by decide)).trans f70
        have f86 : h78 10 = .inl (0, 24, .inl B) := (hK80 10 (by decide)).trans f71
        have f87 : h78 11 = .inl (0, 24, .inl C) := (hK80 11 (by decide)).trans f72
        have f88 : h78 9 = .inl (0, 24, .inl (upd A i (tV f n (rdP f n p)))) := (hK80 9 (by decide)).trans f68
        refine r_if_ne (tgt := 48) rfl rfl dX4_readStep_43 (fun _ => ?_) (fun zc => absurd zc (by decide))
        refine r_aload_n rfl dX4_readStep_48 rfl ?_
        refine r_getv 7 rfl dX4_readStep_49 (show 2 ≤ 5 ∧ 5 < 434 by decide) f85 fl_X4_24 rfl ?_
        refine r_iload_n rfl dX4_readStep_52 rfl ?_
        refine r_aload_n rfl dX4_readStep_53 rfl ?_
        refine cl_X4_57 rfl rfl dX4_readStep_54 (show 2 ≤ 3 ∧ 3 < 434 by decide).1 (show 2 ≤ 3 ∧ 3 < 434 by decide).2 f82 (Nat.le_of_ble_eq_true rfl) (s_X8_value f82) ?_
        rintro _ h89 _ ⟨rfl, e90, rfl⟩
        replace e90 := e90.symm
        subst e90
        refine e_iast (jn := i) rfl dX4_readStep_57 (show 2 ≤ 10 ∧ 10 < 434 by decide) hS79 hF83 (by decide) f86 (vp_in_nI (n := i) (by omega) (by decide)) (nI_clamp (n := i) (by omega)) (fun h91 hS92 hF93 hN94 f95 => ?_)
        have f96 : h91 4 = .inl (2, 300, .inl f) := (hN94 4 (by decide)).trans f84
        have f97 : h91 5 = .inr (4, [.ref 6, .ref 7, .ref 8, .int cr, .int pl, .int tu, .ref 9, .ref 10, .ref 11, .int sr]) := (hN94 5 (by decide)).trans f85
        have f98 : h91 11 = .inl (0, 24, .inl C) := (hN94 11 (by decide)).trans f87
        have f99 : h91 9 = .inl (0, 24, .inl (upd A i (tV f n (rdP f n p)))) := (hN94 9 (by decide)).trans f88
        have f100 : h91 3 = .inr (8, [.ref 4, .int (nI n), .int (nI (rdP f n (rdP f n (rdP f n p)))), .int (nI (rdS f n (rdP f n (rdP f n p)))), .int (tK f n (rdP f n (rdP f n p))), .int (tV f n (rdP f n (rdP f n p)))]) := (hN94 3 (by decide)).trans f82
        refine r_aload_n rfl dX4_readStep_58 rfl ?_
        refine cl_X4_57 rfl rfl dX4_readStep_59 (show 2 ≤ 3 ∧ 3 < 434 by decide).1 (show 2 ≤ 3 ∧ 3 < 434 by decide).2 f100 (Nat.le_of_ble_eq_true rfl) (s_X8_value f100) ?_
        rintro _ h101 _ ⟨rfl, e102, rfl⟩
        replace e102 := e102.symm
        subst e102
        refine r_iload_n rfl dX4_readStep_62 rfl ?_
        refine r_icmp_ge (tgt := 74) rfl rfl dX4_readStep_63 (fun c103 => ?_) (fun c103 => ?_)
        · refine r_iconst (v := 0) rfl dX4_readStep_74 (by decide) ?_
          have e104 : stS f n z p = (false, (rdP f n (rdP f n p))) := by unfold stS; rw [if_pos c54, if_pos ⟨Int32.not_le.mp c76, c81⟩, if_neg (fun z => absurd z.1 (Int32.not_lt.mpr c103))]
          exact r_ret dX4_readStep_75 (rt_z rfl (Or.inl rfl)) (by rw [e104]; exact ⟨rfl, hS92, hF93, Or.inr ⟨rfl, f100, f97, rfl⟩⟩)
        · refine r_aload_n rfl dX4_readStep_66 rfl ?_
          refine r_iconst (v := 4) rfl dX4_readStep_67 (by decide) ?_
          refine cl_X4_73 rfl rfl dX4_readStep_68 (Nat.le_of_ble_eq_true rfl) (s_X4_passed hS92 hn (rdP_le f (rdP_le f hp)) f100 f96) ?_
          rintro _ h105 _ ⟨rfl, hS106, hK107, ⟨c108, f109, rfl⟩ | ⟨c108, f109, rfl⟩⟩
          · have hF110 := KM_tr hF93 (KM_sb (by decide) hK107)
            have f111 : h105 4 = .inl (2, 300, .inl f) := (hK107 4 (by decide)).trans f96
            have f112 : h105 5 = .inr (4, [.ref 6, .ref 7, .ref 8, .int cr, .int pl, .int tu, .ref 9, .ref 10, .ref 11, .int sr]) := (hK107 5 (by decide)).trans f97
            have f113 : h105 11 = .inl (0, 24, .inl C) := (hK107 11 (by decide)).trans f98
            have f114 : h105 9 = .inl (0, 24, .inl (upd A i (tV f n (rdP f n p)))) := (hK107 9 (by decide)).trans f99
            have f115 : h105 10 = .inl (0, 24, .inl (upd B i (tV f n (rdP f n (rdP f n p))))) := (hK107 10 (by decide)).trans f95
            refine r_if_ne (tgt := 76) rfl rfl dX4_readStep_71 (fun _ => ?_) (fun zc => absurd zc (by decide))
            refine r_aload_n rfl dX4_readStep_76 rfl ?_
            refine r_getv 8 rfl dX4_readStep_77 (show 2 ≤ 5 ∧ 5 < 434 by decide) f112 fl_X4_27 rfl ?_
            refine r_iload_n rfl dX4_readStep_80 rfl ?_
            refine r_aload_n rfl dX4_readStep_81 rfl ?_
            refine cl_X4_57 rfl rfl dX4_readStep_82 (show 2 ≤ 3 ∧ 3 < 434 by decide).1 (show 2 ≤ 3 ∧ 3 < 434 by decide).2 f109 (Nat.le_of_ble_eq_true rfl) (s_X8_value f109) ?_
            rintro _ h116 _ ⟨rfl, e117, rfl⟩
            replace e117 := e117.symm
            subst e117
            refine e_iast (jn := i) rfl dX4_readStep_85 (show 2 ≤ 11 ∧ 11 < 434 by decide) hS106 hF110 (by decide) f113 (vp_in_nI (n := i) (by omega) (by decide)) (nI_clamp (n := i) (by omega)) (fun h118 hS119 hF120 hN121 f122 => ?_)
            have f123 : h118 4 = .inl (2, 300, .inl f) := (hN121 4 (by decide)).trans f111
            have f124 : h118 5 = .inr (4, [.ref 6, .ref 7, .ref 8, .int cr, .int pl, .int tu, .ref 9, .ref 10, .ref 11, .int sr]) := (hN121 5 (by decide)).trans f112
            have f125 : h118 9 = .inl (0, 24, .inl (upd A i (tV f n (rdP f n p)))) := (hN121 9 (by decide)).trans f114
            have f126 : h118 10 = .inl (0, 24, .inl (upd B i (tV f n (rdP f n (rdP f n p))))) := (hN121 10 (by decide)).trans f115
            have f127 : h118 3 = .inr (8, [.ref 4, .int (nI n), .int (nI (rdP f n (rdP f n (rdP f n (rdP f n p))))), .int (nI (rdS f n (rdP f n (rdP f n (rdP f n p))))), .int (tK f n (rdP f n (rdP f n (rdP f n p)))), .int (tV f n (rdP f n (rdP f n (rdP f n p))))]) := (hN121 3 (by decide)).trans f109
            refine r_aload_n rfl dX4_readStep_86 rfl ?_
            refine r_iconst (v := 3) rfl dX4_readStep_87 (by decide) ?_
            refine cl_X4_73 rfl rfl dX4_readStep_88 (Nat.le_of_ble_eq_true rfl) (s_X4_passed hS119 hn (rdP_le f (rdP_le f (rdP_le f hp))) f127 f123) ?_
            rintro _ h128 _ ⟨rfl, hS129, hK130, ⟨c131, f132, rfl⟩ | ⟨c131, f132, rfl⟩⟩
            · have hF133 := KM_tr hF120 (KM_sb (by decide) hK130)
              have f134 : h128 4 = .inl (2, 300, .inl f) := (hK130 4 (by decide)).trans f123
              have f135 : h128 5 = .inr (4, [.ref 6, .ref 7, .ref 8, .int cr, .int pl, .int tu, .ref 9, .ref 10, .ref 11, .int sr]) := (hK130 5 (by decide)).trans f124
              have f136 : h128 9 = .inl (0, 24, .inl (upd A i (tV f n (rdP f n p)))) := (hK130 9 (by decide)).trans f125
              have f137 : h128 10 = .inl (0, 24, .inl (upd B i (tV f n (rdP f n (rdP f n p))))) := (hK130 10 (by decide)).trans f126
              have f138 : h128 11 = .inl (0, 24, .inl (upd C i (tV f n (rdP f n (rdP f n (rdP f n p)))))) := (hK130 11 (by decide)).trans f122
              refine r_if_eq (tgt := 107) rfl rfl dX4_readStep_91 (fun zc => absurd zc (by decide)) (fun _ => ?_)
              refine r_aload_n rfl dX4_readStep_94 rfl ?_
              refine r_bipush (v := 6) rfl dX4_readStep_95 (by decide) ?_
              refine cl_X4_73 rfl rfl dX4_readStep_97 (Nat.le_of_ble_eq_true rfl) (s_X4_passed hS129 hn (rdP_le f (rdP_le f (rdP_le f (rdP_le f hp)))) f132 f134) ?_
              rintro _ h139 _ ⟨rfl, hS140, hK141, ⟨c142, f143, rfl⟩ | ⟨c142, f143, rfl⟩⟩
              · have hF144 := KM_tr hF133 (KM_sb (by decide) hK141)
                have f145 : h139 4 = .inl (2, 300, .inl f) := (hK141 4 (by decide)).trans f134
                have f146 : h139 5 = .inr (4, [.ref 6, .ref 7, .ref 8, .int cr, .int pl, .int tu, .ref 9, .ref 10, .ref 11, .int sr]) := (hK141 5 (by decide)).trans f135
                have f147 : h139 9 = .inl (0, 24, .inl (upd A i (tV f n (rdP f n p)))) := (hK141 9 (by decide)).trans f136
                have f148 : h139 10 = .inl (0, 24, .inl (upd B i (tV f n (rdP f n (rdP f n p))))) := (hK141 10 (by decide)).trans f137
                have f149 : h139 11 = .inl (0, 24, .inl (upd C i (tV f n (rdP f n (rdP f n (rdP f n p)))))) := (hK141 11 (by decide)).trans f138
                refine r_if_eq (tgt := 107) rfl rfl dX4_readStep_100 (fun zc => absurd zc (by decide)) (fun _ => ?_)
                refine r_iconst (v := 1) rfl dX4_readStep_103 (by decide) ?_
                refine r_goto (pc' := 108) rfl dX4_readStep_104 ?_
                have e150 : stS f n z p = (true, (rdP f n (rdP f n (rdP f n (rdP f n (rdP f n p)))))) := by unfold stS; rw [if_pos c54, if_pos ⟨Int32.not_le.mp c76, c81⟩, if_pos ⟨Int32.not_le.mp c103, c108⟩, if_pos c131, if_pos c142]
                exact r_ret dX4_readStep_108 (rt_z rfl (Or.inr rfl)) (by rw [e150]; exact ⟨rfl, hS140, hF144, Or.inl ⟨rfl, f143, f146, f147, f148, f149, rfl⟩⟩)
              · have hF144 := KM_tr hF133 (KM_sb (by decide) hK141)
                have f151 : h139 4 = .inl (2, 300, .inl f) := (hK141 4 (by decide)).trans f134
                have f152 : h139 5 = .inr (4, [.ref 6, .ref 7, .ref 8, .int cr, .int pl, .int tu, .ref 9, .ref 10, .ref 11, .int sr]) := (hK141 5 (by decide)).trans f135
                have f153 : h139 9 = .inl (0, 24, .inl (upd A i (tV f n (rdP f n p)))) := (hK141 9 (by decide)).trans f136
                have f154 : h139 10 = .inl (0, 24, .inl (upd B i (tV f n (rdP f n (rdP f n p))))) := (hK141 10 (by decide)).trans f137
                have f155 : h139 11 = .inl (0, 24, .inl (upd C i (tV f n (rdP f n (rdP f n (rdP f n p)))))) := (hK141 11 (by decide)).trans f138
                refine r_if_eq (tgt := 107) rfl rfl dX4_readStep_100 (fun _ => ?_) (fun zc => absurd zc (by decide))
                refine r_iconst (v := 0) rfl dX4_readStep_107 (by decide) ?_
                have e156 : stS f n z p = (false, (rdP f n (rdP f n (rdP f n (rdP f n p))))) := by unfold stS; rw [if_pos c54, if_pos ⟨Int32.not_le.mp c76, c81⟩, if_pos ⟨Int32.not_le.mp c103, c108⟩, if_pos c131, if_neg c142]
                exact r_ret dX4_readStep_108 (rt_z rfl (Or.inl rfl)) (by rw [e156]; exact ⟨rfl, hS140, hF144, Or.inr ⟨rfl, f143, f152, rfl⟩⟩)
            · have hF133 := KM_tr hF120 (KM_sb (by decide) hK130)
              have f157 : h128 4 = .inl (2, 300, .inl f) := (hK130 4 (by decide)).trans f123
              have f158 : h128 5 = .inr (4, [.ref 6, .ref 7, .ref 8, .int cr, .int pl, .int tu, .ref 9, .ref 10, .ref 11, .int sr]) := (hK130 5 (by decide)).trans f124
              have f159 : h128 9 = .inl (0, 24, .inl (upd A i (tV f n (rdP f n p)))) := (hK130 9 (by decide)).trans f125
              have f160 : h128 10 = .inl (0, 24, .inl (upd B i (tV f n (rdP f n (rdP f n p))))) := (hK130 10 (by decide)).trans f126
              have f161 : h128 11 = .inl (0, 24, .inl (upd C i (tV f n (rdP f n (rdP f n (rdP f n p)))))) := (hK130 11 (by decide)).trans f122
              refine r_if_eq (tgt := 107) rfl rfl dX4_readStep_91 (fun _ => ?_) (fun zc => absurd zc (by decide))
              refine r_iconst (v := 0) rfl dX4_readStep_107 (by decide) ?_
              have e162 : stS f n z p = (false, (rdP f n (rdP f n (rdP f n p)))) := by unfold stS; rw [if_pos c54, if_pos ⟨Int32.not_le.mp c76, c81⟩, if_pos ⟨Int32.not_le.mp c103, c108⟩, if_neg c131]
              exact r_ret dX4_readStep_108 (rt_z rfl (Or.inl rfl)) (by rw [e162]; exact ⟨rfl, hS129, hF133, Or.inr ⟨rfl, f132, f158, rfl⟩⟩)
          · have hF110 := KM_tr hF93 (KM_sb (by decide) hK107)
            have f163 : h105 4 = .inl (2, 300, .inl f) := (hK107 4 (by decide)).trans f96
            have f164 : h105 5 = .inr (4, [.ref 6, .ref 7, .ref 8, .int cr, .int pl, .int tu, .ref 9, .ref 10, .ref 11, .int sr]) := (hK107 5 (by decide)).trans f97
            have f165 : h105 11 = .inl (0, 24, .inl C) := (hK107 11 (by decide)).trans f98
            have f166 : h105 9 = .inl (0, 24, .inl (upd A i (tV f n (rdP f n p)))) := (hK107 9 (by decide)).trans f99
            have f167 : h105 10 = .inl (0, 24, .inl (upd B i (tV f n (rdP f n (rdP f n p))))) := (hK107 10 (by decide)).trans f95
            refine r_if_ne (tgt := 76) rfl rfl dX4_readStep_71 (fun zc => absurd zc (by decide)) (fun _ => ?_)
            refine r_iconst (v := 0) rfl dX4_readStep_74 (by decide) ?_
            have e168 : stS f n z p = (false, (rdP f n (rdP f n p))) := by unfold stS; rw [if_pos c54, if_pos ⟨Int32.not_le.mp c76, c81⟩, if_neg (fun z => c108 z.2)]
            exact r_ret dX4_readStep_75 (rt_z rfl (Or.inl rfl)) (by rw [e168]; exact ⟨rfl, hS106, hF110, Or.inr ⟨rfl, f109, f164, rfl⟩⟩)
      · have hF83 := KM_tr hF66 (KM_sb (by decide) hK80)
        have f169 : h78 4 = .inl (2, 300, .inl f) := (hK80 4 (by decide)).trans f69
        have f170 : h78 5 = .inr (4, [.ref 6, .ref 7, .ref 8, .int cr, .int pl, .int tu, .ref 9, .ref 10, .ref 11, .int sr]) := (hK80 5 (by decide)).trans f70
        have f171 : h78 10 = .inl (0, 24, .inl B) := (hK80 10 (by decide)).trans f71
        have f172 : h78 11 = .inl (0, 24, .inl C) := (hK80 11 (by decide)).trans f72
        have f173 : h78 9 = .inl (0, 24, .inl (upd A i (tV f n (rdP f n p)))) := (hK80 9 (by decide)).trans f68
        refine r_if_ne (tgt := 48) rfl rfl dX4_readStep_43 (fun zc => absurd zc (by decide)) (fun _ => ?_)
        refine r_iconst (v := 0) rfl dX4_readStep_46 (by decide) ?_
        have e174 : stS f n z p = (false, (rdP f n p)) := by unfold stS; rw [if_pos c54, if_neg (fun z => c81 z.2)]
        exact r_ret dX4_readStep_47 (rt_z rfl (Or.inl rfl)) (by rw [e174]; exact ⟨rfl, hS79, hF83, Or.inr ⟨rfl, f82, f170, rfl⟩⟩)
  · have hF56 := KM_tr (KM_rf (Mod := [3, 5, 9, 10, 11]) h) (KM_sb (by decide) hK53)
    have f175 : h51 4 = .inl (2, 300, .inl f) := (hK53 4 (by decide)).trans h4
    have f176 : h51 5 = .inr (4, [.ref 6, .ref 7, .ref 8, .int cr, .int pl, .int tu, .ref 9, .ref 10, .ref 11, .int sr]) := (hK53 5 (by decide)).trans h5
    have f177 : h51 9 = .inl (0, 24, .inl A) := (hK53 9 (by decide)).trans h9
    have f178 : h51 10 = .inl (0, 24, .inl B) := (hK53 10 (by decide)).trans h10
    have f179 : h51 11 = .inl (0, 24, .inl C) := (hK53 11 (by decide)).trans h11
    refine r_if_ne (tgt := 20) rfl rfl dX4_readStep_15 (fun zc => absurd zc (by decide)) (fun _ => ?_)
    refine r_iconst (v := 0) rfl dX4_readStep_18 (by decide) ?_
    have e180 : stS f n z p = (false, p) := by unfold stS; rw [if_neg c54]
    exact r_ret dX4_readStep_19 (rt_z rfl (Or.inl rfl)) (by rw [e180]; exact ⟨rfl, hS52, hF56, Or.inr ⟨rfl, f55, f176, rfl⟩⟩)
/-- what readSteps leaves -/
def ssQ (n : Nat) (cr pl tu : Int32) (h0 : ev_H) (q : Int32 × Nat × (Nat → Int32) × (Nat → Int32) × (Nat → Int32)) : ev_Q := fun sz' h' r => sz' = 434 ∧ SH h' ∧ KM [3, 5, 9, 10, 11] h0 h' ∧ r = [.int q.1] ∧ (∃ p s k v, h' 3 = c3 (nI n) p s k v) ∧ (∃ sr, h' 5 = c5 cr pl tu sr) ∧ (q.1 = -1 → h' 5 = c5 cr pl tu (nI q.2.1) ∧ h' 9 = cI 24 q.2.2.1 ∧ h' 10 = cI 24 q.2.2.2.1 ∧ h' 11 = cI 24 q.2.2.2.2)
set_option maxRecDepth 20000 in
set_option maxHeartbeats 1000000 in
theorem s_X4_readSteps_z {xs : Nat → Int32} {L d : Nat} {h : ev_H} {f : Nat → Int32} {n p i c : Nat} {cr pl tu : Int32} {A B C : Nat → Int32} (hS : SH h) (hn : n ≤ 300) (hp : p ≤ n) (h3 : h 3 = cT f n p) (h4 : h 4 = c4 f) (h5 : h 5 = c5 cr pl tu (nI i)) (h9 : h 9 = cI 24 A) (h10 : h 10 = cI 24 B) (h11 : h 11 = cI 24 C) (hr : i = 24) : EV xs L (d + 6) 0 0 M_X4_readSteps 434 h 11 [some (.ref 5), some (.ref 3), some (.int (nI c)), some (.int 24)] [] (ssQ n cr pl tu h (stL f n c 0 p i A B C)) := by
  refine r_iload_n rfl dX4_readSteps_11 rfl ?_
  refine r_bipush (v := 24) rfl dX4_readSteps_12 (by decide) ?_
  refine r_icmp_ge (tgt := 57) rfl rfl dX4_readSteps_14 (fun _ => ?_) (fun zc => absurd zc (by decide))
  refine r_aload_n rfl dX4_readSteps_57 rfl ?_
  refine cl_X4_46 rfl rfl dX4_readSteps_58 (show 2 ≤ 3 ∧ 3 < 434 by decide).1 (show 2 ≤ 3 ∧ 3 < 434 by decide).2 h3 (Nat.le_of_ble_eq_true rfl) (s_X8_kind h3) ?_
  rintro _ h51 _ ⟨rfl, e52, rfl⟩
  replace e52 := e52.symm
  subst e52
  refine r_if_ne (tgt := 68) rfl rfl dX4_readSteps_61 (fun c53 => ?_) (fun c53 => ?_)
  · refine r_aload_n rfl dX4_readSteps_68 rfl ?_
    refine cl_X4_54 rfl rfl dX4_readSteps_69 (show 2 ≤ 3 ∧ 3 < 434 by decide).1 (show 2 ≤ 3 ∧ 3 < 434 by decide).2 h3 (Nat.le_of_ble_eq_true rfl) (s_X8_start h3) ?_
    rintro _ h54 _ ⟨rfl, e55, rfl⟩
    replace e55 := e55.symm
    subst e55
    have hsl := (rdS_le f hp).2
    have e56 : stL f n c 0 p i A B C = (nI (rdS f n p), i, A, B, C) := by rw [stL, if_neg c53]
    exact r_ret dX4_readSteps_72 (rt_i rfl) (by rw [e56]; exact ⟨rfl, hS, (KM_rf (Mod := [3, 5, 9, 10, 11]) h), rfl, ⟨_, _, _, _, h3⟩, ⟨_, h5⟩, fun z => absurd z (nI_nm1 (by omega))⟩)
  · refine r_iconst (v := (-1)) rfl dX4_readSteps_64 (by decide) ?_
    refine r_goto (pc' := 72) rfl dX4_readSteps_65 ?_
    have hsl := (rdS_le f hp).2
    have e57 : stL f n c 0 p i A B C = (-1, i, A, B, C) := by rw [stL, if_pos c53]
    exact r_ret dX4_readSteps_72 (rt_i rfl) (by rw [e57]; exact ⟨rfl, hS, (KM_rf (Mod := [3, 5, 9, 10, 11]) h), rfl, ⟨_, _, _, _, h3⟩, ⟨_, h5⟩, fun _ => ⟨h5, h9, h10, h11⟩⟩)
set_option maxRecDepth 20000 in
set_option maxHeartbeats 1000000 in
theorem s_X4_readSteps_s {xs : Nat → Int32} {L d : Nat} {h : ev_H} {f : Nat → Int32} {n p i c : Nat} {cr pl tu : Int32} {A B C : Nat → Int32} {r : Nat} (hS : SH h) (hn : n ≤ 300) (hp : p ≤ n) (h3 : h 3 = cT f n p) (h4 : h 4 = c4 f) (h5 : h 5 = c5 cr pl tu (nI i)) (h9 : h 9 = cI 24 A) (h10 : h 10 = cI 24 B) (h11 : h 11 = cI 24 C) (hr : i + (r + 1) = 24) (ih : ∀ (p' : Nat) (A' B' C' : Nat → Int32) (h' : ev_H), p' ≤ n → SH h' → h' 3 = cT f n p' → h' 4 = c4 f → h' 5 = c5 cr pl tu (nI (i + 1)) → h' 9 = cI 24 A' → h' 10 = cI 24 B' → h' 11 = cI 24 C' → EV xs L (d + 6) 0 0 M_X4_readSteps 434 h' 11 [some (.ref 5), some (.ref 3), some (.int (nI c)), some (.int (nI (i + 1)))] [] (ssQ n cr pl tu h' (stL f n c r p' (i + 1) A' B' C'))) : EV xs L (d + 6) 0 0 M_X4_readSteps 434 h 11 [some (.ref 5), some (.ref 3), some (.int (nI c)), some (.int (nI i))] [] (ssQ n cr pl tu h (stL f n c (r + 1) p i A B C)) := by
  refine r_iload_n rfl dX4_readSteps_11 rfl ?_
  refine r_bipush (v := 24) rfl dX4_readSteps_12 (by decide) ?_
  refine r_icmp_ge (tgt := 57) rfl rfl dX4_readSteps_14 (fun zc => absurd zc (show ¬ (24 : Int32) ≤ nI i from nI_ge (a := i) (b := 24) (by omega) (by decide))) (fun _ => ?_)
  refine r_aload_n rfl dX4_readSteps_17 rfl ?_
  refine cl_X4_46 rfl rfl dX4_readSteps_18 (show 2 ≤ 3 ∧ 3 < 434 by decide).1 (show 2 ≤ 3 ∧ 3 < 434 by decide).2 h3 (Nat.le_of_ble_eq_true rfl) (s_X8_kind h3) ?_
  rintro _ h51 _ ⟨rfl, e52, rfl⟩
  replace e52 := e52.symm
  subst e52
  refine r_if_eq (tgt := 57) rfl rfl dX4_readSteps_21 (fun c53 => ?_) (fun c53 => ?_)
  · refine r_aload_n rfl dX4_readSteps_57 rfl ?_
    refine cl_X4_46 rfl rfl dX4_readSteps_58 (show 2 ≤ 3 ∧ 3 < 434 by decide).1 (show 2 ≤ 3 ∧ 3 < 434 by decide).2 h3 (Nat.le_of_ble_eq_true rfl) (s_X8_kind h3) ?_
    rintro _ h54 _ ⟨rfl, e55, rfl⟩
    replace e55 := e55.symm
    subst e55
    refine r_if_ne (tgt := 68) rfl rfl dX4_readSteps_61 (fun zc => absurd zc (fun z => z c53)) (fun _ => ?_)
    refine r_iconst (v := (-1)) rfl dX4_readSteps_64 (by decide) ?_
    refine r_goto (pc' := 72) rfl dX4_readSteps_65 ?_
    have hsl := (rdS_le f hp).2
    have e56 : stL f n c (r + 1) p i A B C = (-1, i, A, B, C) := by rw [stL, if_pos c53]
    exact r_ret dX4_readSteps_72 (rt_i rfl) (by rw [e56]; exact ⟨rfl, hS, (KM_rf (Mod := [3, 5, 9, 10, 11]) h), rfl, ⟨_, _, _, _, h3⟩, ⟨_, h5⟩, fun _ => ⟨h5, h9, h10, h11⟩⟩)
  · refine r_aload_n rfl dX4_readSteps_24 rfl ?_
    refine r_aload_n rfl dX4_readSteps_25 rfl ?_
    refine r_iload_n rfl dX4_readSteps_26 rfl ?_
    refine r_iload_n rfl dX4_readSteps_27 rfl ?_
    refine r_iload_n rfl dX4_readSteps_28 rfl ?_
    refine r_iadd rfl dX4_readSteps_29 ?_
    refine r_eqi (y := nI (c + i)) (show (nI c) + (nI i) = nI (c + i) from nI_add c i) ?_
    refine cl_X4_76 rfl rfl dX4_readSteps_30 (show 2 ≤ 5 ∧ 5 < 434 by decide).1 (show 2 ≤ 5 ∧ 5 < 434 by decide).2 h5 (Nat.le_of_ble_eq_true rfl) (s_X4_readStep hS hn hp h3 h4 h5 h9 h10 h11 (i := i) (by omega)) ?_
    rintro _ h57 _ ⟨rfl, hS58, hK59, ⟨c60, f61, f62, f63, f64, f65, rfl⟩ | ⟨c60, f61, f62, rfl⟩⟩
    · have hF66 := KM_tr (KM_rf (Mod := [3, 5, 9, 10, 11]) h) (KM_sb (by decide) hK59)
      have f67 : h57 4 = .inl (2, 300, .inl f) := (hK59 4 (by decide)).trans h4
      refine r_if_ne (tgt := 41) rfl rfl dX4_readSteps_33 (fun _ => ?_) (fun zc => absurd zc (by decide))
      refine r_aload_n rfl dX4_readSteps_41 rfl ?_
      refine r_dup rfl dX4_readSteps_42 rfl ?_
      refine r_getv 9 rfl dX4_readSteps_43 (show 2 ≤ 5 ∧ 5 < 434 by decide) f62 fl_X4_38 rfl ?_
      refine r_iconst (v := 1) rfl dX4_readSteps_46 (by decide) ?_
      refine r_iadd rfl dX4_readSteps_47 ?_
      refine r_eqi (y := nI (i + 1)) (show (nI i) + 1 = nI (i + 1) from nI_add i 1) ?_
      refine e_put 9 (fs' := [.ref 6, .ref 7, .ref 8, .int cr, .int pl, .int tu, .ref 9, .ref 10, .ref 11, .int (nI (i + 1))]) rfl dX4_readSteps_48 (show 2 ≤ 5 ∧ 5 < 434 by decide) hS58 hF66 (by decide) f62 (fp_X4_38 rfl _) (Nat.le_of_ble_eq_true rfl) rfl (fun h68 hS69 hF70 hN71 f72 => ?_)
      have f73 : h68 4 = .inl (2, 300, .inl f) := (hN71 4 (by decide)).trans f67
      have f74 : h68 9 = .inl (0, 24, .inl (upd A i (tV f n (rdP f n p)))) := (hN71 9 (by decide)).trans f63
      have f75 : h68 10 = .inl (0, 24, .inl (upd B i (tV f n (rdP f n (rdP f n p))))) := (hN71 10 (by decide)).trans f64
      have f76 : h68 11 = .inl (0, 24, .inl (upd C i (tV f n (rdP f n (rdP f n (rdP f n p)))))) := (hN71 11 (by decide)).trans f65
      have f77 : h68 3 = .inr (8, [.ref 4, .int (nI n), .int (nI (rdP f n ((stS f n (nI (c + i)) p).2))), .int (nI (rdS f n ((stS f n (nI (c + i)) p).2))), .int (tK f n ((stS f n (nI (c + i)) p).2)), .int (tV f n ((stS f n (nI (c + i)) p).2))]) := (hN71 3 (by decide)).trans f61
      refine r_iinc (y := nI (i + 1)) (ls' := [some (.ref 5), some (.ref 3), some (.int (nI c)), some (.int (nI (i + 1)))]) rfl dX4_readSteps_51 rfl (nI_1 i) (Nat.le_of_ble_eq_true rfl) rfl ?_
      refine r_goto (pc' := 11) rfl dX4_readSteps_54 ?_
      refine EV.post ?_ (ih _ _ _ _ h68 (stS_le f (nI (c + i)) hp) hS69 f77 f73 f72 f74 f75 f76)
      rintro a1 a2 a3 ⟨b1, b2, b3, b4⟩
      rw [show stL f n c (r + 1) p i A B C = stL f n c r (stS f n (nI (c + i)) p).2 (i + 1) (upd A i (tV f n (rdP f n p))) (upd B i (tV f n (rdP f n (rdP f n p)))) (upd C i (tV f n (rdP f n (rdP f n (rdP f n p))))) from by rw [stL, if_neg c53, if_pos c60]]
      exact ⟨b1, b2, KM_tr hF70 b3, b4⟩
    · have hF66 := KM_tr (KM_rf (Mod := [3, 5, 9, 10, 11]) h) (KM_sb (by decide) hK59)
      have f78 : h57 4 = .inl (2, 300, .inl f) := (hK59 4 (by decide)).trans h4
      refine r_if_ne (tgt := 41) rfl rfl dX4_readSteps_33 (fun zc => absurd zc (by decide)) (fun _ => ?_)
      refine r_aload_n rfl dX4_readSteps_36 rfl ?_
      refine cl_X4_54 rfl rfl dX4_readSteps_37 (show 2 ≤ 3 ∧ 3 < 434 by decide).1 (show 2 ≤ 3 ∧ 3 < 434 by decide).2 f61 (Nat.le_of_ble_eq_true rfl) (s_X8_start f61) ?_
      rintro _ h79 _ ⟨rfl, e80, rfl⟩
      replace e80 := e80.symm
      subst e80
      have hsl := (rdS_le f (stS_le f (nI (c + i)) hp)).2
      have e81 : stL f n c (r + 1) p i A B C = (nI (rdS f n (stS f n (nI (c + i)) p).2), i, A, B, C) := by rw [stL, if_neg c53, if_neg (by rw [c60]; decide)]
      exact r_ret dX4_readSteps_40 (rt_i rfl) (by rw [e81]; exact ⟨rfl, hS58, hF66, rfl, ⟨_, _, _, _, f61⟩, ⟨_, f62⟩, fun z => absurd z (nI_nm1 (by omega))⟩)
theorem s_X4_readSteps_loop {xs : Nat → Int32} {L d : Nat} {f : Nat → Int32} {n c : Nat} {cr pl tu : Int32} (hn : n ≤ 300) : ∀ (r i p : Nat) (A B C : Nat → Int32) (h : ev_H), i + r = 24 → p ≤ n → SH h → h 3 = cT f n p → h 4 = c4 f → h 5 = c5 cr pl tu (nI i) → h 9 = cI 24 A → h 10 = cI 24 B → h 11 = cI 24 C → EV xs L (d + 6) 0 0 M_X4_readSteps 434 h 11 [some (.ref 5), some (.ref 3), some (.int (nI c)), some (.int (nI i))] [] (ssQ n cr pl tu h (stL f n c r p i A B C)) := by
  intro r
  induction r with
  | zero =>
    intro i p A B C h hr hp hS h3 h4 h5 h6 h7 h8
    obtain rfl : i = 24 := by omega
    exact s_X4_readSteps_z hS hn hp h3 h4 h5 h6 h7 h8 rfl
  | succ r ih =>
    intro i p A B C h hr hp hS h3 h4 h5 h6 h7 h8
    exact s_X4_readSteps_s hS hn hp h3 h4 h5 h6 h7 h8 hr (fun p' A' B' C' h' q1 q2 q3 q4 q5 q6 q7 q8 => ih (i + 1) p' A' B' C' h' (by omega) q1 q2 q3 q4 q5 q6 q7 q8)
set_option maxRecDepth 20000 in
set_option maxHeartbeats 1000000 in
theorem s_X4_readSteps {xs : Nat → Int32} {L d : Nat} {h : ev_H} {f : Nat → Int32} {n c : Nat} {cr pl tu sr pp ss kk vv : Int32} {A B C : Nat → Int32} (hS : SH h) (hn : n ≤ 300) (h3 : h 3 = c3 (nI n) pp ss kk vv) (h4 : h 4 = c4 f) (h5 : h 5 = c5 cr pl tu sr) (h9 : h 9 = cI 24 A) (h10 : h 10 = cI 24 B) (h11 : h 11 = cI 24 C) : EV xs L (d + 6) 0 0 M_X4_readSteps 434 h 0 [some (.ref 5), some (.ref 3), some (.int (nI c)), none] [] (ssQ n cr pl tu h (stL f n c 24 0 0 A B C)) := by
  refine r_aload_n rfl dX4_readSteps_0 rfl ?_
  refine r_iconst (v := 0) rfl dX4_readSteps_1 (by decide) ?_
  refine e_put 9 (fs' := [.ref 6, .ref 7, .ref 8, .int cr, .int pl, .int tu, .ref 9, .ref 10, .ref 11, .int 0]) rfl dX4_readSteps_2 (show 2 ≤ 5 ∧ 5 < 434 by decide) hS (KM_rf (Mod := [3, 5, 9, 10, 11]) h) (by decide) h5 (fp_X4_38 rfl _) (Nat.le_of_ble_eq_true rfl) rfl (fun h51 hS52 hF53 hN54 f55 => ?_)
  have f56 : h51 3 = .inr (8, [.ref 4, .int (nI n), .int pp, .int ss, .int kk, .int vv]) := (hN54 3 (by decide)).trans h3
  have f57 : h51 4 = .inl (2, 300, .inl f) := (hN54 4 (by decide)).trans h4
  have f58 : h51 9 = .inl (0, 24, .inl A) := (hN54 9 (by decide)).trans h9
  have f59 : h51 10 = .inl (0, 24, .inl B) := (hN54 10 (by decide)).trans h10
  have f60 : h51 11 = .inl (0, 24, .inl C) := (hN54 11 (by decide)).trans h11
  refine r_aload_n rfl dX4_readSteps_5 rfl ?_
  refine cl_X4_41 rfl rfl dX4_readSteps_6 (show 2 ≤ 3 ∧ 3 < 434 by decide).1 (show 2 ≤ 3 ∧ 3 < 434 by decide).2 f56 (Nat.le_of_ble_eq_true rfl) (t_first hS52 hn f56 f57) ?_
  rintro _ h61 _ ⟨rfl, hS62, hK63, f64, rfl⟩
  have hF65 := KM_tr hF53 (KM_sb (by decide) hK63)
  have f66 : h61 4 = .inl (2, 300, .inl f) := (hK63 4 (by decide)).trans f57
  have f67 : h61 9 = .inl (0, 24, .inl A) := (hK63 9 (by decide)).trans f58
  have f68 : h61 10 = .inl (0, 24, .inl B) := (hK63 10 (by decide)).trans f59
  have f69 : h61 11 = .inl (0, 24, .inl C) := (hK63 11 (by decide)).trans f60
  have f70 : h61 5 = .inr (4, [.ref 6, .ref 7, .ref 8, .int cr, .int pl, .int tu, .ref 9, .ref 10, .ref 11, .int 0]) := (hK63 5 (by decide)).trans f55
  refine r_iconst (v := 0) rfl dX4_readSteps_9 (by decide) ?_
  refine r_istore_n (ls' := [some (.ref 5), some (.ref 3), some (.int (nI c)), some (.int 0)]) rfl dX4_readSteps_10 (Nat.le_of_ble_eq_true rfl) rfl ?_
  refine EV.post ?_ (s_X4_readSteps_loop hn 24 0 0 A B C h61 rfl (Nat.zero_le n) hS62 f64 f66 f70 f67 f68 f69)
  rintro a1 a2 a3 ⟨b1, b2, b3, b4⟩
  exact ⟨b1, b2, KM_tr hF65 b3, b4⟩
