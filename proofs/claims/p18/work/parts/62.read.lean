theorem dX4_passed_0 : decode cX4_passed 0 = .ok (.aload_n 0, 1) := by decide +kernel
theorem dX4_passed_1 : decode cX4_passed 1 = .ok (.invokevirtual 46, 3) := by decide +kernel
theorem dX4_passed_4 : decode cX4_passed 4 = .ok (.iload_n 1, 1) := by decide +kernel
theorem dX4_passed_5 : decode cX4_passed 5 = .ok (.if_icmp .eq 5, 3) := by decide +kernel
theorem dX4_passed_8 : decode cX4_passed 8 = .ok (.iconst 0, 1) := by decide +kernel
theorem dX4_passed_9 : decode cX4_passed 9 = .ok (.ireturn, 1) := by decide +kernel
theorem dX4_passed_10 : decode cX4_passed 10 = .ok (.aload_n 0, 1) := by decide +kernel
theorem dX4_passed_11 : decode cX4_passed 11 = .ok (.invokevirtual 66, 3) := by decide +kernel
theorem dX4_passed_14 : decode cX4_passed 14 = .ok (.iconst 1, 1) := by decide +kernel
theorem dX4_passed_15 : decode cX4_passed 15 = .ok (.ireturn, 1) := by decide +kernel
theorem dX4_readLiteral_0 : decode cX4_readLiteral 0 = .ok (.aload_n 1, 1) := by decide +kernel
theorem dX4_readLiteral_1 : decode cX4_readLiteral 1 = .ok (.invokevirtual 46, 3) := by decide +kernel
theorem dX4_readLiteral_4 : decode cX4_readLiteral 4 = .ok (.iconst 5, 1) := by decide +kernel
theorem dX4_readLiteral_5 : decode cX4_readLiteral 5 = .ok (.if_icmp .ne 7, 3) := by decide +kernel
theorem dX4_readLiteral_8 : decode cX4_readLiteral 8 = .ok (.iconst 1, 1) := by decide +kernel
theorem dX4_readLiteral_9 : decode cX4_readLiteral 9 = .ok (.goto 4, 3) := by decide +kernel
theorem dX4_readLiteral_12 : decode cX4_readLiteral 12 = .ok (.iconst 0, 1) := by decide +kernel
theorem dX4_readLiteral_13 : decode cX4_readLiteral 13 = .ok (.istore_n 2, 1) := by decide +kernel
theorem dX4_readLiteral_14 : decode cX4_readLiteral 14 = .ok (.iload_n 2, 1) := by decide +kernel
theorem dX4_readLiteral_15 : decode cX4_readLiteral 15 = .ok (.ifCond .eq 7, 3) := by decide +kernel
theorem dX4_readLiteral_18 : decode cX4_readLiteral 18 = .ok (.aload_n 1, 1) := by decide +kernel
theorem dX4_readLiteral_19 : decode cX4_readLiteral 19 = .ok (.invokevirtual 66, 3) := by decide +kernel
theorem dX4_readLiteral_22 : decode cX4_readLiteral 22 = .ok (.iconst 1, 1) := by decide +kernel
theorem dX4_readLiteral_23 : decode cX4_readLiteral 23 = .ok (.aload_n 1, 1) := by decide +kernel
theorem dX4_readLiteral_24 : decode cX4_readLiteral 24 = .ok (.invokevirtual 57, 3) := by decide +kernel
theorem dX4_readLiteral_27 : decode cX4_readLiteral 27 = .ok (.ishl, 1) := by decide +kernel
theorem dX4_readLiteral_28 : decode cX4_readLiteral 28 = .ok (.istore_n 3, 1) := by decide +kernel
theorem dX4_readLiteral_29 : decode cX4_readLiteral 29 = .ok (.aload_n 1, 1) := by decide +kernel
theorem dX4_readLiteral_30 : decode cX4_readLiteral 30 = .ok (.invokevirtual 46, 3) := by decide +kernel
theorem dX4_readLiteral_33 : decode cX4_readLiteral 33 = .ok (.iconst 3, 1) := by decide +kernel
theorem dX4_readLiteral_34 : decode cX4_readLiteral 34 = .ok (.if_icmp .ne 17, 3) := by decide +kernel
theorem dX4_readLiteral_37 : decode cX4_readLiteral 37 = .ok (.aload_n 0, 1) := by decide +kernel
theorem dX4_readLiteral_38 : decode cX4_readLiteral 38 = .ok (.getfield 60, 3) := by decide +kernel
theorem dX4_readLiteral_41 : decode cX4_readLiteral 41 = .ok (.aload_n 0, 1) := by decide +kernel
theorem dX4_readLiteral_42 : decode cX4_readLiteral 42 = .ok (.getfield 63, 3) := by decide +kernel
theorem dX4_readLiteral_45 : decode cX4_readLiteral 45 = .ok (.ior, 1) := by decide +kernel
theorem dX4_readLiteral_46 : decode cX4_readLiteral 46 = .ok (.iload_n 3, 1) := by decide +kernel
theorem dX4_readLiteral_47 : decode cX4_readLiteral 47 = .ok (.iand, 1) := by decide +kernel
theorem dX4_readLiteral_48 : decode cX4_readLiteral 48 = .ok (.ifCond .eq 5, 3) := by decide +kernel
theorem dX4_readLiteral_51 : decode cX4_readLiteral 51 = .ok (.iconst 0, 1) := by decide +kernel
theorem dX4_readLiteral_52 : decode cX4_readLiteral 52 = .ok (.ireturn, 1) := by decide +kernel
theorem dX4_readLiteral_53 : decode cX4_readLiteral 53 = .ok (.aload_n 0, 1) := by decide +kernel
theorem dX4_readLiteral_54 : decode cX4_readLiteral 54 = .ok (.dup, 1) := by decide +kernel
theorem dX4_readLiteral_55 : decode cX4_readLiteral 55 = .ok (.getfield 60, 3) := by decide +kernel
theorem dX4_readLiteral_58 : decode cX4_readLiteral 58 = .ok (.iload_n 2, 1) := by decide +kernel
theorem dX4_readLiteral_59 : decode cX4_readLiteral 59 = .ok (.ifCond .eq 7, 3) := by decide +kernel
theorem dX4_readLiteral_62 : decode cX4_readLiteral 62 = .ok (.iconst 0, 1) := by decide +kernel
theorem dX4_readLiteral_63 : decode cX4_readLiteral 63 = .ok (.goto 4, 3) := by decide +kernel
theorem dX4_readLiteral_66 : decode cX4_readLiteral 66 = .ok (.iload_n 3, 1) := by decide +kernel
theorem dX4_readLiteral_67 : decode cX4_readLiteral 67 = .ok (.ior, 1) := by decide +kernel
theorem dX4_readLiteral_68 : decode cX4_readLiteral 68 = .ok (.putfield 60, 3) := by decide +kernel
theorem dX4_readLiteral_71 : decode cX4_readLiteral 71 = .ok (.aload_n 0, 1) := by decide +kernel
theorem dX4_readLiteral_72 : decode cX4_readLiteral 72 = .ok (.dup, 1) := by decide +kernel
theorem dX4_readLiteral_73 : decode cX4_readLiteral 73 = .ok (.getfield 63, 3) := by decide +kernel
theorem dX4_readLiteral_76 : decode cX4_readLiteral 76 = .ok (.iload_n 2, 1) := by decide +kernel
theorem dX4_readLiteral_77 : decode cX4_readLiteral 77 = .ok (.ifCond .eq 7, 3) := by decide +kernel
theorem dX4_readLiteral_80 : decode cX4_readLiteral 80 = .ok (.iload_n 3, 1) := by decide +kernel
theorem dX4_readLiteral_81 : decode cX4_readLiteral 81 = .ok (.goto 4, 3) := by decide +kernel
theorem dX4_readLiteral_84 : decode cX4_readLiteral 84 = .ok (.iconst 0, 1) := by decide +kernel
theorem dX4_readLiteral_85 : decode cX4_readLiteral 85 = .ok (.ior, 1) := by decide +kernel
theorem dX4_readLiteral_86 : decode cX4_readLiteral 86 = .ok (.putfield 63, 3) := by decide +kernel
theorem dX4_readLiteral_89 : decode cX4_readLiteral 89 = .ok (.aload_n 1, 1) := by decide +kernel
theorem dX4_readLiteral_90 : decode cX4_readLiteral 90 = .ok (.invokevirtual 66, 3) := by decide +kernel
theorem dX4_readLiteral_93 : decode cX4_readLiteral 93 = .ok (.iconst 1, 1) := by decide +kernel
theorem dX4_readLiteral_94 : decode cX4_readLiteral 94 = .ok (.ireturn, 1) := by decide +kernel
theorem dX4_readClause_0 : decode cX4_readClause 0 = .ok (.iload_n 2, 1) := by decide +kernel
theorem dX4_readClause_1 : decode cX4_readClause 1 = .ok (.ifCond .lt 17, 3) := by decide +kernel
theorem dX4_readClause_4 : decode cX4_readClause 4 = .ok (.iload_n 2, 1) := by decide +kernel
theorem dX4_readClause_5 : decode cX4_readClause 5 = .ok (.bipush 16, 2) := by decide +kernel
theorem dX4_readClause_7 : decode cX4_readClause 7 = .ok (.if_icmp .ge 11, 3) := by decide +kernel
theorem dX4_readClause_10 : decode cX4_readClause 10 = .ok (.aload_n 1, 1) := by decide +kernel
theorem dX4_readClause_11 : decode cX4_readClause 11 = .ok (.invokevirtual 46, 3) := by decide +kernel
theorem dX4_readClause_14 : decode cX4_readClause 14 = .ok (.iconst 1, 1) := by decide +kernel
theorem dX4_readClause_15 : decode cX4_readClause 15 = .ok (.if_icmp .eq 5, 3) := by decide +kernel
theorem dX4_readClause_18 : decode cX4_readClause 18 = .ok (.iconst 0, 1) := by decide +kernel
theorem dX4_readClause_19 : decode cX4_readClause 19 = .ok (.ireturn, 1) := by decide +kernel
theorem dX4_readClause_20 : decode cX4_readClause 20 = .ok (.aload_n 0, 1) := by decide +kernel
theorem dX4_readClause_21 : decode cX4_readClause 21 = .ok (.getfield 9, 3) := by decide +kernel
theorem dX4_readClause_24 : decode cX4_readClause 24 = .ok (.iload_n 2, 1) := by decide +kernel
theorem dX4_readClause_25 : decode cX4_readClause 25 = .ok (.aload_n 1, 1) := by decide +kernel
theorem dX4_readClause_26 : decode cX4_readClause 26 = .ok (.invokevirtual 57, 3) := by decide +kernel
theorem dX4_readClause_29 : decode cX4_readClause 29 = .ok (.iastore, 1) := by decide +kernel
theorem dX4_readClause_30 : decode cX4_readClause 30 = .ok (.aload_n 0, 1) := by decide +kernel
theorem dX4_readClause_31 : decode cX4_readClause 31 = .ok (.iconst 0, 1) := by decide +kernel
theorem dX4_readClause_32 : decode cX4_readClause 32 = .ok (.putfield 60, 3) := by decide +kernel
theorem dX4_readClause_35 : decode cX4_readClause 35 = .ok (.aload_n 0, 1) := by decide +kernel
theorem dX4_readClause_36 : decode cX4_readClause 36 = .ok (.iconst 0, 1) := by decide +kernel
theorem dX4_readClause_37 : decode cX4_readClause 37 = .ok (.putfield 63, 3) := by decide +kernel
theorem dX4_readClause_40 : decode cX4_readClause 40 = .ok (.aload_n 1, 1) := by decide +kernel
theorem dX4_readClause_41 : decode cX4_readClause 41 = .ok (.invokevirtual 66, 3) := by decide +kernel
theorem dX4_readClause_44 : decode cX4_readClause 44 = .ok (.iconst 0, 1) := by decide +kernel
theorem dX4_readClause_45 : decode cX4_readClause 45 = .ok (.istore_n 3, 1) := by decide +kernel
theorem dX4_readClause_46 : decode cX4_readClause 46 = .ok (.iload_n 3, 1) := by decide +kernel
theorem dX4_readClause_47 : decode cX4_readClause 47 = .ok (.bipush 8, 2) := by decide +kernel
theorem dX4_readClause_49 : decode cX4_readClause 49 = .ok (.if_icmp .gt 28, 3) := by decide +kernel
theorem dX4_readClause_52 : decode cX4_readClause 52 = .ok (.aload_n 1, 1) := by decide +kernel
theorem dX4_readClause_53 : decode cX4_readClause 53 = .ok (.invokevirtual 46, 3) := by decide +kernel
theorem dX4_readClause_56 : decode cX4_readClause 56 = .ok (.bipush 6, 2) := by decide +kernel
theorem dX4_readClause_58 : decode cX4_readClause 58 = .ok (.if_icmp .eq 19, 3) := by decide +kernel
theorem dX4_readClause_61 : decode cX4_readClause 61 = .ok (.aload_n 0, 1) := by decide +kernel
theorem dX4_readClause_62 : decode cX4_readClause 62 = .ok (.aload_n 1, 1) := by decide +kernel
theorem dX4_readClause_63 : decode cX4_readClause 63 = .ok (.invokevirtual 69, 3) := by decide +kernel
theorem dX4_readClause_66 : decode cX4_readClause 66 = .ok (.ifCond .ne 5, 3) := by decide +kernel
theorem dX4_readClause_69 : decode cX4_readClause 69 = .ok (.iconst 0, 1) := by decide +kernel
theorem dX4_readClause_70 : decode cX4_readClause 70 = .ok (.ireturn, 1) := by decide +kernel
theorem dX4_readClause_71 : decode cX4_readClause 71 = .ok (.iinc 3 1, 3) := by decide +kernel
theorem dX4_readClause_74 : decode cX4_readClause 74 = .ok (.goto (-28), 3) := by decide +kernel
theorem dX4_readClause_77 : decode cX4_readClause 77 = .ok (.aload_n 0, 1) := by decide +kernel
theorem dX4_readClause_78 : decode cX4_readClause 78 = .ok (.getfield 15, 3) := by decide +kernel
theorem dX4_readClause_81 : decode cX4_readClause 81 = .ok (.iload_n 2, 1) := by decide +kernel
theorem dX4_readClause_82 : decode cX4_readClause 82 = .ok (.aload_n 0, 1) := by decide +kernel
theorem dX4_readClause_83 : decode cX4_readClause 83 = .ok (.getfield 60, 3) := by decide +kernel
theorem dX4_readClause_86 : decode cX4_readClause 86 = .ok (.iastore, 1) := by decide +kernel
theorem dX4_readClause_87 : decode cX4_readClause 87 = .ok (.aload_n 0, 1) := by decide +kernel
theorem dX4_readClause_88 : decode cX4_readClause 88 = .ok (.getfield 18, 3) := by decide +kernel
theorem dX4_readClause_91 : decode cX4_readClause 91 = .ok (.iload_n 2, 1) := by decide +kernel
theorem dX4_readClause_92 : decode cX4_readClause 92 = .ok (.aload_n 0, 1) := by decide +kernel
theorem dX4_readClause_93 : decode cX4_readClause 93 = .ok (.getfield 63, 3) := by decide +kernel
theorem dX4_readClause_96 : decode cX4_readClause 96 = .ok (.iastore, 1) := by decide +kernel
theorem dX4_readClause_97 : decode cX4_readClause 97 = .ok (.aload_n 1, 1) := by decide +kernel
theorem dX4_readClause_98 : decode cX4_readClause 98 = .ok (.bipush 6, 2) := by decide +kernel
theorem dX4_readClause_100 : decode cX4_readClause 100 = .ok (.invokestatic 73, 3) := by decide +kernel
theorem dX4_readClause_103 : decode cX4_readClause 103 = .ok (.ireturn, 1) := by decide +kernel
set_option maxRecDepth 20000 in
set_option maxHeartbeats 1000000 in
theorem s_X4_passed {xs : Nat → Int32} {L d : Nat} {h : ev_H} {f : Nat → Int32} {n p : Nat} {kk : Int32} (hS : SH h) (hn : n ≤ 300) (hp : p ≤ n) (h3 : h 3 = cT f n p) (h4 : h 4 = c4 f) : EV xs L (d + 4) 0 0 M_X4_passed 434 h 0 [some (.ref 3), some (.int kk)] [] (fun sz' h' r => sz' = 434 ∧ SH h' ∧ KM [3] h h' ∧ ((tK f n p = kk ∧ h' 3 = cT f n (rdP f n p) ∧ r = [.int 1]) ∨ (¬ tK f n p = kk ∧ h' 3 = cT f n p ∧ r = [.int 0]))) := by
  refine r_aload_n rfl dX4_passed_0 rfl ?_
  refine cl_X4_46 rfl rfl dX4_passed_1 (show 2 ≤ 3 ∧ 3 < 434 by decide).1 (show 2 ≤ 3 ∧ 3 < 434 by decide).2 h3 (Nat.le_of_ble_eq_true rfl) (s_X8_kind h3) ?_
  rintro _ h51 _ ⟨rfl, e52, rfl⟩
  replace e52 := e52.symm
  subst e52
  refine r_iload_n rfl dX4_passed_4 rfl ?_
  refine r_icmp_eq (tgt := 10) rfl rfl dX4_passed_5 (fun c53 => ?_) (fun c53 => ?_)
  · refine r_aload_n rfl dX4_passed_10 rfl ?_
    refine cl_X4_66 rfl rfl dX4_passed_11 (show 2 ≤ 3 ∧ 3 < 434 by decide).1 (show 2 ≤ 3 ∧ 3 < 434 by decide).2 h3 (Nat.le_of_ble_eq_true rfl) (t_next hS hp hn h3 h4) ?_
    rintro _ h54 _ ⟨rfl, hS55, hK56, f57, rfl⟩
    have hF58 := KM_tr (KM_rf (Mod := [3]) h) (KM_sb (by decide) hK56)
    have f59 : h54 4 = .inl (2, 300, .inl f) := (hK56 4 (by decide)).trans h4
    refine r_iconst (v := 1) rfl dX4_passed_14 (by decide) ?_
    exact r_ret dX4_passed_15 (rt_z rfl (Or.inr rfl)) ⟨rfl, hS55, hF58, Or.inl ⟨c53, f57, rfl⟩⟩
  · refine r_iconst (v := 0) rfl dX4_passed_8 (by decide) ?_
    exact r_ret dX4_passed_9 (rt_z rfl (Or.inl rfl)) ⟨rfl, hS, (KM_rf (Mod := [3]) h), Or.inr ⟨c53, h3, rfl⟩⟩
set_option maxRecDepth 20000 in
set_option maxHeartbeats 1000000 in
theorem s_X4_readLiteral {xs : Nat → Int32} {L d : Nat} {h : ev_H} {f : Nat → Int32} {n p : Nat} {cr pl tu sr : Int32} (hS : SH h) (hn : n ≤ 300) (hp : p ≤ n) (h3 : h 3 = cT f n p) (h4 : h 4 = c4 f) (h5 : h 5 = c5 cr pl tu sr) : EV xs L (d + 4) 0 0 M_X4_readLiteral 434 h 0 [some (.ref 5), some (.ref 3), none, none] [] (fun sz' h' r => sz' = 434 ∧ SH h' ∧ KM [3, 5] h h' ∧ ((LIT f n p (pl ||| tu) ∧ h' 3 = cT f n (rdP f n (lp f n p)) ∧ h' 5 = c5 cr (if tK f n p = 5 then pl else pl ||| lb f n p) (if tK f n p = 5 then tu ||| lb f n p else tu) sr ∧ r = [.int 1]) ∨ (¬ LIT f n p (pl ||| tu) ∧ h' 3 = cT f n (lp f n p) ∧ h' 5 = c5 cr pl tu sr ∧ r = [.int 0]))) := by
  refine r_aload_n rfl dX4_readLiteral_0 rfl ?_
  refine cl_X4_46 rfl rfl dX4_readLiteral_1 (show 2 ≤ 3 ∧ 3 < 434 by decide).1 (show 2 ≤ 3 ∧ 3 < 434 by decide).2 h3 (Nat.le_of_ble_eq_true rfl) (s_X8_kind h3) ?_
  rintro _ h51 _ ⟨rfl, e52, rfl⟩
  replace e52 := e52.symm
  subst e52
  refine r_iconst (v := 5) rfl dX4_readLiteral_4 (by decide) ?_
  refine r_icmp_ne (tgt := 12) rfl rfl dX4_readLiteral_5 (fun c53 => ?_) (fun c53 => ?_)
  · have elp54 : lp f n p = p := by unfold lp; exact if_neg c53
    refine r_iconst (v := 0) rfl dX4_readLiteral_12 (by decide) ?_
    refine r_istore_n (ls' := [some (.ref 5), some (.ref 3), some (.int 0), none]) rfl dX4_readLiteral_13 (Nat.le_of_ble_eq_true rfl) rfl ?_
    refine r_iload_n rfl dX4_readLiteral_14 rfl ?_
    refine r_if_eq (tgt := 22) rfl rfl dX4_readLiteral_15 (fun _ => ?_) (fun zc => absurd zc (by decide))
    refine r_iconst (v := 1) rfl dX4_readLiteral_22 (by decide) ?_
    refine r_aload_n rfl dX4_readLiteral_23 rfl ?_
    refine cl_X4_57 rfl rfl dX4_readLiteral_24 (show 2 ≤ 3 ∧ 3 < 434 by decide).1 (show 2 ≤ 3 ∧ 3 < 434 by decide).2 h3 (Nat.le_of_ble_eq_true rfl) (s_X8_value h3) ?_
    rintro _ h55 _ ⟨rfl, e56, rfl⟩
    replace e56 := e56.symm
    subst e56
    refine r_ishl rfl dX4_readLiteral_27 ?_
    refine r_topi (fun x57 e58 => ?_)
    refine r_istore_n (ls' := [some (.ref 5), some (.ref 3), some (.int 0), some (.int x57)]) rfl dX4_readLiteral_28 (Nat.le_of_ble_eq_true rfl) rfl ?_
    refine r_aload_n rfl dX4_readLiteral_29 rfl ?_
    refine cl_X4_46 rfl rfl dX4_readLiteral_30 (show 2 ≤ 3 ∧ 3 < 434 by decide).1 (show 2 ≤ 3 ∧ 3 < 434 by decide).2 h3 (Nat.le_of_ble_eq_true rfl) (s_X8_kind h3) ?_
    rintro _ h59 _ ⟨rfl, e60, rfl⟩
    replace e60 := e60.symm
    subst e60
    refine r_iconst (v := 3) rfl dX4_readLiteral_33 (by decide) ?_
    refine r_icmp_ne (tgt := 51) rfl rfl dX4_readLiteral_34 (fun c61 => ?_) (fun c61 => ?_)
    · refine r_iconst (v := 0) rfl dX4_readLiteral_51 (by decide) ?_
      have elb62 : lb f n p = x57 := by unfold lb; rw [elp54]; exact e58.symm
      exact r_ret dX4_readLiteral_52 (rt_z rfl (Or.inl rfl)) ⟨rfl, hS, (KM_rf (Mod := [3, 5]) h), Or.inr ⟨fun z => c61 (by have z1 := z.1; rw [elp54] at z1; exact z1), by rw [elp54]; exact h3, h5, rfl⟩⟩
    · refine r_aload_n rfl dX4_readLiteral_37 rfl ?_
      refine r_getv 4 rfl dX4_readLiteral_38 (show 2 ≤ 5 ∧ 5 < 434 by decide) h5 fl_X4_60 rfl ?_
      refine r_aload_n rfl dX4_readLiteral_41 rfl ?_
      refine r_getv 5 rfl dX4_readLiteral_42 (show 2 ≤ 5 ∧ 5 < 434 by decide) h5 fl_X4_63 rfl ?_
      refine r_ior rfl dX4_readLiteral_45 ?_
      refine r_iload_n rfl dX4_readLiteral_46 rfl ?_
      refine r_iand rfl dX4_readLiteral_47 ?_
      refine r_if_eq (tgt := 53) rfl rfl dX4_readLiteral_48 (fun c63 => ?_) (fun c63 => ?_)
      · refine r_aload_n rfl dX4_readLiteral_53 rfl ?_
        refine r_dup rfl dX4_readLiteral_54 rfl ?_
        refine r_getv 4 rfl dX4_readLiteral_55 (show 2 ≤ 5 ∧ 5 < 434 by decide) h5 fl_X4_60 rfl ?_
        refine r_iload_n rfl dX4_readLiteral_58 rfl ?_
        refine r_if_eq (tgt := 66) rfl rfl dX4_readLiteral_59 (fun _ => ?_) (fun zc => absurd zc (by decide))
        refine r_iload_n rfl dX4_readLiteral_66 rfl ?_
        refine r_ior rfl dX4_readLiteral_67 ?_
        refine e_put 4 (fs' := [.ref 6, .ref 7, .ref 8, .int cr, .int (pl ||| x57), .int tu, .ref 9, .ref 10, .ref 11, .int sr]) rfl dX4_readLiteral_68 (show 2 ≤ 5 ∧ 5 < 434 by decide) hS (KM_rf (Mod := [3, 5]) h) (by decide) h5 (fp_X4_60 rfl _) (Nat.le_of_ble_eq_true rfl) rfl (fun h64 hS65 hF66 hN67 f68 => ?_)
        have f69 : h64 3 = .inr (8, [.ref 4, .int (nI n), .int (nI (rdP f n p)), .int (nI (rdS f n p)), .int (tK f n p), .int (tV f n p)]) := (hN67 3 (by decide)).trans h3
        have f70 : h64 4 = .inl (2, 300, .inl f) := (hN67 4 (by decide)).trans h4
        refine r_aload_n rfl dX4_readLiteral_71 rfl ?_
        refine r_dup rfl dX4_readLiteral_72 rfl ?_
        refine r_getv 5 rfl dX4_readLiteral_73 (show 2 ≤ 5 ∧ 5 < 434 by decide) f68 fl_X4_63 rfl ?_
        refine r_iload_n rfl dX4_readLiteral_76 rfl ?_
        refine r_if_eq (tgt := 84) rfl rfl dX4_readLiteral_77 (fun _ => ?_) (fun zc => absurd zc (by decide))
        refine r_iconst (v := 0) rfl dX4_readLiteral_84 (by decide) ?_
        refine r_ior rfl dX4_readLiteral_85 ?_
        refine r_eqi (y := tu) (by simp) ?_
        refine e_put 5 (fs' := [.ref 6, .ref 7, .ref 8, .int cr, .int (pl ||| x57), .int tu, .ref 9, .ref 10, .ref 11, .int sr]) rfl dX4_readLiteral_86 (show 2 ≤ 5 ∧ 5 < 434 by decide) hS65 hF66 (by decide) f68 (fp_X4_63 rfl _) (Nat.le_of_ble_eq_true rfl) rfl (fun h71 hS72 hF73 hN74 f75 => ?_)
        have f76 : h71 3 = .inr (8, [.ref 4, .int (nI n), .int (nI (rdP f n p)), .int (nI (rdS f n p)), .int (tK f n p), .int (tV f n p)]) := (hN74 3 (by decide)).trans f69
        have f77 : h71 4 = .inl (2, 300, .inl f) := (hN74 4 (by decide)).trans f70
        refine r_aload_n rfl dX4_readLiteral_89 rfl ?_
        refine cl_X4_66 rfl rfl dX4_readLiteral_90 (show 2 ≤ 3 ∧ 3 < 434 by decide).1 (show 2 ≤ 3 ∧ 3 < 434 by decide).2 f76 (Nat.le_of_ble_eq_true rfl) (t_next hS72 hp hn f76 f77) ?_
        rintro _ h78 _ ⟨rfl, hS79, hK80, f81, rfl⟩
        have hF82 := KM_tr hF73 (KM_sb (by decide) hK80)
        have f83 : h78 4 = .inl (2, 300, .inl f) := (hK80 4 (by decide)).trans f77
        have f84 : h78 5 = .inr (4, [.ref 6, .ref 7, .ref 8, .int cr, .int (pl ||| x57), .int tu, .ref 9, .ref 10, .ref 11, .int sr]) := (hK80 5 (by decide)).trans f75
        refine r_iconst (v := 1) rfl dX4_readLiteral_93 (by decide) ?_
        have elb85 : lb f n p = x57 := by unfold lb; rw [elp54]; exact e58.symm
        exact r_ret dX4_readLiteral_94 (rt_z rfl (Or.inr rfl)) ⟨rfl, hS79, hF82, Or.inl ⟨⟨by rw [elp54]; exact c61, by rw [elb85]; exact c63⟩, by rw [elp54]; exact f81, by rw [elb85, if_neg c53, if_neg c53]; exact f84, rfl⟩⟩
      · refine r_iconst (v := 0) rfl dX4_readLiteral_51 (by decide) ?_
        have elb86 : lb f n p = x57 := by unfold lb; rw [elp54]; exact e58.symm
        exact r_ret dX4_readLiteral_52 (rt_z rfl (Or.inl rfl)) ⟨rfl, hS, (KM_rf (Mod := [3, 5]) h), Or.inr ⟨fun z => c63 (by have z2 := z.2; rw [elb86] at z2; exact z2), by rw [elp54]; exact h3, h5, rfl⟩⟩
  · have elp87 : lp f n p = rdP f n p := by unfold lp; exact if_pos c53
    refine r_iconst (v := 1) rfl dX4_readLiteral_8 (by decide) ?_
    refine r_goto (pc' := 13) rfl dX4_readLiteral_9 ?_
    refine r_istore_n (ls' := [some (.ref 5), some (.ref 3), some (.int 1), none]) rfl dX4_readLiteral_13 (Nat.le_of_ble_eq_true rfl) rfl ?_
    refine r_iload_n rfl dX4_readLiteral_14 rfl ?_
    refine r_if_eq (tgt := 22) rfl rfl dX4_readLiteral_15 (fun zc => absurd zc (by decide)) (fun _ => ?_)
    refine r_aload_n rfl dX4_readLiteral_18 rfl ?_
    refine cl_X4_66 rfl rfl dX4_readLiteral_19 (show 2 ≤ 3 ∧ 3 < 434 by decide).1 (show 2 ≤ 3 ∧ 3 < 434 by decide).2 h3 (Nat.le_of_ble_eq_true rfl) (t_next hS hp hn h3 h4) ?_
    rintro _ h88 _ ⟨rfl, hS89, hK90, f91, rfl⟩
    have hF92 := KM_tr (KM_rf (Mod := [3, 5]) h) (KM_sb (by decide) hK90)
    have f93 : h88 4 = .inl (2, 300, .inl f) := (hK90 4 (by decide)).trans h4
    have f94 : h88 5 = .inr (4, [.ref 6, .ref 7, .ref 8, .int cr, .int pl, .int tu, .ref 9, .ref 10, .ref 11, .int sr]) := (hK90 5 (by decide)).trans h5
    refine r_iconst (v := 1) rfl dX4_readLiteral_22 (by decide) ?_
    refine r_aload_n rfl dX4_readLiteral_23 rfl ?_
    refine cl_X4_57 rfl rfl dX4_readLiteral_24 (show 2 ≤ 3 ∧ 3 < 434 by decide).1 (show 2 ≤ 3 ∧ 3 < 434 by decide).2 f91 (Nat.le_of_ble_eq_true rfl) (s_X8_value f91) ?_
    rintro _ h95 _ ⟨rfl, e96, rfl⟩
    replace e96 := e96.symm
    subst e96
    refine r_ishl rfl dX4_readLiteral_27 ?_
    refine r_topi (fun x97 e98 => ?_)
    refine r_istore_n (ls' := [some (.ref 5), some (.ref 3), some (.int 1), some (.int x97)]) rfl dX4_readLiteral_28 (Nat.le_of_ble_eq_true rfl) rfl ?_
    refine r_aload_n rfl dX4_readLiteral_29 rfl ?_
    refine cl_X4_46 rfl rfl dX4_readLiteral_30 (show 2 ≤ 3 ∧ 3 < 434 by decide).1 (show 2 ≤ 3 ∧ 3 < 434 by decide).2 f91 (Nat.le_of_ble_eq_true rfl) (s_X8_kind f91) ?_
    rintro _ h99 _ ⟨rfl, e100, rfl⟩
    replace e100 := e100.symm
    subst e100
    refine r_iconst (v := 3) rfl dX4_readLiteral_33 (by decide) ?_
    refine r_icmp_ne (tgt := 51) rfl rfl dX4_readLiteral_34 (fun c101 => ?_) (fun c101 => ?_)
    · refine r_iconst (v := 0) rfl dX4_readLiteral_51 (by decide) ?_
      have elb102 : lb f n p = x97 := by unfold lb; rw [elp87]; exact e98.symm
      exact r_ret dX4_readLiteral_52 (rt_z rfl (Or.inl rfl)) ⟨rfl, hS89, hF92, Or.inr ⟨fun z => c101 (by have z1 := z.1; rw [elp87] at z1; exact z1), by rw [elp87]; exact f91, f94, rfl⟩⟩
    · refine r_aload_n rfl dX4_readLiteral_37 rfl ?_
      refine r_getv 4 rfl dX4_readLiteral_38 (show 2 ≤ 5 ∧ 5 < 434 by decide) f94 fl_X4_60 rfl ?_
      refine r_aload_n rfl dX4_readLiteral_41 rfl ?_
      refine r_getv 5 rfl dX4_readLiteral_42 (show 2 ≤ 5 ∧ 5 < 434 by decide) f94 fl_X4_63 rfl ?_
      refine r_ior rfl dX4_readLiteral_45 ?_
      refine r_iload_n rfl dX4_readLiteral_46 rfl ?_
      refine r_iand rfl dX4_readLiteral_47 ?_
      refine r_if_eq (tgt := 53) rfl rfl dX4_readLiteral_48 (fun c103 => ?_) (fun c103 => ?_)
      · refine r_aload_n rfl dX4_readLiteral_53 rfl ?_
        refine r_dup rfl dX4_readLiteral_54 rfl ?_
        refine r_getv 4 rfl dX4_readLiteral_55 (show 2 ≤ 5 ∧ 5 < 434 by decide) f94 fl_X4_60 rfl ?_
        refine r_iload_n rfl dX4_readLiteral_58 rfl ?_
        refine r_if_eq (tgt := 66) rfl rfl dX4_readLiteral_59 (fun zc => absurd zc (by decide)) (fun _ => ?_)
        refine r_iconst (v := 0) rfl dX4_readLiteral_62 (by decide) ?_
        refine r_goto (pc' := 67) rfl dX4_readLiteral_63 ?_
        refine r_ior rfl dX4_readLiteral_67 ?_
        refine r_eqi (y := pl) (by simp) ?_
        refine e_put 4 (fs' := [.ref 6, .ref 7, .ref 8, .int cr, .int pl, .int tu, .ref 9, .ref 10, .ref 11, .int sr]) rfl dX4_readLiteral_68 (show 2 ≤ 5 ∧ 5 < 434 by decide) hS89 hF92 (by decide) f94 (fp_X4_60 rfl _) (Nat.le_of_ble_eq_true rfl) rfl (fun h104 hS105 hF106 hN107 f108 => ?_)
        have f109 : h104 4 = .inl (2, 300, .inl f) := (hN107 4 (by decide)).trans f93
        have f110 : h104 3 = .inr (8, [.ref 4, .int (nI n), .int (nI (rdP f n (rdP f n p))), .int (nI (rdS f n (rdP f n p))), .int (tK f n (rdP f n p)), .int (tV f n (rdP f n p))]) := (hN107 3 (by decide)).trans f91
        refine r_aload_n rfl dX4_readLiteral_71 rfl ?_
        refine r_dup rfl dX4_readLiteral_72 rfl ?_
        refine r_getv 5 rfl dX4_readLiteral_73 (show 2 ≤ 5 ∧ 5 < 434 by decide) f108 fl_X4_63 rfl ?_
        refine r_iload_n rfl dX4_readLiteral_76 rfl ?_
        refine r_if_eq (tgt := 84) rfl rfl dX4_readLiteral_77 (fun zc => absurd zc (by decide)) (fun _ => ?_)
        refine r_iload_n rfl dX4_readLiteral_80 rfl ?_
        refine r_goto (pc' := 85) rfl dX4_readLiteral_81 ?_
        refine r_ior rfl dX4_readLiteral_85 ?_
        refine e_put 5 (fs' := [.ref 6, .ref 7, .ref 8, .int cr, .int pl, .int (tu ||| x97), .ref 9, .ref 10, .ref 11, .int sr]) rfl dX4_readLiteral_86 (show 2 ≤ 5 ∧ 5 < 434 by decide) hS105 hF106 (by decide) f108 (fp_X4_63 rfl _) (Nat.le_of_ble_eq_true rfl) rfl (fun h111 hS112 hF113 hN114 f115 => ?_)
        have f116 : h111 4 = .inl (2, 300, .inl f) := (hN114 4 (by decide)).trans f109
        have f117 : h111 3 = .inr (8, [.ref 4, .int (nI n), .int (nI (rdP f n (rdP f n p))), .int (nI (rdS f n (rdP f n p))), .int (tK f n (rdP f n p)), .int (tV f n (rdP f n p))]) := (hN114 3 (by decide)).trans f110
        refine r_aload_n rfl dX4_readLiteral_89 rfl ?_
        refine cl_X4_66 rfl rfl dX4_readLiteral_90 (show 2 ≤ 3 ∧ 3 < 434 by decide).1 (show 2 ≤ 3 ∧ 3 < 434 by decide).2 f117 (Nat.le_of_ble_eq_true rfl) (t_next hS112 (rdP_le f hp) hn f117 f116) ?_
        rintro _ h118 _ ⟨rfl, hS119, hK120, f121, rfl⟩
        have hF122 := KM_tr hF113 (KM_sb (by decide) hK120)
        have f123 : h118 4 = .inl (2, 300, .inl f) := (hK120 4 (by decide)).trans f116
        have f124 : h118 5 = .inr (4, [.ref 6, .ref 7, .ref 8, .int cr, .int pl, .int (tu ||| x97), .ref 9, .ref 10, .ref 11, .int sr]) := (hK120 5 (by decide)).trans f115
        refine r_iconst (v := 1) rfl dX4_readLiteral_93 (by decide) ?_
        have elb125 : lb f n p = x97 := by unfold lb; rw [elp87]; exact e98.symm
        exact r_ret dX4_readLiteral_94 (rt_z rfl (Or.inr rfl)) ⟨rfl, hS119, hF122, Or.inl ⟨⟨by rw [elp87]; exact c101, by rw [elb125]; exact c103⟩, by rw [elp87]; exact f121, by rw [elb125, if_pos c53, if_pos c53]; exact f124, rfl⟩⟩
      · refine r_iconst (v := 0) rfl dX4_readLiteral_51 (by decide) ?_
        have elb126 : lb f n p = x97 := by unfold lb; rw [elp87]; exact e98.symm
        exact r_ret dX4_readLiteral_52 (rt_z rfl (Or.inl rfl)) ⟨rfl, hS89, hF92, Or.inr ⟨fun z => c103 (by have z2 := z.2; rw [elb126] at z2; exact z2), by rw [elp87]; exact f91, f94, rfl⟩⟩
theorem UI_lit {f g : Nat → Int32} {n p m : Nat} {pl tu : Int32} (hX : TXR f g n) (hp : p ≤ n) (hu : UI m (pl ||| tu)) (hl : LIT f n p (pl ||| tu)) : ∃ m', m = m' + 1 ∧ UI m' ((if tK f n p = 5 then pl else pl ||| lb f n p) ||| (if tK f n p = 5 then tu ||| lb f n p else tu)) := by
  obtain ⟨v, hv, ev⟩ := tV3 hX (lp_le f hp) hl.1
  obtain ⟨m', e, hm⟩ := UI_s hu hv ev hl.2
  refine ⟨m', e, ?_⟩
  change UI m' (pl ||| tu ||| lb f n p) at hm
  split
  · rw [← Int32.or_assoc]; exact hm
  · rw [Int32.or_assoc, Int32.or_comm (lb f n p) tu, ← Int32.or_assoc]; exact hm
/-- what readClause leaves -/
def rcQ (f : Nat → Int32) (n i : Nat) (cr sr : Int32) (B C : Nat → Int32) (h0 : ev_H) (q : Bool × Nat × Int32 × Int32) : ev_Q := fun sz' h' r => sz' = 434 ∧ SH h' ∧ KM [3, 5, 6, 7, 8] h0 h' ∧ ((q.1 = true ∧ h' 3 = cT f n (rdP f n q.2.1) ∧ (∃ a b, h' 5 = c5 cr a b sr) ∧ h' 6 = h0 6 ∧ h' 7 = cI 16 (upd B i q.2.2.1) ∧ h' 8 = cI 16 (upd C i q.2.2.2) ∧ r = [.int 1]) ∨ (q.1 = false ∧ h' 3 = cT f n q.2.1 ∧ (∃ a b, h' 5 = c5 cr a b sr) ∧ r = [.int 0]))
set_option maxRecDepth 20000 in
set_option maxHeartbeats 1000000 in
theorem s_X4_readClause_step {xs : Nat → Int32} {L d : Nat} {h : ev_H} {f g : Nat → Int32} {n p i m : Nat} {cr pl tu sr : Int32} {B C : Nat → Int32} (hS : SH h) (hn : n ≤ 300) (hp : p ≤ n) (h3 : h 3 = cT f n p) (h4 : h 4 = c4 f) (h5 : h 5 = c5 cr pl tu sr) (h7 : h 7 = cI 16 B) (h8 : h 8 = cI 16 C) (hi : i < 16) (hm : m ≤ 8) (hX : TXR f g n) (hu : UI m (pl ||| tu)) (ih : ∀ (m' p' : Nat) (pl' tu' : Int32) (h' : ev_H), m = m' + 1 → p' ≤ n → UI m' (pl' ||| tu') → SH h' → h' 3 = cT f n p' → h' 4 = c4 f → h' 5 = c5 cr pl' tu' sr → h' 7 = cI 16 B → h' 8 = cI 16 C → EV xs L (d + 5) 0 0 M_X4_readClause 434 h' 46 [some (.ref 5), some (.ref 3), some (.int (nI i)), some (.int (nI (8 - m')))] [] (rcQ f n i cr sr B C h' (clL f n m' p' pl' tu'))) : EV xs L (d + 5) 0 0 M_X4_readClause 434 h 46 [some (.ref 5), some (.ref 3), some (.int (nI i)), some (.int (nI (8 - m)))] [] (rcQ f n i cr sr B C h (clL f n m p pl tu)) := by
  refine r_iload_n rfl dX4_readClause_46 rfl ?_
  refine r_bipush (v := 8) rfl dX4_readClause_47 (by decide) ?_
  refine r_icmp_gt (tgt := 77) rfl rfl dX4_readClause_49 (fun zc => absurd zc (show ¬ (8 : Int32) < nI (8 - m) from nI_nlt (a := 8) (b := 8 - m) (by omega) (by omega))) (fun _ => ?_)
  refine r_aload_n rfl dX4_readClause_52 rfl ?_
  refine cl_X4_46 rfl rfl dX4_readClause_53 (show 2 ≤ 3 ∧ 3 < 434 by decide).1 (show 2 ≤ 3 ∧ 3 < 434 by decide).2 h3 (Nat.le_of_ble_eq_true rfl) (s_X8_kind h3) ?_
  rintro _ h51 _ ⟨rfl, e52, rfl⟩
  replace e52 := e52.symm
  subst e52
  refine r_bipush (v := 6) rfl dX4_readClause_56 (by decide) ?_
  refine r_icmp_eq (tgt := 77) rfl rfl dX4_readClause_58 (fun c53 => ?_) (fun c53 => ?_)
  · refine r_aload_n rfl dX4_readClause_77 rfl ?_
    refine r_getv 1 rfl dX4_readClause_78 (show 2 ≤ 5 ∧ 5 < 434 by decide) h5 fl_X4_15 rfl ?_
    refine r_iload_n rfl dX4_readClause_81 rfl ?_
    refine r_aload_n rfl dX4_readClause_82 rfl ?_
    refine r_getv 4 rfl dX4_readClause_83 (show 2 ≤ 5 ∧ 5 < 434 by decide) h5 fl_X4_60 rfl ?_
    refine e_iast (jn := i) rfl dX4_readClause_86 (show 2 ≤ 7 ∧ 7 < 434 by decide) hS (KM_rf (Mod := [3, 5, 6, 7, 8]) h) (by decide) h7 (vp_in_nI (n := i) (by omega) (by decide)) (nI_clamp (n := i) (by omega)) (fun h54 hS55 hF56 hN57 f58 => ?_)
    have f59 : h54 3 = .inr (8, [.ref 4, .int (nI n), .int (nI (rdP f n p)), .int (nI (rdS f n p)), .int (tK f n p), .int (tV f n p)]) := (hN57 3 (by decide)).trans h3
    have f60 : h54 4 = .inl (2, 300, .inl f) := (hN57 4 (by decide)).trans h4
    have f61 : h54 5 = .inr (4, [.ref 6, .ref 7, .ref 8, .int cr, .int pl, .int tu, .ref 9, .ref 10, .ref 11, .int sr]) := (hN57 5 (by decide)).trans h5
    have f62 : h54 8 = .inl (0, 16, .inl C) := (hN57 8 (by decide)).trans h8
    have f63 : h54 6 = h 6 := (hN57 6 (by decide)).trans rfl
    refine r_aload_n rfl dX4_readClause_87 rfl ?_
    refine r_getv 2 rfl dX4_readClause_88 (show 2 ≤ 5 ∧ 5 < 434 by decide) f61 fl_X4_18 rfl ?_
    refine r_iload_n rfl dX4_readClause_91 rfl ?_
    refine r_aload_n rfl dX4_readClause_92 rfl ?_
    refine r_getv 5 rfl dX4_readClause_93 (show 2 ≤ 5 ∧ 5 < 434 by decide) f61 fl_X4_63 rfl ?_
    refine e_iast (jn := i) rfl dX4_readClause_96 (show 2 ≤ 8 ∧ 8 < 434 by decide) hS55 hF56 (by decide) f62 (vp_in_nI (n := i) (by omega) (by decide)) (nI_clamp (n := i) (by omega)) (fun h64 hS65 hF66 hN67 f68 => ?_)
    have f69 : h64 3 = .inr (8, [.ref 4, .int (nI n), .int (nI (rdP f n p)), .int (nI (rdS f n p)), .int (tK f n p), .int (tV f n p)]) := (hN67 3 (by decide)).trans f59
    have f70 : h64 4 = .inl (2, 300, .inl f) := (hN67 4 (by decide)).trans f60
    have f71 : h64 5 = .inr (4, [.ref 6, .ref 7, .ref 8, .int cr, .int pl, .int tu, .ref 9, .ref 10, .ref 11, .int sr]) := (hN67 5 (by decide)).trans f61
    have f72 : h64 6 = h 6 := (hN67 6 (by decide)).trans f63
    have f73 : h64 7 = .inl (0, 16, .inl (upd B i pl)) := (hN67 7 (by decide)).trans f58
    refine r_aload_n rfl dX4_readClause_97 rfl ?_
    refine r_bipush (v := 6) rfl dX4_readClause_98 (by decide) ?_
    refine cl_X4_73 rfl rfl dX4_readClause_100 (Nat.le_of_ble_eq_true rfl) (s_X4_passed hS65 hn hp f69 f70) ?_
    rintro _ h74 _ ⟨rfl, hS75, hK76, ⟨c77, f78, rfl⟩ | ⟨c77, f78, rfl⟩⟩
    · have hF79 := KM_tr hF66 (KM_sb (by decide) hK76)
      have f80 : h74 4 = .inl (2, 300, .inl f) := (hK76 4 (by decide)).trans f70
      have f81 : h74 5 = .inr (4, [.ref 6, .ref 7, .ref 8, .int cr, .int pl, .int tu, .ref 9, .ref 10, .ref 11, .int sr]) := (hK76 5 (by decide)).trans f71
      have f82 : h74 6 = h 6 := (hK76 6 (by decide)).trans f72
      have f83 : h74 7 = .inl (0, 16, .inl (upd B i pl)) := (hK76 7 (by decide)).trans f73
      have f84 : h74 8 = .inl (0, 16, .inl (upd C i tu)) := (hK76 8 (by decide)).trans f68
      have e85 : clL f n m p pl tu = (true, p, pl, tu) := by cases m <;> (unfold clL; exact if_pos c53)
      exact r_ret dX4_readClause_103 (rt_z rfl (Or.inr rfl)) (by rw [e85]; exact ⟨rfl, hS75, hF79, Or.inl ⟨rfl, f78, ⟨_, _, f81⟩, f82, f83, f84, rfl⟩⟩)
    · have hF79 := KM_tr hF66 (KM_sb (by decide) hK76)
      have f86 : h74 4 = .inl (2, 300, .inl f) := (hK76 4 (by decide)).trans f70
      have f87 : h74 5 = .inr (4, [.ref 6, .ref 7, .ref 8, .int cr, .int pl, .int tu, .ref 9, .ref 10, .ref 11, .int sr]) := (hK76 5 (by decide)).trans f71
      have f88 : h74 6 = h 6 := (hK76 6 (by decide)).trans f72
      have f89 : h74 7 = .inl (0, 16, .inl (upd B i pl)) := (hK76 7 (by decide)).trans f73
      have f90 : h74 8 = .inl (0, 16, .inl (upd C i tu)) := (hK76 8 (by decide)).trans f68
      have e91 : clL f n m p pl tu = (true, p, pl, tu) := by cases m <;> (unfold clL; exact if_pos c53)
      exact absurd c53 c77
  · refine r_aload_n rfl dX4_readClause_61 rfl ?_
    refine r_aload_n rfl dX4_readClause_62 rfl ?_
    refine cl_X4_69 rfl rfl dX4_readClause_63 (show 2 ≤ 5 ∧ 5 < 434 by decide).1 (show 2 ≤ 5 ∧ 5 < 434 by decide).2 h5 (Nat.le_of_ble_eq_true rfl) (s_X4_readLiteral hS hn hp h3 h4 h5) ?_
    rintro _ h92 _ ⟨rfl, hS93, hK94, ⟨c95, f96, f97, rfl⟩ | ⟨c95, f96, f97, rfl⟩⟩
    · have hF98 := KM_tr (KM_rf (Mod := [3, 5, 6, 7, 8]) h) (KM_sb (by decide) hK94)
      have f99 : h92 4 = .inl (2, 300, .inl f) := (hK94 4 (by decide)).trans h4
      have f100 : h92 7 = .inl (0, 16, .inl B) := (hK94 7 (by decide)).trans h7
      have f101 : h92 8 = .inl (0, 16, .inl C) := (hK94 8 (by decide)).trans h8
      have f102 : h92 6 = h 6 := (hK94 6 (by decide)).trans rfl
      refine r_if_ne (tgt := 71) rfl rfl dX4_readClause_66 (fun _ => ?_) (fun zc => absurd zc (by decide))
      refine r_iinc (y := nI (8 - m + 1)) (ls' := [some (.ref 5), some (.ref 3), some (.int (nI i)), some (.int (nI (8 - m + 1)))]) rfl dX4_readClause_71 rfl (nI_1 (8 - m)) (Nat.le_of_ble_eq_true rfl) rfl ?_
      refine r_goto (pc' := 46) rfl dX4_readClause_74 ?_
      obtain ⟨m1, em, hu1⟩ := UI_lit hX hp hu c95
      subst em
      rw [show 8 - (m1 + 1) + 1 = 8 - m1 by omega]
      refine EV.post ?_ (ih m1 _ _ _ h92 rfl (rdP_le f (lp_le f hp)) hu1 hS93 f96 f99 f97 f100 f101)
      rintro a1 a2 a3 ⟨b1, b2, b3, b4⟩
      have e : clL f n (m1 + 1) p pl tu = clL f n m1 (rdP f n (lp f n p)) (if tK f n p = 5 then pl else pl ||| lb f n p) (if tK f n p = 5 then tu ||| lb f n p else tu) := by rw [clL, if_neg c53, if_pos c95]
      rw [e]
      refine ⟨b1, b2, KM_tr hF98 b3, ?_⟩
      rcases b4 with ⟨g1, g2, g3, g4, g5⟩ | g1
      · exact Or.inl ⟨g1, g2, g3, g4.trans f102, g5⟩
      · exact Or.inr g1
    · have hF98 := KM_tr (KM_rf (Mod := [3, 5, 6, 7, 8]) h) (KM_sb (by decide) hK94)
      have f103 : h92 4 = .inl (2, 300, .inl f) := (hK94 4 (by decide)).trans h4
      have f104 : h92 7 = .inl (0, 16, .inl B) := (hK94 7 (by decide)).trans h7
      have f105 : h92 8 = .inl (0, 16, .inl C) := (hK94 8 (by decide)).trans h8
      have f106 : h92 6 = h 6 := (hK94 6 (by decide)).trans rfl
      refine r_if_ne (tgt := 71) rfl rfl dX4_readClause_66 (fun zc => absurd zc (by decide)) (fun _ => ?_)
      refine r_iconst (v := 0) rfl dX4_readClause_69 (by decide) ?_
      have e107 : clL f n m p pl tu = (false, lp f n p, pl, tu) := by cases m <;> (unfold clL; first | rw [if_neg c53, if_neg c95] | rw [if_neg c53])
      exact r_ret dX4_readClause_70 (rt_z rfl (Or.inl rfl)) (by rw [e107]; exact ⟨rfl, hS93, hF98, Or.inr ⟨rfl, f96, ⟨_, _, f97⟩, rfl⟩⟩)
theorem s_X4_readClause_loop {xs : Nat → Int32} {L d : Nat} {f g : Nat → Int32} {n i : Nat} {cr sr : Int32} {B C : Nat → Int32} (hn : n ≤ 300) (hi : i < 16) (hX : TXR f g n) : ∀ (m p : Nat) (pl tu : Int32) (h : ev_H), m ≤ 8 → p ≤ n → UI m (pl ||| tu) → SH h → h 3 = cT f n p → h 4 = c4 f → h 5 = c5 cr pl tu sr → h 7 = cI 16 B → h 8 = cI 16 C → EV xs L (d + 5) 0 0 M_X4_readClause 434 h 46 [some (.ref 5), some (.ref 3), some (.int (nI i)), some (.int (nI (8 - m)))] [] (rcQ f n i cr sr B C h (clL f n m p pl tu)) := by
  intro m
  induction m with
  | zero => intro p pl tu h hm hp hu hS h3 h4 h5 h7 h8; exact s_X4_readClause_step hS hn hp h3 h4 h5 h7 h8 hi hm hX hu (fun m' _ _ _ _ e => absurd e (by omega))
  | succ m ih => intro p pl tu h hm hp hu hS h3 h4 h5 h7 h8; exact s_X4_readClause_step hS hn hp h3 h4 h5 h7 h8 hi hm hX hu (fun m' p' pl' tu' h' e q1 q2 q3 q4 q5 q6 q7 q8 => by
      obtain rfl : m' = m := by omega
      exact ih p' pl' tu' h' (by omega) q1 q2 q3 q4 q5 q6 q7 q8)
