theorem dX12_readsStep_0 : decode cX12_readsStep 0 = .ok (.aload_n 0, 1) := by decide +kernel
theorem dX12_readsStep_1 : decode cX12_readsStep 1 = .ok (.aload_n 0, 1) := by decide +kernel
theorem dX12_readsStep_2 : decode cX12_readsStep 2 = .ok (.getfield 76, 3) := by decide +kernel
theorem dX12_readsStep_5 : decode cX12_readsStep 5 = .ok (.iconst 3, 1) := by decide +kernel
theorem dX12_readsStep_6 : decode cX12_readsStep 6 = .ok (.if_icmp .ne 7, 3) := by decide +kernel
theorem dX12_readsStep_9 : decode cX12_readsStep 9 = .ok (.iconst 1, 1) := by decide +kernel
theorem dX12_readsStep_10 : decode cX12_readsStep 10 = .ok (.goto 4, 3) := by decide +kernel
theorem dX12_readsStep_13 : decode cX12_readsStep 13 = .ok (.iconst 0, 1) := by decide +kernel
theorem dX12_readsStep_14 : decode cX12_readsStep 14 = .ok (.invokevirtual 99, 3) := by decide +kernel
theorem dX12_readsStep_17 : decode cX12_readsStep 17 = .ok (.aload_n 0, 1) := by decide +kernel
theorem dX12_readsStep_18 : decode cX12_readsStep 18 = .ok (.invokevirtual 103, 3) := by decide +kernel
theorem dX12_readsStep_21 : decode cX12_readsStep 21 = .ok (.iconst 0, 1) := by decide +kernel
theorem dX12_readsStep_22 : decode cX12_readsStep 22 = .ok (.istore_n 2, 1) := by decide +kernel
theorem dX12_readsStep_23 : decode cX12_readsStep 23 = .ok (.iload_n 2, 1) := by decide +kernel
theorem dX12_readsStep_24 : decode cX12_readsStep 24 = .ok (.iconst 2, 1) := by decide +kernel
theorem dX12_readsStep_25 : decode cX12_readsStep 25 = .ok (.if_icmp .ge 57, 3) := by decide +kernel
theorem dX12_readsStep_28 : decode cX12_readsStep 28 = .ok (.aload_n 0, 1) := by decide +kernel
theorem dX12_readsStep_29 : decode cX12_readsStep 29 = .ok (.aload_n 0, 1) := by decide +kernel
theorem dX12_readsStep_30 : decode cX12_readsStep 30 = .ok (.getfield 76, 3) := by decide +kernel
theorem dX12_readsStep_33 : decode cX12_readsStep 33 = .ok (.iconst 4, 1) := by decide +kernel
theorem dX12_readsStep_34 : decode cX12_readsStep 34 = .ok (.if_icmp .ne 20, 3) := by decide +kernel
theorem dX12_readsStep_37 : decode cX12_readsStep 37 = .ok (.aload_n 0, 1) := by decide +kernel
theorem dX12_readsStep_38 : decode cX12_readsStep 38 = .ok (.getfield 79, 3) := by decide +kernel
theorem dX12_readsStep_41 : decode cX12_readsStep 41 = .ok (.aload_n 0, 1) := by decide +kernel
theorem dX12_readsStep_42 : decode cX12_readsStep 42 = .ok (.getfield 112, 3) := by decide +kernel
theorem dX12_readsStep_45 : decode cX12_readsStep 45 = .ok (.iload_n 1, 1) := by decide +kernel
theorem dX12_readsStep_46 : decode cX12_readsStep 46 = .ok (.iadd, 1) := by decide +kernel
theorem dX12_readsStep_47 : decode cX12_readsStep 47 = .ok (.if_icmp .ge 7, 3) := by decide +kernel
theorem dX12_readsStep_50 : decode cX12_readsStep 50 = .ok (.iconst 1, 1) := by decide +kernel
theorem dX12_readsStep_51 : decode cX12_readsStep 51 = .ok (.goto 4, 3) := by decide +kernel
theorem dX12_readsStep_54 : decode cX12_readsStep 54 = .ok (.iconst 0, 1) := by decide +kernel
theorem dX12_readsStep_55 : decode cX12_readsStep 55 = .ok (.invokevirtual 99, 3) := by decide +kernel
theorem dX12_readsStep_58 : decode cX12_readsStep 58 = .ok (.aload_n 0, 1) := by decide +kernel
theorem dX12_readsStep_59 : decode cX12_readsStep 59 = .ok (.getfield 23, 3) := by decide +kernel
theorem dX12_readsStep_62 : decode cX12_readsStep 62 = .ok (.iconst 3, 1) := by decide +kernel
theorem dX12_readsStep_63 : decode cX12_readsStep 63 = .ok (.iload_n 1, 1) := by decide +kernel
theorem dX12_readsStep_64 : decode cX12_readsStep 64 = .ok (.imul, 1) := by decide +kernel
theorem dX12_readsStep_65 : decode cX12_readsStep 65 = .ok (.iload_n 2, 1) := by decide +kernel
theorem dX12_readsStep_66 : decode cX12_readsStep 66 = .ok (.iadd, 1) := by decide +kernel
theorem dX12_readsStep_67 : decode cX12_readsStep 67 = .ok (.aload_n 0, 1) := by decide +kernel
theorem dX12_readsStep_68 : decode cX12_readsStep 68 = .ok (.getfield 79, 3) := by decide +kernel
theorem dX12_readsStep_71 : decode cX12_readsStep 71 = .ok (.iastore, 1) := by decide +kernel
theorem dX12_readsStep_72 : decode cX12_readsStep 72 = .ok (.aload_n 0, 1) := by decide +kernel
theorem dX12_readsStep_73 : decode cX12_readsStep 73 = .ok (.invokevirtual 103, 3) := by decide +kernel
theorem dX12_readsStep_76 : decode cX12_readsStep 76 = .ok (.iinc 2 1, 3) := by decide +kernel
theorem dX12_readsStep_79 : decode cX12_readsStep 79 = .ok (.goto (-56), 3) := by decide +kernel
theorem dX12_readsStep_82 : decode cX12_readsStep 82 = .ok (.aload_n 0, 1) := by decide +kernel
theorem dX12_readsStep_83 : decode cX12_readsStep 83 = .ok (.aload_n 0, 1) := by decide +kernel
theorem dX12_readsStep_84 : decode cX12_readsStep 84 = .ok (.getfield 76, 3) := by decide +kernel
theorem dX12_readsStep_87 : decode cX12_readsStep 87 = .ok (.iconst 1, 1) := by decide +kernel
theorem dX12_readsStep_88 : decode cX12_readsStep 88 = .ok (.if_icmp .ne 7, 3) := by decide +kernel
theorem dX12_readsStep_91 : decode cX12_readsStep 91 = .ok (.iconst 1, 1) := by decide +kernel
theorem dX12_readsStep_92 : decode cX12_readsStep 92 = .ok (.goto 4, 3) := by decide +kernel
theorem dX12_readsStep_95 : decode cX12_readsStep 95 = .ok (.iconst 0, 1) := by decide +kernel
theorem dX12_readsStep_96 : decode cX12_readsStep 96 = .ok (.invokevirtual 99, 3) := by decide +kernel
theorem dX12_readsStep_99 : decode cX12_readsStep 99 = .ok (.aload_n 0, 1) := by decide +kernel
theorem dX12_readsStep_100 : decode cX12_readsStep 100 = .ok (.getfield 23, 3) := by decide +kernel
theorem dX12_readsStep_103 : decode cX12_readsStep 103 = .ok (.iconst 3, 1) := by decide +kernel
theorem dX12_readsStep_104 : decode cX12_readsStep 104 = .ok (.iload_n 1, 1) := by decide +kernel
theorem dX12_readsStep_105 : decode cX12_readsStep 105 = .ok (.imul, 1) := by decide +kernel
theorem dX12_readsStep_106 : decode cX12_readsStep 106 = .ok (.iconst 2, 1) := by decide +kernel
theorem dX12_readsStep_107 : decode cX12_readsStep 107 = .ok (.iadd, 1) := by decide +kernel
theorem dX12_readsStep_108 : decode cX12_readsStep 108 = .ok (.aload_n 0, 1) := by decide +kernel
theorem dX12_readsStep_109 : decode cX12_readsStep 109 = .ok (.getfield 79, 3) := by decide +kernel
theorem dX12_readsStep_112 : decode cX12_readsStep 112 = .ok (.iastore, 1) := by decide +kernel
theorem dX12_readsStep_113 : decode cX12_readsStep 113 = .ok (.aload_n 0, 1) := by decide +kernel
theorem dX12_readsStep_114 : decode cX12_readsStep 114 = .ok (.invokevirtual 103, 3) := by decide +kernel
theorem dX12_readsStep_117 : decode cX12_readsStep 117 = .ok (.aload_n 0, 1) := by decide +kernel
theorem dX12_readsStep_118 : decode cX12_readsStep 118 = .ok (.aload_n 0, 1) := by decide +kernel
theorem dX12_readsStep_119 : decode cX12_readsStep 119 = .ok (.getfield 76, 3) := by decide +kernel
theorem dX12_readsStep_122 : decode cX12_readsStep 122 = .ok (.bipush 6, 2) := by decide +kernel
theorem dX12_readsStep_124 : decode cX12_readsStep 124 = .ok (.if_icmp .ne 7, 3) := by decide +kernel
theorem dX12_readsStep_127 : decode cX12_readsStep 127 = .ok (.iconst 1, 1) := by decide +kernel
theorem dX12_readsStep_128 : decode cX12_readsStep 128 = .ok (.goto 4, 3) := by decide +kernel
theorem dX12_readsStep_131 : decode cX12_readsStep 131 = .ok (.iconst 0, 1) := by decide +kernel
theorem dX12_readsStep_132 : decode cX12_readsStep 132 = .ok (.invokevirtual 99, 3) := by decide +kernel
theorem dX12_readsStep_135 : decode cX12_readsStep 135 = .ok (.aload_n 0, 1) := by decide +kernel
theorem dX12_readsStep_136 : decode cX12_readsStep 136 = .ok (.invokevirtual 103, 3) := by decide +kernel
theorem dX12_readsStep_139 : decode cX12_readsStep 139 = .ok (.return_, 1) := by decide +kernel
theorem dX12_proof_0 : decode cX12_proof 0 = .ok (.aload_n 0, 1) := by decide +kernel
theorem dX12_proof_1 : decode cX12_proof 1 = .ok (.iconst 0, 1) := by decide +kernel
theorem dX12_proof_2 : decode cX12_proof 2 = .ok (.putfield 57, 3) := by decide +kernel
theorem dX12_proof_5 : decode cX12_proof 5 = .ok (.iconst 0, 1) := by decide +kernel
theorem dX12_proof_6 : decode cX12_proof 6 = .ok (.istore_n 1, 1) := by decide +kernel
theorem dX12_proof_7 : decode cX12_proof 7 = .ok (.aload_n 0, 1) := by decide +kernel
theorem dX12_proof_8 : decode cX12_proof 8 = .ok (.invokevirtual 106, 3) := by decide +kernel
theorem dX12_proof_11 : decode cX12_proof 11 = .ok (.aload_n 0, 1) := by decide +kernel
theorem dX12_proof_12 : decode cX12_proof 12 = .ok (.invokevirtual 92, 3) := by decide +kernel
theorem dX12_proof_15 : decode cX12_proof 15 = .ok (.ifCond .eq 43, 3) := by decide +kernel
theorem dX12_proof_18 : decode cX12_proof 18 = .ok (.aload_n 0, 1) := by decide +kernel
theorem dX12_proof_19 : decode cX12_proof 19 = .ok (.getfield 76, 3) := by decide +kernel
theorem dX12_proof_22 : decode cX12_proof 22 = .ok (.ifCond .eq 36, 3) := by decide +kernel
theorem dX12_proof_25 : decode cX12_proof 25 = .ok (.aload_n 0, 1) := by decide +kernel
theorem dX12_proof_26 : decode cX12_proof 26 = .ok (.iload_n 1, 1) := by decide +kernel
theorem dX12_proof_27 : decode cX12_proof 27 = .ok (.bipush 24, 2) := by decide +kernel
theorem dX12_proof_29 : decode cX12_proof 29 = .ok (.if_icmp .ge 7, 3) := by decide +kernel
theorem dX12_proof_32 : decode cX12_proof 32 = .ok (.iconst 1, 1) := by decide +kernel
theorem dX12_proof_33 : decode cX12_proof 33 = .ok (.goto 4, 3) := by decide +kernel
theorem dX12_proof_36 : decode cX12_proof 36 = .ok (.iconst 0, 1) := by decide +kernel
theorem dX12_proof_37 : decode cX12_proof 37 = .ok (.invokevirtual 99, 3) := by decide +kernel
theorem dX12_proof_40 : decode cX12_proof 40 = .ok (.aload_n 0, 1) := by decide +kernel
theorem dX12_proof_41 : decode cX12_proof 41 = .ok (.invokevirtual 92, 3) := by decide +kernel
theorem dX12_proof_44 : decode cX12_proof 44 = .ok (.ifCond .eq (-33), 3) := by decide +kernel
theorem dX12_proof_47 : decode cX12_proof 47 = .ok (.aload_n 0, 1) := by decide +kernel
theorem dX12_proof_48 : decode cX12_proof 48 = .ok (.iload_n 1, 1) := by decide +kernel
theorem dX12_proof_49 : decode cX12_proof 49 = .ok (.invokevirtual 147, 3) := by decide +kernel
theorem dX12_proof_52 : decode cX12_proof 52 = .ok (.iinc 1 1, 3) := by decide +kernel
theorem dX12_proof_55 : decode cX12_proof 55 = .ok (.goto (-44), 3) := by decide +kernel
theorem dX12_proof_58 : decode cX12_proof 58 = .ok (.aload_n 0, 1) := by decide +kernel
theorem dX12_proof_59 : decode cX12_proof 59 = .ok (.invokevirtual 92, 3) := by decide +kernel
theorem dX12_proof_62 : decode cX12_proof 62 = .ok (.ifCond .ne 11, 3) := by decide +kernel
theorem dX12_proof_65 : decode cX12_proof 65 = .ok (.bipush (-10), 2) := by decide +kernel
theorem dX12_proof_67 : decode cX12_proof 67 = .ok (.aload_n 0, 1) := by decide +kernel
theorem dX12_proof_68 : decode cX12_proof 68 = .ok (.getfield 89, 3) := by decide +kernel
theorem dX12_proof_71 : decode cX12_proof 71 = .ok (.isub, 1) := by decide +kernel
theorem dX12_proof_72 : decode cX12_proof 72 = .ok (.ireturn, 1) := by decide +kernel
theorem dX12_proof_73 : decode cX12_proof 73 = .ok (.aload_n 0, 1) := by decide +kernel
theorem dX12_proof_74 : decode cX12_proof 74 = .ok (.iload_n 1, 1) := by decide +kernel
theorem dX12_proof_75 : decode cX12_proof 75 = .ok (.putfield 118, 3) := by decide +kernel
theorem dX12_proof_78 : decode cX12_proof 78 = .ok (.aload_n 0, 1) := by decide +kernel
theorem dX12_proof_79 : decode cX12_proof 79 = .ok (.iconst 0, 1) := by decide +kernel
theorem dX12_proof_80 : decode cX12_proof 80 = .ok (.putfield 115, 3) := by decide +kernel
theorem dX12_proof_83 : decode cX12_proof 83 = .ok (.aload_n 0, 1) := by decide +kernel
theorem dX12_proof_84 : decode cX12_proof 84 = .ok (.bipush (-9), 2) := by decide +kernel
theorem dX12_proof_86 : decode cX12_proof 86 = .ok (.putfield 13, 3) := by decide +kernel
theorem dX12_proof_89 : decode cX12_proof 89 = .ok (.aload_n 0, 1) := by decide +kernel
theorem dX12_proof_90 : decode cX12_proof 90 = .ok (.iconst 0, 1) := by decide +kernel
theorem dX12_proof_91 : decode cX12_proof 91 = .ok (.putfield 64, 3) := by decide +kernel
theorem dX12_proof_94 : decode cX12_proof 94 = .ok (.iconst 0, 1) := by decide +kernel
theorem dX12_proof_95 : decode cX12_proof 95 = .ok (.istore_n 2, 1) := by decide +kernel
theorem dX12_proof_96 : decode cX12_proof 96 = .ok (.iload_n 2, 1) := by decide +kernel
theorem dX12_proof_97 : decode cX12_proof 97 = .ok (.aload_n 0, 1) := by decide +kernel
theorem dX12_proof_98 : decode cX12_proof 98 = .ok (.getfield 118, 3) := by decide +kernel
theorem dX12_proof_101 : decode cX12_proof 101 = .ok (.if_icmp .ge 36, 3) := by decide +kernel
theorem dX12_proof_104 : decode cX12_proof 104 = .ok (.aload_n 0, 1) := by decide +kernel
theorem dX12_proof_105 : decode cX12_proof 105 = .ok (.getfield 13, 3) := by decide +kernel
theorem dX12_proof_108 : decode cX12_proof 108 = .ok (.bipush (-9), 2) := by decide +kernel
theorem dX12_proof_110 : decode cX12_proof 110 = .ok (.if_icmp .ne 27, 3) := by decide +kernel
theorem dX12_proof_113 : decode cX12_proof 113 = .ok (.aload_n 0, 1) := by decide +kernel
theorem dX12_proof_114 : decode cX12_proof 114 = .ok (.aload_n 0, 1) := by decide +kernel
theorem dX12_proof_115 : decode cX12_proof 115 = .ok (.iload_n 2, 1) := by decide +kernel
theorem dX12_proof_116 : decode cX12_proof 116 = .ok (.invokevirtual 150, 3) := by decide +kernel
theorem dX12_proof_119 : decode cX12_proof 119 = .ok (.ifCond .eq 8, 3) := by decide +kernel
theorem dX12_proof_122 : decode cX12_proof 122 = .ok (.bipush (-9), 2) := by decide +kernel
theorem dX12_proof_124 : decode cX12_proof 124 = .ok (.goto 4, 3) := by decide +kernel
theorem dX12_proof_127 : decode cX12_proof 127 = .ok (.iload_n 2, 1) := by decide +kernel
theorem dX12_proof_128 : decode cX12_proof 128 = .ok (.putfield 13, 3) := by decide +kernel
theorem dX12_proof_131 : decode cX12_proof 131 = .ok (.iinc 2 1, 3) := by decide +kernel
theorem dX12_proof_134 : decode cX12_proof 134 = .ok (.goto (-38), 3) := by decide +kernel
theorem dX12_proof_137 : decode cX12_proof 137 = .ok (.aload_n 0, 1) := by decide +kernel
theorem dX12_proof_138 : decode cX12_proof 138 = .ok (.getfield 115, 3) := by decide +kernel
theorem dX12_proof_141 : decode cX12_proof 141 = .ok (.ireturn, 1) := by decide +kernel
set_option maxRecDepth 20000 in
set_option maxHeartbeats 1000000 in
theorem s_X12_readsStep {xs : Nat → Int32} {L d : Nat} {h : ev_H} {f g : Nat → Int32} {n p i c : Nat} {th : Int32} {tr : Int64} {w md ss wg : Int32} {E : Nat → Int32} (hS : SH h) (hX : TXR f g n) (hp : p ≤ n) (h5 : h 420 = c420 th tr (nI n) (nI (rdP f n p)) (kmap (tK f n p)) (nI (rdS f n p)) w (-1) (nI c) md ss wg) (hw : tK f n p = 1 ∨ tK f n p = 3 ∨ tK f n p = 4 → w = tV f n p) (h6 : h 421 = c421 g) (h7 : h 424 = cI 72 E) (hi : i < 24) : EV xs L (d + 4) 0 0 M_X12_readsStep 434 h 0 [some (.ref 420), some (.int (nI i)), none] [] (fun sz' h' r => sz' = 434 ∧ SH h' ∧ KM [420, 424] h h' ∧ (r = [] ∧ ∃ D', h' 424 = cI 72 D' ∧ (∀ j, j < 3 * i → D' j = E j) ∧ (((stS f n (nI (c + i)) p).1 = true ∧ D' (3 * i) = tV f n (rdP f n p) ∧ D' (3 * i + 1) = tV f n (rdP f n (rdP f n p)) ∧ D' (3 * i + 2) = tV f n (rdP f n (rdP f n (rdP f n p))) ∧ mTk f n (stS f n (nI (c + i)) p).2 th tr (nI c) md ss wg (h' 420)) ∨ ((stS f n (nI (c + i)) p).1 = false ∧ mFt n (rdS f n (stS f n (nI (c + i)) p).2) th tr (nI c) md ss wg (h' 420))))) := by
  have hl0 := (rdS_le f hp).2
  have hn := hX.1
  refine r_aload_n rfl dX12_readsStep_0 rfl ?_
  refine r_aload_n rfl dX12_readsStep_1 rfl ?_
  refine r_getv 5 rfl dX12_readsStep_2 (show 2 ≤ 420 ∧ 420 < 434 by decide) h5 fl_X12_76 rfl ?_
  refine r_iconst (v := 3) rfl dX12_readsStep_5 (by decide) ?_
  refine r_icmp_ne (tgt := 13) rfl rfl dX12_readsStep_6 (fun c51 => ?_) (fun c51 => ?_)
  · have k52 : ¬ tK f n p = 2 := fun z => c51 ((km3 _).mpr z)
    refine r_iconst (v := 0) rfl dX12_readsStep_13 (by decide) ?_
    refine cl_X12_99 rfl rfl dX12_readsStep_14 (show 2 ≤ 420 ∧ 420 < 434 by decide).1 (show 2 ≤ 420 ∧ 420 < 434 by decide).2 h5 (Nat.le_of_ble_eq_true rfl) (s_X12_wants0 hS h5) ?_
    rintro _ h53 _ ⟨rfl, hS54, hK55, f56, rfl⟩
    have hF57 := KM_tr (KM_rf (Mod := [420, 424]) h) (KM_sb (by decide) hK55)
    have f58 : h53 421 = .inl (0, 300, .inl g) := (hK55 421 (by decide)).trans h6
    have f59 : h53 424 = .inl (0, 72, .inl E) := (hK55 424 (by decide)).trans h7
    refine r_aload_n rfl dX12_readsStep_17 rfl ?_
    refine cl_X12_103 rfl rfl dX12_readsStep_18 (show 2 ≤ 420 ∧ 420 < 434 by decide).1 (show 2 ≤ 420 ∧ 420 < 434 by decide).2 f56 (Nat.le_of_ble_eq_true rfl) (s_X12_goesOnF hS54 f56 (by omega)) ?_
    rintro _ h60 _ ⟨rfl, -, -, e61, rfl⟩
    replace e61 := e61.symm
    subst e61
    refine r_iconst (v := 0) rfl dX12_readsStep_21 (by decide) ?_
    refine r_istore_n (ls' := [some (.ref 420), some (.int (nI i)), some (.int 0)]) rfl dX12_readsStep_22 (Nat.le_of_ble_eq_true rfl) rfl ?_
    refine r_iload_n rfl dX12_readsStep_23 rfl ?_
    refine r_iconst (v := 2) rfl dX12_readsStep_24 (by decide) ?_
    refine r_icmp_ge (tgt := 82) rfl rfl dX12_readsStep_25 (fun zc => absurd zc (by decide)) (fun _ => ?_)
    refine r_aload_n rfl dX12_readsStep_28 rfl ?_
    refine r_aload_n rfl dX12_readsStep_29 rfl ?_
    refine r_getv 5 rfl dX12_readsStep_30 (show 2 ≤ 420 ∧ 420 < 434 by decide) f56 fl_X12_76 rfl ?_
    refine r_iconst (v := 4) rfl dX12_readsStep_33 (by decide) ?_
    refine r_icmp_ne (tgt := 54) rfl rfl dX12_readsStep_34 (fun c62 => ?_) (fun c62 => ?_)
    · have k63 : ¬ tK f n p = 4 := fun z => c62 ((km4 _).mpr z)
      refine r_iconst (v := 0) rfl dX12_readsStep_54 (by decide) ?_
      refine cl_X12_99 rfl rfl dX12_readsStep_55 (show 2 ≤ 420 ∧ 420 < 434 by decide).1 (show 2 ≤ 420 ∧ 420 < 434 by decide).2 f56 (Nat.le_of_ble_eq_true rfl) (s_X12_wantsF hS54 f56 (by omega)) ?_
      rintro _ h64 _ ⟨rfl, hS65, hK66, f67, rfl⟩
      have hF68 := KM_tr hF57 (KM_sb (by decide) hK66)
      have f69 : h64 421 = .inl (0, 300, .inl g) := (hK66 421 (by decide)).trans f58
      have f70 : h64 424 = .inl (0, 72, .inl E) := (hK66 424 (by decide)).trans f59
      refine r_aload_n rfl dX12_readsStep_58 rfl ?_
      refine r_getv 15 rfl dX12_readsStep_59 (show 2 ≤ 420 ∧ 420 < 434 by decide) f67 fl_X12_23 rfl ?_
      refine r_iconst (v := 3) rfl dX12_readsStep_62 (by decide) ?_
      refine r_iload_n rfl dX12_readsStep_63 rfl ?_
      refine r_imul rfl dX12_readsStep_64 ?_
      refine r_eqi (y := nI (3 * i)) (show 3 * (nI i) = nI (3 * i) from pk_mul 3 i) ?_
      refine r_iload_n rfl dX12_readsStep_65 rfl ?_
      refine r_iadd rfl dX12_readsStep_66 ?_
      refine r_eqi (y := nI ((3 * i) + 0)) (show (nI (3 * i)) + 0 = nI ((3 * i) + 0) from nI_add (3 * i) 0) ?_
      refine r_aload_n rfl dX12_readsStep_67 rfl ?_
      refine r_getv 7 rfl dX12_readsStep_68 (show 2 ≤ 420 ∧ 420 < 434 by decide) f67 fl_X12_79 rfl ?_
      refine e_iast (jn := (3 * i) + 0) rfl dX12_readsStep_71 (show 2 ≤ 424 ∧ 424 < 434 by decide) hS65 hF68 (by decide) f70 (vp_in_nI (n := (3 * i) + 0) (by omega) (by decide)) (nI_clamp (n := (3 * i) + 0) (by omega)) (fun h71 hS72 hF73 hN74 f75 => ?_)
      have f76 : h71 421 = .inl (0, 300, .inl g) := (hN74 421 (by decide)).trans f69
      have f77 : h71 420 = .inr (12, [.int th, .long tr, .ref 421, .int (nI n), .int (nI (rdP f n p)), .int (kmap (tK f n p)), .int (nI (rdS f n p)), .int w, .int (nI (rdS f n p)), .int (nI c), .int md, .int ss, .int wg, .ref 422, .ref 423, .ref 424, .ref 425, .ref 426, .ref 427, .ref 428, .ref 429, .ref 430, .ref 431, .ref 432, .ref 433]) := (hN74 420 (by decide)).trans f67
      refine r_aload_n rfl dX12_readsStep_72 rfl ?_
      refine cl_X12_103 rfl rfl dX12_readsStep_73 (show 2 ≤ 420 ∧ 420 < 434 by decide).1 (show 2 ≤ 420 ∧ 420 < 434 by decide).2 f77 (Nat.le_of_ble_eq_true rfl) (s_X12_goesOnF hS72 f77 (by omega)) ?_
      rintro _ h78 _ ⟨rfl, -, -, e79, rfl⟩
      replace e79 := e79.symm
      subst e79
      refine r_iinc (y := 1) (ls' := [some (.ref 420), some (.int (nI i)), some (.int 1)]) rfl dX12_readsStep_76 rfl (by decide) (Nat.le_of_ble_eq_true rfl) rfl ?_
      refine r_goto (pc' := 23) rfl dX12_readsStep_79 ?_
      refine r_iload_n rfl dX12_readsStep_23 rfl ?_
      refine r_iconst (v := 2) rfl dX12_readsStep_24 (by decide) ?_
      refine r_icmp_ge (tgt := 82) rfl rfl dX12_readsStep_25 (fun zc => absurd zc (by decide)) (fun _ => ?_)
      refine r_aload_n rfl dX12_readsStep_28 rfl ?_
      refine r_aload_n rfl dX12_readsStep_29 rfl ?_
      refine r_getv 5 rfl dX12_readsStep_30 (show 2 ≤ 420 ∧ 420 < 434 by decide) f77 fl_X12_76 rfl ?_
      refine r_iconst (v := 4) rfl dX12_readsStep_33 (by decide) ?_
      refine r_icmp_ne (tgt := 54) rfl rfl dX12_readsStep_34 (fun _ => ?_) (fun zc => absurd zc c62)
      refine r_iconst (v := 0) rfl dX12_readsStep_54 (by decide) ?_
      refine cl_X12_99 rfl rfl dX12_readsStep_55 (show 2 ≤ 420 ∧ 420 < 434 by decide).1 (show 2 ≤ 420 ∧ 420 < 434 by decide).2 f77 (Nat.le_of_ble_eq_true rfl) (s_X12_wantsF hS72 f77 (by omega)) ?_
      rintro _ h80 _ ⟨rfl, hS81, hK82, f83, rfl⟩
      have hF84 := KM_tr hF73 (KM_sb (by decide) hK82)
      have f85 : h80 421 = .inl (0, 300, .inl g) := (hK82 421 (by decide)).trans f76
      have f86 : h80 424 = .inl (0, 72, .inl (upd E ((3 * i) + 0) w)) := (hK82 424 (by decide)).trans f75
      refine r_aload_n rfl dX12_readsStep_58 rfl ?_
      refine r_getv 15 rfl dX12_readsStep_59 (show 2 ≤ 420 ∧ 420 < 434 by decide) f83 fl_X12_23 rfl ?_
      refine r_iconst (v := 3) rfl dX12_readsStep_62 (by decide) ?_
      refine r_iload_n rfl dX12_readsStep_63 rfl ?_
      refine r_imul rfl dX12_readsStep_64 ?_
      refine r_eqi (y := nI (3 * i)) (show 3 * (nI i) = nI (3 * i) from pk_mul 3 i) ?_
      refine r_iload_n rfl dX12_readsStep_65 rfl ?_
      refine r_iadd rfl dX12_readsStep_66 ?_
      refine r_eqi (y := nI ((3 * i) + 1)) (show (nI (3 * i)) + 1 = nI ((3 * i) + 1) from nI_add (3 * i) 1) ?_
      refine r_aload_n rfl dX12_readsStep_67 rfl ?_
      refine r_getv 7 rfl dX12_readsStep_68 (show 2 ≤ 420 ∧ 420 < 434 by decide) f83 fl_X12_79 rfl ?_
      refine e_iast (jn := (3 * i) + 1) rfl dX12_readsStep_71 (show 2 ≤ 424 ∧ 424 < 434 by decide) hS81 hF84 (by decide) f86 (vp_in_nI (n := (3 * i) + 1) (by omega) (by decide)) (nI_clamp (n := (3 * i) + 1) (by omega)) (fun h87 hS88 hF89 hN90 f91 => ?_)
      have f92 : h87 421 = .inl (0, 300, .inl g) := (hN90 421 (by decide)).trans f85
      have f93 : h87 420 = .inr (12, [.int th, .long tr, .ref 421, .int (nI n), .int (nI (rdP f n p)), .int (kmap (tK f n p)), .int (nI (rdS f n p)), .int w, .int (nI (rdS f n p)), .int (nI c), .int md, .int ss, .int wg, .ref 422, .ref 423, .ref 424, .ref 425, .ref 426, .ref 427, .ref 428, .ref 429, .ref 430, .ref 431, .ref 432, .ref 433]) := (hN90 420 (by decide)).trans f83
      refine r_aload_n rfl dX12_readsStep_72 rfl ?_
      refine cl_X12_103 rfl rfl dX12_readsStep_73 (show 2 ≤ 420 ∧ 420 < 434 by decide).1 (show 2 ≤ 420 ∧ 420 < 434 by decide).2 f93 (Nat.le_of_ble_eq_true rfl) (s_X12_goesOnF hS88 f93 (by omega)) ?_
      rintro _ h94 _ ⟨rfl, -, -, e95, rfl⟩
      replace e95 := e95.symm
      subst e95
      refine r_iinc (y := 2) (ls' := [some (.ref 420), some (.int (nI i)), some (.int 2)]) rfl dX12_readsStep_76 rfl (by decide) (Nat.le_of_ble_eq_true rfl) rfl ?_
      refine r_goto (pc' := 23) rfl dX12_readsStep_79 ?_
      refine r_iload_n rfl dX12_readsStep_23 rfl ?_
      refine r_iconst (v := 2) rfl dX12_readsStep_24 (by decide) ?_
      refine r_icmp_ge (tgt := 82) rfl rfl dX12_readsStep_25 (fun _ => ?_) (fun zc => absurd zc (by decide))
      refine r_aload_n rfl dX12_readsStep_82 rfl ?_
      refine r_aload_n rfl dX12_readsStep_83 rfl ?_
      refine r_getv 5 rfl dX12_readsStep_84 (show 2 ≤ 420 ∧ 420 < 434 by decide) f93 fl_X12_76 rfl ?_
      refine r_iconst (v := 1) rfl dX12_readsStep_87 (by decide) ?_
      refine r_icmp_ne (tgt := 95) rfl rfl dX12_readsStep_88 (fun c96 => ?_) (fun c96 => ?_)
      · have k97 : ¬ tK f n p = 3 := fun z => c96 ((km1 _).mpr z)
        refine r_iconst (v := 0) rfl dX12_readsStep_95 (by decide) ?_
        refine cl_X12_99 rfl rfl dX12_readsStep_96 (show 2 ≤ 420 ∧ 420 < 434 by decide).1 (show 2 ≤ 420 ∧ 420 < 434 by decide).2 f93 (Nat.le_of_ble_eq_true rfl) (s_X12_wantsF hS88 f93 (by omega)) ?_
        rintro _ h98 _ ⟨rfl, hS99, hK100, f101, rfl⟩
        have hF102 := KM_tr hF89 (KM_sb (by decide) hK100)
        have f103 : h98 421 = .inl (0, 300, .inl g) := (hK100 421 (by decide)).trans f92
        have f104 : h98 424 = .inl (0, 72, .inl (upd (upd E ((3 * i) + 0) w) ((3 * i) + 1) w)) := (hK100 424 (by decide)).trans f91
        refine r_aload_n rfl dX12_readsStep_99 rfl ?_
        refine r_getv 15 rfl dX12_readsStep_100 (show 2 ≤ 420 ∧ 420 < 434 by decide) f101 fl_X12_23 rfl ?_
        refine r_iconst (v := 3) rfl dX12_readsStep_103 (by decide) ?_
        refine r_iload_n rfl dX12_readsStep_104 rfl ?_
        refine r_imul rfl dX12_readsStep_105 ?_
        refine r_eqi (y := nI (3 * i)) (show 3 * (nI i) = nI (3 * i) from pk_mul 3 i) ?_
        refine r_iconst (v := 2) rfl dX12_readsStep_106 (by decide) ?_
        refine r_iadd rfl dX12_readsStep_107 ?_
        refine r_eqi (y := nI ((3 * i) + 2)) (show (nI (3 * i)) + 2 = nI ((3 * i) + 2) from nI_add (3 * i) 2) ?_
        refine r_aload_n rfl dX12_readsStep_108 rfl ?_
        refine r_getv 7 rfl dX12_readsStep_109 (show 2 ≤ 420 ∧ 420 < 434 by decide) f101 fl_X12_79 rfl ?_
        refine e_iast (jn := (3 * i) + 2) rfl dX12_readsStep_112 (show 2 ≤ 424 ∧ 424 < 434 by decide) hS99 hF102 (by decide) f104 (vp_in_nI (n := (3 * i) + 2) (by omega) (by decide)) (nI_clamp (n := (3 * i) + 2) (by omega)) (fun h105 hS106 hF107 hN108 f109 => ?_)
        have f110 : h105 421 = .inl (0, 300, .inl g) := (hN108 421 (by decide)).trans f103
        have f111 : h105 420 = .inr (12, [.int th, .long tr, .ref 421, .int (nI n), .int (nI (rdP f n p)), .int (kmap (tK f n p)), .int (nI (rdS f n p)), .int w, .int (nI (rdS f n p)), .int (nI c), .int md, .int ss, .int wg, .ref 422, .ref 423, .ref 424, .ref 425, .ref 426, .ref 427, .ref 428, .ref 429, .ref 430, .ref 431, .ref 432, .ref 433]) := (hN108 420 (by decide)).trans f101
        refine r_aload_n rfl dX12_readsStep_113 rfl ?_
        refine cl_X12_103 rfl rfl dX12_readsStep_114 (show 2 ≤ 420 ∧ 420 < 434 by decide).1 (show 2 ≤ 420 ∧ 420 < 434 by decide).2 f111 (Nat.le_of_ble_eq_true rfl) (s_X12_goesOnF hS106 f111 (by omega)) ?_
        rintro _ h112 _ ⟨rfl, -, -, e113, rfl⟩
        replace e113 := e113.symm
        subst e113
        refine r_aload_n rfl dX12_readsStep_117 rfl ?_
        refine r_aload_n rfl dX12_readsStep_118 rfl ?_
        refine r_getv 5 rfl dX12_readsStep_119 (show 2 ≤ 420 ∧ 420 < 434 by decide) f111 fl_X12_76 rfl ?_
        refine r_bipush (v := 6) rfl dX12_readsStep_122 (by decide) ?_
        refine r_icmp_ne (tgt := 131) rfl rfl dX12_readsStep_124 (fun c114 => ?_) (fun c114 => ?_)
        · have k115 : ¬ tK f n p = 6 := fun z => c114 ((km6 _).mpr z)
          refine r_iconst (v := 0) rfl dX12_readsStep_131 (by decide) ?_
          refine cl_X12_99 rfl rfl dX12_readsStep_132 (show 2 ≤ 420 ∧ 420 < 434 by decide).1 (show 2 ≤ 420 ∧ 420 < 434 by decide).2 f111 (Nat.le_of_ble_eq_true rfl) (s_X12_wantsF hS106 f111 (by omega)) ?_
          rintro _ h116 _ ⟨rfl, hS117, hK118, f119, rfl⟩
          have hF120 := KM_tr hF107 (KM_sb (by decide) hK118)
          have f121 : h116 421 = .inl (0, 300, .inl g) := (hK118 421 (by decide)).trans f110
          have f122 : h116 424 = .inl (0, 72, .inl (upd (upd (upd E ((3 * i) + 0) w) ((3 * i) + 1) w) ((3 * i) + 2) w)) := (hK118 424 (by decide)).trans f109
          refine r_aload_n rfl dX12_readsStep_135 rfl ?_
          refine cl_X12_103 rfl rfl dX12_readsStep_136 (show 2 ≤ 420 ∧ 420 < 434 by decide).1 (show 2 ≤ 420 ∧ 420 < 434 by decide).2 f119 (Nat.le_of_ble_eq_true rfl) (s_X12_goesOnF hS117 f119 (by omega)) ?_
          rintro _ h123 _ ⟨rfl, -, -, e124, rfl⟩
          replace e124 := e124.symm
          subst e124
          have e125 : (stS f n (nI (c + i)) p) = (false, p) := by unfold stS; rw [if_neg k52]
          exact r_ret dX12_readsStep_139 (rt_v rfl) (by rw [e125]; exact ⟨rfl, hS117, hF120, rfl, _, f122, fun j z => (by rw [pk_un (by omega), pk_un (by omega), pk_un (by omega)]), Or.inr ⟨rfl, _, _, _, _, f119⟩⟩)
        · have k126 : tK f n p = 6 := (km6 _).mp c114
          refine r_iconst (v := 1) rfl dX12_readsStep_127 (by decide) ?_
          refine r_goto (pc' := 132) rfl dX12_readsStep_128 ?_
          refine cl_X12_99 rfl rfl dX12_readsStep_132 (show 2 ≤ 420 ∧ 420 < 434 by decide).1 (show 2 ≤ 420 ∧ 420 < 434 by decide).2 f111 (Nat.le_of_ble_eq_true rfl) (s_X12_wantsF hS106 f111 (by omega)) ?_
          rintro _ h127 _ ⟨rfl, hS128, hK129, f130, rfl⟩
          have hF131 := KM_tr hF107 (KM_sb (by decide) hK129)
          have f132 : h127 421 = .inl (0, 300, .inl g) := (hK129 421 (by decide)).trans f110
          have f133 : h127 424 = .inl (0, 72, .inl (upd (upd (upd E ((3 * i) + 0) w) ((3 * i) + 1) w) ((3 * i) + 2) w)) := (hK129 424 (by decide)).trans f109
          refine r_aload_n rfl dX12_readsStep_135 rfl ?_
          refine cl_X12_103 rfl rfl dX12_readsStep_136 (show 2 ≤ 420 ∧ 420 < 434 by decide).1 (show 2 ≤ 420 ∧ 420 < 434 by decide).2 f130 (Nat.le_of_ble_eq_true rfl) (s_X12_goesOnF hS128 f130 (by omega)) ?_
          rintro _ h134 _ ⟨rfl, -, -, e135, rfl⟩
          replace e135 := e135.symm
          subst e135
          have e136 : (stS f n (nI (c + i)) p) = (false, p) := by unfold stS; rw [if_neg k52]
          exact r_ret dX12_readsStep_139 (rt_v rfl) (by rw [e136]; exact ⟨rfl, hS128, hF131, rfl, _, f133, fun j z => (by rw [pk_un (by omega), pk_un (by omega), pk_un (by omega)]), Or.inr ⟨rfl, _, _, _, _, f130⟩⟩)
      · have k137 : tK f n p = 3 := (km1 _).mp c96
        refine r_iconst (v := 1) rfl dX12_readsStep_91 (by decide) ?_
        refine r_goto (pc' := 96) rfl dX12_readsStep_92 ?_
        refine cl_X12_99 rfl rfl dX12_readsStep_96 (show 2 ≤ 420 ∧ 420 < 434 by decide).1 (show 2 ≤ 420 ∧ 420 < 434 by decide).2 f93 (Nat.le_of_ble_eq_true rfl) (s_X12_wantsF hS88 f93 (by omega)) ?_
        rintro _ h138 _ ⟨rfl, hS139, hK140, f141, rfl⟩
        have hF142 := KM_tr hF89 (KM_sb (by decide) hK140)
        have f143 : h138 421 = .inl (0, 300, .inl g) := (hK140 421 (by decide)).trans f92
        have f144 : h138 424 = .inl (0, 72, .inl (upd (upd E ((3 * i) + 0) w) ((3 * i) + 1) w)) := (hK140 424 (by decide)).trans f91
        refine r_aload_n rfl dX12_readsStep_99 rfl ?_
        refine r_getv 15 rfl dX12_readsStep_100 (show 2 ≤ 420 ∧ 420 < 434 by decide) f141 fl_X12_23 rfl ?_
        refine r_iconst (v := 3) rfl dX12_readsStep_103 (by decide) ?_
        refine r_iload_n rfl dX12_readsStep_104 rfl ?_
        refine r_imul rfl dX12_readsStep_105 ?_
        refine r_eqi (y := nI (3 * i)) (show 3 * (nI i) = nI (3 * i) from pk_mul 3 i) ?_
        refine r_iconst (v := 2) rfl dX12_readsStep_106 (by decide) ?_
        refine r_iadd rfl dX12_readsStep_107 ?_
        refine r_eqi (y := nI ((3 * i) + 2)) (show (nI (3 * i)) + 2 = nI ((3 * i) + 2) from nI_add (3 * i) 2) ?_
        refine r_aload_n rfl dX12_readsStep_108 rfl ?_
        refine r_getv 7 rfl dX12_readsStep_109 (show 2 ≤ 420 ∧ 420 < 434 by decide) f141 fl_X12_79 rfl ?_
        refine e_iast (jn := (3 * i) + 2) rfl dX12_readsStep_112 (show 2 ≤ 424 ∧ 424 < 434 by decide) hS139 hF142 (by decide) f144 (vp_in_nI (n := (3 * i) + 2) (by omega) (by decide)) (nI_clamp (n := (3 * i) + 2) (by omega)) (fun h145 hS146 hF147 hN148 f149 => ?_)
        have f150 : h145 421 = .inl (0, 300, .inl g) := (hN148 421 (by decide)).trans f143
        have f151 : h145 420 = .inr (12, [.int th, .long tr, .ref 421, .int (nI n), .int (nI (rdP f n p)), .int (kmap (tK f n p)), .int (nI (rdS f n p)), .int w, .int (nI (rdS f n p)), .int (nI c), .int md, .int ss, .int wg, .ref 422, .ref 423, .ref 424, .ref 425, .ref 426, .ref 427, .ref 428, .ref 429, .ref 430, .ref 431, .ref 432, .ref 433]) := (hN148 420 (by decide)).trans f141
        refine r_aload_n rfl dX12_readsStep_113 rfl ?_
        refine cl_X12_103 rfl rfl dX12_readsStep_114 (show 2 ≤ 420 ∧ 420 < 434 by decide).1 (show 2 ≤ 420 ∧ 420 < 434 by decide).2 f151 (Nat.le_of_ble_eq_true rfl) (s_X12_goesOnF hS146 f151 (by omega)) ?_
        rintro _ h152 _ ⟨rfl, -, -, e153, rfl⟩
        replace e153 := e153.symm
        subst e153
        refine r_aload_n rfl dX12_readsStep_117 rfl ?_
        refine r_aload_n rfl dX12_readsStep_118 rfl ?_
        refine r_getv 5 rfl dX12_readsStep_119 (show 2 ≤ 420 ∧ 420 < 434 by decide) f151 fl_X12_76 rfl ?_
        refine r_bipush (v := 6) rfl dX12_readsStep_122 (by decide) ?_
        refine r_icmp_ne (tgt := 131) rfl rfl dX12_readsStep_124 (fun c154 => ?_) (fun c154 => ?_)
        · have k155 : ¬ tK f n p = 6 := fun z => c154 ((km6 _).mpr z)
          refine r_iconst (v := 0) rfl dX12_readsStep_131 (by decide) ?_
          refine cl_X12_99 rfl rfl dX12_readsStep_132 (show 2 ≤ 420 ∧ 420 < 434 by decide).1 (show 2 ≤ 420 ∧ 420 < 434 by decide).2 f151 (Nat.le_of_ble_eq_true rfl) (s_X12_wantsF hS146 f151 (by omega)) ?_
          rintro _ h156 _ ⟨rfl, hS157, hK158, f159, rfl⟩
          have hF160 := KM_tr hF147 (KM_sb (by decide) hK158)
          have f161 : h156 421 = .inl (0, 300, .inl g) := (hK158 421 (by decide)).trans f150
          have f162 : h156 424 = .inl (0, 72, .inl (upd (upd (upd E ((3 * i) + 0) w) ((3 * i) + 1) w) ((3 * i) + 2) w)) := (hK158 424 (by decide)).trans f149
          refine r_aload_n rfl dX12_readsStep_135 rfl ?_
          refine cl_X12_103 rfl rfl dX12_readsStep_136 (show 2 ≤ 420 ∧ 420 < 434 by decide).1 (show 2 ≤ 420 ∧ 420 < 434 by decide).2 f159 (Nat.le_of_ble_eq_true rfl) (s_X12_goesOnF hS157 f159 (by omega)) ?_
          rintro _ h163 _ ⟨rfl, -, -, e164, rfl⟩
          replace e164 := e164.symm
          subst e164
          have e165 : (stS f n (nI (c + i)) p) = (false, p) := by unfold stS; rw [if_neg k52]
          exact r_ret dX12_readsStep_139 (rt_v rfl) (by rw [e165]; exact ⟨rfl, hS157, hF160, rfl, _, f162, fun j z => (by rw [pk_un (by omega), pk_un (by omega), pk_un (by omega)]), Or.inr ⟨rfl, _, _, _, _, f159⟩⟩)
        · have k166 : tK f n p = 6 := (km6 _).mp c154
          refine r_iconst (v := 1) rfl dX12_readsStep_127 (by decide) ?_
          refine r_goto (pc' := 132) rfl dX12_readsStep_128 ?_
          refine cl_X12_99 rfl rfl dX12_readsStep_132 (show 2 ≤ 420 ∧ 420 < 434 by decide).1 (show 2 ≤ 420 ∧ 420 < 434 by decide).2 f151 (Nat.le_of_ble_eq_true rfl) (s_X12_wantsF hS146 f151 (by omega)) ?_
          rintro _ h167 _ ⟨rfl, hS168, hK169, f170, rfl⟩
          have hF171 := KM_tr hF147 (KM_sb (by decide) hK169)
          have f172 : h167 421 = .inl (0, 300, .inl g) := (hK169 421 (by decide)).trans f150
          have f173 : h167 424 = .inl (0, 72, .inl (upd (upd (upd E ((3 * i) + 0) w) ((3 * i) + 1) w) ((3 * i) + 2) w)) := (hK169 424 (by decide)).trans f149
          refine r_aload_n rfl dX12_readsStep_135 rfl ?_
          refine cl_X12_103 rfl rfl dX12_readsStep_136 (show 2 ≤ 420 ∧ 420 < 434 by decide).1 (show 2 ≤ 420 ∧ 420 < 434 by decide).2 f170 (Nat.le_of_ble_eq_true rfl) (s_X12_goesOnF hS168 f170 (by omega)) ?_
          rintro _ h174 _ ⟨rfl, -, -, e175, rfl⟩
          replace e175 := e175.symm
          subst e175
          have e176 : (stS f n (nI (c + i)) p) = (false, p) := by unfold stS; rw [if_neg k52]
          exact r_ret dX12_readsStep_139 (rt_v rfl) (by rw [e176]; exact ⟨rfl, hS168, hF171, rfl, _, f173, fun j z => (by rw [pk_un (by omega), pk_un (by omega), pk_un (by omega)]), Or.inr ⟨rfl, _, _, _, _, f170⟩⟩)
    · have k177 : tK f n p = 4 := (km4 _).mp c62
      refine r_aload_n rfl dX12_readsStep_37 rfl ?_
      refine r_getv 7 rfl dX12_readsStep_38 (show 2 ≤ 420 ∧ 420 < 434 by decide) f56 fl_X12_79 rfl ?_
      refine r_aload_n rfl dX12_readsStep_41 rfl ?_
      refine r_getv 9 rfl dX12_readsStep_42 (show 2 ≤ 420 ∧ 420 < 434 by decide) f56 fl_X12_112 rfl ?_
      refine r_iload_n rfl dX12_readsStep_45 rfl ?_
      refine r_iadd rfl dX12_readsStep_46 ?_
      refine r_eqi (y := nI (c + i)) (show (nI c) + (nI i) = nI (c + i) from nI_add c i) ?_
      refine r_icmp_ge (tgt := 54) rfl rfl dX12_readsStep_47 (fun c178 => ?_) (fun c178 => ?_)
      · refine r_iconst (v := 0) rfl dX12_readsStep_54 (by decide) ?_
        refine cl_X12_99 rfl rfl dX12_readsStep_55 (show 2 ≤ 420 ∧ 420 < 434 by decide).1 (show 2 ≤ 420 ∧ 420 < 434 by decide).2 f56 (Nat.le_of_ble_eq_true rfl) (s_X12_wantsF hS54 f56 (by omega)) ?_
        rintro _ h179 _ ⟨rfl, hS180, hK181, f182, rfl⟩
        have hF183 := KM_tr hF57 (KM_sb (by decide) hK181)
        have f184 : h179 421 = .inl (0, 300, .inl g) := (hK181 421 (by decide)).trans f58
        have f185 : h179 424 = .inl (0, 72, .inl E) := (hK181 424 (by decide)).trans f59
        refine r_aload_n rfl dX12_readsStep_58 rfl ?_
        refine r_getv 15 rfl dX12_readsStep_59 (show 2 ≤ 420 ∧ 420 < 434 by decide) f182 fl_X12_23 rfl ?_
        refine r_iconst (v := 3) rfl dX12_readsStep_62 (by decide) ?_
        refine r_iload_n rfl dX12_readsStep_63 rfl ?_
        refine r_imul rfl dX12_readsStep_64 ?_
        refine r_eqi (y := nI (3 * i)) (show 3 * (nI i) = nI (3 * i) from pk_mul 3 i) ?_
        refine r_iload_n rfl dX12_readsStep_65 rfl ?_
        refine r_iadd rfl dX12_readsStep_66 ?_
        refine r_eqi (y := nI ((3 * i) + 0)) (show (nI (3 * i)) + 0 = nI ((3 * i) + 0) from nI_add (3 * i) 0) ?_
        refine r_aload_n rfl dX12_readsStep_67 rfl ?_
        refine r_getv 7 rfl dX12_readsStep_68 (show 2 ≤ 420 ∧ 420 < 434 by decide) f182 fl_X12_79 rfl ?_
        refine e_iast (jn := (3 * i) + 0) rfl dX12_readsStep_71 (show 2 ≤ 424 ∧ 424 < 434 by decide) hS180 hF183 (by decide) f185 (vp_in_nI (n := (3 * i) + 0) (by omega) (by decide)) (nI_clamp (n := (3 * i) + 0) (by omega)) (fun h186 hS187 hF188 hN189 f190 => ?_)
        have f191 : h186 421 = .inl (0, 300, .inl g) := (hN189 421 (by decide)).trans f184
        have f192 : h186 420 = .inr (12, [.int th, .long tr, .ref 421, .int (nI n), .int (nI (rdP f n p)), .int (kmap (tK f n p)), .int (nI (rdS f n p)), .int w, .int (nI (rdS f n p)), .int (nI c), .int md, .int ss, .int wg, .ref 422, .ref 423, .ref 424, .ref 425, .ref 426, .ref 427, .ref 428, .ref 429, .ref 430, .ref 431, .ref 432, .ref 433]) := (hN189 420 (by decide)).trans f182
        refine r_aload_n rfl dX12_readsStep_72 rfl ?_
        refine cl_X12_103 rfl rfl dX12_readsStep_73 (show 2 ≤ 420 ∧ 420 < 434 by decide).1 (show 2 ≤ 420 ∧ 420 < 434 by decide).2 f192 (Nat.le_of_ble_eq_true rfl) (s_X12_goesOnF hS187 f192 (by omega)) ?_
        rintro _ h193 _ ⟨rfl, -, -, e194, rfl⟩
        replace e194 := e194.symm
        subst e194
        refine r_iinc (y := 1) (ls' := [some (.ref 420), some (.int (nI i)), some (.int 1)]) rfl dX12_readsStep_76 rfl (by decide) (Nat.le_of_ble_eq_true rfl) rfl ?_
        refine r_goto (pc' := 23) rfl dX12_readsStep_79 ?_
        refine r_iload_n rfl dX12_readsStep_23 rfl ?_
        refine r_iconst (v := 2) rfl dX12_readsStep_24 (by decide) ?_
        refine r_icmp_ge (tgt := 82) rfl rfl dX12_readsStep_25 (fun zc => absurd zc (by decide)) (fun _ => ?_)
        refine r_aload_n rfl dX12_readsStep_28 rfl ?_
        refine r_aload_n rfl dX12_readsStep_29 rfl ?_
        refine r_getv 5 rfl dX12_readsStep_30 (show 2 ≤ 420 ∧ 420 < 434 by decide) f192 fl_X12_76 rfl ?_
        refine r_iconst (v := 4) rfl dX12_readsStep_33 (by decide) ?_
        refine r_icmp_ne (tgt := 54) rfl rfl dX12_readsStep_34 (fun zc => absurd zc (fun z => z c62)) (fun _ => ?_)
        refine r_aload_n rfl dX12_readsStep_37 rfl ?_
        refine r_getv 7 rfl dX12_readsStep_38 (show 2 ≤ 420 ∧ 420 < 434 by decide) f192 fl_X12_79 rfl ?_
        refine r_aload_n rfl dX12_readsStep_41 rfl ?_
        refine r_getv 9 rfl dX12_readsStep_42 (show 2 ≤ 420 ∧ 420 < 434 by decide) f192 fl_X12_112 rfl ?_
        refine r_iload_n rfl dX12_readsStep_45 rfl ?_
        refine r_iadd rfl dX12_readsStep_46 ?_
        refine r_eqi (y := nI (c + i)) (show (nI c) + (nI i) = nI (c + i) from nI_add c i) ?_
        refine r_icmp_ge (tgt := 54) rfl rfl dX12_readsStep_47 (fun _ => ?_) (fun zc => absurd c178 zc)
        refine r_iconst (v := 0) rfl dX12_readsStep_54 (by decide) ?_
        refine cl_X12_99 rfl rfl dX12_readsStep_55 (show 2 ≤ 420 ∧ 420 < 434 by decide).1 (show 2 ≤ 420 ∧ 420 < 434 by decide).2 f192 (Nat.le_of_ble_eq_true rfl) (s_X12_wantsF hS187 f192 (by omega)) ?_
        rintro _ h195 _ ⟨rfl, hS196, hK197, f198, rfl⟩
        have hF199 := KM_tr hF188 (KM_sb (by decide) hK197)
        have f200 : h195 421 = .inl (0, 300, .inl g) := (hK197 421 (by decide)).trans f191
        have f201 : h195 424 = .inl (0, 72, .inl (upd E ((3 * i) + 0) w)) := (hK197 424 (by decide)).trans f190
        refine r_aload_n rfl dX12_readsStep_58 rfl ?_
        refine r_getv 15 rfl dX12_readsStep_59 (show 2 ≤ 420 ∧ 420 < 434 by decide) f198 fl_X12_23 rfl ?_
        refine r_iconst (v := 3) rfl dX12_readsStep_62 (by decide) ?_
        refine r_iload_n rfl dX12_readsStep_63 rfl ?_
        refine r_imul rfl dX12_readsStep_64 ?_
        refine r_eqi (y := nI (3 * i)) (show 3 * (nI i) = nI (3 * i) from pk_mul 3 i) ?_
        refine r_iload_n rfl dX12_readsStep_65 rfl ?_
        refine r_iadd rfl dX12_readsStep_66 ?_
        refine r_eqi (y := nI ((3 * i) + 1)) (show (nI (3 * i)) + 1 = nI ((3 * i) + 1) from nI_add (3 * i) 1) ?_
        refine r_aload_n rfl dX12_readsStep_67 rfl ?_
        refine r_getv 7 rfl dX12_readsStep_68 (show 2 ≤ 420 ∧ 420 < 434 by decide) f198 fl_X12_79 rfl ?_
        refine e_iast (jn := (3 * i) + 1) rfl dX12_readsStep_71 (show 2 ≤ 424 ∧ 424 < 434 by decide) hS196 hF199 (by decide) f201 (vp_in_nI (n := (3 * i) + 1) (by omega) (by decide)) (nI_clamp (n := (3 * i) + 1) (by omega)) (fun h202 hS203 hF204 hN205 f206 => ?_)
        have f207 : h202 421 = .inl (0, 300, .inl g) := (hN205 421 (by decide)).trans f200
        have f208 : h202 420 = .inr (12, [.int th, .long tr, .ref 421, .int (nI n), .int (nI (rdP f n p)), .int (kmap (tK f n p)), .int (nI (rdS f n p)), .int w, .int (nI (rdS f n p)), .int (nI c), .int md, .int ss, .int wg, .ref 422, .ref 423, .ref 424, .ref 425, .ref 426, .ref 427, .ref 428, .ref 429, .ref 430, .ref 431, .ref 432, .ref 433]) := (hN205 420 (by decide)).trans f198
        refine r_aload_n rfl dX12_readsStep_72 rfl ?_
        refine cl_X12_103 rfl rfl dX12_readsStep_73 (show 2 ≤ 420 ∧ 420 < 434 by decide).1 (show 2 ≤ 420 ∧ 420 < 434 by decide).2 f208 (Nat.le_of_ble_eq_true rfl) (s_X12_goesOnF hS203 f208 (by omega)) ?_
        rintro _ h209 _ ⟨rfl, -, -, e210, rfl⟩
        replace e210 := e210.symm
        subst e210
        refine r_iinc (y := 2) (ls' := [some (.ref 420), some (.int (nI i)), some (.int 2)]) rfl dX12_readsStep_76 rfl (by decide) (Nat.le_of_ble_eq_true rfl) rfl ?_
        refine r_goto (pc' := 23) rfl dX12_readsStep_79 ?_
        refine r_iload_n rfl dX12_readsStep_23 rfl ?_
        refine r_iconst (v := 2) rfl dX12_readsStep_24 (by decide) ?_
        refine r_icmp_ge (tgt := 82) rfl rfl dX12_readsStep_25 (fun _ => ?_) (fun zc => absurd zc (by decide))
        refine r_aload_n rfl dX12_readsStep_82 rfl ?_
        refine r_aload_n rfl dX12_readsStep_83 rfl ?_
        refine r_getv 5 rfl dX12_readsStep_84 (show 2 ≤ 420 ∧ 420 < 434 by decide) f208 fl_X12_76 rfl ?_
        refine r_iconst (v := 1) rfl dX12_readsStep_87 (by decide) ?_
        refine r_icmp_ne (tgt := 95) rfl rfl dX12_readsStep_88 (fun c211 => ?_) (fun c211 => ?_)
        · have k212 : ¬ tK f n p = 3 := fun z => c211 ((km1 _).mpr z)
          refine r_iconst (v := 0) rfl dX12_readsStep_95 (by decide) ?_
          refine cl_X12_99 rfl rfl dX12_readsStep_96 (show 2 ≤ 420 ∧ 420 < 434 by decide).1 (show 2 ≤ 420 ∧ 420 < 434 by decide).2 f208 (Nat.le_of_ble_eq_true rfl) (s_X12_wantsF hS203 f208 (by omega)) ?_
          rintro _ h213 _ ⟨rfl, hS214, hK215, f216, rfl⟩
          have hF217 := KM_tr hF204 (KM_sb (by decide) hK215)
          have f218 : h213 421 = .inl (0, 300, .inl g) := (hK215 421 (by decide)).trans f207
          have f219 : h213 424 = .inl (0, 72, .inl (upd (upd E ((3 * i) + 0) w) ((3 * i) + 1) w)) := (hK215 424 (by decide)).trans f206
          refine r_aload_n rfl dX12_readsStep_99 rfl ?_
          refine r_getv 15 rfl dX12_readsStep_100 (show 2 ≤ 420 ∧ 420 < 434 by decide) f216 fl_X12_23 rfl ?_
          refine r_iconst (v := 3) rfl dX12_readsStep_103 (by decide) ?_
          refine r_iload_n rfl dX12_readsStep_104 rfl ?_
          refine r_imul rfl dX12_readsStep_105 ?_
          refine r_eqi (y := nI (3 * i)) (show 3 * (nI i) = nI (3 * i) from pk_mul 3 i) ?_
          refine r_iconst (v := 2) rfl dX12_readsStep_106 (by decide) ?_
          refine r_iadd rfl dX12_readsStep_107 ?_
          refine r_eqi (y := nI ((3 * i) + 2)) (show (nI (3 * i)) + 2 = nI ((3 * i) + 2) from nI_add (3 * i) 2) ?_
          refine r_aload_n rfl dX12_readsStep_108 rfl ?_
          refine r_getv 7 rfl dX12_readsStep_109 (show 2 ≤ 420 ∧ 420 < 434 by decide) f216 fl_X12_79 rfl ?_
          refine e_iast (jn := (3 * i) + 2) rfl dX12_readsStep_112 (show 2 ≤ 424 ∧ 424 < 434 by decide) hS214 hF217 (by decide) f219 (vp_in_nI (n := (3 * i) + 2) (by omega) (by decide)) (nI_clamp (n := (3 * i) + 2) (by omega)) (fun h220 hS221 hF222 hN223 f224 => ?_)
          have f225 : h220 421 = .inl (0, 300, .inl g) := (hN223 421 (by decide)).trans f218
          have f226 : h220 420 = .inr (12, [.int th, .long tr, .ref 421, .int (nI n), .int (nI (rdP f n p)), .int (kmap (tK f n p)), .int (nI (rdS f n p)), .int w, .int (nI (rdS f n p)), .int (nI c), .int md, .int ss, .int wg, .ref 422, .ref 423, .ref 424, .ref 425, .ref 426, .ref 427, .ref 428, .ref 429, .ref 430, .ref 431, .ref 432, .ref 433]) := (hN223 420 (by decide)).trans f216
          refine r_aload_n rfl dX12_readsStep_113 rfl ?_
          refine cl_X12_103 rfl rfl dX12_readsStep_114 (show 2 ≤ 420 ∧ 420 < 434 by decide).1 (show 2 ≤ 420 ∧ 420 < 434 by decide).2 f226 (Nat.le_of_ble_eq_true rfl) (s_X12_goesOnF hS221 f226 (by omega)) ?_
          rintro _ h227 _ ⟨rfl, -, -, e228, rfl⟩
          replace e228 := e228.symm
          subst e228
          refine r_aload_n rfl dX12_readsStep_117 rfl ?_
          refine r_aload_n rfl dX12_readsStep_118 rfl ?_
          refine r_getv 5 rfl dX12_readsStep_119 (show 2 ≤ 420 ∧ 420 < 434 by decide) f226 fl_X12_76 rfl ?_
          refine r_bipush (v := 6) rfl dX12_readsStep_122 (by decide) ?_
          refine r_icmp_ne (tgt := 131) rfl rfl dX12_readsStep_124 (fun c229 => ?_) (fun c229 => ?_)
          · have k230 : ¬ tK f n p = 6 := fun z => c229 ((km6 _).mpr z)
            refine r_iconst (v := 0) rfl dX12_readsStep_131 (by decide) ?_
            refine cl_X12_99 rfl rfl dX12_readsStep_132 (show 2 ≤ 420 ∧ 420 < 434 by decide).1 (show 2 ≤ 420 ∧ 420 < 434 by decide).2 f226 (Nat.le_of_ble_eq_true rfl) (s_X12_wantsF hS221 f226 (by omega)) ?_
            rintro _ h231 _ ⟨rfl, hS232, hK233, f234, rfl⟩
            have hF235 := KM_tr hF222 (KM_sb (by decide) hK233)
            have f236 : h231 421 = .inl (0, 300, .inl g) := (hK233 421 (by decide)).trans f225
            have f237 : h231 424 = .inl (0, 72, .inl (upd (upd (upd E ((3 * i) + 0) w) ((3 * i) + 1) w) ((3 * i) + 2) w)) := (hK233 424 (by decide)).trans f224
            refine r_aload_n rfl dX12_readsStep_135 rfl ?_
            refine cl_X12_103 rfl rfl dX12_readsStep_136 (show 2 ≤ 420 ∧ 420 < 434 by decide).1 (show 2 ≤ 420 ∧ 420 < 434 by decide).2 f234 (Nat.le_of_ble_eq_true rfl) (s_X12_goesOnF hS232 f234 (by omega)) ?_
            rintro _ h238 _ ⟨rfl, -, -, e239, rfl⟩
            replace e239 := e239.symm
            subst e239
            have e240 : (stS f n (nI (c + i)) p) = (false, p) := by unfold stS; rw [if_neg k52]
            exact r_ret dX12_readsStep_139 (rt_v rfl) (by rw [e240]; exact ⟨rfl, hS232, hF235, rfl, _, f237, fun j z => (by rw [pk_un (by omega), pk_un (by omega), pk_un (by omega)]), Or.inr ⟨rfl, _, _, _, _, f234⟩⟩)
          · have k241 : tK f n p = 6 := (km6 _).mp c229
            refine r_iconst (v := 1) rfl dX12_readsStep_127 (by decide) ?_
            refine r_goto (pc' := 132) rfl dX12_readsStep_128 ?_
            refine cl_X12_99 rfl rfl dX12_readsStep_132 (show 2 ≤ 420 ∧ 420 < 434 by decide).1 (show 2 ≤ 420 ∧ 420 < 434 by decide).2 f226 (Nat.le_of_ble_eq_true rfl) (s_X12_wantsF hS221 f226 (by omega)) ?_
            rintro _ h242 _ ⟨rfl, hS243, hK244, f245, rfl⟩
            have hF246 := KM_tr hF222 (KM_sb (by decide) hK244)
            have f247 : h242 421 = .inl (0, 300, .inl g) := (hK244 421 (by decide)).trans f225
            have f248 : h242 424 = .inl (0, 72, .inl (upd (upd (upd E ((3 * i) + 0) w) ((3 * i) + 1) w) ((3 * i) + 2) w)) := (hK244 424 (by decide)).trans f224
            refine r_aload_n rfl dX12_readsStep_135 rfl ?_
            refine cl_X12_103 rfl rfl dX12_readsStep_136 (show 2 ≤ 420 ∧ 420 < 434 by decide).1 (show 2 ≤ 420 ∧ 420 < 434 by decide).2 f245 (Nat.le_of_ble_eq_true rfl) (s_X12_goesOnF hS243 f245 (by omega)) ?_
            rintro _ h249 _ ⟨rfl, -, -, e250, rfl⟩
            replace e250 := e250.symm
            subst e250
            have e251 : (stS f n (nI (c + i)) p) = (false, p) := by unfold stS; rw [if_neg k52]
            exact r_ret dX12_readsStep_139 (rt_v rfl) (by rw [e251]; exact ⟨rfl, hS243, hF246, rfl, _, f248, fun j z => (by rw [pk_un (by omega), pk_un (by omega), pk_un (by omega)]), Or.inr ⟨rfl, _, _, _, _, f245⟩⟩)
        · have k252 : tK f n p = 3 := (km1 _).mp c211
          refine r_iconst (v := 1) rfl dX12_readsStep_91 (by decide) ?_
          refine r_goto (pc' := 96) rfl dX12_readsStep_92 ?_
          refine cl_X12_99 rfl rfl dX12_readsStep_96 (show 2 ≤ 420 ∧ 420 < 434 by decide).1 (show 2 ≤ 420 ∧ 420 < 434 by decide).2 f208 (Nat.le_of_ble_eq_true rfl) (s_X12_wantsF hS203 f208 (by omega)) ?_
          rintro _ h253 _ ⟨rfl, hS254, hK255, f256, rfl⟩
          have hF257 := KM_tr hF204 (KM_sb (by decide) hK255)
          have f258 : h253 421 = .inl (0, 300, .inl g) := (hK255 421 (by decide)).trans f207
          have f259 : h253 424 = .inl (0, 72, .inl (upd (upd E ((3 * i) + 0) w) ((3 * i) + 1) w)) := (hK255 424 (by decide)).trans f206
          refine r_aload_n rfl dX12_readsStep_99 rfl ?_
          refine r_getv 15 rfl dX12_readsStep_100 (show 2 ≤ 420 ∧ 420 < 434 by decide) f256 fl_X12_23 rfl ?_
          refine r_iconst (v := 3) rfl dX12_readsStep_103 (by decide) ?_
          refine r_iload_n rfl dX12_readsStep_104 rfl ?_
          refine r_imul rfl dX12_readsStep_105 ?_
          refine r_eqi (y := nI (3 * i)) (show 3 * (nI i) = nI (3 * i) from pk_mul 3 i) ?_
          refine r_iconst (v := 2) rfl dX12_readsStep_106 (by decide) ?_
          refine r_iadd rfl dX12_readsStep_107 ?_
          refine r_eqi (y := nI ((3 * i) + 2)) (show (nI (3 * i)) + 2 = nI ((3 * i) + 2) from nI_add (3 * i) 2) ?_
          refine r_aload_n rfl dX12_readsStep_108 rfl ?_
          refine r_getv 7 rfl dX12_readsStep_109 (show 2 ≤ 420 ∧ 420 < 434 by decide) f256 fl_X12_79 rfl ?_
          refine e_iast (jn := (3 * i) + 2) rfl dX12_readsStep_112 (show 2 ≤ 424 ∧ 424 < 434 by decide) hS254 hF257 (by decide) f259 (vp_in_nI (n := (3 * i) + 2) (by omega) (by decide)) (nI_clamp (n := (3 * i) + 2) (by omega)) (fun h260 hS261 hF262 hN263 f264 => ?_)
          have f265 : h260 421 = .inl (0, 300, .inl g) := (hN263 421 (by decide)).trans f258
          have f266 : h260 420 = .inr (12, [.int th, .long tr, .ref 421, .int (nI n), .int (nI (rdP f n p)), .int (kmap (tK f n p)), .int (nI (rdS f n p)), .int w, .int (nI (rdS f n p)), .int (nI c), .int md, .int ss, .int wg, .ref 422, .ref 423, .ref 424, .ref 425, .ref 426, .ref 427, .ref 428, .ref 429, .ref 430, .ref 431, .ref 432, .ref 433]) := (hN263 420 (by decide)).trans f256
          refine r_aload_n rfl dX12_readsStep_113 rfl ?_
          refine cl_X12_103 rfl rfl dX12_readsStep_114 (show 2 ≤ 420 ∧ 420 < 434 by decide).1 (show 2 ≤ 420 ∧ 420 < 434 by decide).2 f266 (Nat.le_of_ble_eq_true rfl) (s_X12_goesOnF hS261 f266 (by omega)) ?_
          rintro _ h267 _ ⟨rfl, -, -, e268, rfl⟩
          replace e268 := e268.symm
          subst e268
          refine r_aload_n rfl dX12_readsStep_117 rfl ?_
          refine r_aload_n rfl dX12_readsStep_118 rfl ?_
          refine r_getv 5 rfl dX12_readsStep_119 (show 2 ≤ 420 ∧ 420 < 434 by decide) f266 fl_X12_76 rfl ?_
          refine r_bipush (v := 6) rfl dX12_readsStep_122 (by decide) ?_
          refine r_icmp_ne (tgt := 131) rfl rfl dX12_readsStep_124 (fun c269 => ?_) (fun c269 => ?_)
          · have k270 : ¬ tK f n p = 6 := fun z => c269 ((km6 _).mpr z)
            refine r_iconst (v := 0) rfl dX12_readsStep_131 (by decide) ?_
            refine cl_X12_99 rfl rfl dX12_readsStep_132 (show 2 ≤ 420 ∧ 420 < 434 by decide).1 (show 2 ≤ 420 ∧ 420 < 434 by decide).2 f266 (Nat.le_of_ble_eq_true rfl) (s_X12_wantsF hS261 f266 (by omega)) ?_
            rintro _ h271 _ ⟨rfl, hS272, hK273, f274, rfl⟩
            have hF275 := KM_tr hF262 (KM_sb (by decide) hK273)
            have f276 : h271 421 = .inl (0, 300, .inl g) := (hK273 421 (by decide)).trans f265
            have f277 : h271 424 = .inl (0, 72, .inl (upd (upd (upd E ((3 * i) + 0) w) ((3 * i) + 1) w) ((3 * i) + 2) w)) := (hK273 424 (by decide)).trans f264
            refine r_aload_n rfl dX12_readsStep_135 rfl ?_
            refine cl_X12_103 rfl rfl dX12_readsStep_136 (show 2 ≤ 420 ∧ 420 < 434 by decide).1 (show 2 ≤ 420 ∧ 420 < 434 by decide).2 f274 (Nat.le_of_ble_eq_true rfl) (s_X12_goesOnF hS272 f274 (by omega)) ?_
            rintro _ h278 _ ⟨rfl, -, -, e279, rfl⟩
            replace e279 := e279.symm
            subst e279
            have e280 : (stS f n (nI (c + i)) p) = (false, p) := by unfold stS; rw [if_neg k52]
            exact r_ret dX12_readsStep_139 (rt_v rfl) (by rw [e280]; exact ⟨rfl, hS272, hF275, rfl, _, f277, fun j z => (by rw [pk_un (by omega), pk_un (by omega), pk_un (by omega)]), Or.inr ⟨rfl, _, _, _, _, f274⟩⟩)
          · have k281 : tK f n p = 6 := (km6 _).mp c269
            refine r_iconst (v := 1) rfl dX12_readsStep_127 (by decide) ?_
            refine r_goto (pc' := 132) rfl dX12_readsStep_128 ?_
            refine cl_X12_99 rfl rfl dX12_readsStep_132 (show 2 ≤ 420 ∧ 420 < 434 by decide).1 (show 2 ≤ 420 ∧ 420 < 434 by decide).2 f266 (Nat.le_of_ble_eq_true rfl) (s_X12_wantsF hS261 f266 (by omega)) ?_
            rintro _ h282 _ ⟨rfl, hS283, hK284, f285, rfl⟩
            have hF286 := KM_tr hF262 (KM_sb (by decide) hK284)
            have f287 : h282 421 = .inl (0, 300, .inl g) := (hK284 421 (by decide)).trans f265
            have f288 : h282 424 = .inl (0, 72, .inl (upd (upd (upd E ((3 * i) + 0) w) ((3 * i) + 1) w) ((3 * i) + 2) w)) := (hK284 424 (by decide)).trans f264
            refine r_aload_n rfl dX12_readsStep_135 rfl ?_
            refine cl_X12_103 rfl rfl dX12_readsStep_136 (show 2 ≤ 420 ∧ 420 < 434 by decide).1 (show 2 ≤ 420 ∧ 420 < 434 by decide).2 f285 (Nat.le_of_ble_eq_true rfl) (s_X12_goesOnF hS283 f285 (by omega)) ?_
            rintro _ h289 _ ⟨rfl, -, -, e290, rfl⟩
            replace e290 := e290.symm
            subst e290
            have e291 : (stS f n (nI (c + i)) p) = (false, p) := by unfold stS; rw [if_neg k52]
            exact r_ret dX12_readsStep_139 (rt_v rfl) (by rw [e291]; exact ⟨rfl, hS283, hF286, rfl, _, f288, fun j z => (by rw [pk_un (by omega), pk_un (by omega), pk_un (by omega)]), Or.inr ⟨rfl, _, _, _, _, f285⟩⟩)
      · refine r_iconst (v := 1) rfl dX12_readsStep_50 (by decide) ?_
        refine r_goto (pc' := 55) rfl dX12_readsStep_51 ?_
        refine cl_X12_99 rfl rfl dX12_readsStep_55 (show 2 ≤ 420 ∧ 420 < 434 by decide).1 (show 2 ≤ 420 ∧ 420 < 434 by decide).2 f56 (Nat.le_of_ble_eq_true rfl) (s_X12_wantsF hS54 f56 (by omega)) ?_
        rintro _ h292 _ ⟨rfl, hS293, hK294, f295, rfl⟩
        have hF296 := KM_tr hF57 (KM_sb (by decide) hK294)
        have f297 : h292 421 = .inl (0, 300, .inl g) := (hK294 421 (by decide)).trans f58
        have f298 : h292 424 = .inl (0, 72, .inl E) := (hK294 424 (by decide)).trans f59
        refine r_aload_n rfl dX12_readsStep_58 rfl ?_
        refine r_getv 15 rfl dX12_readsStep_59 (show 2 ≤ 420 ∧ 420 < 434 by decide) f295 fl_X12_23 rfl ?_
        refine r_iconst (v := 3) rfl dX12_readsStep_62 (by decide) ?_
        refine r_iload_n rfl dX12_readsStep_63 rfl ?_
        refine r_imul rfl dX12_readsStep_64 ?_
        refine r_eqi (y := nI (3 * i)) (show 3 * (nI i) = nI (3 * i) from pk_mul 3 i) ?_
        refine r_iload_n rfl dX12_readsStep_65 rfl ?_
        refine r_iadd rfl dX12_readsStep_66 ?_
        refine r_eqi (y := nI ((3 * i) + 0)) (show (nI (3 * i)) + 0 = nI ((3 * i) + 0) from nI_add (3 * i) 0) ?_
        refine r_aload_n rfl dX12_readsStep_67 rfl ?_
        refine r_getv 7 rfl dX12_readsStep_68 (show 2 ≤ 420 ∧ 420 < 434 by decide) f295 fl_X12_79 rfl ?_
        refine e_iast (jn := (3 * i) + 0) rfl dX12_readsStep_71 (show 2 ≤ 424 ∧ 424 < 434 by decide) hS293 hF296 (by decide) f298 (vp_in_nI (n := (3 * i) + 0) (by omega) (by decide)) (nI_clamp (n := (3 * i) + 0) (by omega)) (fun h299 hS300 hF301 hN302 f303 => ?_)
        have f304 : h299 421 = .inl (0, 300, .inl g) := (hN302 421 (by decide)).trans f297
        have f305 : h299 420 = .inr (12, [.int th, .long tr, .ref 421, .int (nI n), .int (nI (rdP f n p)), .int (kmap (tK f n p)), .int (nI (rdS f n p)), .int w, .int (nI (rdS f n p)), .int (nI c), .int md, .int ss, .int wg, .ref 422, .ref 423, .ref 424, .ref 425, .ref 426, .ref 427, .ref 428, .ref 429, .ref 430, .ref 431, .ref 432, .ref 433]) := (hN302 420 (by decide)).trans f295
        refine r_aload_n rfl dX12_readsStep_72 rfl ?_
        refine cl_X12_103 rfl rfl dX12_readsStep_73 (show 2 ≤ 420 ∧ 420 < 434 by decide).1 (show 2 ≤ 420 ∧ 420 < 434 by decide).2 f305 (Nat.le_of_ble_eq_true rfl) (s_X12_goesOnF hS300 f305 (by omega)) ?_
        rintro _ h306 _ ⟨rfl, -, -, e307, rfl⟩
        replace e307 := e307.symm
        subst e307
        refine r_iinc (y := 1) (ls' := [some (.ref 420), some (.int (nI i)), some (.int 1)]) rfl dX12_readsStep_76 rfl (by decide) (Nat.le_of_ble_eq_true rfl) rfl ?_
        refine r_goto (pc' := 23) rfl dX12_readsStep_79 ?_
        refine r_iload_n rfl dX12_readsStep_23 rfl ?_
        refine r_iconst (v := 2) rfl dX12_readsStep_24 (by decide) ?_
        refine r_icmp_ge (tgt := 82) rfl rfl dX12_readsStep_25 (fun zc => absurd zc (by decide)) (fun _ => ?_)
        refine r_aload_n rfl dX12_readsStep_28 rfl ?_
        refine r_aload_n rfl dX12_readsStep_29 rfl ?_
        refine r_getv 5 rfl dX12_readsStep_30 (show 2 ≤ 420 ∧ 420 < 434 by decide) f305 fl_X12_76 rfl ?_
        refine r_iconst (v := 4) rfl dX12_readsStep_33 (by decide) ?_
        refine r_icmp_ne (tgt := 54) rfl rfl dX12_readsStep_34 (fun zc => absurd zc (fun z => z c62)) (fun _ => ?_)
        refine r_aload_n rfl dX12_readsStep_37 rfl ?_
        refine r_getv 7 rfl dX12_readsStep_38 (show 2 ≤ 420 ∧ 420 < 434 by decide) f305 fl_X12_79 rfl ?_
        refine r_aload_n rfl dX12_readsStep_41 rfl ?_
        refine r_getv 9 rfl dX12_readsStep_42 (show 2 ≤ 420 ∧ 420 < 434 by decide) f305 fl_X12_112 rfl ?_
        refine r_iload_n rfl dX12_readsStep_45 rfl ?_
        refine r_iadd rfl dX12_readsStep_46 ?_
        refine r_eqi (y := nI (c + i)) (show (nI c) + (nI i) = nI (c + i) from nI_add c i) ?_
        refine r_icmp_ge (tgt := 54) rfl rfl dX12_readsStep_47 (fun zc => absurd zc c178) (fun _ => ?_)
        refine r_iconst (v := 1) rfl dX12_readsStep_50 (by decide) ?_
        refine r_goto (pc' := 55) rfl dX12_readsStep_51 ?_
        refine cl_X12_99 rfl rfl dX12_readsStep_55 (show 2 ≤ 420 ∧ 420 < 434 by decide).1 (show 2 ≤ 420 ∧ 420 < 434 by decide).2 f305 (Nat.le_of_ble_eq_true rfl) (s_X12_wantsF hS300 f305 (by omega)) ?_
        rintro _ h308 _ ⟨rfl, hS309, hK310, f311, rfl⟩
        have hF312 := KM_tr hF301 (KM_sb (by decide) hK310)
        have f313 : h308 421 = .inl (0, 300, .inl g) := (hK310 421 (by decide)).trans f304
        have f314 : h308 424 = .inl (0, 72, .inl (upd E ((3 * i) + 0) w)) := (hK310 424 (by decide)).trans f303
        refine r_aload_n rfl dX12_readsStep_58 rfl ?_
        refine r_getv 15 rfl dX12_readsStep_59 (show 2 ≤ 420 ∧ 420 < 434 by decide) f311 fl_X12_23 rfl ?_
        refine r_iconst (v := 3) rfl dX12_readsStep_62 (by decide) ?_
        refine r_iload_n rfl dX12_readsStep_63 rfl ?_
        refine r_imul rfl dX12_readsStep_64 ?_
        refine r_eqi (y := nI (3 * i)) (show 3 * (nI i) = nI (3 * i) from pk_mul 3 i) ?_
        refine r_iload_n rfl dX12_readsStep_65 rfl ?_
        refine r_iadd rfl dX12_readsStep_66 ?_
        refine r_eqi (y := nI ((3 * i) + 1)) (show (nI (3 * i)) + 1 = nI ((3 * i) + 1) from nI_add (3 * i) 1) ?_
        refine r_aload_n rfl dX12_readsStep_67 rfl ?_
        refine r_getv 7 rfl dX12_readsStep_68 (show 2 ≤ 420 ∧ 420 < 434 by decide) f311 fl_X12_79 rfl ?_
        refine e_iast (jn := (3 * i) + 1) rfl dX12_readsStep_71 (show 2 ≤ 424 ∧ 424 < 434 by decide) hS309 hF312 (by decide) f314 (vp_in_nI (n := (3 * i) + 1) (by omega) (by decide)) (nI_clamp (n := (3 * i) + 1) (by omega)) (fun h315 hS316 hF317 hN318 f319 => ?_)
        have f320 : h315 421 = .inl (0, 300, .inl g) := (hN318 421 (by decide)).trans f313
        have f321 : h315 420 = .inr (12, [.int th, .long tr, .ref 421, .int (nI n), .int (nI (rdP f n p)), .int (kmap (tK f n p)), .int (nI (rdS f n p)), .int w, .int (nI (rdS f n p)), .int (nI c), .int md, .int ss, .int wg, .ref 422, .ref 423, .ref 424, .ref 425, .ref 426, .ref 427, .ref 428, .ref 429, .ref 430, .ref 431, .ref 432, .ref 433]) := (hN318 420 (by decide)).trans f311
        refine r_aload_n rfl dX12_readsStep_72 rfl ?_
        refine cl_X12_103 rfl rfl dX12_readsStep_73 (show 2 ≤ 420 ∧ 420 < 434 by decide).1 (show 2 ≤ 420 ∧ 420 < 434 by decide).2 f321 (Nat.le_of_ble_eq_true rfl) (s_X12_goesOnF hS316 f321 (by omega)) ?_
        rintro _ h322 _ ⟨rfl, -, -, e323, rfl⟩
        replace e323 := e323.symm
        subst e323
        refine r_iinc (y := 2) (ls' := [some (.ref 420), some (.int (nI i)), some (.int 2)]) rfl dX12_readsStep_76 rfl (by decide) (Nat.le_of_ble_eq_true rfl) rfl ?_
        refine r_goto (pc' := 23) rfl dX12_readsStep_79 ?_
        refine r_iload_n rfl dX12_readsStep_23 rfl ?_
        refine r_iconst (v := 2) rfl dX12_readsStep_24 (by decide) ?_
        refine r_icmp_ge (tgt := 82) rfl rfl dX12_readsStep_25 (fun _ => ?_) (fun zc => absurd zc (by decide))
        refine r_aload_n rfl dX12_readsStep_82 rfl ?_
        refine r_aload_n rfl dX12_readsStep_83 rfl ?_
        refine r_getv 5 rfl dX12_readsStep_84 (show 2 ≤ 420 ∧ 420 < 434 by decide) f321 fl_X12_76 rfl ?_
        refine r_iconst (v := 1) rfl dX12_readsStep_87 (by decide) ?_
        refine r_icmp_ne (tgt := 95) rfl rfl dX12_readsStep_88 (fun c324 => ?_) (fun c324 => ?_)
        · have k325 : ¬ tK f n p = 3 := fun z => c324 ((km1 _).mpr z)
          refine r_iconst (v := 0) rfl dX12_readsStep_95 (by decide) ?_
          refine cl_X12_99 rfl rfl dX12_readsStep_96 (show 2 ≤ 420 ∧ 420 < 434 by decide).1 (show 2 ≤ 420 ∧ 420 < 434 by decide).2 f321 (Nat.le_of_ble_eq_true rfl) (s_X12_wantsF hS316 f321 (by omega)) ?_
          rintro _ h326 _ ⟨rfl, hS327, hK328, f329, rfl⟩
          have hF330 := KM_tr hF317 (KM_sb (by decide) hK328)
          have f331 : h326 421 = .inl (0, 300, .inl g) := (hK328 421 (by decide)).trans f320
          have f332 : h326 424 = .inl (0, 72, .inl (upd (upd E ((3 * i) + 0) w) ((3 * i) + 1) w)) := (hK328 424 (by decide)).trans f319
          refine r_aload_n rfl dX12_readsStep_99 rfl ?_
          refine r_getv 15 rfl dX12_readsStep_100 (show 2 ≤ 420 ∧ 420 < 434 by decide) f329 fl_X12_23 rfl ?_
          refine r_iconst (v := 3) rfl dX12_readsStep_103 (by decide) ?_
          refine r_iload_n rfl dX12_readsStep_104 rfl ?_
          refine r_imul rfl dX12_readsStep_105 ?_
          refine r_eqi (y := nI (3 * i)) (show 3 * (nI i) = nI (3 * i) from pk_mul 3 i) ?_
          refine r_iconst (v := 2) rfl dX12_readsStep_106 (by decide) ?_
          refine r_iadd rfl dX12_readsStep_107 ?_
          refine r_eqi (y := nI ((3 * i) + 2)) (show (nI (3 * i)) + 2 = nI ((3 * i) + 2) from nI_add (3 * i) 2) ?_
          refine r_aload_n rfl dX12_readsStep_108 rfl ?_
          refine r_getv 7 rfl dX12_readsStep_109 (show 2 ≤ 420 ∧ 420 < 434 by decide) f329 fl_X12_79 rfl ?_
          refine e_iast (jn := (3 * i) + 2) rfl dX12_readsStep_112 (show 2 ≤ 424 ∧ 424 < 434 by decide) hS327 hF330 (by decide) f332 (vp_in_nI (n := (3 * i) + 2) (by omega) (by decide)) (nI_clamp (n := (3 * i) + 2) (by omega)) (fun h333 hS334 hF335 hN336 f337 => ?_)
          have f338 : h333 421 = .inl (0, 300, .inl g) := (hN336 421 (by decide)).trans f331
          have f339 : h333 420 = .inr (12, [.int th, .long tr, .ref 421, .int (nI n), .int (nI (rdP f n p)), .int (kmap (tK f n p)), .int (nI (rdS f n p)), .int w, .int (nI (rdS f n p)), .int (nI c), .int md, .int ss, .int wg, .ref 422, .ref 423, .ref 424, .ref 425, .ref 426, .ref 427, .ref 428, .ref 429, .ref 430, .ref 431, .ref 432, .ref 433]) := (hN336 420 (by decide)).trans f329
          refine r_aload_n rfl dX12_readsStep_113 rfl ?_
          refine cl_X12_103 rfl rfl dX12_readsStep_114 (show 2 ≤ 420 ∧ 420 < 434 by decide).1 (show 2 ≤ 420 ∧ 420 < 434 by decide).2 f339 (Nat.le_of_ble_eq_true rfl) (s_X12_goesOnF hS334 f339 (by omega)) ?_
          rintro _ h340 _ ⟨rfl, -, -, e341, rfl⟩
          replace e341 := e341.symm
          subst e341
          refine r_aload_n rfl dX12_readsStep_117 rfl ?_
          refine r_aload_n rfl dX12_readsStep_118 rfl ?_
          refine r_getv 5 rfl dX12_readsStep_119 (show 2 ≤ 420 ∧ 420 < 434 by decide) f339 fl_X12_76 rfl ?_
          refine r_bipush (v := 6) rfl dX12_readsStep_122 (by decide) ?_
          refine r_icmp_ne (tgt := 131) rfl rfl dX12_readsStep_124 (fun c342 => ?_) (fun c342 => ?_)
          · have k343 : ¬ tK f n p = 6 := fun z => c342 ((km6 _).mpr z)
            refine r_iconst (v := 0) rfl dX12_readsStep_131 (by decide) ?_
            refine cl_X12_99 rfl rfl dX12_readsStep_132 (show 2 ≤ 420 ∧ 420 < 434 by decide).1 (show 2 ≤ 420 ∧ 420 < 434 by decide).2 f339 (Nat.le_of_ble_eq_true rfl) (s_X12_wantsF hS334 f339 (by omega)) ?_
            rintro _ h344 _ ⟨rfl, hS345, hK346, f347, rfl⟩
            have hF348 := KM_tr hF335 (KM_sb (by decide) hK346)
            have f349 : h344 421 = .inl (0, 300, .inl g) := (hK346 421 (by decide)).trans f338
            have f350 : h344 424 = .inl (0, 72, .inl (upd (upd (upd E ((3 * i) + 0) w) ((3 * i) + 1) w) ((3 * i) + 2) w)) := (hK346 424 (by decide)).trans f337
            refine r_aload_n rfl dX12_readsStep_135 rfl ?_
            refine cl_X12_103 rfl rfl dX12_readsStep_136 (show 2 ≤ 420 ∧ 420 < 434 by decide).1 (show 2 ≤ 420 ∧ 420 < 434 by decide).2 f347 (Nat.le_of_ble_eq_true rfl) (s_X12_goesOnF hS345 f347 (by omega)) ?_
            rintro _ h351 _ ⟨rfl, -, -, e352, rfl⟩
            replace e352 := e352.symm
            subst e352
            have e353 : (stS f n (nI (c + i)) p) = (false, p) := by unfold stS; rw [if_neg k52]
            exact r_ret dX12_readsStep_139 (rt_v rfl) (by rw [e353]; exact ⟨rfl, hS345, hF348, rfl, _, f350, fun j z => (by rw [pk_un (by omega), pk_un (by omega), pk_un (by omega)]), Or.inr ⟨rfl, _, _, _, _, f347⟩⟩)
          · have k354 : tK f n p = 6 := (km6 _).mp c342
            refine r_iconst (v := 1) rfl dX12_readsStep_127 (by decide) ?_
            refine r_goto (pc' := 132) rfl dX12_readsStep_128 ?_
            refine cl_X12_99 rfl rfl dX12_readsStep_132 (show 2 ≤ 420 ∧ 420 < 434 by decide).1 (show 2 ≤ 420 ∧ 420 < 434 by decide).2 f339 (Nat.le_of_ble_eq_true rfl) (s_X12_wantsF hS334 f339 (by omega)) ?_
            rintro _ h355 _ ⟨rfl, hS356, hK357, f358, rfl⟩
            have hF359 := KM_tr hF335 (KM_sb (by decide) hK357)
            have f360 : h355 421 = .inl (0, 300, .inl g) := (hK357 421 (by decide)).trans f338
            have f361 : h355 424 = .inl (0, 72, .inl (upd (upd (upd E ((3 * i) + 0) w) ((3 * i) + 1) w) ((3 * i) + 2) w)) := (hK357 424 (by decide)).trans f337
            refine r_aload_n rfl dX12_readsStep_135 rfl ?_
            refine cl_X12_103 rfl rfl dX12_readsStep_136 (show 2 ≤ 420 ∧ 420 < 434 by decide).1 (show 2 ≤ 420 ∧ 420 < 434 by decide).2 f358 (Nat.le_of_ble_eq_true rfl) (s_X12_goesOnF hS356 f358 (by omega)) ?_
            rintro _ h362 _ ⟨rfl, -, -, e363, rfl⟩
            replace e363 := e363.symm
            subst e363
            have e364 : (stS f n (nI (c + i)) p) = (false, p) := by unfold stS; rw [if_neg k52]
            exact r_ret dX12_readsStep_139 (rt_v rfl) (by rw [e364]; exact ⟨rfl, hS356, hF359, rfl, _, f361, fun j z => (by rw [pk_un (by omega), pk_un (by omega), pk_un (by omega)]), Or.inr ⟨rfl, _, _, _, _, f358⟩⟩)
        · have k365 : tK f n p = 3 := (km1 _).mp c324
          refine r_iconst (v := 1) rfl dX12_readsStep_91 (by decide) ?_
          refine r_goto (pc' := 96) rfl dX12_readsStep_92 ?_
          refine cl_X12_99 rfl rfl dX12_readsStep_96 (show 2 ≤ 420 ∧ 420 < 434 by decide).1 (show 2 ≤ 420 ∧ 420 < 434 by decide).2 f321 (Nat.le_of_ble_eq_true rfl) (s_X12_wantsF hS316 f321 (by omega)) ?_
          rintro _ h366 _ ⟨rfl, hS367, hK368, f369, rfl⟩
          have hF370 := KM_tr hF317 (KM_sb (by decide) hK368)
          have f371 : h366 421 = .inl (0, 300, .inl g) := (hK368 421 (by decide)).trans f320
          have f372 : h366 424 = .inl (0, 72, .inl (upd (upd E ((3 * i) + 0) w) ((3 * i) + 1) w)) := (hK368 424 (by decide)).trans f319
          refine r_aload_n rfl dX12_readsStep_99 rfl ?_
          refine r_getv 15 rfl dX12_readsStep_100 (show 2 ≤ 420 ∧ 420 < 434 by decide) f369 fl_X12_23 rfl ?_
          refine r_iconst (v := 3) rfl dX12_readsStep_103 (by decide) ?_
          refine r_iload_n rfl dX12_readsStep_104 rfl ?_
          refine r_imul rfl dX12_readsStep_105 ?_
          refine r_eqi (y := nI (3 * i)) (show 3 * (nI i) = nI (3 * i) from pk_mul 3 i) ?_
          refine r_iconst (v := 2) rfl dX12_readsStep_106 (by decide) ?_
          refine r_iadd rfl dX12_readsStep_107 ?_
          refine r_eqi (y := nI ((3 * i) + 2)) (show (nI (3 * i)) + 2 = nI ((3 * i) + 2) from nI_add (3 * i) 2) ?_
          refine r_aload_n rfl dX12_readsStep_108 rfl ?_
          refine r_getv 7 rfl dX12_readsStep_109 (show 2 ≤ 420 ∧ 420 < 434 by decide) f369 fl_X12_79 rfl ?_
          refine e_iast (jn := (3 * i) + 2) rfl dX12_readsStep_112 (show 2 ≤ 424 ∧ 424 < 434 by decide) hS367 hF370 (by decide) f372 (vp_in_nI (n := (3 * i) + 2) (by omega) (by decide)) (nI_clamp (n := (3 * i) + 2) (by omega)) (fun h373 hS374 hF375 hN376 f377 => ?_)
          have f378 : h373 421 = .inl (0, 300, .inl g) := (hN376 421 (by decide)).trans f371
          have f379 : h373 420 = .inr (12, [.int th, .long tr, .ref 421, .int (nI n), .int (nI (rdP f n p)), .int (kmap (tK f n p)), .int (nI (rdS f n p)), .int w, .int (nI (rdS f n p)), .int (nI c), .int md, .int ss, .int wg, .ref 422, .ref 423, .ref 424, .ref 425, .ref 426, .ref 427, .ref 428, .ref 429, .ref 430, .ref 431, .ref 432, .ref 433]) := (hN376 420 (by decide)).trans f369
          refine r_aload_n rfl dX12_readsStep_113 rfl ?_
          refine cl_X12_103 rfl rfl dX12_readsStep_114 (show 2 ≤ 420 ∧ 420 < 434 by decide).1 (show 2 ≤ 420 ∧ 420 < 434 by decide).2 f379 (Nat.le_of_ble_eq_true rfl) (s_X12_goesOnF hS374 f379 (by omega)) ?_
          rintro _ h380 _ ⟨rfl, -, -, e381, rfl⟩
          replace e381 := e381.symm
          subst e381
          refine r_aload_n rfl dX12_readsStep_117 rfl ?_
          refine r_aload_n rfl dX12_readsStep_118 rfl ?_
          refine r_getv 5 rfl dX12_readsStep_119 (show 2 ≤ 420 ∧ 420 < 434 by decide) f379 fl_X12_76 rfl ?_
          refine r_bipush (v := 6) rfl dX12_readsStep_122 (by decide) ?_
          refine r_icmp_ne (tgt := 131) rfl rfl dX12_readsStep_124 (fun c382 => ?_) (fun c382 => ?_)
          · have k383 : ¬ tK f n p = 6 := fun z => c382 ((km6 _).mpr z)
            refine r_iconst (v := 0) rfl dX12_readsStep_131 (by decide) ?_
            refine cl_X12_99 rfl rfl dX12_readsStep_132 (show 2 ≤ 420 ∧ 420 < 434 by decide).1 (show 2 ≤ 420 ∧ 420 < 434 by decide).2 f379 (Nat.le_of_ble_eq_true rfl) (s_X12_wantsF hS374 f379 (by omega)) ?_
            rintro _ h384 _ ⟨rfl, hS385, hK386, f387, rfl⟩
            have hF388 := KM_tr hF375 (KM_sb (by decide) hK386)
            have f389 : h384 421 = .inl (0, 300, .inl g) := (hK386 421 (by decide)).trans f378
            have f390 : h384 424 = .inl (0, 72, .inl (upd (upd (upd E ((3 * i) + 0) w) ((3 * i) + 1) w) ((3 * i) + 2) w)) := (hK386 424 (by decide)).trans f377
            refine r_aload_n rfl dX12_readsStep_135 rfl ?_
            refine cl_X12_103 rfl rfl dX12_readsStep_136 (show 2 ≤ 420 ∧ 420 < 434 by decide).1 (show 2 ≤ 420 ∧ 420 < 434 by decide).2 f387 (Nat.le_of_ble_eq_true rfl) (s_X12_goesOnF hS385 f387 (by omega)) ?_
            rintro _ h391 _ ⟨rfl, -, -, e392, rfl⟩
            replace e392 := e392.symm
            subst e392
            have e393 : (stS f n (nI (c + i)) p) = (false, p) := by unfold stS; rw [if_neg k52]
            exact r_ret dX12_readsStep_139 (rt_v rfl) (by rw [e393]; exact ⟨rfl, hS385, hF388, rfl, _, f390, fun j z => (by rw [pk_un (by omega), pk_un (by omega), pk_un (by omega)]), Or.inr ⟨rfl, _, _, _, _, f387⟩⟩)
          · have k394 : tK f n p = 6 := (km6 _).mp c382
            refine r_iconst (v := 1) rfl dX12_readsStep_127 (by decide) ?_
            refine r_goto (pc' := 132) rfl dX12_readsStep_128 ?_
            refine cl_X12_99 rfl rfl dX12_readsStep_132 (show 2 ≤ 420 ∧ 420 < 434 by decide).1 (show 2 ≤ 420 ∧ 420 < 434 by decide).2 f379 (Nat.le_of_ble_eq_true rfl) (s_X12_wantsF hS374 f379 (by omega)) ?_
            rintro _ h395 _ ⟨rfl, hS396, hK397, f398, rfl⟩
            have hF399 := KM_tr hF375 (KM_sb (by decide) hK397)
            have f400 : h395 421 = .inl (0, 300, .inl g) := (hK397 421 (by decide)).trans f378
            have f401 : h395 424 = .inl (0, 72, .inl (upd (upd (upd E ((3 * i) + 0) w) ((3 * i) + 1) w) ((3 * i) + 2) w)) := (hK397 424 (by decide)).trans f377
            refine r_aload_n rfl dX12_readsStep_135 rfl ?_
            refine cl_X12_103 rfl rfl dX12_readsStep_136 (show 2 ≤ 420 ∧ 420 < 434 by decide).1 (show 2 ≤ 420 ∧ 420 < 434 by decide).2 f398 (Nat.le_of_ble_eq_true rfl) (s_X12_goesOnF hS396 f398 (by omega)) ?_
            rintro _ h402 _ ⟨rfl, -, -, e403, rfl⟩
            replace e403 := e403.symm
            subst e403
            have e404 : (stS f n (nI (c + i)) p) = (false, p) := by unfold stS; rw [if_neg k52]
            exact r_ret dX12_readsStep_139 (rt_v rfl) (by rw [e404]; exact ⟨rfl, hS396, hF399, rfl, _, f401, fun j z => (by rw [pk_un (by omega), pk_un (by omega), pk_un (by omega)]), Or.inr ⟨rfl, _, _, _, _, f398⟩⟩)
  · have k405 : tK f n p = 2 := (km3 _).mp c51
    refine r_iconst (v := 1) rfl dX12_readsStep_9 (by decide) ?_
    refine r_goto (pc' := 14) rfl dX12_readsStep_10 ?_
    refine cl_X12_99 rfl rfl dX12_readsStep_14 (show 2 ≤ 420 ∧ 420 < 434 by decide).1 (show 2 ≤ 420 ∧ 420 < 434 by decide).2 h5 (Nat.le_of_ble_eq_true rfl) (s_X12_wants1 hS h5) ?_
    rintro _ h406 _ ⟨rfl, hS407, hK408, f409, rfl⟩
    have hF410 := KM_tr (KM_rf (Mod := [420, 424]) h) (KM_sb (by decide) hK408)
    have f411 : h406 421 = .inl (0, 300, .inl g) := (hK408 421 (by decide)).trans h6
    have f412 : h406 424 = .inl (0, 72, .inl E) := (hK408 424 (by decide)).trans h7
    refine r_aload_n rfl dX12_readsStep_17 rfl ?_
    refine cl_X12_103 rfl rfl dX12_readsStep_18 (show 2 ≤ 420 ∧ 420 < 434 by decide).1 (show 2 ≤ 420 ∧ 420 < 434 by decide).2 f409 (Nat.le_of_ble_eq_true rfl) (s_X12_goesOn1 hS407 hX (rdP_le f hp) f409 f411) ?_
    rintro _ h413 _ ⟨rfl, hS414, hK415, ⟨w418, f416, hw419⟩, rfl⟩
    have hF417 := KM_tr hF410 (KM_sb (by decide) hK415)
    have hl420 := (rdS_le f (rdP_le f hp)).2
    have f421 : h413 421 = .inl (0, 300, .inl g) := (hK415 421 (by decide)).trans f411
    have f422 : h413 424 = .inl (0, 72, .inl E) := (hK415 424 (by decide)).trans f412
    refine r_iconst (v := 0) rfl dX12_readsStep_21 (by decide) ?_
    refine r_istore_n (ls' := [some (.ref 420), some (.int (nI i)), some (.int 0)]) rfl dX12_readsStep_22 (Nat.le_of_ble_eq_true rfl) rfl ?_
    refine r_iload_n rfl dX12_readsStep_23 rfl ?_
    refine r_iconst (v := 2) rfl dX12_readsStep_24 (by decide) ?_
    refine r_icmp_ge (tgt := 82) rfl rfl dX12_readsStep_25 (fun zc => absurd zc (by decide)) (fun _ => ?_)
    refine r_aload_n rfl dX12_readsStep_28 rfl ?_
    refine r_aload_n rfl dX12_readsStep_29 rfl ?_
    refine r_getv 5 rfl dX12_readsStep_30 (show 2 ≤ 420 ∧ 420 < 434 by decide) f416 fl_X12_76 rfl ?_
    refine r_iconst (v := 4) rfl dX12_readsStep_33 (by decide) ?_
    refine r_icmp_ne (tgt := 54) rfl rfl dX12_readsStep_34 (fun c423 => ?_) (fun c423 => ?_)
    · have k424 : ¬ tK f n (rdP f n p) = 4 := fun z => c423 ((km4 _).mpr z)
      refine r_iconst (v := 0) rfl dX12_readsStep_54 (by decide) ?_
      refine cl_X12_99 rfl rfl dX12_readsStep_55 (show 2 ≤ 420 ∧ 420 < 434 by decide).1 (show 2 ≤ 420 ∧ 420 < 434 by decide).2 f416 (Nat.le_of_ble_eq_true rfl) (s_X12_wants0 hS414 f416) ?_
      rintro _ h425 _ ⟨rfl, hS426, hK427, f428, rfl⟩
      have hF429 := KM_tr hF417 (KM_sb (by decide) hK427)
      have f430 : h425 421 = .inl (0, 300, .inl g) := (hK427 421 (by decide)).trans f421
      have f431 : h425 424 = .inl (0, 72, .inl E) := (hK427 424 (by decide)).trans f422
      refine r_aload_n rfl dX12_readsStep_58 rfl ?_
      refine r_getv 15 rfl dX12_readsStep_59 (show 2 ≤ 420 ∧ 420 < 434 by decide) f428 fl_X12_23 rfl ?_
      refine r_iconst (v := 3) rfl dX12_readsStep_62 (by decide) ?_
      refine r_iload_n rfl dX12_readsStep_63 rfl ?_
      refine r_imul rfl dX12_readsStep_64 ?_
      refine r_eqi (y := nI (3 * i)) (show 3 * (nI i) = nI (3 * i) from pk_mul 3 i) ?_
      refine r_iload_n rfl dX12_readsStep_65 rfl ?_
      refine r_iadd rfl dX12_readsStep_66 ?_
      refine r_eqi (y := nI ((3 * i) + 0)) (show (nI (3 * i)) + 0 = nI ((3 * i) + 0) from nI_add (3 * i) 0) ?_
      refine r_aload_n rfl dX12_readsStep_67 rfl ?_
      refine r_getv 7 rfl dX12_readsStep_68 (show 2 ≤ 420 ∧ 420 < 434 by decide) f428 fl_X12_79 rfl ?_
      refine e_iast (jn := (3 * i) + 0) rfl dX12_readsStep_71 (show 2 ≤ 424 ∧ 424 < 434 by decide) hS426 hF429 (by decide) f431 (vp_in_nI (n := (3 * i) + 0) (by omega) (by decide)) (nI_clamp (n := (3 * i) + 0) (by omega)) (fun h432 hS433 hF434 hN435 f436 => ?_)
      have f437 : h432 421 = .inl (0, 300, .inl g) := (hN435 421 (by decide)).trans f430
      have f438 : h432 420 = .inr (12, [.int th, .long tr, .ref 421, .int (nI n), .int (nI (rdP f n (rdP f n p))), .int (kmap (tK f n (rdP f n p))), .int (nI (rdS f n (rdP f n p))), .int w418, .int (nI (rdS f n (rdP f n p))), .int (nI c), .int md, .int ss, .int wg, .ref 422, .ref 423, .ref 424, .ref 425, .ref 426, .ref 427, .ref 428, .ref 429, .ref 430, .ref 431, .ref 432, .ref 433]) := (hN435 420 (by decide)).trans f428
      refine r_aload_n rfl dX12_readsStep_72 rfl ?_
      refine cl_X12_103 rfl rfl dX12_readsStep_73 (show 2 ≤ 420 ∧ 420 < 434 by decide).1 (show 2 ≤ 420 ∧ 420 < 434 by decide).2 f438 (Nat.le_of_ble_eq_true rfl) (s_X12_goesOnF hS433 f438 (by omega)) ?_
      rintro _ h439 _ ⟨rfl, -, -, e440, rfl⟩
      replace e440 := e440.symm
      subst e440
      refine r_iinc (y := 1) (ls' := [some (.ref 420), some (.int (nI i)), some (.int 1)]) rfl dX12_readsStep_76 rfl (by decide) (Nat.le_of_ble_eq_true rfl) rfl ?_
      refine r_goto (pc' := 23) rfl dX12_readsStep_79 ?_
      refine r_iload_n rfl dX12_readsStep_23 rfl ?_
      refine r_iconst (v := 2) rfl dX12_readsStep_24 (by decide) ?_
      refine r_icmp_ge (tgt := 82) rfl rfl dX12_readsStep_25 (fun zc => absurd zc (by decide)) (fun _ => ?_)
      refine r_aload_n rfl dX12_readsStep_28 rfl ?_
      refine r_aload_n rfl dX12_readsStep_29 rfl ?_
      refine r_getv 5 rfl dX12_readsStep_30 (show 2 ≤ 420 ∧ 420 < 434 by decide) f438 fl_X12_76 rfl ?_
      refine r_iconst (v := 4) rfl dX12_readsStep_33 (by decide) ?_
      refine r_icmp_ne (tgt := 54) rfl rfl dX12_readsStep_34 (fun _ => ?_) (fun zc => absurd zc c423)
      refine r_iconst (v := 0) rfl dX12_readsStep_54 (by decide) ?_
      refine cl_X12_99 rfl rfl dX12_readsStep_55 (show 2 ≤ 420 ∧ 420 < 434 by decide).1 (show 2 ≤ 420 ∧ 420 < 434 by decide).2 f438 (Nat.le_of_ble_eq_true rfl) (s_X12_wantsF hS433 f438 (by omega)) ?_
      rintro _ h441 _ ⟨rfl, hS442, hK443, f444, rfl⟩
      have hF445 := KM_tr hF434 (KM_sb (by decide) hK443)
      have f446 : h441 421 = .inl (0, 300, .inl g) := (hK443 421 (by decide)).trans f437
      have f447 : h441 424 = .inl (0, 72, .inl (upd E ((3 * i) + 0) w418)) := (hK443 424 (by decide)).trans f436
      refine r_aload_n rfl dX12_readsStep_58 rfl ?_
      refine r_getv 15 rfl dX12_readsStep_59 (show 2 ≤ 420 ∧ 420 < 434 by decide) f444 fl_X12_23 rfl ?_
      refine r_iconst (v := 3) rfl dX12_readsStep_62 (by decide) ?_
      refine r_iload_n rfl dX12_readsStep_63 rfl ?_
      refine r_imul rfl dX12_readsStep_64 ?_
      refine r_eqi (y := nI (3 * i)) (show 3 * (nI i) = nI (3 * i) from pk_mul 3 i) ?_
      refine r_iload_n rfl dX12_readsStep_65 rfl ?_
      refine r_iadd rfl dX12_readsStep_66 ?_
      refine r_eqi (y := nI ((3 * i) + 1)) (show (nI (3 * i)) + 1 = nI ((3 * i) + 1) from nI_add (3 * i) 1) ?_
      refine r_aload_n rfl dX12_readsStep_67 rfl ?_
      refine r_getv 7 rfl dX12_readsStep_68 (show 2 ≤ 420 ∧ 420 < 434 by decide) f444 fl_X12_79 rfl ?_
      refine e_iast (jn := (3 * i) + 1) rfl dX12_readsStep_71 (show 2 ≤ 424 ∧ 424 < 434 by decide) hS442 hF445 (by decide) f447 (vp_in_nI (n := (3 * i) + 1) (by omega) (by decide)) (nI_clamp (n := (3 * i) + 1) (by omega)) (fun h448 hS449 hF450 hN451 f452 => ?_)
      have f453 : h448 421 = .inl (0, 300, .inl g) := (hN451 421 (by decide)).trans f446
      have f454 : h448 420 = .inr (12, [.int th, .long tr, .ref 421, .int (nI n), .int (nI (rdP f n (rdP f n p))), .int (kmap (tK f n (rdP f n p))), .int (nI (rdS f n (rdP f n p))), .int w418, .int (nI (rdS f n (rdP f n p))), .int (nI c), .int md, .int ss, .int wg, .ref 422, .ref 423, .ref 424, .ref 425, .ref 426, .ref 427, .ref 428, .ref 429, .ref 430, .ref 431, .ref 432, .ref 433]) := (hN451 420 (by decide)).trans f444
      refine r_aload_n rfl dX12_readsStep_72 rfl ?_
      refine cl_X12_103 rfl rfl dX12_readsStep_73 (show 2 ≤ 420 ∧ 420 < 434 by decide).1 (show 2 ≤ 420 ∧ 420 < 434 by decide).2 f454 (Nat.le_of_ble_eq_true rfl) (s_X12_goesOnF hS449 f454 (by omega)) ?_
      rintro _ h455 _ ⟨rfl, -, -, e456, rfl⟩
      replace e456 := e456.symm
      subst e456
      refine r_iinc (y := 2) (ls' := [some (.ref 420), some (.int (nI i)), some (.int 2)]) rfl dX12_readsStep_76 rfl (by decide) (Nat.le_of_ble_eq_true rfl) rfl ?_
      refine r_goto (pc' := 23) rfl dX12_readsStep_79 ?_
      refine r_iload_n rfl dX12_readsStep_23 rfl ?_
      refine r_iconst (v := 2) rfl dX12_readsStep_24 (by decide) ?_
      refine r_icmp_ge (tgt := 82) rfl rfl dX12_readsStep_25 (fun _ => ?_) (fun zc => absurd zc (by decide))
      refine r_aload_n rfl dX12_readsStep_82 rfl ?_
      refine r_aload_n rfl dX12_readsStep_83 rfl ?_
      refine r_getv 5 rfl dX12_readsStep_84 (show 2 ≤ 420 ∧ 420 < 434 by decide) f454 fl_X12_76 rfl ?_
      refine r_iconst (v := 1) rfl dX12_readsStep_87 (by decide) ?_
      refine r_icmp_ne (tgt := 95) rfl rfl dX12_readsStep_88 (fun c457 => ?_) (fun c457 => ?_)
      · have k458 : ¬ tK f n (rdP f n p) = 3 := fun z => c457 ((km1 _).mpr z)
        refine r_iconst (v := 0) rfl dX12_readsStep_95 (by decide) ?_
        refine cl_X12_99 rfl rfl dX12_readsStep_96 (show 2 ≤ 420 ∧ 420 < 434 by decide).1 (show 2 ≤ 420 ∧ 420 < 434 by decide).2 f454 (Nat.le_of_ble_eq_true rfl) (s_X12_wantsF hS449 f454 (by omega)) ?_
        rintro _ h459 _ ⟨rfl, hS460, hK461, f462, rfl⟩
        have hF463 := KM_tr hF450 (KM_sb (by decide) hK461)
        have f464 : h459 421 = .inl (0, 300, .inl g) := (hK461 421 (by decide)).trans f453
        have f465 : h459 424 = .inl (0, 72, .inl (upd (upd E ((3 * i) + 0) w418) ((3 * i) + 1) w418)) := (hK461 424 (by decide)).trans f452
        refine r_aload_n rfl dX12_readsStep_99 rfl ?_
        refine r_getv 15 rfl dX12_readsStep_100 (show 2 ≤ 420 ∧ 420 < 434 by decide) f462 fl_X12_23 rfl ?_
        refine r_iconst (v := 3) rfl dX12_readsStep_103 (by decide) ?_
        refine r_iload_n rfl dX12_readsStep_104 rfl ?_
        refine r_imul rfl dX12_readsStep_105 ?_
        refine r_eqi (y := nI (3 * i)) (show 3 * (nI i) = nI (3 * i) from pk_mul 3 i) ?_
        refine r_iconst (v := 2) rfl dX12_readsStep_106 (by decide) ?_
        refine r_iadd rfl dX12_readsStep_107 ?_
        refine r_eqi (y := nI ((3 * i) + 2)) (show (nI (3 * i)) + 2 = nI ((3 * i) + 2) from nI_add (3 * i) 2) ?_
        refine r_aload_n rfl dX12_readsStep_108 rfl ?_
        refine r_getv 7 rfl dX12_readsStep_109 (show 2 ≤ 420 ∧ 420 < 434 by decide) f462 fl_X12_79 rfl ?_
        refine e_iast (jn := (3 * i) + 2) rfl dX12_readsStep_112 (show 2 ≤ 424 ∧ 424 < 434 by decide) hS460 hF463 (by decide) f465 (vp_in_nI (n := (3 * i) + 2) (by omega) (by decide)) (nI_clamp (n := (3 * i) + 2) (by omega)) (fun h466 hS467 hF468 hN469 f470 => ?_)
        have f471 : h466 421 = .inl (0, 300, .inl g) := (hN469 421 (by decide)).trans f464
        have f472 : h466 420 = .inr (12, [.int th, .long tr, .ref 421, .int (nI n), .int (nI (rdP f n (rdP f n p))), .int (kmap (tK f n (rdP f n p))), .int (nI (rdS f n (rdP f n p))), .int w418, .int (nI (rdS f n (rdP f n p))), .int (nI c), .int md, .int ss, .int wg, .ref 422, .ref 423, .ref 424, .ref 425, .ref 426, .ref 427, .ref 428, .ref 429, .ref 430, .ref 431, .ref 432, .ref 433]) := (hN469 420 (by decide)).trans f462
        refine r_aload_n rfl dX12_readsStep_113 rfl ?_
        refine cl_X12_103 rfl rfl dX12_readsStep_114 (show 2 ≤ 420 ∧ 420 < 434 by decide).1 (show 2 ≤ 420 ∧ 420 < 434 by decide).2 f472 (Nat.le_of_ble_eq_true rfl) (s_X12_goesOnF hS467 f472 (by omega)) ?_
        rintro _ h473 _ ⟨rfl, -, -, e474, rfl⟩
        replace e474 := e474.symm
        subst e474
        refine r_aload_n rfl dX12_readsStep_117 rfl ?_
        refine r_aload_n rfl dX12_readsStep_118 rfl ?_
        refine r_getv 5 rfl dX12_readsStep_119 (show 2 ≤ 420 ∧ 420 < 434 by decide) f472 fl_X12_76 rfl ?_
        refine r_bipush (v := 6) rfl dX12_readsStep_122 (by decide) ?_
        refine r_icmp_ne (tgt := 131) rfl rfl dX12_readsStep_124 (fun c475 => ?_) (fun c475 => ?_)
        · have k476 : ¬ tK f n (rdP f n p) = 6 := fun z => c475 ((km6 _).mpr z)
          refine r_iconst (v := 0) rfl dX12_readsStep_131 (by decide) ?_
          refine cl_X12_99 rfl rfl dX12_readsStep_132 (show 2 ≤ 420 ∧ 420 < 434 by decide).1 (show 2 ≤ 420 ∧ 420 < 434 by decide).2 f472 (Nat.le_of_ble_eq_true rfl) (s_X12_wantsF hS467 f472 (by omega)) ?_
          rintro _ h477 _ ⟨rfl, hS478, hK479, f480, rfl⟩
          have hF481 := KM_tr hF468 (KM_sb (by decide) hK479)
          have f482 : h477 421 = .inl (0, 300, .inl g) := (hK479 421 (by decide)).trans f471
          have f483 : h477 424 = .inl (0, 72, .inl (upd (upd (upd E ((3 * i) + 0) w418) ((3 * i) + 1) w418) ((3 * i) + 2) w418)) := (hK479 424 (by decide)).trans f470
          refine r_aload_n rfl dX12_readsStep_135 rfl ?_
          refine cl_X12_103 rfl rfl dX12_readsStep_136 (show 2 ≤ 420 ∧ 420 < 434 by decide).1 (show 2 ≤ 420 ∧ 420 < 434 by decide).2 f480 (Nat.le_of_ble_eq_true rfl) (s_X12_goesOnF hS478 f480 (by omega)) ?_
          rintro _ h484 _ ⟨rfl, -, -, e485, rfl⟩
          replace e485 := e485.symm
          subst e485
          have e486 : (stS f n (nI (c + i)) p) = (false, (rdP f n p)) := by unfold stS; rw [if_pos k405, if_neg (fun z => k424 z.2)]
          exact r_ret dX12_readsStep_139 (rt_v rfl) (by rw [e486]; exact ⟨rfl, hS478, hF481, rfl, _, f483, fun j z => (by rw [pk_un (by omega), pk_un (by omega), pk_un (by omega)]), Or.inr ⟨rfl, _, _, _, _, f480⟩⟩)
        · have k487 : tK f n (rdP f n p) = 6 := (km6 _).mp c475
          refine r_iconst (v := 1) rfl dX12_readsStep_127 (by decide) ?_
          refine r_goto (pc' := 132) rfl dX12_readsStep_128 ?_
          refine cl_X12_99 rfl rfl dX12_readsStep_132 (show 2 ≤ 420 ∧ 420 < 434 by decide).1 (show 2 ≤ 420 ∧ 420 < 434 by decide).2 f472 (Nat.le_of_ble_eq_true rfl) (s_X12_wantsF hS467 f472 (by omega)) ?_
          rintro _ h488 _ ⟨rfl, hS489, hK490, f491, rfl⟩
          have hF492 := KM_tr hF468 (KM_sb (by decide) hK490)
          have f493 : h488 421 = .inl (0, 300, .inl g) := (hK490 421 (by decide)).trans f471
          have f494 : h488 424 = .inl (0, 72, .inl (upd (upd (upd E ((3 * i) + 0) w418) ((3 * i) + 1) w418) ((3 * i) + 2) w418)) := (hK490 424 (by decide)).trans f470
          refine r_aload_n rfl dX12_readsStep_135 rfl ?_
          refine cl_X12_103 rfl rfl dX12_readsStep_136 (show 2 ≤ 420 ∧ 420 < 434 by decide).1 (show 2 ≤ 420 ∧ 420 < 434 by decide).2 f491 (Nat.le_of_ble_eq_true rfl) (s_X12_goesOnF hS489 f491 (by omega)) ?_
          rintro _ h495 _ ⟨rfl, -, -, e496, rfl⟩
          replace e496 := e496.symm
          subst e496
          have e497 : (stS f n (nI (c + i)) p) = (false, (rdP f n p)) := by unfold stS; rw [if_pos k405, if_neg (fun z => k424 z.2)]
          exact r_ret dX12_readsStep_139 (rt_v rfl) (by rw [e497]; exact ⟨rfl, hS489, hF492, rfl, _, f494, fun j z => (by rw [pk_un (by omega), pk_un (by omega), pk_un (by omega)]), Or.inr ⟨rfl, _, _, _, _, f491⟩⟩)
      · have k498 : tK f n (rdP f n p) = 3 := (km1 _).mp c457
        refine r_iconst (v := 1) rfl dX12_readsStep_91 (by decide) ?_
        refine r_goto (pc' := 96) rfl dX12_readsStep_92 ?_
        refine cl_X12_99 rfl rfl dX12_readsStep_96 (show 2 ≤ 420 ∧ 420 < 434 by decide).1 (show 2 ≤ 420 ∧ 420 < 434 by decide).2 f454 (Nat.le_of_ble_eq_true rfl) (s_X12_wantsF hS449 f454 (by omega)) ?_
        rintro _ h499 _ ⟨rfl, hS500, hK501, f502, rfl⟩
        have hF503 := KM_tr hF450 (KM_sb (by decide) hK501)
        have f504 : h499 421 = .inl (0, 300, .inl g) := (hK501 421 (by decide)).trans f453
        have f505 : h499 424 = .inl (0, 72, .inl (upd (upd E ((3 * i) + 0) w418) ((3 * i) + 1) w418)) := (hK501 424 (by decide)).trans f452
        refine r_aload_n rfl dX12_readsStep_99 rfl ?_
        refine r_getv 15 rfl dX12_readsStep_100 (show 2 ≤ 420 ∧ 420 < 434 by decide) f502 fl_X12_23 rfl ?_
        refine r_iconst (v := 3) rfl dX12_readsStep_103 (by decide) ?_
        refine r_iload_n rfl dX12_readsStep_104 rfl ?_
        refine r_imul rfl dX12_readsStep_105 ?_
        refine r_eqi (y := nI (3 * i)) (show 3 * (nI i) = nI (3 * i) from pk_mul 3 i) ?_
        refine r_iconst (v := 2) rfl dX12_readsStep_106 (by decide) ?_
        refine r_iadd rfl dX12_readsStep_107 ?_
        refine r_eqi (y := nI ((3 * i) + 2)) (show (nI (3 * i)) + 2 = nI ((3 * i) + 2) from nI_add (3 * i) 2) ?_
        refine r_aload_n rfl dX12_readsStep_108 rfl ?_
        refine r_getv 7 rfl dX12_readsStep_109 (show 2 ≤ 420 ∧ 420 < 434 by decide) f502 fl_X12_79 rfl ?_
        refine e_iast (jn := (3 * i) + 2) rfl dX12_readsStep_112 (show 2 ≤ 424 ∧ 424 < 434 by decide) hS500 hF503 (by decide) f505 (vp_in_nI (n := (3 * i) + 2) (by omega) (by decide)) (nI_clamp (n := (3 * i) + 2) (by omega)) (fun h506 hS507 hF508 hN509 f510 => ?_)
        have f511 : h506 421 = .inl (0, 300, .inl g) := (hN509 421 (by decide)).trans f504
        have f512 : h506 420 = .inr (12, [.int th, .long tr, .ref 421, .int (nI n), .int (nI (rdP f n (rdP f n p))), .int (kmap (tK f n (rdP f n p))), .int (nI (rdS f n (rdP f n p))), .int w418, .int (nI (rdS f n (rdP f n p))), .int (nI c), .int md, .int ss, .int wg, .ref 422, .ref 423, .ref 424, .ref 425, .ref 426, .ref 427, .ref 428, .ref 429, .ref 430, .ref 431, .ref 432, .ref 433]) := (hN509 420 (by decide)).trans f502
        refine r_aload_n rfl dX12_readsStep_113 rfl ?_
        refine cl_X12_103 rfl rfl dX12_readsStep_114 (show 2 ≤ 420 ∧ 420 < 434 by decide).1 (show 2 ≤ 420 ∧ 420 < 434 by decide).2 f512 (Nat.le_of_ble_eq_true rfl) (s_X12_goesOnF hS507 f512 (by omega)) ?_
        rintro _ h513 _ ⟨rfl, -, -, e514, rfl⟩
        replace e514 := e514.symm
        subst e514
        refine r_aload_n rfl dX12_readsStep_117 rfl ?_
        refine r_aload_n rfl dX12_readsStep_118 rfl ?_
        refine r_getv 5 rfl dX12_readsStep_119 (show 2 ≤ 420 ∧ 420 < 434 by decide) f512 fl_X12_76 rfl ?_
        refine r_bipush (v := 6) rfl dX12_readsStep_122 (by decide) ?_
        refine r_icmp_ne (tgt := 131) rfl rfl dX12_readsStep_124 (fun c515 => ?_) (fun c515 => ?_)
        · have k516 : ¬ tK f n (rdP f n p) = 6 := fun z => c515 ((km6 _).mpr z)
          refine r_iconst (v := 0) rfl dX12_readsStep_131 (by decide) ?_
          refine cl_X12_99 rfl rfl dX12_readsStep_132 (show 2 ≤ 420 ∧ 420 < 434 by decide).1 (show 2 ≤ 420 ∧ 420 < 434 by decide).2 f512 (Nat.le_of_ble_eq_true rfl) (s_X12_wantsF hS507 f512 (by omega)) ?_
          rintro _ h517 _ ⟨rfl, hS518, hK519, f520, rfl⟩
          have hF521 := KM_tr hF508 (KM_sb (by decide) hK519)
          have f522 : h517 421 = .inl (0, 300, .inl g) := (hK519 421 (by decide)).trans f511
          have f523 : h517 424 = .inl (0, 72, .inl (upd (upd (upd E ((3 * i) + 0) w418) ((3 * i) + 1) w418) ((3 * i) + 2) w418)) := (hK519 424 (by decide)).trans f510
          refine r_aload_n rfl dX12_readsStep_135 rfl ?_
          refine cl_X12_103 rfl rfl dX12_readsStep_136 (show 2 ≤ 420 ∧ 420 < 434 by decide).1 (show 2 ≤ 420 ∧ 420 < 434 by decide).2 f520 (Nat.le_of_ble_eq_true rfl) (s_X12_goesOnF hS518 f520 (by omega)) ?_
          rintro _ h524 _ ⟨rfl, -, -, e525, rfl⟩
          replace e525 := e525.symm
          subst e525
          have e526 : (stS f n (nI (c + i)) p) = (false, (rdP f n p)) := by unfold stS; rw [if_pos k405, if_neg (fun z => k424 z.2)]
          exact r_ret dX12_readsStep_139 (rt_v rfl) (by rw [e526]; exact ⟨rfl, hS518, hF521, rfl, _, f523, fun j z => (by rw [pk_un (by omega), pk_un (by omega), pk_un (by omega)]), Or.inr ⟨rfl, _, _, _, _, f520⟩⟩)
        · have k527 : tK f n (rdP f n p) = 6 := (km6 _).mp c515
          refine r_iconst (v := 1) rfl dX12_readsStep_127 (by decide) ?_
          refine r_goto (pc' := 132) rfl dX12_readsStep_128 ?_
          refine cl_X12_99 rfl rfl dX12_readsStep_132 (show 2 ≤ 420 ∧ 420 < 434 by decide).1 (show 2 ≤ 420 ∧ 420 < 434 by decide).2 f512 (Nat.le_of_ble_eq_true rfl) (s_X12_wantsF hS507 f512 (by omega)) ?_
          rintro _ h528 _ ⟨rfl, hS529, hK530, f531, rfl⟩
          have hF532 := KM_tr hF508 (KM_sb (by decide) hK530)
          have f533 : h528 421 = .inl (0, 300, .inl g) := (hK530 421 (by decide)).trans f511
          have f534 : h528 424 = .inl (0, 72, .inl (upd (upd (upd E ((3 * i) + 0) w418) ((3 * i) + 1) w418) ((3 * i) + 2) w418)) := (hK530 424 (by decide)).trans f510
          refine r_aload_n rfl dX12_readsStep_135 rfl ?_
          refine cl_X12_103 rfl rfl dX12_readsStep_136 (show 2 ≤ 420 ∧ 420 < 434 by decide).1 (show 2 ≤ 420 ∧ 420 < 434 by decide).2 f531 (Nat.le_of_ble_eq_true rfl) (s_X12_goesOnF hS529 f531 (by omega)) ?_
          rintro _ h535 _ ⟨rfl, -, -, e536, rfl⟩
          replace e536 := e536.symm
          subst e536
          have e537 : (stS f n (nI (c + i)) p) = (false, (rdP f n p)) := by unfold stS; rw [if_pos k405, if_neg (fun z => k424 z.2)]
          exact r_ret dX12_readsStep_139 (rt_v rfl) (by rw [e537]; exact ⟨rfl, hS529, hF532, rfl, _, f534, fun j z => (by rw [pk_un (by omega), pk_un (by omega), pk_un (by omega)]), Or.inr ⟨rfl, _, _, _, _, f531⟩⟩)
    · have k538 : tK f n (rdP f n p) = 4 := (km4 _).mp c423
      refine r_aload_n rfl dX12_readsStep_37 rfl ?_
      refine r_getv 7 rfl dX12_readsStep_38 (show 2 ≤ 420 ∧ 420 < 434 by decide) f416 fl_X12_79 rfl ?_
      refine r_aload_n rfl dX12_readsStep_41 rfl ?_
      refine r_getv 9 rfl dX12_readsStep_42 (show 2 ≤ 420 ∧ 420 < 434 by decide) f416 fl_X12_112 rfl ?_
      refine r_iload_n rfl dX12_readsStep_45 rfl ?_
      refine r_iadd rfl dX12_readsStep_46 ?_
      refine r_eqi (y := nI (c + i)) (show (nI c) + (nI i) = nI (c + i) from nI_add c i) ?_
      refine r_icmp_ge (tgt := 54) rfl rfl dX12_readsStep_47 (fun c539 => ?_) (fun c539 => ?_)
      · refine r_iconst (v := 0) rfl dX12_readsStep_54 (by decide) ?_
        refine cl_X12_99 rfl rfl dX12_readsStep_55 (show 2 ≤ 420 ∧ 420 < 434 by decide).1 (show 2 ≤ 420 ∧ 420 < 434 by decide).2 f416 (Nat.le_of_ble_eq_true rfl) (s_X12_wants0 hS414 f416) ?_
        rintro _ h540 _ ⟨rfl, hS541, hK542, f543, rfl⟩
        have hF544 := KM_tr hF417 (KM_sb (by decide) hK542)
        have f545 : h540 421 = .inl (0, 300, .inl g) := (hK542 421 (by decide)).trans f421
        have f546 : h540 424 = .inl (0, 72, .inl E) := (hK542 424 (by decide)).trans f422
        refine r_aload_n rfl dX12_readsStep_58 rfl ?_
        refine r_getv 15 rfl dX12_readsStep_59 (show 2 ≤ 420 ∧ 420 < 434 by decide) f543 fl_X12_23 rfl ?_
        refine r_iconst (v := 3) rfl dX12_readsStep_62 (by decide) ?_
        refine r_iload_n rfl dX12_readsStep_63 rfl ?_
        refine r_imul rfl dX12_readsStep_64 ?_
        refine r_eqi (y := nI (3 * i)) (show 3 * (nI i) = nI (3 * i) from pk_mul 3 i) ?_
        refine r_iload_n rfl dX12_readsStep_65 rfl ?_
        refine r_iadd rfl dX12_readsStep_66 ?_
        refine r_eqi (y := nI ((3 * i) + 0)) (show (nI (3 * i)) + 0 = nI ((3 * i) + 0) from nI_add (3 * i) 0) ?_
        refine r_aload_n rfl dX12_readsStep_67 rfl ?_
        refine r_getv 7 rfl dX12_readsStep_68 (show 2 ≤ 420 ∧ 420 < 434 by decide) f543 fl_X12_79 rfl ?_
        refine e_iast (jn := (3 * i) + 0) rfl dX12_readsStep_71 (show 2 ≤ 424 ∧ 424 < 434 by decide) hS541 hF544 (by decide) f546 (vp_in_nI (n := (3 * i) + 0) (by omega) (by decide)) (nI_clamp (n := (3 * i) + 0) (by omega)) (fun h547 hS548 hF549 hN550 f551 => ?_)
        have f552 : h547 421 = .inl (0, 300, .inl g) := (hN550 421 (by decide)).trans f545
        have f553 : h547 420 = .inr (12, [.int th, .long tr, .ref 421, .int (nI n), .int (nI (rdP f n (rdP f n p))), .int (kmap (tK f n (rdP f n p))), .int (nI (rdS f n (rdP f n p))), .int w418, .int (nI (rdS f n (rdP f n p))), .int (nI c), .int md, .int ss, .int wg, .ref 422, .ref 423, .ref 424, .ref 425, .ref 426, .ref 427, .ref 428, .ref 429, .ref 430, .ref 431, .ref 432, .ref 433]) := (hN550 420 (by decide)).trans f543
        refine r_aload_n rfl dX12_readsStep_72 rfl ?_
        refine cl_X12_103 rfl rfl dX12_readsStep_73 (show 2 ≤ 420 ∧ 420 < 434 by decide).1 (show 2 ≤ 420 ∧ 420 < 434 by decide).2 f553 (Nat.le_of_ble_eq_true rfl) (s_X12_goesOnF hS548 f553 (by omega)) ?_
        rintro _ h554 _ ⟨rfl, -, -, e555, rfl⟩
        replace e555 := e555.symm
        subst e555
        refine r_iinc (y := 1) (ls' := [some (.ref 420), some (.int (nI i)), some (.int 1)]) rfl dX12_readsStep_76 rfl (by decide) (Nat.le_of_ble_eq_true rfl) rfl ?_
        refine r_goto (pc' := 23) rfl dX12_readsStep_79 ?_
        refine r_iload_n rfl dX12_readsStep_23 rfl ?_
        refine r_iconst (v := 2) rfl dX12_readsStep_24 (by decide) ?_
        refine r_icmp_ge (tgt := 82) rfl rfl dX12_readsStep_25 (fun zc => absurd zc (by decide)) (fun _ => ?_)
        refine r_aload_n rfl dX12_readsStep_28 rfl ?_
        refine r_aload_n rfl dX12_readsStep_29 rfl ?_
        refine r_getv 5 rfl dX12_readsStep_30 (show 2 ≤ 420 ∧ 420 < 434 by decide) f553 fl_X12_76 rfl ?_
        refine r_iconst (v := 4) rfl dX12_readsStep_33 (by decide) ?_
        refine r_icmp_ne (tgt := 54) rfl rfl dX12_readsStep_34 (fun zc => absurd zc (fun z => z c423)) (fun _ => ?_)
        refine r_aload_n rfl dX12_readsStep_37 rfl ?_
        refine r_getv 7 rfl dX12_readsStep_38 (show 2 ≤ 420 ∧ 420 < 434 by decide) f553 fl_X12_79 rfl ?_
        refine r_aload_n rfl dX12_readsStep_41 rfl ?_
        refine r_getv 9 rfl dX12_readsStep_42 (show 2 ≤ 420 ∧ 420 < 434 by decide) f553 fl_X12_112 rfl ?_
        refine r_iload_n rfl dX12_readsStep_45 rfl ?_
        refine r_iadd rfl dX12_readsStep_46 ?_
        refine r_eqi (y := nI (c + i)) (show (nI c) + (nI i) = nI (c + i) from nI_add c i) ?_
        refine r_icmp_ge (tgt := 54) rfl rfl dX12_readsStep_47 (fun _ => ?_) (fun zc => absurd c539 zc)
        refine r_iconst (v := 0) rfl dX12_readsStep_54 (by decide) ?_
        refine cl_X12_99 rfl rfl dX12_readsStep_55 (show 2 ≤ 420 ∧ 420 < 434 by decide).1 (show 2 ≤ 420 ∧ 420 < 434 by decide).2 f553 (Nat.le_of_ble_eq_true rfl) (s_X12_wantsF hS548 f553 (by omega)) ?_
        rintro _ h556 _ ⟨rfl, hS557, hK558, f559, rfl⟩
        have hF560 := KM_tr hF549 (KM_sb (by decide) hK558)
        have f561 : h556 421 = .inl (0, 300, .inl g) := (hK558 421 (by decide)).trans f552
        have f562 : h556 424 = .inl (0, 72, .inl (upd E ((3 * i) + 0) w418)) := (hK558 424 (by decide)).trans f551
        refine r_aload_n rfl dX12_readsStep_58 rfl ?_
        refine r_getv 15 rfl dX12_readsStep_59 (show 2 ≤ 420 ∧ 420 < 434 by decide) f559 fl_X12_23 rfl ?_
        refine r_iconst (v := 3) rfl dX12_readsStep_62 (by decide) ?_
        refine r_iload_n rfl dX12_readsStep_63 rfl ?_
        refine r_imul rfl dX12_readsStep_64 ?_
        refine r_eqi (y := nI (3 * i)) (show 3 * (nI i) = nI (3 * i) from pk_mul 3 i) ?_
        refine r_iload_n rfl dX12_readsStep_65 rfl ?_
        refine r_iadd rfl dX12_readsStep_66 ?_
        refine r_eqi (y := nI ((3 * i) + 1)) (show (nI (3 * i)) + 1 = nI ((3 * i) + 1) from nI_add (3 * i) 1) ?_
        refine r_aload_n rfl dX12_readsStep_67 rfl ?_
        refine r_getv 7 rfl dX12_readsStep_68 (show 2 ≤ 420 ∧ 420 < 434 by decide) f559 fl_X12_79 rfl ?_
        refine e_iast (jn := (3 * i) + 1) rfl dX12_readsStep_71 (show 2 ≤ 424 ∧ 424 < 434 by decide) hS557 hF560 (by decide) f562 (vp_in_nI (n := (3 * i) + 1) (by omega) (by decide)) (nI_clamp (n := (3 * i) + 1) (by omega)) (fun h563 hS564 hF565 hN566 f567 => ?_)
        have f568 : h563 421 = .inl (0, 300, .inl g) := (hN566 421 (by decide)).trans f561
        have f569 : h563 420 = .inr (12, [.int th, .long tr, .ref 421, .int (nI n), .int (nI (rdP f n (rdP f n p))), .int (kmap (tK f n (rdP f n p))), .int (nI (rdS f n (rdP f n p))), .int w418, .int (nI (rdS f n (rdP f n p))), .int (nI c), .int md, .int ss, .int wg, .ref 422, .ref 423, .ref 424, .ref 425, .ref 426, .ref 427, .ref 428, .ref 429, .ref 430, .ref 431, .ref 432, .ref 433]) := (hN566 420 (by decide)).trans f559
        refine r_aload_n rfl dX12_readsStep_72 rfl ?_
        refine cl_X12_103 rfl rfl dX12_readsStep_73 (show 2 ≤ 420 ∧ 420 < 434 by decide).1 (show 2 ≤ 420 ∧ 420 < 434 by decide).2 f569 (Nat.le_of_ble_eq_true rfl) (s_X12_goesOnF hS564 f569 (by omega)) ?_
        rintro _ h570 _ ⟨rfl, -, -, e571, rfl⟩
        replace e571 := e571.symm
        subst e571
        refine r_iinc (y := 2) (ls' := [some (.ref 420), some (.int (nI i)), some (.int 2)]) rfl dX12_readsStep_76 rfl (by decide) (Nat.le_of_ble_eq_true rfl) rfl ?_
        refine r_goto (pc' := 23) rfl dX12_readsStep_79 ?_
        refine r_iload_n rfl dX12_readsStep_23 rfl ?_
        refine r_iconst (v := 2) rfl dX12_readsStep_24 (by decide) ?_
        refine r_icmp_ge (tgt := 82) rfl rfl dX12_readsStep_25 (fun _ => ?_) (fun zc => absurd zc (by decide))
        refine r_aload_n rfl dX12_readsStep_82 rfl ?_
        refine r_aload_n rfl dX12_readsStep_83 rfl ?_
        refine r_getv 5 rfl dX12_readsStep_84 (show 2 ≤ 420 ∧ 420 < 434 by decide) f569 fl_X12_76 rfl ?_
        refine r_iconst (v := 1) rfl dX12_readsStep_87 (by decide) ?_
        refine r_icmp_ne (tgt := 95) rfl rfl dX12_readsStep_88 (fun c572 => ?_) (fun c572 => ?_)
        · have k573 : ¬ tK f n (rdP f n p) = 3 := fun z => c572 ((km1 _).mpr z)
          refine r_iconst (v := 0) rfl dX12_readsStep_95 (by decide) ?_
          refine cl_X12_99 rfl rfl dX12_readsStep_96 (show 2 ≤ 420 ∧ 420 < 434 by decide).1 (show 2 ≤ 420 ∧ 420 < 434 by decide).2 f569 (Nat.le_of_ble_eq_true rfl) (s_X12_wantsF hS564 f569 (by omega)) ?_
          rintro _ h574 _ ⟨rfl, hS575, hK576, f577, rfl⟩
          have hF578 := KM_tr hF565 (KM_sb (by decide) hK576)
          have f579 : h574 421 = .inl (0, 300, .inl g) := (hK576 421 (by decide)).trans f568
          have f580 : h574 424 = .inl (0, 72, .inl (upd (upd E ((3 * i) + 0) w418) ((3 * i) + 1) w418)) := (hK576 424 (by decide)).trans f567
          refine r_aload_n rfl dX12_readsStep_99 rfl ?_
          refine r_getv 15 rfl dX12_readsStep_100 (show 2 ≤ 420 ∧ 420 < 434 by decide) f577 fl_X12_23 rfl ?_
          refine r_iconst (v := 3) rfl dX12_readsStep_103 (by decide) ?_
          refine r_iload_n rfl dX12_readsStep_104 rfl ?_
          refine r_imul rfl dX12_readsStep_105 ?_
          refine r_eqi (y := nI (3 * i)) (show 3 * (nI i) = nI (3 * i) from pk_mul 3 i) ?_
          refine r_iconst (v := 2) rfl dX12_readsStep_106 (by decide) ?_
          refine r_iadd rfl dX12_readsStep_107 ?_
          refine r_eqi (y := nI ((3 * i) + 2)) (show (nI (3 * i)) + 2 = nI ((3 * i) + 2) from nI_add (3 * i) 2) ?_
          refine r_aload_n rfl dX12_readsStep_108 rfl ?_
          refine r_getv 7 rfl dX12_readsStep_109 (show 2 ≤ 420 ∧ 420 < 434 by decide) f577 fl_X12_79 rfl ?_
          refine e_iast (jn := (3 * i) + 2) rfl dX12_readsStep_112 (show 2 ≤ 424 ∧ 424 < 434 by decide) hS575 hF578 (by decide) f580 (vp_in_nI (n := (3 * i) + 2) (by omega) (by decide)) (nI_clamp (n := (3 * i) + 2) (by omega)) (fun h581 hS582 hF583 hN584 f585 => ?_)
          have f586 : h581 421 = .inl (0, 300, .inl g) := (hN584 421 (by decide)).trans f579
          have f587 : h581 420 = .inr (12, [.int th, .long tr, .ref 421, .int (nI n), .int (nI (rdP f n (rdP f n p))), .int (kmap (tK f n (rdP f n p))), .int (nI (rdS f n (rdP f n p))), .int w418, .int (nI (rdS f n (rdP f n p))), .int (nI c), .int md, .int ss, .int wg, .ref 422, .ref 423, .ref 424, .ref 425, .ref 426, .ref 427, .ref 428, .ref 429, .ref 430, .ref 431, .ref 432, .ref 433]) := (hN584 420 (by decide)).trans f577
          refine r_aload_n rfl dX12_readsStep_113 rfl ?_
          refine cl_X12_103 rfl rfl dX12_readsStep_114 (show 2 ≤ 420 ∧ 420 < 434 by decide).1 (show 2 ≤ 420 ∧ 420 < 434 by decide).2 f587 (Nat.le_of_ble_eq_true rfl) (s_X12_goesOnF hS582 f587 (by omega)) ?_
          rintro _ h588 _ ⟨rfl, -, -, e589, rfl⟩
          replace e589 := e589.symm
          subst e589
          refine r_aload_n rfl dX12_readsStep_117 rfl ?_
          refine r_aload_n rfl dX12_readsStep_118 rfl ?_
          refine r_getv 5 rfl dX12_readsStep_119 (show 2 ≤ 420 ∧ 420 < 434 by decide) f587 fl_X12_76 rfl ?_
          refine r_bipush (v := 6) rfl dX12_readsStep_122 (by decide) ?_
          refine r_icmp_ne (tgt := 131) rfl rfl dX12_readsStep_124 (fun c590 => ?_) (fun c590 => ?_)
          · have k591 : ¬ tK f n (rdP f n p) = 6 := fun z => c590 ((km6 _).mpr z)
            refine r_iconst (v := 0) rfl dX12_readsStep_131 (by decide) ?_
            refine cl_X12_99 rfl rfl dX12_readsStep_132 (show 2 ≤ 420 ∧ 420 < 434 by decide).1 (show 2 ≤ 420 ∧ 420 < 434 by decide).2 f587 (Nat.le_of_ble_eq_true rfl) (s_X12_wantsF hS582 f587 (by omega)) ?_
            rintro _ h592 _ ⟨rfl, hS593, hK594, f595, rfl⟩
            have hF596 := KM_tr hF583 (KM_sb (by decide) hK594)
            have f597 : h592 421 = .inl (0, 300, .inl g) := (hK594 421 (by decide)).trans f586
            have f598 : h592 424 = .inl (0, 72, .inl (upd (upd (upd E ((3 * i) + 0) w418) ((3 * i) + 1) w418) ((3 * i) + 2) w418)) := (hK594 424 (by decide)).trans f585
            refine r_aload_n rfl dX12_readsStep_135 rfl ?_
            refine cl_X12_103 rfl rfl dX12_readsStep_136 (show 2 ≤ 420 ∧ 420 < 434 by decide).1 (show 2 ≤ 420 ∧ 420 < 434 by decide).2 f595 (Nat.le_of_ble_eq_true rfl) (s_X12_goesOnF hS593 f595 (by omega)) ?_
            rintro _ h599 _ ⟨rfl, -, -, e600, rfl⟩
            replace e600 := e600.symm
            subst e600
            have wv602 := hw419 (Or.inr (Or.inr k538))
            have e601 : (stS f n (nI (c + i)) p) = (false, (rdP f n p)) := by unfold stS; rw [if_pos k405, if_neg (fun z => absurd z.1 (Int32.not_lt.mpr (by rw [← wv602]; exact c539)))]
            exact r_ret dX12_readsStep_139 (rt_v rfl) (by rw [e601]; exact ⟨rfl, hS593, hF596, rfl, _, f598, fun j z => (by rw [pk_un (by omega), pk_un (by omega), pk_un (by omega)]), Or.inr ⟨rfl, _, _, _, _, f595⟩⟩)
          · have k603 : tK f n (rdP f n p) = 6 := (km6 _).mp c590
            refine r_iconst (v := 1) rfl dX12_readsStep_127 (by decide) ?_
            refine r_goto (pc' := 132) rfl dX12_readsStep_128 ?_
            refine cl_X12_99 rfl rfl dX12_readsStep_132 (show 2 ≤ 420 ∧ 420 < 434 by decide).1 (show 2 ≤ 420 ∧ 420 < 434 by decide).2 f587 (Nat.le_of_ble_eq_true rfl) (s_X12_wantsF hS582 f587 (by omega)) ?_
            rintro _ h604 _ ⟨rfl, hS605, hK606, f607, rfl⟩
            have hF608 := KM_tr hF583 (KM_sb (by decide) hK606)
            have f609 : h604 421 = .inl (0, 300, .inl g) := (hK606 421 (by decide)).trans f586
            have f610 : h604 424 = .inl (0, 72, .inl (upd (upd (upd E ((3 * i) + 0) w418) ((3 * i) + 1) w418) ((3 * i) + 2) w418)) := (hK606 424 (by decide)).trans f585
            refine r_aload_n rfl dX12_readsStep_135 rfl ?_
            refine cl_X12_103 rfl rfl dX12_readsStep_136 (show 2 ≤ 420 ∧ 420 < 434 by decide).1 (show 2 ≤ 420 ∧ 420 < 434 by decide).2 f607 (Nat.le_of_ble_eq_true rfl) (s_X12_goesOnF hS605 f607 (by omega)) ?_
            rintro _ h611 _ ⟨rfl, -, -, e612, rfl⟩
            replace e612 := e612.symm
            subst e612
            have wv614 := hw419 (Or.inr (Or.inr k538))
            have e613 : (stS f n (nI (c + i)) p) = (false, (rdP f n p)) := by unfold stS; rw [if_pos k405, if_neg (fun z => absurd z.1 (Int32.not_lt.mpr (by rw [← wv614]; exact c539)))]
            exact r_ret dX12_readsStep_139 (rt_v rfl) (by rw [e613]; exact ⟨rfl, hS605, hF608, rfl, _, f610, fun j z => (by rw [pk_un (by omega), pk_un (by omega), pk_un (by omega)]), Or.inr ⟨rfl, _, _, _, _, f607⟩⟩)
        · have k615 : tK f n (rdP f n p) = 3 := (km1 _).mp c572
          refine r_iconst (v := 1) rfl dX12_readsStep_91 (by decide) ?_
          refine r_goto (pc' := 96) rfl dX12_readsStep_92 ?_
          refine cl_X12_99 rfl rfl dX12_readsStep_96 (show 2 ≤ 420 ∧ 420 < 434 by decide).1 (show 2 ≤ 420 ∧ 420 < 434 by decide).2 f569 (Nat.le_of_ble_eq_true rfl) (s_X12_wantsF hS564 f569 (by omega)) ?_
          rintro _ h616 _ ⟨rfl, hS617, hK618, f619, rfl⟩
          have hF620 := KM_tr hF565 (KM_sb (by decide) hK618)
          have f621 : h616 421 = .inl (0, 300, .inl g) := (hK618 421 (by decide)).trans f568
          have f622 : h616 424 = .inl (0, 72, .inl (upd (upd E ((3 * i) + 0) w418) ((3 * i) + 1) w418)) := (hK618 424 (by decide)).trans f567
          refine r_aload_n rfl dX12_readsStep_99 rfl ?_
          refine r_getv 15 rfl dX12_readsStep_100 (show 2 ≤ 420 ∧ 420 < 434 by decide) f619 fl_X12_23 rfl ?_
          refine r_iconst (v := 3) rfl dX12_readsStep_103 (by decide) ?_
          refine r_iload_n rfl dX12_readsStep_104 rfl ?_
          refine r_imul rfl dX12_readsStep_105 ?_
          refine r_eqi (y := nI (3 * i)) (show 3 * (nI i) = nI (3 * i) from pk_mul 3 i) ?_
          refine r_iconst (v := 2) rfl dX12_readsStep_106 (by decide) ?_
          refine r_iadd rfl dX12_readsStep_107 ?_
          refine r_eqi (y := nI ((3 * i) + 2)) (show (nI (3 * i)) + 2 = nI ((3 * i) + 2) from nI_add (3 * i) 2) ?_
          refine r_aload_n rfl dX12_readsStep_108 rfl ?_
          refine r_getv 7 rfl dX12_readsStep_109 (show 2 ≤ 420 ∧ 420 < 434 by decide) f619 fl_X12_79 rfl ?_
          refine e_iast (jn := (3 * i) + 2) rfl dX12_readsStep_112 (show 2 ≤ 424 ∧ 424 < 434 by decide) hS617 hF620 (by decide) f622 (vp_in_nI (n := (3 * i) + 2) (by omega) (by decide)) (nI_clamp (n := (3 * i) + 2) (by omega)) (fun h623 hS624 hF625 hN626 f627 => ?_)
          have f628 : h623 421 = .inl (0, 300, .inl g) := (hN626 421 (by decide)).trans f621
          have f629 : h623 420 = .inr (12, [.int th, .long tr, .ref 421, .int (nI n), .int (nI (rdP f n (rdP f n p))), .int (kmap (tK f n (rdP f n p))), .int (nI (rdS f n (rdP f n p))), .int w418, .int (nI (rdS f n (rdP f n p))), .int (nI c), .int md, .int ss, .int wg, .ref 422, .ref 423, .ref 424, .ref 425, .ref 426, .ref 427, .ref 428, .ref 429, .ref 430, .ref 431, .ref 432, .ref 433]) := (hN626 420 (by decide)).trans f619
          refine r_aload_n rfl dX12_readsStep_113 rfl ?_
          refine cl_X12_103 rfl rfl dX12_readsStep_114 (show 2 ≤ 420 ∧ 420 < 434 by decide).1 (show 2 ≤ 420 ∧ 420 < 434 by decide).2 f629 (Nat.le_of_ble_eq_true rfl) (s_X12_goesOnF hS624 f629 (by omega)) ?_
          rintro _ h630 _ ⟨rfl, -, -, e631, rfl⟩
          replace e631 := e631.symm
          subst e631
          refine r_aload_n rfl dX12_readsStep_117 rfl ?_
          refine r_aload_n rfl dX12_readsStep_118 rfl ?_
          refine r_getv 5 rfl dX12_readsStep_119 (show 2 ≤ 420 ∧ 420 < 434 by decide) f629 fl_X12_76 rfl ?_
          refine r_bipush (v := 6) rfl dX12_readsStep_122 (by decide) ?_
          refine r_icmp_ne (tgt := 131) rfl rfl dX12_readsStep_124 (fun c632 => ?_) (fun c632 => ?_)
          · have k633 : ¬ tK f n (rdP f n p) = 6 := fun z => c632 ((km6 _).mpr z)
            refine r_iconst (v := 0) rfl dX12_readsStep_131 (by decide) ?_
            refine cl_X12_99 rfl rfl dX12_readsStep_132 (show 2 ≤ 420 ∧ 420 < 434 by decide).1 (show 2 ≤ 420 ∧ 420 < 434 by decide).2 f629 (Nat.le_of_ble_eq_true rfl) (s_X12_wantsF hS624 f629 (by omega)) ?_
            rintro _ h634 _ ⟨rfl, hS635, hK636, f637, rfl⟩
            have hF638 := KM_tr hF625 (KM_sb (by decide) hK636)
            have f639 : h634 421 = .inl (0, 300, .inl g) := (hK636 421 (by decide)).trans f628
            have f640 : h634 424 = .inl (0, 72, .inl (upd (upd (upd E ((3 * i) + 0) w418) ((3 * i) + 1) w418) ((3 * i) + 2) w418)) := (hK636 424 (by decide)).trans f627
            refine r_aload_n rfl dX12_readsStep_135 rfl ?_
            refine cl_X12_103 rfl rfl dX12_readsStep_136 (show 2 ≤ 420 ∧ 420 < 434 by decide).1 (show 2 ≤ 420 ∧ 420 < 434 by decide).2 f637 (Nat.le_of_ble_eq_true rfl) (s_X12_goesOnF hS635 f637 (by omega)) ?_
            rintro _ h641 _ ⟨rfl, -, -, e642, rfl⟩
            replace e642 := e642.symm
            subst e642
            have wv644 := hw419 (Or.inr (Or.inr k538))
            have e643 : (stS f n (nI (c + i)) p) = (false, (rdP f n p)) := by unfold stS; rw [if_pos k405, if_neg (fun z => absurd z.1 (Int32.not_lt.mpr (by rw [← wv644]; exact c539)))]
            exact r_ret dX12_readsStep_139 (rt_v rfl) (by rw [e643]; exact ⟨rfl, hS635, hF638, rfl, _, f640, fun j z => (by rw [pk_un (by omega), pk_un (by omega), pk_un (by omega)]), Or.inr ⟨rfl, _, _, _, _, f637⟩⟩)
          · have k645 : tK f n (rdP f n p) = 6 := (km6 _).mp c632
            refine r_iconst (v := 1) rfl dX12_readsStep_127 (by decide) ?_
            refine r_goto (pc' := 132) rfl dX12_readsStep_128 ?_
            refine cl_X12_99 rfl rfl dX12_readsStep_132 (show 2 ≤ 420 ∧ 420 < 434 by decide).1 (show 2 ≤ 420 ∧ 420 < 434 by decide).2 f629 (Nat.le_of_ble_eq_true rfl) (s_X12_wantsF hS624 f629 (by omega)) ?_
            rintro _ h646 _ ⟨rfl, hS647, hK648, f649, rfl⟩
            have hF650 := KM_tr hF625 (KM_sb (by decide) hK648)
            have f651 : h646 421 = .inl (0, 300, .inl g) := (hK648 421 (by decide)).trans f628
            have f652 : h646 424 = .inl (0, 72, .inl (upd (upd (upd E ((3 * i) + 0) w418) ((3 * i) + 1) w418) ((3 * i) + 2) w418)) := (hK648 424 (by decide)).trans f627
            refine r_aload_n rfl dX12_readsStep_135 rfl ?_
            refine cl_X12_103 rfl rfl dX12_readsStep_136 (show 2 ≤ 420 ∧ 420 < 434 by decide).1 (show 2 ≤ 420 ∧ 420 < 434 by decide).2 f649 (Nat.le_of_ble_eq_true rfl) (s_X12_goesOnF hS647 f649 (by omega)) ?_
            rintro _ h653 _ ⟨rfl, -, -, e654, rfl⟩
            replace e654 := e654.symm
            subst e654
            have wv656 := hw419 (Or.inr (Or.inr k538))
            have e655 : (stS f n (nI (c + i)) p) = (false, (rdP f n p)) := by unfold stS; rw [if_pos k405, if_neg (fun z => absurd z.1 (Int32.not_lt.mpr (by rw [← wv656]; exact c539)))]
            exact r_ret dX12_readsStep_139 (rt_v rfl) (by rw [e655]; exact ⟨rfl, hS647, hF650, rfl, _, f652, fun j z => (by rw [pk_un (by omega), pk_un (by omega), pk_un (by omega)]), Or.inr ⟨rfl, _, _, _, _, f649⟩⟩)
      · refine r_iconst (v := 1) rfl dX12_readsStep_50 (by decide) ?_
        refine r_goto (pc' := 55) rfl dX12_readsStep_51 ?_
        refine cl_X12_99 rfl rfl dX12_readsStep_55 (show 2 ≤ 420 ∧ 420 < 434 by decide).1 (show 2 ≤ 420 ∧ 420 < 434 by decide).2 f416 (Nat.le_of_ble_eq_true rfl) (s_X12_wants1 hS414 f416) ?_
        rintro _ h657 _ ⟨rfl, hS658, hK659, f660, rfl⟩
        have hF661 := KM_tr hF417 (KM_sb (by decide) hK659)
        have f662 : h657 421 = .inl (0, 300, .inl g) := (hK659 421 (by decide)).trans f421
        have f663 : h657 424 = .inl (0, 72, .inl E) := (hK659 424 (by decide)).trans f422
        refine r_aload_n rfl dX12_readsStep_58 rfl ?_
        refine r_getv 15 rfl dX12_readsStep_59 (show 2 ≤ 420 ∧ 420 < 434 by decide) f660 fl_X12_23 rfl ?_
        refine r_iconst (v := 3) rfl dX12_readsStep_62 (by decide) ?_
        refine r_iload_n rfl dX12_readsStep_63 rfl ?_
        refine r_imul rfl dX12_readsStep_64 ?_
        refine r_eqi (y := nI (3 * i)) (show 3 * (nI i) = nI (3 * i) from pk_mul 3 i) ?_
        refine r_iload_n rfl dX12_readsStep_65 rfl ?_
        refine r_iadd rfl dX12_readsStep_66 ?_
        refine r_eqi (y := nI ((3 * i) + 0)) (show (nI (3 * i)) + 0 = nI ((3 * i) + 0) from nI_add (3 * i) 0) ?_
        refine r_aload_n rfl dX12_readsStep_67 rfl ?_
        refine r_getv 7 rfl dX12_readsStep_68 (show 2 ≤ 420 ∧ 420 < 434 by decide) f660 fl_X12_79 rfl ?_
        refine e_iast (jn := (3 * i) + 0) rfl dX12_readsStep_71 (show 2 ≤ 424 ∧ 424 < 434 by decide) hS658 hF661 (by decide) f663 (vp_in_nI (n := (3 * i) + 0) (by omega) (by decide)) (nI_clamp (n := (3 * i) + 0) (by omega)) (fun h664 hS665 hF666 hN667 f668 => ?_)
        have f669 : h664 421 = .inl (0, 300, .inl g) := (hN667 421 (by decide)).trans f662
        have f670 : h664 420 = .inr (12, [.int th, .long tr, .ref 421, .int (nI n), .int (nI (rdP f n (rdP f n p))), .int (kmap (tK f n (rdP f n p))), .int (nI (rdS f n (rdP f n p))), .int w418, .int (-1), .int (nI c), .int md, .int ss, .int wg, .ref 422, .ref 423, .ref 424, .ref 425, .ref 426, .ref 427, .ref 428, .ref 429, .ref 430, .ref 431, .ref 432, .ref 433]) := (hN667 420 (by decide)).trans f660
        refine r_aload_n rfl dX12_readsStep_72 rfl ?_
        refine cl_X12_103 rfl rfl dX12_readsStep_73 (show 2 ≤ 420 ∧ 420 < 434 by decide).1 (show 2 ≤ 420 ∧ 420 < 434 by decide).2 f670 (Nat.le_of_ble_eq_true rfl) (s_X12_goesOn1 hS665 hX (rdP_le f (rdP_le f hp)) f670 f669) ?_
        rintro _ h671 _ ⟨rfl, hS672, hK673, ⟨w676, f674, hw677⟩, rfl⟩
        have hF675 := KM_tr hF666 (KM_sb (by decide) hK673)
        have hl678 := (rdS_le f (rdP_le f (rdP_le f hp))).2
        have f679 : h671 421 = .inl (0, 300, .inl g) := (hK673 421 (by decide)).trans f669
        have f680 : h671 424 = .inl (0, 72, .inl (upd E ((3 * i) + 0) w418)) := (hK673 424 (by decide)).trans f668
        refine r_iinc (y := 1) (ls' := [some (.ref 420), some (.int (nI i)), some (.int 1)]) rfl dX12_readsStep_76 rfl (by decide) (Nat.le_of_ble_eq_true rfl) rfl ?_
        refine r_goto (pc' := 23) rfl dX12_readsStep_79 ?_
        refine r_iload_n rfl dX12_readsStep_23 rfl ?_
        refine r_iconst (v := 2) rfl dX12_readsStep_24 (by decide) ?_
        refine r_icmp_ge (tgt := 82) rfl rfl dX12_readsStep_25 (fun zc => absurd zc (by decide)) (fun _ => ?_)
        refine r_aload_n rfl dX12_readsStep_28 rfl ?_
        refine r_aload_n rfl dX12_readsStep_29 rfl ?_
        refine r_getv 5 rfl dX12_readsStep_30 (show 2 ≤ 420 ∧ 420 < 434 by decide) f674 fl_X12_76 rfl ?_
        refine r_iconst (v := 4) rfl dX12_readsStep_33 (by decide) ?_
        refine r_icmp_ne (tgt := 54) rfl rfl dX12_readsStep_34 (fun c681 => ?_) (fun c681 => ?_)
        · have k682 : ¬ tK f n (rdP f n (rdP f n p)) = 4 := fun z => c681 ((km4 _).mpr z)
          refine r_iconst (v := 0) rfl dX12_readsStep_54 (by decide) ?_
          refine cl_X12_99 rfl rfl dX12_readsStep_55 (show 2 ≤ 420 ∧ 420 < 434 by decide).1 (show 2 ≤ 420 ∧ 420 < 434 by decide).2 f674 (Nat.le_of_ble_eq_true rfl) (s_X12_wants0 hS672 f674) ?_
          rintro _ h683 _ ⟨rfl, hS684, hK685, f686, rfl⟩
          have hF687 := KM_tr hF675 (KM_sb (by decide) hK685)
          have f688 : h683 421 = .inl (0, 300, .inl g) := (hK685 421 (by decide)).trans f679
          have f689 : h683 424 = .inl (0, 72, .inl (upd E ((3 * i) + 0) w418)) := (hK685 424 (by decide)).trans f680
          refine r_aload_n rfl dX12_readsStep_58 rfl ?_
          refine r_getv 15 rfl dX12_readsStep_59 (show 2 ≤ 420 ∧ 420 < 434 by decide) f686 fl_X12_23 rfl ?_
          refine r_iconst (v := 3) rfl dX12_readsStep_62 (by decide) ?_
          refine r_iload_n rfl dX12_readsStep_63 rfl ?_
          refine r_imul rfl dX12_readsStep_64 ?_
          refine r_eqi (y := nI (3 * i)) (show 3 * (nI i) = nI (3 * i) from pk_mul 3 i) ?_
          refine r_iload_n rfl dX12_readsStep_65 rfl ?_
          refine r_iadd rfl dX12_readsStep_66 ?_
          refine r_eqi (y := nI ((3 * i) + 1)) (show (nI (3 * i)) + 1 = nI ((3 * i) + 1) from nI_add (3 * i) 1) ?_
          refine r_aload_n rfl dX12_readsStep_67 rfl ?_
          refine r_getv 7 rfl dX12_readsStep_68 (show 2 ≤ 420 ∧ 420 < 434 by decide) f686 fl_X12_79 rfl ?_
          refine e_iast (jn := (3 * i) + 1) rfl dX12_readsStep_71 (show 2 ≤ 424 ∧ 424 < 434 by decide) hS684 hF687 (by decide) f689 (vp_in_nI (n := (3 * i) + 1) (by omega) (by decide)) (nI_clamp (n := (3 * i) + 1) (by omega)) (fun h690 hS691 hF692 hN693 f694 => ?_)
          have f695 : h690 421 = .inl (0, 300, .inl g) := (hN693 421 (by decide)).trans f688
          have f696 : h690 420 = .inr (12, [.int th, .long tr, .ref 421, .int (nI n), .int (nI (rdP f n (rdP f n (rdP f n p)))), .int (kmap (tK f n (rdP f n (rdP f n p)))), .int (nI (rdS f n (rdP f n (rdP f n p)))), .int w676, .int (nI (rdS f n (rdP f n (rdP f n p)))), .int (nI c), .int md, .int ss, .int wg, .ref 422, .ref 423, .ref 424, .ref 425, .ref 426, .ref 427, .ref 428, .ref 429, .ref 430, .ref 431, .ref 432, .ref 433]) := (hN693 420 (by decide)).trans f686
          refine r_aload_n rfl dX12_readsStep_72 rfl ?_
          refine cl_X12_103 rfl rfl dX12_readsStep_73 (show 2 ≤ 420 ∧ 420 < 434 by decide).1 (show 2 ≤ 420 ∧ 420 < 434 by decide).2 f696 (Nat.le_of_ble_eq_true rfl) (s_X12_goesOnF hS691 f696 (by omega)) ?_
          rintro _ h697 _ ⟨rfl, -, -, e698, rfl⟩
          replace e698 := e698.symm
          subst e698
          refine r_iinc (y := 2) (ls' := [some (.ref 420), some (.int (nI i)), some (.int 2)]) rfl dX12_readsStep_76 rfl (by decide) (Nat.le_of_ble_eq_true rfl) rfl ?_
          refine r_goto (pc' := 23) rfl dX12_readsStep_79 ?_
          refine r_iload_n rfl dX12_readsStep_23 rfl ?_
          refine r_iconst (v := 2) rfl dX12_readsStep_24 (by decide) ?_
          refine r_icmp_ge (tgt := 82) rfl rfl dX12_readsStep_25 (fun _ => ?_) (fun zc => absurd zc (by decide))
          refine r_aload_n rfl dX12_readsStep_82 rfl ?_
          refine r_aload_n rfl dX12_readsStep_83 rfl ?_
          refine r_getv 5 rfl dX12_readsStep_84 (show 2 ≤ 420 ∧ 420 < 434 by decide) f696 fl_X12_76 rfl ?_
          refine r_iconst (v := 1) rfl dX12_readsStep_87 (by decide) ?_
          refine r_icmp_ne (tgt := 95) rfl rfl dX12_readsStep_88 (fun c699 => ?_) (fun c699 => ?_)
          · have k700 : ¬ tK f n (rdP f n (rdP f n p)) = 3 := fun z => c699 ((km1 _).mpr z)
            refine r_iconst (v := 0) rfl dX12_readsStep_95 (by decide) ?_
            refine cl_X12_99 rfl rfl dX12_readsStep_96 (show 2 ≤ 420 ∧ 420 < 434 by decide).1 (show 2 ≤ 420 ∧ 420 < 434 by decide).2 f696 (Nat.le_of_ble_eq_true rfl) (s_X12_wantsF hS691 f696 (by omega)) ?_
            rintro _ h701 _ ⟨rfl, hS702, hK703, f704, rfl⟩
            have hF705 := KM_tr hF692 (KM_sb (by decide) hK703)
            have f706 : h701 421 = .inl (0, 300, .inl g) := (hK703 421 (by decide)).trans f695
            have f707 : h701 424 = .inl (0, 72, .inl (upd (upd E ((3 * i) + 0) w418) ((3 * i) + 1) w676)) := (hK703 424 (by decide)).trans f694
            refine r_aload_n rfl dX12_readsStep_99 rfl ?_
            refine r_getv 15 rfl dX12_readsStep_100 (show 2 ≤ 420 ∧ 420 < 434 by decide) f704 fl_X12_23 rfl ?_
            refine r_iconst (v := 3) rfl dX12_readsStep_103 (by decide) ?_
            refine r_iload_n rfl dX12_readsStep_104 rfl ?_
            refine r_imul rfl dX12_readsStep_105 ?_
            refine r_eqi (y := nI (3 * i)) (show 3 * (nI i) = nI (3 * i) from pk_mul 3 i) ?_
            refine r_iconst (v := 2) rfl dX12_readsStep_106 (by decide) ?_
            refine r_iadd rfl dX12_readsStep_107 ?_
            refine r_eqi (y := nI ((3 * i) + 2)) (show (nI (3 * i)) + 2 = nI ((3 * i) + 2) from nI_add (3 * i) 2) ?_
            refine r_aload_n rfl dX12_readsStep_108 rfl ?_
            refine r_getv 7 rfl dX12_readsStep_109 (show 2 ≤ 420 ∧ 420 < 434 by decide) f704 fl_X12_79 rfl ?_
            refine e_iast (jn := (3 * i) + 2) rfl dX12_readsStep_112 (show 2 ≤ 424 ∧ 424 < 434 by decide) hS702 hF705 (by decide) f707 (vp_in_nI (n := (3 * i) + 2) (by omega) (by decide)) (nI_clamp (n := (3 * i) + 2) (by omega)) (fun h708 hS709 hF710 hN711 f712 => ?_)
            have f713 : h708 421 = .inl (0, 300, .inl g) := (hN711 421 (by decide)).trans f706
            have f714 : h708 420 = .inr (12, [.int th, .long tr, .ref 421, .int (nI n), .int (nI (rdP f n (rdP f n (rdP f n p)))), .int (kmap (tK f n (rdP f n (rdP f n p)))), .int (nI (rdS f n (rdP f n (rdP f n p)))), .int w676, .int (nI (rdS f n (rdP f n (rdP f n p)))), .int (nI c), .int md, .int ss, .int wg, .ref 422, .ref 423, .ref 424, .ref 425, .ref 426, .ref 427, .ref 428, .ref 429, .ref 430, .ref 431, .ref 432, .ref 433]) := (hN711 420 (by decide)).trans f704
            refine r_aload_n rfl dX12_readsStep_113 rfl ?_
            refine cl_X12_103 rfl rfl dX12_readsStep_114 (show 2 ≤ 420 ∧ 420 < 434 by decide).1 (show 2 ≤ 420 ∧ 420 < 434 by decide).2 f714 (Nat.le_of_ble_eq_true rfl) (s_X12_goesOnF hS709 f714 (by omega)) ?_
            rintro _ h715 _ ⟨rfl, -, -, e716, rfl⟩
            replace e716 := e716.symm
            subst e716
            refine r_aload_n rfl dX12_readsStep_117 rfl ?_
            refine r_aload_n rfl dX12_readsStep_118 rfl ?_
            refine r_getv 5 rfl dX12_readsStep_119 (show 2 ≤ 420 ∧ 420 < 434 by decide) f714 fl_X12_76 rfl ?_
            refine r_bipush (v := 6) rfl dX12_readsStep_122 (by decide) ?_
            refine r_icmp_ne (tgt := 131) rfl rfl dX12_readsStep_124 (fun c717 => ?_) (fun c717 => ?_)
            · have k718 : ¬ tK f n (rdP f n (rdP f n p)) = 6 := fun z => c717 ((km6 _).mpr z)
              refine r_iconst (v := 0) rfl dX12_readsStep_131 (by decide) ?_
              refine cl_X12_99 rfl rfl dX12_readsStep_132 (show 2 ≤ 420 ∧ 420 < 434 by decide).1 (show 2 ≤ 420 ∧ 420 < 434 by decide).2 f714 (Nat.le_of_ble_eq_true rfl) (s_X12_wantsF hS709 f714 (by omega)) ?_
              rintro _ h719 _ ⟨rfl, hS720, hK721, f722, rfl⟩
              have hF723 := KM_tr hF710 (KM_sb (by decide) hK721)
              have f724 : h719 421 = .inl (0, 300, .inl g) := (hK721 421 (by decide)).trans f713
              have f725 : h719 424 = .inl (0, 72, .inl (upd (upd (upd E ((3 * i) + 0) w418) ((3 * i) + 1) w676) ((3 * i) + 2) w676)) := (hK721 424 (by decide)).trans f712
              refine r_aload_n rfl dX12_readsStep_135 rfl ?_
              refine cl_X12_103 rfl rfl dX12_readsStep_136 (show 2 ≤ 420 ∧ 420 < 434 by decide).1 (show 2 ≤ 420 ∧ 420 < 434 by decide).2 f722 (Nat.le_of_ble_eq_true rfl) (s_X12_goesOnF hS720 f722 (by omega)) ?_
              rintro _ h726 _ ⟨rfl, -, -, e727, rfl⟩
              replace e727 := e727.symm
              subst e727
              have wv729 := hw419 (Or.inr (Or.inr k538))
              have e728 : (stS f n (nI (c + i)) p) = (false, (rdP f n (rdP f n p))) := by unfold stS; rw [if_pos k405, if_pos ⟨by rw [← wv729]; exact Int32.not_le.mp c539, k538⟩, if_neg (fun z => k682 z.2)]
              exact r_ret dX12_readsStep_139 (rt_v rfl) (by rw [e728]; exact ⟨rfl, hS720, hF723, rfl, _, f725, fun j z => (by rw [pk_un (by omega), pk_un (by omega), pk_un (by omega)]), Or.inr ⟨rfl, _, _, _, _, f722⟩⟩)
            · have k730 : tK f n (rdP f n (rdP f n p)) = 6 := (km6 _).mp c717
              refine r_iconst (v := 1) rfl dX12_readsStep_127 (by decide) ?_
              refine r_goto (pc' := 132) rfl dX12_readsStep_128 ?_
              refine cl_X12_99 rfl rfl dX12_readsStep_132 (show 2 ≤ 420 ∧ 420 < 434 by decide).1 (show 2 ≤ 420 ∧ 420 < 434 by decide).2 f714 (Nat.le_of_ble_eq_true rfl) (s_X12_wantsF hS709 f714 (by omega)) ?_
              rintro _ h731 _ ⟨rfl, hS732, hK733, f734, rfl⟩
              have hF735 := KM_tr hF710 (KM_sb (by decide) hK733)
              have f736 : h731 421 = .inl (0, 300, .inl g) := (hK733 421 (by decide)).trans f713
              have f737 : h731 424 = .inl (0, 72, .inl (upd (upd (upd E ((3 * i) + 0) w418) ((3 * i) + 1) w676) ((3 * i) + 2) w676)) := (hK733 424 (by decide)).trans f712
              refine r_aload_n rfl dX12_readsStep_135 rfl ?_
              refine cl_X12_103 rfl rfl dX12_readsStep_136 (show 2 ≤ 420 ∧ 420 < 434 by decide).1 (show 2 ≤ 420 ∧ 420 < 434 by decide).2 f734 (Nat.le_of_ble_eq_true rfl) (s_X12_goesOnF hS732 f734 (by omega)) ?_
              rintro _ h738 _ ⟨rfl, -, -, e739, rfl⟩
              replace e739 := e739.symm
              subst e739
              have wv741 := hw419 (Or.inr (Or.inr k538))
              have e740 : (stS f n (nI (c + i)) p) = (false, (rdP f n (rdP f n p))) := by unfold stS; rw [if_pos k405, if_pos ⟨by rw [← wv741]; exact Int32.not_le.mp c539, k538⟩, if_neg (fun z => k682 z.2)]
              exact r_ret dX12_readsStep_139 (rt_v rfl) (by rw [e740]; exact ⟨rfl, hS732, hF735, rfl, _, f737, fun j z => (by rw [pk_un (by omega), pk_un (by omega), pk_un (by omega)]), Or.inr ⟨rfl, _, _, _, _, f734⟩⟩)
          · have k742 : tK f n (rdP f n (rdP f n p)) = 3 := (km1 _).mp c699
            refine r_iconst (v := 1) rfl dX12_readsStep_91 (by decide) ?_
            refine r_goto (pc' := 96) rfl dX12_readsStep_92 ?_
            refine cl_X12_99 rfl rfl dX12_readsStep_96 (show 2 ≤ 420 ∧ 420 < 434 by decide).1 (show 2 ≤ 420 ∧ 420 < 434 by decide).2 f696 (Nat.le_of_ble_eq_true rfl) (s_X12_wantsF hS691 f696 (by omega)) ?_
            rintro _ h743 _ ⟨rfl, hS744, hK745, f746, rfl⟩
            have hF747 := KM_tr hF692 (KM_sb (by decide) hK745)
            have f748 : h743 421 = .inl (0, 300, .inl g) := (hK745 421 (by decide)).trans f695
            have f749 : h743 424 = .inl (0, 72, .inl (upd (upd E ((3 * i) + 0) w418) ((3 * i) + 1) w676)) := (hK745 424 (by decide)).trans f694
            refine r_aload_n rfl dX12_readsStep_99 rfl ?_
            refine r_getv 15 rfl dX12_readsStep_100 (show 2 ≤ 420 ∧ 420 < 434 by decide) f746 fl_X12_23 rfl ?_
            refine r_iconst (v := 3) rfl dX12_readsStep_103 (by decide) ?_
            refine r_iload_n rfl dX12_readsStep_104 rfl ?_
            refine r_imul rfl dX12_readsStep_105 ?_
            refine r_eqi (y := nI (3 * i)) (show 3 * (nI i) = nI (3 * i) from pk_mul 3 i) ?_
            refine r_iconst (v := 2) rfl dX12_readsStep_106 (by decide) ?_
            refine r_iadd rfl dX12_readsStep_107 ?_
            refine r_eqi (y := nI ((3 * i) + 2)) (show (nI (3 * i)) + 2 = nI ((3 * i) + 2) from nI_add (3 * i) 2) ?_
            refine r_aload_n rfl dX12_readsStep_108 rfl ?_
            refine r_getv 7 rfl dX12_readsStep_109 (show 2 ≤ 420 ∧ 420 < 434 by decide) f746 fl_X12_79 rfl ?_
            refine e_iast (jn := (3 * i) + 2) rfl dX12_readsStep_112 (show 2 ≤ 424 ∧ 424 < 434 by decide) hS744 hF747 (by decide) f749 (vp_in_nI (n := (3 * i) + 2) (by omega) (by decide)) (nI_clamp (n := (3 * i) + 2) (by omega)) (fun h750 hS751 hF752 hN753 f754 => ?_)
            have f755 : h750 421 = .inl (0, 300, .inl g) := (hN753 421 (by decide)).trans f748
            have f756 : h750 420 = .inr (12, [.int th, .long tr, .ref 421, .int (nI n), .int (nI (rdP f n (rdP f n (rdP f n p)))), .int (kmap (tK f n (rdP f n (rdP f n p)))), .int (nI (rdS f n (rdP f n (rdP f n p)))), .int w676, .int (nI (rdS f n (rdP f n (rdP f n p)))), .int (nI c), .int md, .int ss, .int wg, .ref 422, .ref 423, .ref 424, .ref 425, .ref 426, .ref 427, .ref 428, .ref 429, .ref 430, .ref 431, .ref 432, .ref 433]) := (hN753 420 (by decide)).trans f746
            refine r_aload_n rfl dX12_readsStep_113 rfl ?_
            refine cl_X12_103 rfl rfl dX12_readsStep_114 (show 2 ≤ 420 ∧ 420 < 434 by decide).1 (show 2 ≤ 420 ∧ 420 < 434 by decide).2 f756 (Nat.le_of_ble_eq_true rfl) (s_X12_goesOnF hS751 f756 (by omega)) ?_
            rintro _ h757 _ ⟨rfl, -, -, e758, rfl⟩
            replace e758 := e758.symm
            subst e758
            refine r_aload_n rfl dX12_readsStep_117 rfl ?_
            refine r_aload_n rfl dX12_readsStep_118 rfl ?_
            refine r_getv 5 rfl dX12_readsStep_119 (show 2 ≤ 420 ∧ 420 < 434 by decide) f756 fl_X12_76 rfl ?_
            refine r_bipush (v := 6) rfl dX12_readsStep_122 (by decide) ?_
            refine r_icmp_ne (tgt := 131) rfl rfl dX12_readsStep_124 (fun c759 => ?_) (fun c759 => ?_)
            · have k760 : ¬ tK f n (rdP f n (rdP f n p)) = 6 := fun z => c759 ((km6 _).mpr z)
              refine r_iconst (v := 0) rfl dX12_readsStep_131 (by decide) ?_
              refine cl_X12_99 rfl rfl dX12_readsStep_132 (show 2 ≤ 420 ∧ 420 < 434 by decide).1 (show 2 ≤ 420 ∧ 420 < 434 by decide).2 f756 (Nat.le_of_ble_eq_true rfl) (s_X12_wantsF hS751 f756 (by omega)) ?_
              rintro _ h761 _ ⟨rfl, hS762, hK763, f764, rfl⟩
              have hF765 := KM_tr hF752 (KM_sb (by decide) hK763)
              have f766 : h761 421 = .inl (0, 300, .inl g) := (hK763 421 (by decide)).trans f755
              have f767 : h761 424 = .inl (0, 72, .inl (upd (upd (upd E ((3 * i) + 0) w418) ((3 * i) + 1) w676) ((3 * i) + 2) w676)) := (hK763 424 (by decide)).trans f754
              refine r_aload_n rfl dX12_readsStep_135 rfl ?_
              refine cl_X12_103 rfl rfl dX12_readsStep_136 (show 2 ≤ 420 ∧ 420 < 434 by decide).1 (show 2 ≤ 420 ∧ 420 < 434 by decide).2 f764 (Nat.le_of_ble_eq_true rfl) (s_X12_goesOnF hS762 f764 (by omega)) ?_
              rintro _ h768 _ ⟨rfl, -, -, e769, rfl⟩
              replace e769 := e769.symm
              subst e769
              have wv771 := hw419 (Or.inr (Or.inr k538))
              have e770 : (stS f n (nI (c + i)) p) = (false, (rdP f n (rdP f n p))) := by unfold stS; rw [if_pos k405, if_pos ⟨by rw [← wv771]; exact Int32.not_le.mp c539, k538⟩, if_neg (fun z => k682 z.2)]
              exact r_ret dX12_readsStep_139 (rt_v rfl) (by rw [e770]; exact ⟨rfl, hS762, hF765, rfl, _, f767, fun j z => (by rw [pk_un (by omega), pk_un (by omega), pk_un (by omega)]), Or.inr ⟨rfl, _, _, _, _, f764⟩⟩)
            · have k772 : tK f n (rdP f n (rdP f n p)) = 6 := (km6 _).mp c759
              refine r_iconst (v := 1) rfl dX12_readsStep_127 (by decide) ?_
              refine r_goto (pc' := 132) rfl dX12_readsStep_128 ?_
              refine cl_X12_99 rfl rfl dX12_readsStep_132 (show 2 ≤ 420 ∧ 420 < 434 by decide).1 (show 2 ≤ 420 ∧ 420 < 434 by decide).2 f756 (Nat.le_of_ble_eq_true rfl) (s_X12_wantsF hS751 f756 (by omega)) ?_
              rintro _ h773 _ ⟨rfl, hS774, hK775, f776, rfl⟩
              have hF777 := KM_tr hF752 (KM_sb (by decide) hK775)
              have f778 : h773 421 = .inl (0, 300, .inl g) := (hK775 421 (by decide)).trans f755
              have f779 : h773 424 = .inl (0, 72, .inl (upd (upd (upd E ((3 * i) + 0) w418) ((3 * i) + 1) w676) ((3 * i) + 2) w676)) := (hK775 424 (by decide)).trans f754
              refine r_aload_n rfl dX12_readsStep_135 rfl ?_
              refine cl_X12_103 rfl rfl dX12_readsStep_136 (show 2 ≤ 420 ∧ 420 < 434 by decide).1 (show 2 ≤ 420 ∧ 420 < 434 by decide).2 f776 (Nat.le_of_ble_eq_true rfl) (s_X12_goesOnF hS774 f776 (by omega)) ?_
              rintro _ h780 _ ⟨rfl, -, -, e781, rfl⟩
              replace e781 := e781.symm
              subst e781
              have wv783 := hw419 (Or.inr (Or.inr k538))
              have e782 : (stS f n (nI (c + i)) p) = (false, (rdP f n (rdP f n p))) := by unfold stS; rw [if_pos k405, if_pos ⟨by rw [← wv783]; exact Int32.not_le.mp c539, k538⟩, if_neg (fun z => k682 z.2)]
              exact r_ret dX12_readsStep_139 (rt_v rfl) (by rw [e782]; exact ⟨rfl, hS774, hF777, rfl, _, f779, fun j z => (by rw [pk_un (by omega), pk_un (by omega), pk_un (by omega)]), Or.inr ⟨rfl, _, _, _, _, f776⟩⟩)
        · have k784 : tK f n (rdP f n (rdP f n p)) = 4 := (km4 _).mp c681
          refine r_aload_n rfl dX12_readsStep_37 rfl ?_
          refine r_getv 7 rfl dX12_readsStep_38 (show 2 ≤ 420 ∧ 420 < 434 by decide) f674 fl_X12_79 rfl ?_
          refine r_aload_n rfl dX12_readsStep_41 rfl ?_
          refine r_getv 9 rfl dX12_readsStep_42 (show 2 ≤ 420 ∧ 420 < 434 by decide) f674 fl_X12_112 rfl ?_
          refine r_iload_n rfl dX12_readsStep_45 rfl ?_
          refine r_iadd rfl dX12_readsStep_46 ?_
          refine r_eqi (y := nI (c + i)) (show (nI c) + (nI i) = nI (c + i) from nI_add c i) ?_
          refine r_icmp_ge (tgt := 54) rfl rfl dX12_readsStep_47 (fun c785 => ?_) (fun c785 => ?_)
          · refine r_iconst (v := 0) rfl dX12_readsStep_54 (by decide) ?_
            refine cl_X12_99 rfl rfl dX12_readsStep_55 (show 2 ≤ 420 ∧ 420 < 434 by decide).1 (show 2 ≤ 420 ∧ 420 < 434 by decide).2 f674 (Nat.le_of_ble_eq_true rfl) (s_X12_wants0 hS672 f674) ?_
            rintro _ h786 _ ⟨rfl, hS787, hK788, f789, rfl⟩
            have hF790 := KM_tr hF675 (KM_sb (by decide) hK788)
            have f791 : h786 421 = .inl (0, 300, .inl g) := (hK788 421 (by decide)).trans f679
            have f792 : h786 424 = .inl (0, 72, .inl (upd E ((3 * i) + 0) w418)) := (hK788 424 (by decide)).trans f680
            refine r_aload_n rfl dX12_readsStep_58 rfl ?_
            refine r_getv 15 rfl dX12_readsStep_59 (show 2 ≤ 420 ∧ 420 < 434 by decide) f789 fl_X12_23 rfl ?_
            refine r_iconst (v := 3) rfl dX12_readsStep_62 (by decide) ?_
            refine r_iload_n rfl dX12_readsStep_63 rfl ?_
            refine r_imul rfl dX12_readsStep_64 ?_
            refine r_eqi (y := nI (3 * i)) (show 3 * (nI i) = nI (3 * i) from pk_mul 3 i) ?_
            refine r_iload_n rfl dX12_readsStep_65 rfl ?_
            refine r_iadd rfl dX12_readsStep_66 ?_
            refine r_eqi (y := nI ((3 * i) + 1)) (show (nI (3 * i)) + 1 = nI ((3 * i) + 1) from nI_add (3 * i) 1) ?_
            refine r_aload_n rfl dX12_readsStep_67 rfl ?_
            refine r_getv 7 rfl dX12_readsStep_68 (show 2 ≤ 420 ∧ 420 < 434 by decide) f789 fl_X12_79 rfl ?_
            refine e_iast (jn := (3 * i) + 1) rfl dX12_readsStep_71 (show 2 ≤ 424 ∧ 424 < 434 by decide) hS787 hF790 (by decide) f792 (vp_in_nI (n := (3 * i) + 1) (by omega) (by decide)) (nI_clamp (n := (3 * i) + 1) (by omega)) (fun h793 hS794 hF795 hN796 f797 => ?_)
            have f798 : h793 421 = .inl (0, 300, .inl g) := (hN796 421 (by decide)).trans f791
            have f799 : h793 420 = .inr (12, [.int th, .long tr, .ref 421, .int (nI n), .int (nI (rdP f n (rdP f n (rdP f n p)))), .int (kmap (tK f n (rdP f n (rdP f n p)))), .int (nI (rdS f n (rdP f n (rdP f n p)))), .int w676, .int (nI (rdS f n (rdP f n (rdP f n p)))), .int (nI c), .int md, .int ss, .int wg, .ref 422, .ref 423, .ref 424, .ref 425, .ref 426, .ref 427, .ref 428, .ref 429, .ref 430, .ref 431, .ref 432, .ref 433]) := (hN796 420 (by decide)).trans f789
            refine r_aload_n rfl dX12_readsStep_72 rfl ?_
            refine cl_X12_103 rfl rfl dX12_readsStep_73 (show 2 ≤ 420 ∧ 420 < 434 by decide).1 (show 2 ≤ 420 ∧ 420 < 434 by decide).2 f799 (Nat.le_of_ble_eq_true rfl) (s_X12_goesOnF hS794 f799 (by omega)) ?_
            rintro _ h800 _ ⟨rfl, -, -, e801, rfl⟩
            replace e801 := e801.symm
            subst e801
            refine r_iinc (y := 2) (ls' := [some (.ref 420), some (.int (nI i)), some (.int 2)]) rfl dX12_readsStep_76 rfl (by decide) (Nat.le_of_ble_eq_true rfl) rfl ?_
            refine r_goto (pc' := 23) rfl dX12_readsStep_79 ?_
            refine r_iload_n rfl dX12_readsStep_23 rfl ?_
            refine r_iconst (v := 2) rfl dX12_readsStep_24 (by decide) ?_
            refine r_icmp_ge (tgt := 82) rfl rfl dX12_readsStep_25 (fun _ => ?_) (fun zc => absurd zc (by decide))
            refine r_aload_n rfl dX12_readsStep_82 rfl ?_
            refine r_aload_n rfl dX12_readsStep_83 rfl ?_
            refine r_getv 5 rfl dX12_readsStep_84 (show 2 ≤ 420 ∧ 420 < 434 by decide) f799 fl_X12_76 rfl ?_
            refine r_iconst (v := 1) rfl dX12_readsStep_87 (by decide) ?_
            refine r_icmp_ne (tgt := 95) rfl rfl dX12_readsStep_88 (fun c802 => ?_) (fun c802 => ?_)
            · have k803 : ¬ tK f n (rdP f n (rdP f n p)) = 3 := fun z => c802 ((km1 _).mpr z)
              refine r_iconst (v := 0) rfl dX12_readsStep_95 (by decide) ?_
              refine cl_X12_99 rfl rfl dX12_readsStep_96 (show 2 ≤ 420 ∧ 420 < 434 by decide).1 (show 2 ≤ 420 ∧ 420 < 434 by decide).2 f799 (Nat.le_of_ble_eq_true rfl) (s_X12_wantsF hS794 f799 (by omega)) ?_
              rintro _ h804 _ ⟨rfl, hS805, hK806, f807, rfl⟩
              have hF808 := KM_tr hF795 (KM_sb (by decide) hK806)
              have f809 : h804 421 = .inl (0, 300, .inl g) := (hK806 421 (by decide)).trans f798
              have f810 : h804 424 = .inl (0, 72, .inl (upd (upd E ((3 * i) + 0) w418) ((3 * i) + 1) w676)) := (hK806 424 (by decide)).trans f797
              refine r_aload_n rfl dX12_readsStep_99 rfl ?_
              refine r_getv 15 rfl dX12_readsStep_100 (show 2 ≤ 420 ∧ 420 < 434 by decide) f807 fl_X12_23 rfl ?_
              refine r_iconst (v := 3) rfl dX12_readsStep_103 (by decide) ?_
              refine r_iload_n rfl dX12_readsStep_104 rfl ?_
              refine r_imul rfl dX12_readsStep_105 ?_
              refine r_eqi (y := nI (3 * i)) (show 3 * (nI i) = nI (3 * i) from pk_mul 3 i) ?_
              refine r_iconst (v := 2) rfl dX12_readsStep_106 (by decide) ?_
              refine r_iadd rfl dX12_readsStep_107 ?_
              refine r_eqi (y := nI ((3 * i) + 2)) (show (nI (3 * i)) + 2 = nI ((3 * i) + 2) from nI_add (3 * i) 2) ?_
              refine r_aload_n rfl dX12_readsStep_108 rfl ?_
              refine r_getv 7 rfl dX12_readsStep_109 (show 2 ≤ 420 ∧ 420 < 434 by decide) f807 fl_X12_79 rfl ?_
              refine e_iast (jn := (3 * i) + 2) rfl dX12_readsStep_112 (show 2 ≤ 424 ∧ 424 < 434 by decide) hS805 hF808 (by decide) f810 (vp_in_nI (n := (3 * i) + 2) (by omega) (by decide)) (nI_clamp (n := (3 * i) + 2) (by omega)) (fun h811 hS812 hF813 hN814 f815 => ?_)
              have f816 : h811 421 = .inl (0, 300, .inl g) := (hN814 421 (by decide)).trans f809
              have f817 : h811 420 = .inr (12, [.int th, .long tr, .ref 421, .int (nI n), .int (nI (rdP f n (rdP f n (rdP f n p)))), .int (kmap (tK f n (rdP f n (rdP f n p)))), .int (nI (rdS f n (rdP f n (rdP f n p)))), .int w676, .int (nI (rdS f n (rdP f n (rdP f n p)))), .int (nI c), .int md, .int ss, .int wg, .ref 422, .ref 423, .ref 424, .ref 425, .ref 426, .ref 427, .ref 428, .ref 429, .ref 430, .ref 431, .ref 432, .ref 433]) := (hN814 420 (by decide)).trans f807
              refine r_aload_n rfl dX12_readsStep_113 rfl ?_
              refine cl_X12_103 rfl rfl dX12_readsStep_114 (show 2 ≤ 420 ∧ 420 < 434 by decide).1 (show 2 ≤ 420 ∧ 420 < 434 by decide).2 f817 (Nat.le_of_ble_eq_true rfl) (s_X12_goesOnF hS812 f817 (by omega)) ?_
              rintro _ h818 _ ⟨rfl, -, -, e819, rfl⟩
              replace e819 := e819.symm
              subst e819
              refine r_aload_n rfl dX12_readsStep_117 rfl ?_
              refine r_aload_n rfl dX12_readsStep_118 rfl ?_
              refine r_getv 5 rfl dX12_readsStep_119 (show 2 ≤ 420 ∧ 420 < 434 by decide) f817 fl_X12_76 rfl ?_
              refine r_bipush (v := 6) rfl dX12_readsStep_122 (by decide) ?_
              refine r_icmp_ne (tgt := 131) rfl rfl dX12_readsStep_124 (fun c820 => ?_) (fun c820 => ?_)
              · have k821 : ¬ tK f n (rdP f n (rdP f n p)) = 6 := fun z => c820 ((km6 _).mpr z)
                refine r_iconst (v := 0) rfl dX12_readsStep_131 (by decide) ?_
                refine cl_X12_99 rfl rfl dX12_readsStep_132 (show 2 ≤ 420 ∧ 420 < 434 by decide).1 (show 2 ≤ 420 ∧ 420 < 434 by decide).2 f817 (Nat.le_of_ble_eq_true rfl) (s_X12_wantsF hS812 f817 (by omega)) ?_
                rintro _ h822 _ ⟨rfl, hS823, hK824, f825, rfl⟩
                have hF826 := KM_tr hF813 (KM_sb (by decide) hK824)
                have f827 : h822 421 = .inl (0, 300, .inl g) := (hK824 421 (by decide)).trans f816
                have f828 : h822 424 = .inl (0, 72, .inl (upd (upd (upd E ((3 * i) + 0) w418) ((3 * i) + 1) w676) ((3 * i) + 2) w676)) := (hK824 424 (by decide)).trans f815
                refine r_aload_n rfl dX12_readsStep_135 rfl ?_
                refine cl_X12_103 rfl rfl dX12_readsStep_136 (show 2 ≤ 420 ∧ 420 < 434 by decide).1 (show 2 ≤ 420 ∧ 420 < 434 by decide).2 f825 (Nat.le_of_ble_eq_true rfl) (s_X12_goesOnF hS823 f825 (by omega)) ?_
                rintro _ h829 _ ⟨rfl, -, -, e830, rfl⟩
                replace e830 := e830.symm
                subst e830
                have wv832 := hw419 (Or.inr (Or.inr k538))
                have wv833 := hw677 (Or.inr (Or.inr k784))
                have e831 : (stS f n (nI (c + i)) p) = (false, (rdP f n (rdP f n p))) := by unfold stS; rw [if_pos k405, if_pos ⟨by rw [← wv832]; exact Int32.not_le.mp c539, k538⟩, if_neg (fun z => absurd z.1 (Int32.not_lt.mpr (by rw [← wv833]; exact c785)))]
                exact r_ret dX12_readsStep_139 (rt_v rfl) (by rw [e831]; exact ⟨rfl, hS823, hF826, rfl, _, f828, fun j z => (by rw [pk_un (by omega), pk_un (by omega), pk_un (by omega)]), Or.inr ⟨rfl, _, _, _, _, f825⟩⟩)
              · have k834 : tK f n (rdP f n (rdP f n p)) = 6 := (km6 _).mp c820
                refine r_iconst (v := 1) rfl dX12_readsStep_127 (by decide) ?_
                refine r_goto (pc' := 132) rfl dX12_readsStep_128 ?_
                refine cl_X12_99 rfl rfl dX12_readsStep_132 (show 2 ≤ 420 ∧ 420 < 434 by decide).1 (show 2 ≤ 420 ∧ 420 < 434 by decide).2 f817 (Nat.le_of_ble_eq_true rfl) (s_X12_wantsF hS812 f817 (by omega)) ?_
                rintro _ h835 _ ⟨rfl, hS836, hK837, f838, rfl⟩
                have hF839 := KM_tr hF813 (KM_sb (by decide) hK837)
                have f840 : h835 421 = .inl (0, 300, .inl g) := (hK837 421 (by decide)).trans f816
                have f841 : h835 424 = .inl (0, 72, .inl (upd (upd (upd E ((3 * i) + 0) w418) ((3 * i) + 1) w676) ((3 * i) + 2) w676)) := (hK837 424 (by decide)).trans f815
                refine r_aload_n rfl dX12_readsStep_135 rfl ?_
                refine cl_X12_103 rfl rfl dX12_readsStep_136 (show 2 ≤ 420 ∧ 420 < 434 by decide).1 (show 2 ≤ 420 ∧ 420 < 434 by decide).2 f838 (Nat.le_of_ble_eq_true rfl) (s_X12_goesOnF hS836 f838 (by omega)) ?_
                rintro _ h842 _ ⟨rfl, -, -, e843, rfl⟩
                replace e843 := e843.symm
                subst e843
                have wv845 := hw419 (Or.inr (Or.inr k538))
                have wv846 := hw677 (Or.inr (Or.inr k784))
                have e844 : (stS f n (nI (c + i)) p) = (false, (rdP f n (rdP f n p))) := by unfold stS; rw [if_pos k405, if_pos ⟨by rw [← wv845]; exact Int32.not_le.mp c539, k538⟩, if_neg (fun z => absurd z.1 (Int32.not_lt.mpr (by rw [← wv846]; exact c785)))]
                exact r_ret dX12_readsStep_139 (rt_v rfl) (by rw [e844]; exact ⟨rfl, hS836, hF839, rfl, _, f841, fun j z => (by rw [pk_un (by omega), pk_un (by omega), pk_un (by omega)]), Or.inr ⟨rfl, _, _, _, _, f838⟩⟩)
            · have k847 : tK f n (rdP f n (rdP f n p)) = 3 := (km1 _).mp c802
              refine r_iconst (v := 1) rfl dX12_readsStep_91 (by decide) ?_
              refine r_goto (pc' := 96) rfl dX12_readsStep_92 ?_
              refine cl_X12_99 rfl rfl dX12_readsStep_96 (show 2 ≤ 420 ∧ 420 < 434 by decide).1 (show 2 ≤ 420 ∧ 420 < 434 by decide).2 f799 (Nat.le_of_ble_eq_true rfl) (s_X12_wantsF hS794 f799 (by omega)) ?_
              rintro _ h848 _ ⟨rfl, hS849, hK850, f851, rfl⟩
              have hF852 := KM_tr hF795 (KM_sb (by decide) hK850)
              have f853 : h848 421 = .inl (0, 300, .inl g) := (hK850 421 (by decide)).trans f798
              have f854 : h848 424 = .inl (0, 72, .inl (upd (upd E ((3 * i) + 0) w418) ((3 * i) + 1) w676)) := (hK850 424 (by decide)).trans f797
              refine r_aload_n rfl dX12_readsStep_99 rfl ?_
              refine r_getv 15 rfl dX12_readsStep_100 (show 2 ≤ 420 ∧ 420 < 434 by decide) f851 fl_X12_23 rfl ?_
              refine r_iconst (v := 3) rfl dX12_readsStep_103 (by decide) ?_
              refine r_iload_n rfl dX12_readsStep_104 rfl ?_
              refine r_imul rfl dX12_readsStep_105 ?_
              refine r_eqi (y := nI (3 * i)) (show 3 * (nI i) = nI (3 * i) from pk_mul 3 i) ?_
              refine r_iconst (v := 2) rfl dX12_readsStep_106 (by decide) ?_
              refine r_iadd rfl dX12_readsStep_107 ?_
              refine r_eqi (y := nI ((3 * i) + 2)) (show (nI (3 * i)) + 2 = nI ((3 * i) + 2) from nI_add (3 * i) 2) ?_
              refine r_aload_n rfl dX12_readsStep_108 rfl ?_
              refine r_getv 7 rfl dX12_readsStep_109 (show 2 ≤ 420 ∧ 420 < 434 by decide) f851 fl_X12_79 rfl ?_
              refine e_iast (jn := (3 * i) + 2) rfl dX12_readsStep_112 (show 2 ≤ 424 ∧ 424 < 434 by decide) hS849 hF852 (by decide) f854 (vp_in_nI (n := (3 * i) + 2) (by omega) (by decide)) (nI_clamp (n := (3 * i) + 2) (by omega)) (fun h855 hS856 hF857 hN858 f859 => ?_)
              have f860 : h855 421 = .inl (0, 300, .inl g) := (hN858 421 (by decide)).trans f853
              have f861 : h855 420 = .inr (12, [.int th, .long tr, .ref 421, .int (nI n), .int (nI (rdP f n (rdP f n (rdP f n p)))), .int (kmap (tK f n (rdP f n (rdP f n p)))), .int (nI (rdS f n (rdP f n (rdP f n p)))), .int w676, .int (nI (rdS f n (rdP f n (rdP f n p)))), .int (nI c), .int md, .int ss, .int wg, .ref 422, .ref 423, .ref 424, .ref 425, .ref 426, .ref 427, .ref 428, .ref 429, .ref 430, .ref 431, .ref 432, .ref 433]) := (hN858 420 (by decide)).trans f851
              refine r_aload_n rfl dX12_readsStep_113 rfl ?_
              refine cl_X12_103 rfl rfl dX12_readsStep_114 (show 2 ≤ 420 ∧ 420 < 434 by decide).1 (show 2 ≤ 420 ∧ 420 < 434 by decide).2 f861 (Nat.le_of_ble_eq_true rfl) (s_X12_goesOnF hS856 f861 (by omega)) ?_
              rintro _ h862 _ ⟨rfl, -, -, e863, rfl⟩
              replace e863 := e863.symm
              subst e863
              refine r_aload_n rfl dX12_readsStep_117 rfl ?_
              refine r_aload_n rfl dX12_readsStep_118 rfl ?_
              refine r_getv 5 rfl dX12_readsStep_119 (show 2 ≤ 420 ∧ 420 < 434 by decide) f861 fl_X12_76 rfl ?_
              refine r_bipush (v := 6) rfl dX12_readsStep_122 (by decide) ?_
              refine r_icmp_ne (tgt := 131) rfl rfl dX12_readsStep_124 (fun c864 => ?_) (fun c864 => ?_)
              · have k865 : ¬ tK f n (rdP f n (rdP f n p)) = 6 := fun z => c864 ((km6 _).mpr z)
                refine r_iconst (v := 0) rfl dX12_readsStep_131 (by decide) ?_
                refine cl_X12_99 rfl rfl dX12_readsStep_132 (show 2 ≤ 420 ∧ 420 < 434 by decide).1 (show 2 ≤ 420 ∧ 420 < 434 by decide).2 f861 (Nat.le_of_ble_eq_true rfl) (s_X12_wantsF hS856 f861 (by omega)) ?_
                rintro _ h866 _ ⟨rfl, hS867, hK868, f869, rfl⟩
                have hF870 := KM_tr hF857 (KM_sb (by decide) hK868)
                have f871 : h866 421 = .inl (0, 300, .inl g) := (hK868 421 (by decide)).trans f860
                have f872 : h866 424 = .inl (0, 72, .inl (upd (upd (upd E ((3 * i) + 0) w418) ((3 * i) + 1) w676) ((3 * i) + 2) w676)) := (hK868 424 (by decide)).trans f859
                refine r_aload_n rfl dX12_readsStep_135 rfl ?_
                refine cl_X12_103 rfl rfl dX12_readsStep_136 (show 2 ≤ 420 ∧ 420 < 434 by decide).1 (show 2 ≤ 420 ∧ 420 < 434 by decide).2 f869 (Nat.le_of_ble_eq_true rfl) (s_X12_goesOnF hS867 f869 (by omega)) ?_
                rintro _ h873 _ ⟨rfl, -, -, e874, rfl⟩
                replace e874 := e874.symm
                subst e874
                have wv876 := hw419 (Or.inr (Or.inr k538))
                have wv877 := hw677 (Or.inr (Or.inr k784))
                have e875 : (stS f n (nI (c + i)) p) = (false, (rdP f n (rdP f n p))) := by unfold stS; rw [if_pos k405, if_pos ⟨by rw [← wv876]; exact Int32.not_le.mp c539, k538⟩, if_neg (fun z => absurd z.1 (Int32.not_lt.mpr (by rw [← wv877]; exact c785)))]
                exact r_ret dX12_readsStep_139 (rt_v rfl) (by rw [e875]; exact ⟨rfl, hS867, hF870, rfl, _, f872, fun j z => (by rw [pk_un (by omega), pk_un (by omega), pk_un (by omega)]), Or.inr ⟨rfl, _, _, _, _, f869⟩⟩)
              · have k878 : tK f n (rdP f n (rdP f n p)) = 6 := (km6 _).mp c864
                refine r_iconst (v := 1) rfl dX12_readsStep_127 (by decide) ?_
                refine r_goto (pc' := 132) rfl dX12_readsStep_128 ?_
                refine cl_X12_99 rfl rfl dX12_readsStep_132 (show 2 ≤ 420 ∧ 420 < 434 by decide).1 (show 2 ≤ 420 ∧ 420 < 434 by decide).2 f861 (Nat.le_of_ble_eq_true rfl) (s_X12_wantsF hS856 f861 (by omega)) ?_
                rintro _ h879 _ ⟨rfl, hS880, hK881, f882, rfl⟩
                have hF883 := KM_tr hF857 (KM_sb (by decide) hK881)
                have f884 : h879 421 = .inl (0, 300, .inl g) := (hK881 421 (by decide)).trans f860
                have f885 : h879 424 = .inl (0, 72, .inl (upd (upd (upd E ((3 * i) + 0) w418) ((3 * i) + 1) w676) ((3 * i) + 2) w676)) := (hK881 424 (by decide)).trans f859
                refine r_aload_n rfl dX12_readsStep_135 rfl ?_
                refine cl_X12_103 rfl rfl dX12_readsStep_136 (show 2 ≤ 420 ∧ 420 < 434 by decide).1 (show 2 ≤ 420 ∧ 420 < 434 by decide).2 f882 (Nat.le_of_ble_eq_true rfl) (s_X12_goesOnF hS880 f882 (by omega)) ?_
                rintro _ h886 _ ⟨rfl, -, -, e887, rfl⟩
                replace e887 := e887.symm
                subst e887
                have wv889 := hw419 (Or.inr (Or.inr k538))
                have wv890 := hw677 (Or.inr (Or.inr k784))
                have e888 : (stS f n (nI (c + i)) p) = (false, (rdP f n (rdP f n p))) := by unfold stS; rw [if_pos k405, if_pos ⟨by rw [← wv889]; exact Int32.not_le.mp c539, k538⟩, if_neg (fun z => absurd z.1 (Int32.not_lt.mpr (by rw [← wv890]; exact c785)))]
                exact r_ret dX12_readsStep_139 (rt_v rfl) (by rw [e888]; exact ⟨rfl, hS880, hF883, rfl, _, f885, fun j z => (by rw [pk_un (by omega), pk_un (by omega), pk_un (by omega)]), Or.inr ⟨rfl, _, _, _, _, f882⟩⟩)
          · refine r_iconst (v := 1) rfl dX12_readsStep_50 (by decide) ?_
            refine r_goto (pc' := 55) rfl dX12_readsStep_51 ?_
            refine cl_X12_99 rfl rfl dX12_readsStep_55 (show 2 ≤ 420 ∧ 420 < 434 by decide).1 (show 2 ≤ 420 ∧ 420 < 434 by decide).2 f674 (Nat.le_of_ble_eq_true rfl) (s_X12_wants1 hS672 f674) ?_
            rintro _ h891 _ ⟨rfl, hS892, hK893, f894, rfl⟩
            have hF895 := KM_tr hF675 (KM_sb (by decide) hK893)
            have f896 : h891 421 = .inl (0, 300, .inl g) := (hK893 421 (by decide)).trans f679
            have f897 : h891 424 = .inl (0, 72, .inl (upd E ((3 * i) + 0) w418)) := (hK893 424 (by decide)).trans f680
            refine r_aload_n rfl dX12_readsStep_58 rfl ?_
            refine r_getv 15 rfl dX12_readsStep_59 (show 2 ≤ 420 ∧ 420 < 434 by decide) f894 fl_X12_23 rfl ?_
            refine r_iconst (v := 3) rfl dX12_readsStep_62 (by decide) ?_
            refine r_iload_n rfl dX12_readsStep_63 rfl ?_
            refine r_imul rfl dX12_readsStep_64 ?_
            refine r_eqi (y := nI (3 * i)) (show 3 * (nI i) = nI (3 * i) from pk_mul 3 i) ?_
            refine r_iload_n rfl dX12_readsStep_65 rfl ?_
            refine r_iadd rfl dX12_readsStep_66 ?_
            refine r_eqi (y := nI ((3 * i) + 1)) (show (nI (3 * i)) + 1 = nI ((3 * i) + 1) from nI_add (3 * i) 1) ?_
            refine r_aload_n rfl dX12_readsStep_67 rfl ?_
            refine r_getv 7 rfl dX12_readsStep_68 (show 2 ≤ 420 ∧ 420 < 434 by decide) f894 fl_X12_79 rfl ?_
            refine e_iast (jn := (3 * i) + 1) rfl dX12_readsStep_71 (show 2 ≤ 424 ∧ 424 < 434 by decide) hS892 hF895 (by decide) f897 (vp_in_nI (n := (3 * i) + 1) (by omega) (by decide)) (nI_clamp (n := (3 * i) + 1) (by omega)) (fun h898 hS899 hF900 hN901 f902 => ?_)
            have f903 : h898 421 = .inl (0, 300, .inl g) := (hN901 421 (by decide)).trans f896
            have f904 : h898 420 = .inr (12, [.int th, .long tr, .ref 421, .int (nI n), .int (nI (rdP f n (rdP f n (rdP f n p)))), .int (kmap (tK f n (rdP f n (rdP f n p)))), .int (nI (rdS f n (rdP f n (rdP f n p)))), .int w676, .int (-1), .int (nI c), .int md, .int ss, .int wg, .ref 422, .ref 423, .ref 424, .ref 425, .ref 426, .ref 427, .ref 428, .ref 429, .ref 430, .ref 431, .ref 432, .ref 433]) := (hN901 420 (by decide)).trans f894
            refine r_aload_n rfl dX12_readsStep_72 rfl ?_
            refine cl_X12_103 rfl rfl dX12_readsStep_73 (show 2 ≤ 420 ∧ 420 < 434 by decide).1 (show 2 ≤ 420 ∧ 420 < 434 by decide).2 f904 (Nat.le_of_ble_eq_true rfl) (s_X12_goesOn1 hS899 hX (rdP_le f (rdP_le f (rdP_le f hp))) f904 f903) ?_
            rintro _ h905 _ ⟨rfl, hS906, hK907, ⟨w910, f908, hw911⟩, rfl⟩
            have hF909 := KM_tr hF900 (KM_sb (by decide) hK907)
            have hl912 := (rdS_le f (rdP_le f (rdP_le f (rdP_le f hp)))).2
            have f913 : h905 421 = .inl (0, 300, .inl g) := (hK907 421 (by decide)).trans f903
            have f914 : h905 424 = .inl (0, 72, .inl (upd (upd E ((3 * i) + 0) w418) ((3 * i) + 1) w676)) := (hK907 424 (by decide)).trans f902
            refine r_iinc (y := 2) (ls' := [some (.ref 420), some (.int (nI i)), some (.int 2)]) rfl dX12_readsStep_76 rfl (by decide) (Nat.le_of_ble_eq_true rfl) rfl ?_
            refine r_goto (pc' := 23) rfl dX12_readsStep_79 ?_
            refine r_iload_n rfl dX12_readsStep_23 rfl ?_
            refine r_iconst (v := 2) rfl dX12_readsStep_24 (by decide) ?_
            refine r_icmp_ge (tgt := 82) rfl rfl dX12_readsStep_25 (fun _ => ?_) (fun zc => absurd zc (by decide))
            refine r_aload_n rfl dX12_readsStep_82 rfl ?_
            refine r_aload_n rfl dX12_readsStep_83 rfl ?_
            refine r_getv 5 rfl dX12_readsStep_84 (show 2 ≤ 420 ∧ 420 < 434 by decide) f908 fl_X12_76 rfl ?_
            refine r_iconst (v := 1) rfl dX12_readsStep_87 (by decide) ?_
            refine r_icmp_ne (tgt := 95) rfl rfl dX12_readsStep_88 (fun c915 => ?_) (fun c915 => ?_)
            · have k916 : ¬ tK f n (rdP f n (rdP f n (rdP f n p))) = 3 := fun z => c915 ((km1 _).mpr z)
              refine r_iconst (v := 0) rfl dX12_readsStep_95 (by decide) ?_
              refine cl_X12_99 rfl rfl dX12_readsStep_96 (show 2 ≤ 420 ∧ 420 < 434 by decide).1 (show 2 ≤ 420 ∧ 420 < 434 by decide).2 f908 (Nat.le_of_ble_eq_true rfl) (s_X12_wants0 hS906 f908) ?_
              rintro _ h917 _ ⟨rfl, hS918, hK919, f920, rfl⟩
              have hF921 := KM_tr hF909 (KM_sb (by decide) hK919)
              have f922 : h917 421 = .inl (0, 300, .inl g) := (hK919 421 (by decide)).trans f913
              have f923 : h917 424 = .inl (0, 72, .inl (upd (upd E ((3 * i) + 0) w418) ((3 * i) + 1) w676)) := (hK919 424 (by decide)).trans f914
              refine r_aload_n rfl dX12_readsStep_99 rfl ?_
              refine r_getv 15 rfl dX12_readsStep_100 (show 2 ≤ 420 ∧ 420 < 434 by decide) f920 fl_X12_23 rfl ?_
              refine r_iconst (v := 3) rfl dX12_readsStep_103 (by decide) ?_
              refine r_iload_n rfl dX12_readsStep_104 rfl ?_
              refine r_imul rfl dX12_readsStep_105 ?_
              refine r_eqi (y := nI (3 * i)) (show 3 * (nI i) = nI (3 * i) from pk_mul 3 i) ?_
              refine r_iconst (v := 2) rfl dX12_readsStep_106 (by decide) ?_
              refine r_iadd rfl dX12_readsStep_107 ?_
              refine r_eqi (y := nI ((3 * i) + 2)) (show (nI (3 * i)) + 2 = nI ((3 * i) + 2) from nI_add (3 * i) 2) ?_
              refine r_aload_n rfl dX12_readsStep_108 rfl ?_
              refine r_getv 7 rfl dX12_readsStep_109 (show 2 ≤ 420 ∧ 420 < 434 by decide) f920 fl_X12_79 rfl ?_
              refine e_iast (jn := (3 * i) + 2) rfl dX12_readsStep_112 (show 2 ≤ 424 ∧ 424 < 434 by decide) hS918 hF921 (by decide) f923 (vp_in_nI (n := (3 * i) + 2) (by omega) (by decide)) (nI_clamp (n := (3 * i) + 2) (by omega)) (fun h924 hS925 hF926 hN927 f928 => ?_)
              have f929 : h924 421 = .inl (0, 300, .inl g) := (hN927 421 (by decide)).trans f922
              have f930 : h924 420 = .inr (12, [.int th, .long tr, .ref 421, .int (nI n), .int (nI (rdP f n (rdP f n (rdP f n (rdP f n p))))), .int (kmap (tK f n (rdP f n (rdP f n (rdP f n p))))), .int (nI (rdS f n (rdP f n (rdP f n (rdP f n p))))), .int w910, .int (nI (rdS f n (rdP f n (rdP f n (rdP f n p))))), .int (nI c), .int md, .int ss, .int wg, .ref 422, .ref 423, .ref 424, .ref 425, .ref 426, .ref 427, .ref 428, .ref 429, .ref 430, .ref 431, .ref 432, .ref 433]) := (hN927 420 (by decide)).trans f920
              refine r_aload_n rfl dX12_readsStep_113 rfl ?_
              refine cl_X12_103 rfl rfl dX12_readsStep_114 (show 2 ≤ 420 ∧ 420 < 434 by decide).1 (show 2 ≤ 420 ∧ 420 < 434 by decide).2 f930 (Nat.le_of_ble_eq_true rfl) (s_X12_goesOnF hS925 f930 (by omega)) ?_
              rintro _ h931 _ ⟨rfl, -, -, e932, rfl⟩
              replace e932 := e932.symm
              subst e932
              refine r_aload_n rfl dX12_readsStep_117 rfl ?_
              refine r_aload_n rfl dX12_readsStep_118 rfl ?_
              refine r_getv 5 rfl dX12_readsStep_119 (show 2 ≤ 420 ∧ 420 < 434 by decide) f930 fl_X12_76 rfl ?_
              refine r_bipush (v := 6) rfl dX12_readsStep_122 (by decide) ?_
              refine r_icmp_ne (tgt := 131) rfl rfl dX12_readsStep_124 (fun c933 => ?_) (fun c933 => ?_)
              · have k934 : ¬ tK f n (rdP f n (rdP f n (rdP f n p))) = 6 := fun z => c933 ((km6 _).mpr z)
                refine r_iconst (v := 0) rfl dX12_readsStep_131 (by decide) ?_
                refine cl_X12_99 rfl rfl dX12_readsStep_132 (show 2 ≤ 420 ∧ 420 < 434 by decide).1 (show 2 ≤ 420 ∧ 420 < 434 by decide).2 f930 (Nat.le_of_ble_eq_true rfl) (s_X12_wantsF hS925 f930 (by omega)) ?_
                rintro _ h935 _ ⟨rfl, hS936, hK937, f938, rfl⟩
                have hF939 := KM_tr hF926 (KM_sb (by decide) hK937)
                have f940 : h935 421 = .inl (0, 300, .inl g) := (hK937 421 (by decide)).trans f929
                have f941 : h935 424 = .inl (0, 72, .inl (upd (upd (upd E ((3 * i) + 0) w418) ((3 * i) + 1) w676) ((3 * i) + 2) w910)) := (hK937 424 (by decide)).trans f928
                refine r_aload_n rfl dX12_readsStep_135 rfl ?_
                refine cl_X12_103 rfl rfl dX12_readsStep_136 (show 2 ≤ 420 ∧ 420 < 434 by decide).1 (show 2 ≤ 420 ∧ 420 < 434 by decide).2 f938 (Nat.le_of_ble_eq_true rfl) (s_X12_goesOnF hS936 f938 (by omega)) ?_
                rintro _ h942 _ ⟨rfl, -, -, e943, rfl⟩
                replace e943 := e943.symm
                subst e943
                have wv945 := hw419 (Or.inr (Or.inr k538))
                have wv946 := hw677 (Or.inr (Or.inr k784))
                have e944 : (stS f n (nI (c + i)) p) = (false, (rdP f n (rdP f n (rdP f n p)))) := by unfold stS; rw [if_pos k405, if_pos ⟨by rw [← wv945]; exact Int32.not_le.mp c539, k538⟩, if_pos ⟨by rw [← wv946]; exact Int32.not_le.mp c785, k784⟩, if_neg k916]
                exact r_ret dX12_readsStep_139 (rt_v rfl) (by rw [e944]; exact ⟨rfl, hS936, hF939, rfl, _, f941, fun j z => (by rw [pk_un (by omega), pk_un (by omega), pk_un (by omega)]), Or.inr ⟨rfl, _, _, _, _, f938⟩⟩)
              · have k947 : tK f n (rdP f n (rdP f n (rdP f n p))) = 6 := (km6 _).mp c933
                refine r_iconst (v := 1) rfl dX12_readsStep_127 (by decide) ?_
                refine r_goto (pc' := 132) rfl dX12_readsStep_128 ?_
                refine cl_X12_99 rfl rfl dX12_readsStep_132 (show 2 ≤ 420 ∧ 420 < 434 by decide).1 (show 2 ≤ 420 ∧ 420 < 434 by decide).2 f930 (Nat.le_of_ble_eq_true rfl) (s_X12_wantsF hS925 f930 (by omega)) ?_
                rintro _ h948 _ ⟨rfl, hS949, hK950, f951, rfl⟩
                have hF952 := KM_tr hF926 (KM_sb (by decide) hK950)
                have f953 : h948 421 = .inl (0, 300, .inl g) := (hK950 421 (by decide)).trans f929
                have f954 : h948 424 = .inl (0, 72, .inl (upd (upd (upd E ((3 * i) + 0) w418) ((3 * i) + 1) w676) ((3 * i) + 2) w910)) := (hK950 424 (by decide)).trans f928
                refine r_aload_n rfl dX12_readsStep_135 rfl ?_
                refine cl_X12_103 rfl rfl dX12_readsStep_136 (show 2 ≤ 420 ∧ 420 < 434 by decide).1 (show 2 ≤ 420 ∧ 420 < 434 by decide).2 f951 (Nat.le_of_ble_eq_true rfl) (s_X12_goesOnF hS949 f951 (by omega)) ?_
                rintro _ h955 _ ⟨rfl, -, -, e956, rfl⟩
                replace e956 := e956.symm
                subst e956
                have wv958 := hw419 (Or.inr (Or.inr k538))
                have wv959 := hw677 (Or.inr (Or.inr k784))
                have e957 : (stS f n (nI (c + i)) p) = (false, (rdP f n (rdP f n (rdP f n p)))) := by unfold stS; rw [if_pos k405, if_pos ⟨by rw [← wv958]; exact Int32.not_le.mp c539, k538⟩, if_pos ⟨by rw [← wv959]; exact Int32.not_le.mp c785, k784⟩, if_neg k916]
                exact r_ret dX12_readsStep_139 (rt_v rfl) (by rw [e957]; exact ⟨rfl, hS949, hF952, rfl, _, f954, fun j z => (by rw [pk_un (by omega), pk_un (by omega), pk_un (by omega)]), Or.inr ⟨rfl, _, _, _, _, f951⟩⟩)
            · have k960 : tK f n (rdP f n (rdP f n (rdP f n p))) = 3 := (km1 _).mp c915
              refine r_iconst (v := 1) rfl dX12_readsStep_91 (by decide) ?_
              refine r_goto (pc' := 96) rfl dX12_readsStep_92 ?_
              refine cl_X12_99 rfl rfl dX12_readsStep_96 (show 2 ≤ 420 ∧ 420 < 434 by decide).1 (show 2 ≤ 420 ∧ 420 < 434 by decide).2 f908 (Nat.le_of_ble_eq_true rfl) (s_X12_wants1 hS906 f908) ?_
              rintro _ h961 _ ⟨rfl, hS962, hK963, f964, rfl⟩
              have hF965 := KM_tr hF909 (KM_sb (by decide) hK963)
              have f966 : h961 421 = .inl (0, 300, .inl g) := (hK963 421 (by decide)).trans f913
              have f967 : h961 424 = .inl (0, 72, .inl (upd (upd E ((3 * i) + 0) w418) ((3 * i) + 1) w676)) := (hK963 424 (by decide)).trans f914
              refine r_aload_n rfl dX12_readsStep_99 rfl ?_
              refine r_getv 15 rfl dX12_readsStep_100 (show 2 ≤ 420 ∧ 420 < 434 by decide) f964 fl_X12_23 rfl ?_
              refine r_iconst (v := 3) rfl dX12_readsStep_103 (by decide) ?_
              refine r_iload_n rfl dX12_readsStep_104 rfl ?_
              refine r_imul rfl dX12_readsStep_105 ?_
              refine r_eqi (y := nI (3 * i)) (show 3 * (nI i) = nI (3 * i) from pk_mul 3 i) ?_
              refine r_iconst (v := 2) rfl dX12_readsStep_106 (by decide) ?_
              refine r_iadd rfl dX12_readsStep_107 ?_
              refine r_eqi (y := nI ((3 * i) + 2)) (show (nI (3 * i)) + 2 = nI ((3 * i) + 2) from nI_add (3 * i) 2) ?_
              refine r_aload_n rfl dX12_readsStep_108 rfl ?_
              refine r_getv 7 rfl dX12_readsStep_109 (show 2 ≤ 420 ∧ 420 < 434 by decide) f964 fl_X12_79 rfl ?_
              refine e_iast (jn := (3 * i) + 2) rfl dX12_readsStep_112 (show 2 ≤ 424 ∧ 424 < 434 by decide) hS962 hF965 (by decide) f967 (vp_in_nI (n := (3 * i) + 2) (by omega) (by decide)) (nI_clamp (n := (3 * i) + 2) (by omega)) (fun h968 hS969 hF970 hN971 f972 => ?_)
              have f973 : h968 421 = .inl (0, 300, .inl g) := (hN971 421 (by decide)).trans f966
              have f974 : h968 420 = .inr (12, [.int th, .long tr, .ref 421, .int (nI n), .int (nI (rdP f n (rdP f n (rdP f n (rdP f n p))))), .int (kmap (tK f n (rdP f n (rdP f n (rdP f n p))))), .int (nI (rdS f n (rdP f n (rdP f n (rdP f n p))))), .int w910, .int (-1), .int (nI c), .int md, .int ss, .int wg, .ref 422, .ref 423, .ref 424, .ref 425, .ref 426, .ref 427, .ref 428, .ref 429, .ref 430, .ref 431, .ref 432, .ref 433]) := (hN971 420 (by decide)).trans f964
              refine r_aload_n rfl dX12_readsStep_113 rfl ?_
              refine cl_X12_103 rfl rfl dX12_readsStep_114 (show 2 ≤ 420 ∧ 420 < 434 by decide).1 (show 2 ≤ 420 ∧ 420 < 434 by decide).2 f974 (Nat.le_of_ble_eq_true rfl) (s_X12_goesOn1 hS969 hX (rdP_le f (rdP_le f (rdP_le f (rdP_le f hp)))) f974 f973) ?_
              rintro _ h975 _ ⟨rfl, hS976, hK977, ⟨w980, f978, hw981⟩, rfl⟩
              have hF979 := KM_tr hF970 (KM_sb (by decide) hK977)
              have hl982 := (rdS_le f (rdP_le f (rdP_le f (rdP_le f (rdP_le f hp))))).2
              have f983 : h975 421 = .inl (0, 300, .inl g) := (hK977 421 (by decide)).trans f973
              have f984 : h975 424 = .inl (0, 72, .inl (upd (upd (upd E ((3 * i) + 0) w418) ((3 * i) + 1) w676) ((3 * i) + 2) w910)) := (hK977 424 (by decide)).trans f972
              refine r_aload_n rfl dX12_readsStep_117 rfl ?_
              refine r_aload_n rfl dX12_readsStep_118 rfl ?_
              refine r_getv 5 rfl dX12_readsStep_119 (show 2 ≤ 420 ∧ 420 < 434 by decide) f978 fl_X12_76 rfl ?_
              refine r_bipush (v := 6) rfl dX12_readsStep_122 (by decide) ?_
              refine r_icmp_ne (tgt := 131) rfl rfl dX12_readsStep_124 (fun c985 => ?_) (fun c985 => ?_)
              · have k986 : ¬ tK f n (rdP f n (rdP f n (rdP f n (rdP f n p)))) = 6 := fun z => c985 ((km6 _).mpr z)
                refine r_iconst (v := 0) rfl dX12_readsStep_131 (by decide) ?_
                refine cl_X12_99 rfl rfl dX12_readsStep_132 (show 2 ≤ 420 ∧ 420 < 434 by decide).1 (show 2 ≤ 420 ∧ 420 < 434 by decide).2 f978 (Nat.le_of_ble_eq_true rfl) (s_X12_wants0 hS976 f978) ?_
                rintro _ h987 _ ⟨rfl, hS988, hK989, f990, rfl⟩
                have hF991 := KM_tr hF979 (KM_sb (by decide) hK989)
                have f992 : h987 421 = .inl (0, 300, .inl g) := (hK989 421 (by decide)).trans f983
                have f993 : h987 424 = .inl (0, 72, .inl (upd (upd (upd E ((3 * i) + 0) w418) ((3 * i) + 1) w676) ((3 * i) + 2) w910)) := (hK989 424 (by decide)).trans f984
                refine r_aload_n rfl dX12_readsStep_135 rfl ?_
                refine cl_X12_103 rfl rfl dX12_readsStep_136 (show 2 ≤ 420 ∧ 420 < 434 by decide).1 (show 2 ≤ 420 ∧ 420 < 434 by decide).2 f990 (Nat.le_of_ble_eq_true rfl) (s_X12_goesOnF hS988 f990 (by omega)) ?_
                rintro _ h994 _ ⟨rfl, -, -, e995, rfl⟩
                replace e995 := e995.symm
                subst e995
                have wv997 := hw419 (Or.inr (Or.inr k538))
                have wv998 := hw677 (Or.inr (Or.inr k784))
                have e996 : (stS f n (nI (c + i)) p) = (false, (rdP f n (rdP f n (rdP f n (rdP f n p))))) := by unfold stS; rw [if_pos k405, if_pos ⟨by rw [← wv997]; exact Int32.not_le.mp c539, k538⟩, if_pos ⟨by rw [← wv998]; exact Int32.not_le.mp c785, k784⟩, if_pos k960, if_neg k986]
                exact r_ret dX12_readsStep_139 (rt_v rfl) (by rw [e996]; exact ⟨rfl, hS988, hF991, rfl, _, f993, fun j z => (by rw [pk_un (by omega), pk_un (by omega), pk_un (by omega)]), Or.inr ⟨rfl, _, _, _, _, f990⟩⟩)
              · have k999 : tK f n (rdP f n (rdP f n (rdP f n (rdP f n p)))) = 6 := (km6 _).mp c985
                refine r_iconst (v := 1) rfl dX12_readsStep_127 (by decide) ?_
                refine r_goto (pc' := 132) rfl dX12_readsStep_128 ?_
                refine cl_X12_99 rfl rfl dX12_readsStep_132 (show 2 ≤ 420 ∧ 420 < 434 by decide).1 (show 2 ≤ 420 ∧ 420 < 434 by decide).2 f978 (Nat.le_of_ble_eq_true rfl) (s_X12_wants1 hS976 f978) ?_
                rintro _ h1000 _ ⟨rfl, hS1001, hK1002, f1003, rfl⟩
                have hF1004 := KM_tr hF979 (KM_sb (by decide) hK1002)
                have f1005 : h1000 421 = .inl (0, 300, .inl g) := (hK1002 421 (by decide)).trans f983
                have f1006 : h1000 424 = .inl (0, 72, .inl (upd (upd (upd E ((3 * i) + 0) w418) ((3 * i) + 1) w676) ((3 * i) + 2) w910)) := (hK1002 424 (by decide)).trans f984
                refine r_aload_n rfl dX12_readsStep_135 rfl ?_
                refine cl_X12_103 rfl rfl dX12_readsStep_136 (show 2 ≤ 420 ∧ 420 < 434 by decide).1 (show 2 ≤ 420 ∧ 420 < 434 by decide).2 f1003 (Nat.le_of_ble_eq_true rfl) (s_X12_goesOn1 hS1001 hX (rdP_le f (rdP_le f (rdP_le f (rdP_le f (rdP_le f hp))))) f1003 f1005) ?_
                rintro _ h1007 _ ⟨rfl, hS1008, hK1009, ⟨w1012, f1010, hw1013⟩, rfl⟩
                have hF1011 := KM_tr hF1004 (KM_sb (by decide) hK1009)
                have hl1014 := (rdS_le f (rdP_le f (rdP_le f (rdP_le f (rdP_le f (rdP_le f hp)))))).2
                have f1015 : h1007 421 = .inl (0, 300, .inl g) := (hK1009 421 (by decide)).trans f1005
                have f1016 : h1007 424 = .inl (0, 72, .inl (upd (upd (upd E ((3 * i) + 0) w418) ((3 * i) + 1) w676) ((3 * i) + 2) w910)) := (hK1009 424 (by decide)).trans f1006
                have wv1018 := hw419 (Or.inr (Or.inr k538))
                have wv1019 := hw677 (Or.inr (Or.inr k784))
                have e1017 : (stS f n (nI (c + i)) p) = (true, (rdP f n (rdP f n (rdP f n (rdP f n (rdP f n p)))))) := by unfold stS; rw [if_pos k405, if_pos ⟨by rw [← wv1018]; exact Int32.not_le.mp c539, k538⟩, if_pos ⟨by rw [← wv1019]; exact Int32.not_le.mp c785, k784⟩, if_pos k960, if_pos k999]
                have wv1020 := hw911 (Or.inr (Or.inl k960))
                exact r_ret dX12_readsStep_139 (rt_v rfl) (by rw [e1017]; exact ⟨rfl, hS1008, hF1011, rfl, _, f1016, fun j z => (by rw [pk_un (by omega), pk_un (by omega), pk_un (by omega)]), Or.inl ⟨rfl, (by rw [pk_un (by omega), pk_un (by omega)]; exact pk_us.trans wv1018), (by rw [pk_un (by omega)]; exact pk_us.trans wv1019), (pk_us.trans wv1020), _, f1010, hw1013⟩⟩)
/-- the reference's steps and the class's rows, i STEPS of them, are the same -/
def ER (i : Nat) (D A B C : Nat → Int32) : Prop := ∀ j, j < i → D (3 * j) = A j ∧ D (3 * j + 1) = B j ∧ D (3 * j + 2) = C j
theorem ER_s {i : Nat} {D D' A B C : Nat → Int32} {a b c : Int32} (h : ER i D A B C) (hj : ∀ j, j < 3 * i → D' j = D j) (h1 : D' (3 * i) = a) (h2 : D' (3 * i + 1) = b) (h3 : D' (3 * i + 2) = c) : ER (i + 1) D' (upd A i a) (upd B i b) (upd C i c) := by
  intro j hji
  by_cases e : j = i
  · subst e
    exact ⟨h1.trans pk_us.symm, h2.trans pk_us.symm, h3.trans pk_us.symm⟩
  · obtain ⟨e1, e2, e3⟩ := h j (by omega)
    exact ⟨(hj _ (by omega)).trans (e1.trans (pk_un e).symm), (hj _ (by omega)).trans (e2.trans (pk_un e).symm), (hj _ (by omega)).trans (e3.trans (pk_un e).symm)⟩
set_option maxRecDepth 20000 in
set_option maxHeartbeats 1000000 in
theorem s_X12_proof_z {xs : Nat → Int32} {L d : Nat} {h : ev_H} {h0 : ev_H} {Q : ev_Q} {f g : Nat → Int32} {n p i : Nat} {th : Int32} {tr : Int64} {w md ss wg : Int32} {D A B C : Nat → Int32} {RES : RS5} {c : Nat} (hS : SH h) (hX : TXR f g n) (hp : p ≤ n) (hF : KM [420, 424] h0 h) (h5 : h 420 = c420 th tr (nI n) (nI (rdP f n p)) (kmap (tK f n p)) (nI (rdS f n p)) w (-1) (nI c) md ss wg) (hw : tK f n p = 1 ∨ tK f n p = 3 ∨ tK f n p = 4 → w = tV f n p) (h6 : h 421 = c421 g) (h7 : h 424 = cI 72 D) (hD : ER i D A B C) (hi : i = 24) (hres : stL f n c 0 p i A B C = RES) (hK1 : ∀ (h' : ev_H) (D' : Nat → Int32) (nx tk pl va : Int32), SH h' → KM [420, 424] h0 h' → h' 420 = c420 th tr (nI n) nx tk pl va (-1) (nI c) md ss wg → h' 424 = cI 72 D' → RES.1 = -1 → ER RES.2.1 D' RES.2.2.1 RES.2.2.2.1 RES.2.2.2.2 → RES.2.1 ≤ 24 → EV xs L (d + 5) 0 0 M_X12_proof 434 h' 58 [some (.ref 420), some (.int (nI RES.2.1)), none] [] Q) (hK0 : ∀ (h' : ev_H) (x nx tk pl va : Int32) (q : Nat), SH h' → KM [420, 424] h0 h' → h' 420 = c420 th tr (nI n) nx tk pl va (nI q) (nI c) md ss wg → q ≤ 300 → RES.1 = nI q → EV xs L (d + 5) 0 0 M_X12_proof 434 h' 58 [some (.ref 420), some (.int x), none] [] Q) : EV xs L (d + 5) 0 0 M_X12_proof 434 h 11 [some (.ref 420), some (.int (nI i)), none] [] Q := by
  have hl0 := (rdS_le f hp).2
  have hn := hX.1
  refine r_aload_n rfl dX12_proof_11 rfl ?_
  refine cl_X12_92 rfl rfl dX12_proof_12 (show 2 ≤ 420 ∧ 420 < 434 by decide).1 (show 2 ≤ 420 ∧ 420 < 434 by decide).2 h5 (Nat.le_of_ble_eq_true rfl) (s_X12_isWell1 hS h5) ?_
  rintro _ h51 _ ⟨rfl, e52, rfl⟩
  replace e52 := e52.symm
  subst e52
  refine r_if_eq (tgt := 58) rfl rfl dX12_proof_15 (fun zc => absurd zc (by decide)) (fun _ => ?_)
  refine r_aload_n rfl dX12_proof_18 rfl ?_
  refine r_getv 5 rfl dX12_proof_19 (show 2 ≤ 420 ∧ 420 < 434 by decide) h5 fl_X12_76 rfl ?_
  refine r_if_eq (tgt := 58) rfl rfl dX12_proof_22 (fun c53 => ?_) (fun c53 => ?_)
  · have k54 : tK f n p = 0 := (km0 _).mp c53
    have e55 : RES = (-1, i, A, B, C) := by rw [← hres, stL, if_pos k54]
    subst e55
    exact hK1 h _ _ _ _ _ hS hF h5 h7 rfl hD (by show i ≤ 24; omega)
  · have k56 : ¬ tK f n p = 0 := fun z => c53 ((km0 _).mpr z)
    refine r_aload_n rfl dX12_proof_25 rfl ?_
    refine r_iload_n rfl dX12_proof_26 rfl ?_
    refine r_bipush (v := 24) rfl dX12_proof_27 (by decide) ?_
    refine r_icmp_ge (tgt := 36) rfl rfl dX12_proof_29 (fun _ => ?_) (fun zc => absurd (show (24 : Int32) ≤ nI i from nI_le (a := 24) (b := i) (by omega) (by omega)) zc)
    refine r_iconst (v := 0) rfl dX12_proof_36 (by decide) ?_
    refine cl_X12_99 rfl rfl dX12_proof_37 (show 2 ≤ 420 ∧ 420 < 434 by decide).1 (show 2 ≤ 420 ∧ 420 < 434 by decide).2 h5 (Nat.le_of_ble_eq_true rfl) (s_X12_wants0 hS h5) ?_
    rintro _ h57 _ ⟨rfl, hS58, hK59, f60, rfl⟩
    have hF61 := KM_tr hF (KM_sb (by decide) hK59)
    have f62 : h57 421 = .inl (0, 300, .inl g) := (hK59 421 (by decide)).trans h6
    have f63 : h57 424 = .inl (0, 72, .inl D) := (hK59 424 (by decide)).trans h7
    refine r_aload_n rfl dX12_proof_40 rfl ?_
    refine cl_X12_92 rfl rfl dX12_proof_41 (show 2 ≤ 420 ∧ 420 < 434 by decide).1 (show 2 ≤ 420 ∧ 420 < 434 by decide).2 f60 (Nat.le_of_ble_eq_true rfl) (s_X12_isWell0 hS58 f60 (by omega)) ?_
    rintro _ h64 _ ⟨rfl, e65, rfl⟩
    replace e65 := e65.symm
    subst e65
    refine r_if_eq (tgt := 11) rfl rfl dX12_proof_44 (fun _ => ?_) (fun zc => absurd zc (by decide))
    refine r_aload_n rfl dX12_proof_11 rfl ?_
    refine cl_X12_92 rfl rfl dX12_proof_12 (show 2 ≤ 420 ∧ 420 < 434 by decide).1 (show 2 ≤ 420 ∧ 420 < 434 by decide).2 f60 (Nat.le_of_ble_eq_true rfl) (s_X12_isWell0 hS58 f60 (by omega)) ?_
    rintro _ h66 _ ⟨rfl, e67, rfl⟩
    replace e67 := e67.symm
    subst e67
    refine r_if_eq (tgt := 58) rfl rfl dX12_proof_15 (fun _ => ?_) (fun zc => absurd zc (by decide))
    have e68 : RES.1 = nI (rdS f n p) := by rw [← hres, stL, if_neg k56]
    exact hK0 h57 _ _ _ _ _ _ hS58 hF61 f60 (by omega) e68
set_option maxRecDepth 20000 in
set_option maxHeartbeats 1000000 in
theorem s_X12_proof_s {xs : Nat → Int32} {L d : Nat} {h : ev_H} {h0 : ev_H} {Q : ev_Q} {f g : Nat → Int32} {n p i : Nat} {th : Int32} {tr : Int64} {w md ss wg : Int32} {D A B C : Nat → Int32} {RES : RS5} {c : Nat} {r : Nat} (hS : SH h) (hX : TXR f g n) (hp : p ≤ n) (hF : KM [420, 424] h0 h) (h5 : h 420 = c420 th tr (nI n) (nI (rdP f n p)) (kmap (tK f n p)) (nI (rdS f n p)) w (-1) (nI c) md ss wg) (hw : tK f n p = 1 ∨ tK f n p = 3 ∨ tK f n p = 4 → w = tV f n p) (h6 : h 421 = c421 g) (h7 : h 424 = cI 72 D) (hD : ER i D A B C) (hi : i + (r + 1) = 24) (hres : stL f n c (r + 1) p i A B C = RES) (hK1 : ∀ (h' : ev_H) (D' : Nat → Int32) (nx tk pl va : Int32), SH h' → KM [420, 424] h0 h' → h' 420 = c420 th tr (nI n) nx tk pl va (-1) (nI c) md ss wg → h' 424 = cI 72 D' → RES.1 = -1 → ER RES.2.1 D' RES.2.2.1 RES.2.2.2.1 RES.2.2.2.2 → RES.2.1 ≤ 24 → EV xs L (d + 5) 0 0 M_X12_proof 434 h' 58 [some (.ref 420), some (.int (nI RES.2.1)), none] [] Q) (hK0 : ∀ (h' : ev_H) (x nx tk pl va : Int32) (q : Nat), SH h' → KM [420, 424] h0 h' → h' 420 = c420 th tr (nI n) nx tk pl va (nI q) (nI c) md ss wg → q ≤ 300 → RES.1 = nI q → EV xs L (d + 5) 0 0 M_X12_proof 434 h' 58 [some (.ref 420), some (.int x), none] [] Q) (ih : ∀ (p' : Nat) (A' B' C' : Nat → Int32) (w' : Int32) (D' : Nat → Int32) (h' : ev_H), p' ≤ n → SH h' → KM [420, 424] h0 h' → h' 420 = c420 th tr (nI n) (nI (rdP f n p')) (kmap (tK f n p')) (nI (rdS f n p')) w' (-1) (nI c) md ss wg → (tK f n p' = 1 ∨ tK f n p' = 3 ∨ tK f n p' = 4 → w' = tV f n p') → h' 421 = c421 g → h' 424 = cI 72 D' → ER (i + 1) D' A' B' C' → stL f n c r p' (i + 1) A' B' C' = RES → EV xs L (d + 5) 0 0 M_X12_proof 434 h' 11 [some (.ref 420), some (.int (nI (i + 1))), none] [] Q) : EV xs L (d + 5) 0 0 M_X12_proof 434 h 11 [some (.ref 420), some (.int (nI i)), none] [] Q := by
  have hl0 := (rdS_le f hp).2
  have hn := hX.1
  refine r_aload_n rfl dX12_proof_11 rfl ?_
  refine cl_X12_92 rfl rfl dX12_proof_12 (show 2 ≤ 420 ∧ 420 < 434 by decide).1 (show 2 ≤ 420 ∧ 420 < 434 by decide).2 h5 (Nat.le_of_ble_eq_true rfl) (s_X12_isWell1 hS h5) ?_
  rintro _ h51 _ ⟨rfl, e52, rfl⟩
  replace e52 := e52.symm
  subst e52
  refine r_if_eq (tgt := 58) rfl rfl dX12_proof_15 (fun zc => absurd zc (by decide)) (fun _ => ?_)
  refine r_aload_n rfl dX12_proof_18 rfl ?_
  refine r_getv 5 rfl dX12_proof_19 (show 2 ≤ 420 ∧ 420 < 434 by decide) h5 fl_X12_76 rfl ?_
  refine r_if_eq (tgt := 58) rfl rfl dX12_proof_22 (fun c53 => ?_) (fun c53 => ?_)
  · have k54 : tK f n p = 0 := (km0 _).mp c53
    have e55 : RES = (-1, i, A, B, C) := by rw [← hres, stL, if_pos k54]
    subst e55
    exact hK1 h _ _ _ _ _ hS hF h5 h7 rfl hD (by show i ≤ 24; omega)
  · have k56 : ¬ tK f n p = 0 := fun z => c53 ((km0 _).mpr z)
    refine r_aload_n rfl dX12_proof_25 rfl ?_
    refine r_iload_n rfl dX12_proof_26 rfl ?_
    refine r_bipush (v := 24) rfl dX12_proof_27 (by decide) ?_
    refine r_icmp_ge (tgt := 36) rfl rfl dX12_proof_29 (fun zc => absurd zc (show ¬ (24 : Int32) ≤ nI i from nI_ge (a := i) (b := 24) (by omega) (by decide))) (fun _ => ?_)
    refine r_iconst (v := 1) rfl dX12_proof_32 (by decide) ?_
    refine r_goto (pc' := 37) rfl dX12_proof_33 ?_
    refine cl_X12_99 rfl rfl dX12_proof_37 (show 2 ≤ 420 ∧ 420 < 434 by decide).1 (show 2 ≤ 420 ∧ 420 < 434 by decide).2 h5 (Nat.le_of_ble_eq_true rfl) (s_X12_wants1 hS h5) ?_
    rintro _ h57 _ ⟨rfl, hS58, hK59, f60, rfl⟩
    have hF61 := KM_tr hF (KM_sb (by decide) hK59)
    have f62 : h57 421 = .inl (0, 300, .inl g) := (hK59 421 (by decide)).trans h6
    have f63 : h57 424 = .inl (0, 72, .inl D) := (hK59 424 (by decide)).trans h7
    refine r_aload_n rfl dX12_proof_40 rfl ?_
    refine cl_X12_92 rfl rfl dX12_proof_41 (show 2 ≤ 420 ∧ 420 < 434 by decide).1 (show 2 ≤ 420 ∧ 420 < 434 by decide).2 f60 (Nat.le_of_ble_eq_true rfl) (s_X12_isWell1 hS58 f60) ?_
    rintro _ h64 _ ⟨rfl, e65, rfl⟩
    replace e65 := e65.symm
    subst e65
    refine r_if_eq (tgt := 11) rfl rfl dX12_proof_44 (fun zc => absurd zc (by decide)) (fun _ => ?_)
    refine r_aload_n rfl dX12_proof_47 rfl ?_
    refine r_iload_n rfl dX12_proof_48 rfl ?_
    refine cl_X12_147 rfl rfl dX12_proof_49 (show 2 ≤ 420 ∧ 420 < 434 by decide).1 (show 2 ≤ 420 ∧ 420 < 434 by decide).2 f60 (Nat.le_of_ble_eq_true rfl) (s_X12_readsStep hS58 hX hp f60 hw f62 f63 (i := i) (by omega)) ?_
    rintro _ h66 _ ⟨rfl, hS67, hK68, rfl, D70, f71, hj72, ⟨c73, g74, g75, g76, w77, f79, hw78⟩ | ⟨c73, n80, n81, n82, n83, f79⟩⟩
    · have hF69 := KM_tr hF61 (KM_sb (by decide) hK68)
      have f84 : h66 421 = .inl (0, 300, .inl g) := (hK68 421 (by decide)).trans f62
      refine r_iinc (y := nI (i + 1)) (ls' := [some (.ref 420), some (.int (nI (i + 1))), none]) rfl dX12_proof_52 rfl (nI_1 i) (Nat.le_of_ble_eq_true rfl) rfl ?_
      refine r_goto (pc' := 11) rfl dX12_proof_55 ?_
      exact ih _ _ _ _ _ _ h66 (stS_le f (nI (c + i)) hp) hS67 hF69 f79 hw78 f84 f71 (ER_s hD hj72 g74 g75 g76) (by rw [← hres, stL, if_neg k56, if_pos c73])
    · have hF69 := KM_tr hF61 (KM_sb (by decide) hK68)
      have hl85 := (rdS_le f (stS_le f (nI (c + i)) hp)).2
      have f86 : h66 421 = .inl (0, 300, .inl g) := (hK68 421 (by decide)).trans f62
      refine r_iinc (y := nI (i + 1)) (ls' := [some (.ref 420), some (.int (nI (i + 1))), none]) rfl dX12_proof_52 rfl (nI_1 i) (Nat.le_of_ble_eq_true rfl) rfl ?_
      refine r_goto (pc' := 11) rfl dX12_proof_55 ?_
      refine r_aload_n rfl dX12_proof_11 rfl ?_
      refine cl_X12_92 rfl rfl dX12_proof_12 (show 2 ≤ 420 ∧ 420 < 434 by decide).1 (show 2 ≤ 420 ∧ 420 < 434 by decide).2 f79 (Nat.le_of_ble_eq_true rfl) (s_X12_isWell0 hS67 f79 (by omega)) ?_
      rintro _ h87 _ ⟨rfl, e88, rfl⟩
      replace e88 := e88.symm
      subst e88
      refine r_if_eq (tgt := 58) rfl rfl dX12_proof_15 (fun _ => ?_) (fun zc => absurd zc (by decide))
      have e89 : RES.1 = nI (rdS f n (stS f n (nI (c + i)) p).2) := by rw [← hres, stL, if_neg k56, if_neg (by rw [c73]; decide)]
      exact hK0 h66 _ _ _ _ _ _ hS67 hF69 f79 (by omega) e89
theorem s_X12_proof_loop {xs : Nat → Int32} {L d : Nat} {h0 : ev_H} {Q : ev_Q} {f g : Nat → Int32} {n : Nat} {th : Int32} {tr : Int64} {md ss wg : Int32} {RES : RS5} {c : Nat} (hX : TXR f g n)  (hK1 : ∀ (h' : ev_H) (D' : Nat → Int32) (nx tk pl va : Int32), SH h' → KM [420, 424] h0 h' → h' 420 = c420 th tr (nI n) nx tk pl va (-1) (nI c) md ss wg → h' 424 = cI 72 D' → RES.1 = -1 → ER RES.2.1 D' RES.2.2.1 RES.2.2.2.1 RES.2.2.2.2 → RES.2.1 ≤ 24 → EV xs L (d + 5) 0 0 M_X12_proof 434 h' 58 [some (.ref 420), some (.int (nI RES.2.1)), none] [] Q) (hK0 : ∀ (h' : ev_H) (x nx tk pl va : Int32) (q : Nat), SH h' → KM [420, 424] h0 h' → h' 420 = c420 th tr (nI n) nx tk pl va (nI q) (nI c) md ss wg → q ≤ 300 → RES.1 = nI q → EV xs L (d + 5) 0 0 M_X12_proof 434 h' 58 [some (.ref 420), some (.int x), none] [] Q) : ∀ (r i p : Nat) (A B C : Nat → Int32) (w : Int32) (D : Nat → Int32) (h : ev_H), i + r = 24 → p ≤ n → SH h → KM [420, 424] h0 h → h 420 = c420 th tr (nI n) (nI (rdP f n p)) (kmap (tK f n p)) (nI (rdS f n p)) w (-1) (nI c) md ss wg → (tK f n p = 1 ∨ tK f n p = 3 ∨ tK f n p = 4 → w = tV f n p) → h 421 = c421 g → h 424 = cI 72 D → ER i D A B C → stL f n c r p i A B C = RES → EV xs L (d + 5) 0 0 M_X12_proof 434 h 11 [some (.ref 420), some (.int (nI i)), none] [] Q := by
  intro r
  induction r with
  | zero =>
    intro i p A B C w D h hi hp hS hF h5 hw h6 h7 hD hres
    obtain rfl : i = 24 := by omega
    exact s_X12_proof_z hS hX hp hF h5 hw h6 h7 hD rfl hres hK1 hK0
  | succ r ih =>
    intro i p A B C w D h hi hp hS hF h5 hw h6 h7 hD hres
    exact s_X12_proof_s hS hX hp hF h5 hw h6 h7 hD hi hres  hK1 hK0 (fun p' A' B' C' w' D' h' q1 q2 q3 q4 q5 q6 q7 q8 q9 => ih (i + 1) p' A' B' C' w' D' h' (by omega) q1 q2 q3 q4 q5 q6 q7 q8 q9)
