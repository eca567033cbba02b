theorem dX0_keep_0 : decode cX0_keep 0 = .ok (.iload_n 1, 1) := by decide +kernel
theorem dX0_keep_1 : decode cX0_keep 1 = .ok (.aload_n 0, 1) := by decide +kernel
theorem dX0_keep_2 : decode cX0_keep 2 = .ok (.getfield 44, 3) := by decide +kernel
theorem dX0_keep_5 : decode cX0_keep 5 = .ok (.if_icmp .lt 19, 3) := by decide +kernel
theorem dX0_keep_8 : decode cX0_keep 8 = .ok (.iload_n 1, 1) := by decide +kernel
theorem dX0_keep_9 : decode cX0_keep 9 = .ok (.aload_n 0, 1) := by decide +kernel
theorem dX0_keep_10 : decode cX0_keep 10 = .ok (.getfield 44, 3) := by decide +kernel
theorem dX0_keep_13 : decode cX0_keep 13 = .ok (.if_icmp .ne 21, 3) := by decide +kernel
theorem dX0_keep_16 : decode cX0_keep 16 = .ok (.iload_n 2, 1) := by decide +kernel
theorem dX0_keep_17 : decode cX0_keep 17 = .ok (.aload_n 0, 1) := by decide +kernel
theorem dX0_keep_18 : decode cX0_keep 18 = .ok (.getfield 41, 3) := by decide +kernel
theorem dX0_keep_21 : decode cX0_keep 21 = .ok (.if_icmp .ge 13, 3) := by decide +kernel
theorem dX0_keep_24 : decode cX0_keep 24 = .ok (.aload_n 0, 1) := by decide +kernel
theorem dX0_keep_25 : decode cX0_keep 25 = .ok (.iload_n 2, 1) := by decide +kernel
theorem dX0_keep_26 : decode cX0_keep 26 = .ok (.putfield 41, 3) := by decide +kernel
theorem dX0_keep_29 : decode cX0_keep 29 = .ok (.aload_n 0, 1) := by decide +kernel
theorem dX0_keep_30 : decode cX0_keep 30 = .ok (.iload_n 1, 1) := by decide +kernel
theorem dX0_keep_31 : decode cX0_keep 31 = .ok (.putfield 44, 3) := by decide +kernel
theorem dX0_keep_34 : decode cX0_keep 34 = .ok (.return_, 1) := by decide +kernel
theorem dX0_allClash_0 : decode cX0_allClash 0 = .ok (.aload_n 0, 1) := by decide +kernel
theorem dX0_allClash_1 : decode cX0_allClash 1 = .ok (.getfield 17, 3) := by decide +kernel
theorem dX0_allClash_4 : decode cX0_allClash 4 = .ok (.iconst 0, 1) := by decide +kernel
theorem dX0_allClash_5 : decode cX0_allClash 5 = .ok (.aaload, 1) := by decide +kernel
theorem dX0_allClash_6 : decode cX0_allClash 6 = .ok (.invokevirtual 51, 3) := by decide +kernel
theorem dX0_allClash_9 : decode cX0_allClash 9 = .ok (.iconst 0, 1) := by decide +kernel
theorem dX0_allClash_10 : decode cX0_allClash 10 = .ok (.istore_n 1, 1) := by decide +kernel
theorem dX0_allClash_11 : decode cX0_allClash 11 = .ok (.iload_n 1, 1) := by decide +kernel
theorem dX0_allClash_12 : decode cX0_allClash 12 = .ok (.aload_n 0, 1) := by decide +kernel
theorem dX0_allClash_13 : decode cX0_allClash 13 = .ok (.getfield 27, 3) := by decide +kernel
theorem dX0_allClash_16 : decode cX0_allClash 16 = .ok (.if_icmp .ge 24, 3) := by decide +kernel
theorem dX0_allClash_19 : decode cX0_allClash 19 = .ok (.aload_n 0, 1) := by decide +kernel
theorem dX0_allClash_20 : decode cX0_allClash 20 = .ok (.getfield 17, 3) := by decide +kernel
theorem dX0_allClash_23 : decode cX0_allClash 23 = .ok (.iconst 0, 1) := by decide +kernel
theorem dX0_allClash_24 : decode cX0_allClash 24 = .ok (.aaload, 1) := by decide +kernel
theorem dX0_allClash_25 : decode cX0_allClash 25 = .ok (.aload_n 0, 1) := by decide +kernel
theorem dX0_allClash_26 : decode cX0_allClash 26 = .ok (.getfield 11, 3) := by decide +kernel
theorem dX0_allClash_29 : decode cX0_allClash 29 = .ok (.iload_n 1, 1) := by decide +kernel
theorem dX0_allClash_30 : decode cX0_allClash 30 = .ok (.aaload, 1) := by decide +kernel
theorem dX0_allClash_31 : decode cX0_allClash 31 = .ok (.invokevirtual 58, 3) := by decide +kernel
theorem dX0_allClash_34 : decode cX0_allClash 34 = .ok (.iinc 1 1, 3) := by decide +kernel
theorem dX0_allClash_37 : decode cX0_allClash 37 = .ok (.goto (-26), 3) := by decide +kernel
theorem dX0_allClash_40 : decode cX0_allClash 40 = .ok (.aload_n 0, 1) := by decide +kernel
theorem dX0_allClash_41 : decode cX0_allClash 41 = .ok (.getfield 17, 3) := by decide +kernel
theorem dX0_allClash_44 : decode cX0_allClash 44 = .ok (.iconst 0, 1) := by decide +kernel
theorem dX0_allClash_45 : decode cX0_allClash 45 = .ok (.aaload, 1) := by decide +kernel
theorem dX0_allClash_46 : decode cX0_allClash 46 = .ok (.invokevirtual 62, 3) := by decide +kernel
theorem dX0_allClash_49 : decode cX0_allClash 49 = .ok (.ifCond .ge 7, 3) := by decide +kernel
theorem dX0_allClash_52 : decode cX0_allClash 52 = .ok (.iconst 1, 1) := by decide +kernel
theorem dX0_allClash_53 : decode cX0_allClash 53 = .ok (.goto 4, 3) := by decide +kernel
theorem dX0_allClash_56 : decode cX0_allClash 56 = .ok (.iconst 0, 1) := by decide +kernel
theorem dX0_allClash_57 : decode cX0_allClash 57 = .ok (.ireturn, 1) := by decide +kernel
theorem dX0_learn_0 : decode cX0_learn 0 = .ok (.aload_n 0, 1) := by decide +kernel
theorem dX0_learn_1 : decode cX0_learn 1 = .ok (.iload_n 2, 1) := by decide +kernel
theorem dX0_learn_2 : decode cX0_learn 2 = .ok (.bipush 16, 2) := by decide +kernel
theorem dX0_learn_4 : decode cX0_learn 4 = .ok (.invokestatic 21, 3) := by decide +kernel
theorem dX0_learn_7 : decode cX0_learn 7 = .ok (.putfield 27, 3) := by decide +kernel
theorem dX0_learn_10 : decode cX0_learn 10 = .ok (.iconst 0, 1) := by decide +kernel
theorem dX0_learn_11 : decode cX0_learn 11 = .ok (.istore_n 3, 1) := by decide +kernel
theorem dX0_learn_12 : decode cX0_learn 12 = .ok (.iload_n 3, 1) := by decide +kernel
theorem dX0_learn_13 : decode cX0_learn 13 = .ok (.aload_n 0, 1) := by decide +kernel
theorem dX0_learn_14 : decode cX0_learn 14 = .ok (.getfield 27, 3) := by decide +kernel
theorem dX0_learn_17 : decode cX0_learn 17 = .ok (.if_icmp .ge 30, 3) := by decide +kernel
theorem dX0_learn_20 : decode cX0_learn 20 = .ok (.iload_n 3, 1) := by decide +kernel
theorem dX0_learn_21 : decode cX0_learn 21 = .ok (.aload_n 1, 1) := by decide +kernel
theorem dX0_learn_22 : decode cX0_learn 22 = .ok (.arraylength, 1) := by decide +kernel
theorem dX0_learn_23 : decode cX0_learn 23 = .ok (.if_icmp .ge 24, 3) := by decide +kernel
theorem dX0_learn_26 : decode cX0_learn 26 = .ok (.aload_n 1, 1) := by decide +kernel
theorem dX0_learn_27 : decode cX0_learn 27 = .ok (.iload_n 3, 1) := by decide +kernel
theorem dX0_learn_28 : decode cX0_learn 28 = .ok (.aaload, 1) := by decide +kernel
theorem dX0_learn_29 : decode cX0_learn 29 = .ok (.aload_n 0, 1) := by decide +kernel
theorem dX0_learn_30 : decode cX0_learn 30 = .ok (.getfield 11, 3) := by decide +kernel
theorem dX0_learn_33 : decode cX0_learn 33 = .ok (.iload_n 3, 1) := by decide +kernel
theorem dX0_learn_34 : decode cX0_learn 34 = .ok (.aaload, 1) := by decide +kernel
theorem dX0_learn_35 : decode cX0_learn 35 = .ok (.sipush 255, 3) := by decide +kernel
theorem dX0_learn_38 : decode cX0_learn 38 = .ok (.invokevirtual 31, 3) := by decide +kernel
theorem dX0_learn_41 : decode cX0_learn 41 = .ok (.iinc 3 1, 3) := by decide +kernel
theorem dX0_learn_44 : decode cX0_learn 44 = .ok (.goto (-32), 3) := by decide +kernel
theorem dX0_learn_47 : decode cX0_learn 47 = .ok (.aload_n 0, 1) := by decide +kernel
theorem dX0_learn_48 : decode cX0_learn 48 = .ok (.iconst 0, 1) := by decide +kernel
theorem dX0_learn_49 : decode cX0_learn 49 = .ok (.putfield 37, 3) := by decide +kernel
theorem dX0_learn_52 : decode cX0_learn 52 = .ok (.return_, 1) := by decide +kernel
theorem dX0_choose_0 : decode cX0_choose 0 = .ok (.iload_n 1, 1) := by decide +kernel
theorem dX0_choose_1 : decode cX0_choose 1 = .ok (.ifCond .lt 19, 3) := by decide +kernel
theorem dX0_choose_4 : decode cX0_choose 4 = .ok (.iload_n 1, 1) := by decide +kernel
theorem dX0_choose_5 : decode cX0_choose 5 = .ok (.aload_n 0, 1) := by decide +kernel
theorem dX0_choose_6 : decode cX0_choose 6 = .ok (.getfield 27, 3) := by decide +kernel
theorem dX0_choose_9 : decode cX0_choose 9 = .ok (.if_icmp .gt 11, 3) := by decide +kernel
theorem dX0_choose_12 : decode cX0_choose 12 = .ok (.iload_n 1, 1) := by decide +kernel
theorem dX0_choose_13 : decode cX0_choose 13 = .ok (.aload_n 0, 1) := by decide +kernel
theorem dX0_choose_14 : decode cX0_choose 14 = .ok (.getfield 44, 3) := by decide +kernel
theorem dX0_choose_17 : decode cX0_choose 17 = .ok (.if_icmp .le 4, 3) := by decide +kernel
theorem dX0_choose_20 : decode cX0_choose 20 = .ok (.return_, 1) := by decide +kernel
theorem dX0_choose_21 : decode cX0_choose 21 = .ok (.aload_n 0, 1) := by decide +kernel
theorem dX0_choose_22 : decode cX0_choose 22 = .ok (.getfield 17, 3) := by decide +kernel
theorem dX0_choose_25 : decode cX0_choose 25 = .ok (.iload_n 1, 1) := by decide +kernel
theorem dX0_choose_26 : decode cX0_choose 26 = .ok (.aaload, 1) := by decide +kernel
theorem dX0_choose_27 : decode cX0_choose 27 = .ok (.invokevirtual 62, 3) := by decide +kernel
theorem dX0_choose_30 : decode cX0_choose 30 = .ok (.istore 4, 2) := by decide +kernel
theorem dX0_choose_32 : decode cX0_choose 32 = .ok (.iload 4, 2) := by decide +kernel
theorem dX0_choose_34 : decode cX0_choose 34 = .ok (.ifCond .ge 10, 3) := by decide +kernel
theorem dX0_choose_37 : decode cX0_choose 37 = .ok (.aload_n 0, 1) := by decide +kernel
theorem dX0_choose_38 : decode cX0_choose 38 = .ok (.iload_n 1, 1) := by decide +kernel
theorem dX0_choose_39 : decode cX0_choose 39 = .ok (.iload_n 2, 1) := by decide +kernel
theorem dX0_choose_40 : decode cX0_choose 40 = .ok (.invokevirtual 66, 3) := by decide +kernel
theorem dX0_choose_43 : decode cX0_choose 43 = .ok (.return_, 1) := by decide +kernel
theorem dX0_choose_44 : decode cX0_choose 44 = .ok (.iload_n 3, 1) := by decide +kernel
theorem dX0_choose_45 : decode cX0_choose 45 = .ok (.istore 5, 2) := by decide +kernel
theorem dX0_choose_47 : decode cX0_choose 47 = .ok (.iconst 0, 1) := by decide +kernel
theorem dX0_choose_48 : decode cX0_choose 48 = .ok (.istore 6, 2) := by decide +kernel
theorem dX0_choose_50 : decode cX0_choose 50 = .ok (.iload 6, 2) := by decide +kernel
theorem dX0_choose_52 : decode cX0_choose 52 = .ok (.aload_n 0, 1) := by decide +kernel
theorem dX0_choose_53 : decode cX0_choose 53 = .ok (.getfield 27, 3) := by decide +kernel
theorem dX0_choose_56 : decode cX0_choose 56 = .ok (.if_icmp .ge 99, 3) := by decide +kernel
theorem dX0_choose_59 : decode cX0_choose 59 = .ok (.iload_n 1, 1) := by decide +kernel
theorem dX0_choose_60 : decode cX0_choose 60 = .ok (.bipush 16, 2) := by decide +kernel
theorem dX0_choose_62 : decode cX0_choose 62 = .ok (.if_icmp .ge 93, 3) := by decide +kernel
theorem dX0_choose_65 : decode cX0_choose 65 = .ok (.iconst 1, 1) := by decide +kernel
theorem dX0_choose_66 : decode cX0_choose 66 = .ok (.iload 6, 2) := by decide +kernel
theorem dX0_choose_68 : decode cX0_choose 68 = .ok (.ishl, 1) := by decide +kernel
theorem dX0_choose_69 : decode cX0_choose 69 = .ok (.istore 7, 2) := by decide +kernel
theorem dX0_choose_71 : decode cX0_choose 71 = .ok (.iload 5, 2) := by decide +kernel
theorem dX0_choose_73 : decode cX0_choose 73 = .ok (.iload 7, 2) := by decide +kernel
theorem dX0_choose_75 : decode cX0_choose 75 = .ok (.iand, 1) := by decide +kernel
theorem dX0_choose_76 : decode cX0_choose 76 = .ok (.ifCond .ne 73, 3) := by decide +kernel
theorem dX0_choose_79 : decode cX0_choose 79 = .ok (.aload_n 0, 1) := by decide +kernel
theorem dX0_choose_80 : decode cX0_choose 80 = .ok (.getfield 11, 3) := by decide +kernel
theorem dX0_choose_83 : decode cX0_choose 83 = .ok (.iload 6, 2) := by decide +kernel
theorem dX0_choose_85 : decode cX0_choose 85 = .ok (.aaload, 1) := by decide +kernel
theorem dX0_choose_86 : decode cX0_choose 86 = .ok (.iload 4, 2) := by decide +kernel
theorem dX0_choose_88 : decode cX0_choose 88 = .ok (.invokevirtual 70, 3) := by decide +kernel
theorem dX0_choose_91 : decode cX0_choose 91 = .ok (.ifCond .ne 58, 3) := by decide +kernel
theorem dX0_choose_94 : decode cX0_choose 94 = .ok (.aload_n 0, 1) := by decide +kernel
theorem dX0_choose_95 : decode cX0_choose 95 = .ok (.getfield 17, 3) := by decide +kernel
theorem dX0_choose_98 : decode cX0_choose 98 = .ok (.iload_n 1, 1) := by decide +kernel
theorem dX0_choose_99 : decode cX0_choose 99 = .ok (.iconst 1, 1) := by decide +kernel
theorem dX0_choose_100 : decode cX0_choose 100 = .ok (.iadd, 1) := by decide +kernel
theorem dX0_choose_101 : decode cX0_choose 101 = .ok (.aaload, 1) := by decide +kernel
theorem dX0_choose_102 : decode cX0_choose 102 = .ok (.aload_n 0, 1) := by decide +kernel
theorem dX0_choose_103 : decode cX0_choose 103 = .ok (.getfield 17, 3) := by decide +kernel
theorem dX0_choose_106 : decode cX0_choose 106 = .ok (.iload_n 1, 1) := by decide +kernel
theorem dX0_choose_107 : decode cX0_choose 107 = .ok (.aaload, 1) := by decide +kernel
theorem dX0_choose_108 : decode cX0_choose 108 = .ok (.invokevirtual 74, 3) := by decide +kernel
theorem dX0_choose_111 : decode cX0_choose 111 = .ok (.aload_n 0, 1) := by decide +kernel
theorem dX0_choose_112 : decode cX0_choose 112 = .ok (.getfield 17, 3) := by decide +kernel
theorem dX0_choose_115 : decode cX0_choose 115 = .ok (.iload_n 1, 1) := by decide +kernel
theorem dX0_choose_116 : decode cX0_choose 116 = .ok (.iconst 1, 1) := by decide +kernel
theorem dX0_choose_117 : decode cX0_choose 117 = .ok (.iadd, 1) := by decide +kernel
theorem dX0_choose_118 : decode cX0_choose 118 = .ok (.aaload, 1) := by decide +kernel
theorem dX0_choose_119 : decode cX0_choose 119 = .ok (.aload_n 0, 1) := by decide +kernel
theorem dX0_choose_120 : decode cX0_choose 120 = .ok (.getfield 11, 3) := by decide +kernel
theorem dX0_choose_123 : decode cX0_choose 123 = .ok (.iload 6, 2) := by decide +kernel
theorem dX0_choose_125 : decode cX0_choose 125 = .ok (.aaload, 1) := by decide +kernel
theorem dX0_choose_126 : decode cX0_choose 126 = .ok (.invokevirtual 58, 3) := by decide +kernel
theorem dX0_choose_129 : decode cX0_choose 129 = .ok (.aload_n 0, 1) := by decide +kernel
theorem dX0_choose_130 : decode cX0_choose 130 = .ok (.iload_n 1, 1) := by decide +kernel
theorem dX0_choose_131 : decode cX0_choose 131 = .ok (.iconst 1, 1) := by decide +kernel
theorem dX0_choose_132 : decode cX0_choose 132 = .ok (.iadd, 1) := by decide +kernel
theorem dX0_choose_133 : decode cX0_choose 133 = .ok (.iload_n 2, 1) := by decide +kernel
theorem dX0_choose_134 : decode cX0_choose 134 = .ok (.iload 7, 2) := by decide +kernel
theorem dX0_choose_136 : decode cX0_choose 136 = .ok (.ior, 1) := by decide +kernel
theorem dX0_choose_137 : decode cX0_choose 137 = .ok (.iload 5, 2) := by decide +kernel
theorem dX0_choose_139 : decode cX0_choose 139 = .ok (.invokevirtual 54, 3) := by decide +kernel
theorem dX0_choose_142 : decode cX0_choose 142 = .ok (.iload 5, 2) := by decide +kernel
theorem dX0_choose_144 : decode cX0_choose 144 = .ok (.iload 7, 2) := by decide +kernel
theorem dX0_choose_146 : decode cX0_choose 146 = .ok (.ior, 1) := by decide +kernel
theorem dX0_choose_147 : decode cX0_choose 147 = .ok (.istore 5, 2) := by decide +kernel
theorem dX0_choose_149 : decode cX0_choose 149 = .ok (.iinc 6 1, 3) := by decide +kernel
theorem dX0_choose_152 : decode cX0_choose 152 = .ok (.goto (-102), 3) := by decide +kernel
theorem dX0_choose_155 : decode cX0_choose 155 = .ok (.return_, 1) := by decide +kernel
theorem dX0_leastSet_0 : decode cX0_leastSet 0 = .ok (.aload_n 0, 1) := by decide +kernel
theorem dX0_leastSet_1 : decode cX0_leastSet 1 = .ok (.getfield 37, 3) := by decide +kernel
theorem dX0_leastSet_4 : decode cX0_leastSet 4 = .ok (.ifCond .ne 43, 3) := by decide +kernel
theorem dX0_leastSet_7 : decode cX0_leastSet 7 = .ok (.aload_n 0, 1) := by decide +kernel
theorem dX0_leastSet_8 : decode cX0_leastSet 8 = .ok (.bipush (-9), 2) := by decide +kernel
theorem dX0_leastSet_10 : decode cX0_leastSet 10 = .ok (.putfield 41, 3) := by decide +kernel
theorem dX0_leastSet_13 : decode cX0_leastSet 13 = .ok (.aload_n 0, 1) := by decide +kernel
theorem dX0_leastSet_14 : decode cX0_leastSet 14 = .ok (.bipush 17, 2) := by decide +kernel
theorem dX0_leastSet_16 : decode cX0_leastSet 16 = .ok (.putfield 44, 3) := by decide +kernel
theorem dX0_leastSet_19 : decode cX0_leastSet 19 = .ok (.aload_n 0, 1) := by decide +kernel
theorem dX0_leastSet_20 : decode cX0_leastSet 20 = .ok (.invokevirtual 47, 3) := by decide +kernel
theorem dX0_leastSet_23 : decode cX0_leastSet 23 = .ok (.ifCond .eq 19, 3) := by decide +kernel
theorem dX0_leastSet_26 : decode cX0_leastSet 26 = .ok (.aload_n 0, 1) := by decide +kernel
theorem dX0_leastSet_27 : decode cX0_leastSet 27 = .ok (.getfield 17, 3) := by decide +kernel
theorem dX0_leastSet_30 : decode cX0_leastSet 30 = .ok (.iconst 0, 1) := by decide +kernel
theorem dX0_leastSet_31 : decode cX0_leastSet 31 = .ok (.aaload, 1) := by decide +kernel
theorem dX0_leastSet_32 : decode cX0_leastSet 32 = .ok (.invokevirtual 51, 3) := by decide +kernel
theorem dX0_leastSet_35 : decode cX0_leastSet 35 = .ok (.aload_n 0, 1) := by decide +kernel
theorem dX0_leastSet_36 : decode cX0_leastSet 36 = .ok (.iconst 0, 1) := by decide +kernel
theorem dX0_leastSet_37 : decode cX0_leastSet 37 = .ok (.iconst 0, 1) := by decide +kernel
theorem dX0_leastSet_38 : decode cX0_leastSet 38 = .ok (.iconst 0, 1) := by decide +kernel
theorem dX0_leastSet_39 : decode cX0_leastSet 39 = .ok (.invokevirtual 54, 3) := by decide +kernel
theorem dX0_leastSet_42 : decode cX0_leastSet 42 = .ok (.aload_n 0, 1) := by decide +kernel
theorem dX0_leastSet_43 : decode cX0_leastSet 43 = .ok (.iconst 1, 1) := by decide +kernel
theorem dX0_leastSet_44 : decode cX0_leastSet 44 = .ok (.putfield 37, 3) := by decide +kernel
theorem dX0_leastSet_47 : decode cX0_leastSet 47 = .ok (.aload_n 0, 1) := by decide +kernel
theorem dX0_leastSet_48 : decode cX0_leastSet 48 = .ok (.getfield 41, 3) := by decide +kernel
theorem dX0_leastSet_51 : decode cX0_leastSet 51 = .ok (.ireturn, 1) := by decide +kernel
theorem cc17 {cc : Int32} (h : cc.toInt ≤ 16) : cc < 17 := by
  rw [Int32.lt_iff_toInt_lt]
  exact Int.lt_of_le_of_lt h (by decide)
theorem cc16 {cc : Int32} (h : cc.toInt ≤ 16) : cc ≤ nI 16 := by
  rw [Int32.le_iff_toInt_le]
  exact Int.le_trans h (by decide)
theorem nlt16 {k : Nat} (hk : k ≤ 17) (h : ¬ (16 : Int32) ≤ nI k) : k < 16 := by
  rcases Nat.lt_or_ge k 16 with q | q
  · exact q
  · exact absurd (show (16 : Int32) ≤ nI k from nI_le (a := 16) (b := k) q (by omega)) h
set_option maxRecDepth 20000 in
theorem s_X0_keep {xs : Nat → Int32} {L d : Nat} {h : ev_H} (hS : SH h) {cc kn bs bz : Int32} (hc : h 24 = c24 cc kn bs bz) {a b : Int32} : EV xs L (d + 0) 0 0 M_X0_keep 434 h 0 [some (.ref 24), some (.int a), some (.int b)] [] (fun sz' h' r => (r = []) ∧ ∃ kn bs bz, h' 24 = c24 cc kn bs bz) := by
  refine r_iload_n rfl dX0_keep_0 rfl ?_
  refine r_aload_n rfl dX0_keep_1 rfl ?_
  refine r_getv 5 rfl dX0_keep_2 (show 2 ≤ 24 ∧ 24 < 434 by decide) hc fl_X0_44 rfl ?_
  refine r_icmp_lt (tgt := 24) rfl rfl dX0_keep_5 (fun c51 => ?_) (fun c51 => ?_)
  · refine r_aload_n rfl dX0_keep_24 rfl ?_
    refine r_iload_n rfl dX0_keep_25 rfl ?_
    refine k_putx 4 (fs' := [.ref 25, .ref 26, .int cc, .int kn, .int b, .int bz]) rfl dX0_keep_26 (show 2 ≤ 24 ∧ 24 < 434 by decide) hS hc (fp_X0_41 rfl _) (Nat.le_of_ble_eq_true rfl) rfl (fun h52 eh54 hS53 => ?_)
    have p55 : h52 24 = .inr (0, [.ref 25, .ref 26, .int cc, .int kn, .int b, .int bz]) := by rw [eh54]; exact va_up_self _ _ _
    refine r_aload_n rfl dX0_keep_29 rfl ?_
    refine r_iload_n rfl dX0_keep_30 rfl ?_
    refine k_putx 5 (fs' := [.ref 25, .ref 26, .int cc, .int kn, .int b, .int a]) rfl dX0_keep_31 (show 2 ≤ 24 ∧ 24 < 434 by decide) hS53 p55 (fp_X0_44 rfl _) (Nat.le_of_ble_eq_true rfl) rfl (fun h56 eh58 hS57 => ?_)
    have p59 : h56 24 = .inr (0, [.ref 25, .ref 26, .int cc, .int kn, .int b, .int a]) := by rw [eh58]; exact va_up_self _ _ _
    exact r_ret dX0_keep_34 (rt_v rfl) ⟨rfl, _, _, _, p59⟩
  · refine r_iload_n rfl dX0_keep_8 rfl ?_
    refine r_aload_n rfl dX0_keep_9 rfl ?_
    refine r_getv 5 rfl dX0_keep_10 (show 2 ≤ 24 ∧ 24 < 434 by decide) hc fl_X0_44 rfl ?_
    refine r_icmp_ne (tgt := 34) rfl rfl dX0_keep_13 (fun c60 => ?_) (fun c60 => ?_)
    · exact r_ret dX0_keep_34 (rt_v rfl) ⟨rfl, _, _, _, hc⟩
    · refine r_iload_n rfl dX0_keep_16 rfl ?_
      refine r_aload_n rfl dX0_keep_17 rfl ?_
      refine r_getv 4 rfl dX0_keep_18 (show 2 ≤ 24 ∧ 24 < 434 by decide) hc fl_X0_41 rfl ?_
      refine r_icmp_ge (tgt := 34) rfl rfl dX0_keep_21 (fun c61 => ?_) (fun c61 => ?_)
      · exact r_ret dX0_keep_34 (rt_v rfl) ⟨rfl, _, _, _, hc⟩
      · refine r_aload_n rfl dX0_keep_24 rfl ?_
        refine r_iload_n rfl dX0_keep_25 rfl ?_
        refine k_putx 4 (fs' := [.ref 25, .ref 26, .int cc, .int kn, .int b, .int bz]) rfl dX0_keep_26 (show 2 ≤ 24 ∧ 24 < 434 by decide) hS hc (fp_X0_41 rfl _) (Nat.le_of_ble_eq_true rfl) rfl (fun h62 eh64 hS63 => ?_)
        have p65 : h62 24 = .inr (0, [.ref 25, .ref 26, .int cc, .int kn, .int b, .int bz]) := by rw [eh64]; exact va_up_self _ _ _
        refine r_aload_n rfl dX0_keep_29 rfl ?_
        refine r_iload_n rfl dX0_keep_30 rfl ?_
        refine k_putx 5 (fs' := [.ref 25, .ref 26, .int cc, .int kn, .int b, .int a]) rfl dX0_keep_31 (show 2 ≤ 24 ∧ 24 < 434 by decide) hS63 p65 (fp_X0_44 rfl _) (Nat.le_of_ble_eq_true rfl) rfl (fun h66 eh68 hS67 => ?_)
        have p69 : h66 24 = .inr (0, [.ref 25, .ref 26, .int cc, .int kn, .int b, .int a]) := by rw [eh68]; exact va_up_self _ _ _
        exact r_ret dX0_keep_34 (rt_v rfl) ⟨rfl, _, _, _, p69⟩
set_option maxRecDepth 20000 in
theorem s_X0_allClash_loop {xs : Nat → Int32} {L d : Nat}  {cc : Int32} (hcc : cc.toInt ≤ 16) : ∀ (n k : Nat), k + n = 16 → ∀ (h : ev_H) (hS : SH h) (kn bs bz : Int32) (hc : h 24 = c24 cc kn bs bz) , EV xs L (d + 2) 0 0 M_X0_allClash 434 h 11 [some (.ref 24), some (.int (nI k))] [] (fun sz' h' r => (∃ x : Int32, r = [.int x]) ∧ ∃ kn bs bz, h' 24 = c24 cc kn bs bz) := by
  intro n
  induction n with
  | zero =>
    intro k hk h hS kn bs bz hc 
    obtain rfl : k = 16 := by omega
    refine r_iload_n rfl dX0_allClash_11 rfl ?_
    refine r_aload_n rfl dX0_allClash_12 rfl ?_
    refine r_getv 2 rfl dX0_allClash_13 (show 2 ≤ 24 ∧ 24 < 434 by decide) hc fl_X0_27 rfl ?_
    refine r_icmp_ge (tgt := 40) rfl rfl dX0_allClash_16 (fun _ => ?_) (fun c => absurd c (fun z => z (cc16 hcc)))
    refine r_aload_n rfl dX0_allClash_40 rfl ?_
    refine r_getv 1 rfl dX0_allClash_41 (show 2 ≤ 24 ∧ 24 < 434 by decide) hc fl_X0_17 rfl ?_
    refine r_iconst (v := 0) rfl dX0_allClash_44 (by decide) ?_
    refine r_aald (jn := 0) (v := .ref (59 + 2 * 0)) rfl dX0_allClash_45 (show 2 ≤ 26 ∧ 26 < 434 by decide).1 (show 2 ≤ 26 ∧ 26 < 434 by decide).2 hS.o26 (by decide) (by unfold vp_in; decide) rfl (by show va_rf (if _ < _ then _ else _) = _; rw [if_pos (show 0 < 17 by decide)]; rfl) ?_
    obtain ⟨g503, hw504⟩ := hS.ws (wsAt_open (j := 0) (show 0 < 17 by decide))
    refine cl_X0_62 rfl rfl dX0_allClash_46 (show _ ∧ _ from ⟨(wsAt_open (j := 0) (show 0 < 17 by decide)).2.2.1, Nat.lt_of_succ_lt (wsAt_open (j := 0) (show 0 < 17 by decide)).2.2.2⟩).1 (show _ ∧ _ from ⟨(wsAt_open (j := 0) (show 0 < 17 by decide)).2.2.1, Nat.lt_of_succ_lt (wsAt_open (j := 0) (show 0 < 17 by decide)).2.2.2⟩).2 hw504.2.2.1 (Nat.le_of_ble_eq_true rfl) (s_X10_leastWorld hw504) ?_
    rintro _ h505 _ ⟨rfl, e506, rfl⟩
    replace e506 := e506.symm
    subst e506
    refine r_if_ge (tgt := 56) rfl rfl dX0_allClash_49 (fun c507 => ?_) (fun c507 => ?_)
    · refine r_iconst (v := 0) rfl dX0_allClash_56 (by decide) ?_
      exact r_ret dX0_allClash_57 (rt_z rfl (Or.inl rfl)) ⟨⟨_, rfl⟩, _, _, _, hc⟩
    · refine r_iconst (v := 1) rfl dX0_allClash_52 (by decide) ?_
      refine r_goto (pc' := 57) rfl dX0_allClash_53 ?_
      exact r_ret dX0_allClash_57 (rt_z rfl (Or.inr rfl)) ⟨⟨_, rfl⟩, _, _, _, hc⟩
  | succ n ih =>
    intro k hk h hS kn bs bz hc 
    refine r_iload_n rfl dX0_allClash_11 rfl ?_
    refine r_aload_n rfl dX0_allClash_12 rfl ?_
    refine r_getv 2 rfl dX0_allClash_13 (show 2 ≤ 24 ∧ 24 < 434 by decide) hc fl_X0_27 rfl ?_
    refine r_icmp_ge (tgt := 40) rfl rfl dX0_allClash_16 (fun c701 => ?_) (fun c701 => ?_)
    · refine r_aload_n rfl dX0_allClash_40 rfl ?_
      refine r_getv 1 rfl dX0_allClash_41 (show 2 ≤ 24 ∧ 24 < 434 by decide) hc fl_X0_17 rfl ?_
      refine r_iconst (v := 0) rfl dX0_allClash_44 (by decide) ?_
      refine r_aald (jn := 0) (v := .ref (59 + 2 * 0)) rfl dX0_allClash_45 (show 2 ≤ 26 ∧ 26 < 434 by decide).1 (show 2 ≤ 26 ∧ 26 < 434 by decide).2 hS.o26 (by decide) (by unfold vp_in; decide) rfl (by show va_rf (if _ < _ then _ else _) = _; rw [if_pos (show 0 < 17 by decide)]; rfl) ?_
      obtain ⟨g704, hw705⟩ := hS.ws (wsAt_open (j := 0) (show 0 < 17 by decide))
      refine cl_X0_62 rfl rfl dX0_allClash_46 (show _ ∧ _ from ⟨(wsAt_open (j := 0) (show 0 < 17 by decide)).2.2.1, Nat.lt_of_succ_lt (wsAt_open (j := 0) (show 0 < 17 by decide)).2.2.2⟩).1 (show _ ∧ _ from ⟨(wsAt_open (j := 0) (show 0 < 17 by decide)).2.2.1, Nat.lt_of_succ_lt (wsAt_open (j := 0) (show 0 < 17 by decide)).2.2.2⟩).2 hw705.2.2.1 (Nat.le_of_ble_eq_true rfl) (s_X10_leastWorld hw705) ?_
      rintro _ h706 _ ⟨rfl, e707, rfl⟩
      replace e707 := e707.symm
      subst e707
      refine r_if_ge (tgt := 56) rfl rfl dX0_allClash_49 (fun c708 => ?_) (fun c708 => ?_)
      · refine r_iconst (v := 0) rfl dX0_allClash_56 (by decide) ?_
        exact r_ret dX0_allClash_57 (rt_z rfl (Or.inl rfl)) ⟨⟨_, rfl⟩, _, _, _, hc⟩
      · refine r_iconst (v := 1) rfl dX0_allClash_52 (by decide) ?_
        refine r_goto (pc' := 57) rfl dX0_allClash_53 ?_
        exact r_ret dX0_allClash_57 (rt_z rfl (Or.inr rfl)) ⟨⟨_, rfl⟩, _, _, _, hc⟩
    · refine r_aload_n rfl dX0_allClash_19 rfl ?_
      refine r_getv 1 rfl dX0_allClash_20 (show 2 ≤ 24 ∧ 24 < 434 by decide) hc fl_X0_17 rfl ?_
      refine r_iconst (v := 0) rfl dX0_allClash_23 (by decide) ?_
      refine r_aald (jn := 0) (v := .ref (59 + 2 * 0)) rfl dX0_allClash_24 (show 2 ≤ 26 ∧ 26 < 434 by decide).1 (show 2 ≤ 26 ∧ 26 < 434 by decide).2 hS.o26 (by decide) (by unfold vp_in; decide) rfl (by show va_rf (if _ < _ then _ else _) = _; rw [if_pos (show 0 < 17 by decide)]; rfl) ?_
      refine r_aload_n rfl dX0_allClash_25 rfl ?_
      refine r_getv 0 rfl dX0_allClash_26 (show 2 ≤ 24 ∧ 24 < 434 by decide) hc fl_X0_11 rfl ?_
      refine r_iload_n rfl dX0_allClash_29 rfl ?_
      refine r_aald (jn := k) (v := .ref (27 + 2 * k)) rfl dX0_allClash_30 (show 2 ≤ 25 ∧ 25 < 434 by decide).1 (show 2 ≤ 25 ∧ 25 < 434 by decide).2 hS.o25 (by decide) (vp_in_nI (by omega) (by decide)) (nI_clamp (by omega)) (by show va_rf (if _ < _ then _ else _) = _; rw [if_pos (show k < 16 by omega)]; rfl) ?_
      obtain ⟨g712, hw713⟩ := hS.ws (wsAt_open (j := 0) (show 0 < 17 by decide))
      obtain ⟨g715, hw716⟩ := hS.ws (wsAt_hold (j := k) (show k < 16 by omega))
      refine cl_X0_58 rfl rfl dX0_allClash_31 (show _ ∧ _ from ⟨(wsAt_open (j := 0) (show 0 < 17 by decide)).2.2.1, Nat.lt_of_succ_lt (wsAt_open (j := 0) (show 0 < 17 by decide)).2.2.2⟩).1 (show _ ∧ _ from ⟨(wsAt_open (j := 0) (show 0 < 17 by decide)).2.2.1, Nat.lt_of_succ_lt (wsAt_open (j := 0) (show 0 < 17 by decide)).2.2.2⟩).2 hw713.2.2.1 (Nat.le_of_ble_eq_true rfl) ((s_X10_meet hw713 hw716 (by omega)).sh hS) ?_
      rintro _ h717 _ ⟨⟨rfl, eh719, rfl⟩, -, hS718, -⟩
      have p720 : h717 24 = .inr (0, [.ref 25, .ref 26, .int cc, .int kn, .int bs, .int bz]) := by rw [eh719, va_up_ne _ _ (by omega)]; exact hc
      obtain ⟨x721, e722⟩ : ∃ z : Int32, z = (nI k) + Int32.ofInt 1 := ⟨_, rfl⟩
      refine r_iinc (y := x721) (ls' := [some (.ref 24), some (.int x721)]) rfl dX0_allClash_34 rfl e722.symm (Nat.le_of_ble_eq_true rfl) rfl ?_
      refine r_goto (pc' := 11) rfl dX0_allClash_37 ?_
      have z723 : x721 = nI (k + 1) := by rw [e722]; exact nI_1 k
      subst z723
      exact ih (k + 1) (by omega) h717 hS718 kn bs bz p720
set_option maxRecDepth 20000 in
theorem s_X0_allClash {xs : Nat → Int32} {L d : Nat} {h : ev_H} (hS : SH h) {cc kn bs bz : Int32} (hc : h 24 = c24 cc kn bs bz) (hcc : cc.toInt ≤ 16)  : EV xs L (d + 2) 0 0 M_X0_allClash 434 h 0 [some (.ref 24), none] [] (fun sz' h' r => (∃ x : Int32, r = [.int x]) ∧ ∃ kn bs bz, h' 24 = c24 cc kn bs bz) := by
  refine r_aload_n rfl dX0_allClash_0 rfl ?_
  refine r_getv 1 rfl dX0_allClash_1 (show 2 ≤ 24 ∧ 24 < 434 by decide) hc fl_X0_17 rfl ?_
  refine r_iconst (v := 0) rfl dX0_allClash_4 (by decide) ?_
  refine r_aald (jn := 0) (v := .ref (59 + 2 * 0)) rfl dX0_allClash_5 (show 2 ≤ 26 ∧ 26 < 434 by decide).1 (show 2 ≤ 26 ∧ 26 < 434 by decide).2 hS.o26 (by decide) (by unfold vp_in; decide) rfl (by show va_rf (if _ < _ then _ else _) = _; rw [if_pos (show 0 < 17 by decide)]; rfl) ?_
  obtain ⟨g53, hw54⟩ := hS.ws (wsAt_open (j := 0) (show 0 < 17 by decide))
  refine cl_X0_51 rfl rfl dX0_allClash_6 (show _ ∧ _ from ⟨(wsAt_open (j := 0) (show 0 < 17 by decide)).2.2.1, Nat.lt_of_succ_lt (wsAt_open (j := 0) (show 0 < 17 by decide)).2.2.2⟩).1 (show _ ∧ _ from ⟨(wsAt_open (j := 0) (show 0 < 17 by decide)).2.2.1, Nat.lt_of_succ_lt (wsAt_open (j := 0) (show 0 < 17 by decide)).2.2.2⟩).2 hw54.2.2.1 (Nat.le_of_ble_eq_true rfl) ((s_X10_fill hw54).sh hS) ?_
  rintro _ h55 _ ⟨⟨rfl, eh57, rfl⟩, -, hS56, -⟩
  have p58 : h55 24 = .inr (0, [.ref 25, .ref 26, .int cc, .int kn, .int bs, .int bz]) := by rw [eh57, va_up_ne _ _ (by omega)]; exact hc
  refine r_iconst (v := 0) rfl dX0_allClash_9 (by decide) ?_
  refine r_istore_n (ls' := [some (.ref 24), some (.int 0)]) rfl dX0_allClash_10 (Nat.le_of_ble_eq_true rfl) rfl ?_
  exact s_X0_allClash_loop hcc 16 0 rfl h55 hS56 _ _ _ p58
theorem min16 (c : Int32) : (if (16 : Int32) < c then 16 else c).toInt ≤ 16 := by
  split
  · decide
  · rename_i h
    rw [Int32.lt_iff_toInt_lt] at h
    exact Int.not_lt.mp h
set_option maxRecDepth 20000 in
theorem s_X0_learn_loop {xs : Nat → Int32} {L d : Nat} {c : Int32} {cc : Int32} (hcc : cc.toInt ≤ 16) : ∀ (n k : Nat), k + n = 16 → ∀ (h : ev_H) (hS : SH h) (kn bs bz : Int32) (hc : h 24 = c24 cc kn bs bz) , EV xs L (d + 3) 0 0 M_X0_learn 434 h 12 [some (.ref 24), some (.ref 12), some (.int c), some (.int (nI k))] [] (fun sz' h' r => (r = []) ∧ ∃ kn bs bz, h' 24 = c24 cc kn bs bz) := by
  intro n
  induction n with
  | zero =>
    intro k hk h hS kn bs bz hc 
    obtain rfl : k = 16 := by omega
    refine r_iload_n rfl dX0_learn_12 rfl ?_
    refine r_aload_n rfl dX0_learn_13 rfl ?_
    refine r_getv 2 rfl dX0_learn_14 (show 2 ≤ 24 ∧ 24 < 434 by decide) hc fl_X0_27 rfl ?_
    refine r_icmp_ge (tgt := 47) rfl rfl dX0_learn_17 (fun _ => ?_) (fun c => absurd c (fun z => z (cc16 hcc)))
    refine r_aload_n rfl dX0_learn_47 rfl ?_
    refine r_iconst (v := 0) rfl dX0_learn_48 (by decide) ?_
    refine k_putx 3 (fs' := [.ref 25, .ref 26, .int cc, .int 0, .int bs, .int bz]) rfl dX0_learn_49 (show 2 ≤ 24 ∧ 24 < 434 by decide) hS hc (fp_X0_37 rfl _ (Or.inl rfl)) (Nat.le_of_ble_eq_true rfl) rfl (fun h501 eh503 hS502 => ?_)
    have p504 : h501 24 = .inr (0, [.ref 25, .ref 26, .int cc, .int 0, .int bs, .int bz]) := by rw [eh503]; exact va_up_self _ _ _
    exact r_ret dX0_learn_52 (rt_v rfl) ⟨rfl, _, _, _, p504⟩
  | succ n ih =>
    intro k hk h hS kn bs bz hc 
    refine r_iload_n rfl dX0_learn_12 rfl ?_
    refine r_aload_n rfl dX0_learn_13 rfl ?_
    refine r_getv 2 rfl dX0_learn_14 (show 2 ≤ 24 ∧ 24 < 434 by decide) hc fl_X0_27 rfl ?_
    refine r_icmp_ge (tgt := 47) rfl rfl dX0_learn_17 (fun c701 => ?_) (fun c701 => ?_)
    · refine r_aload_n rfl dX0_learn_47 rfl ?_
      refine r_iconst (v := 0) rfl dX0_learn_48 (by decide) ?_
      refine k_putx 3 (fs' := [.ref 25, .ref 26, .int cc, .int 0, .int bs, .int bz]) rfl dX0_learn_49 (show 2 ≤ 24 ∧ 24 < 434 by decide) hS hc (fp_X0_37 rfl _ (Or.inl rfl)) (Nat.le_of_ble_eq_true rfl) rfl (fun h702 eh704 hS703 => ?_)
      have p705 : h702 24 = .inr (0, [.ref 25, .ref 26, .int cc, .int 0, .int bs, .int bz]) := by rw [eh704]; exact va_up_self _ _ _
      exact r_ret dX0_learn_52 (rt_v rfl) ⟨rfl, _, _, _, p705⟩
    · refine r_iload_n rfl dX0_learn_20 rfl ?_
      refine r_aload_n rfl dX0_learn_21 rfl ?_
      refine r_alen (v := 40) rfl dX0_learn_22 (show 2 ≤ 12 ∧ 12 < 434 by decide).1 (show 2 ≤ 12 ∧ 12 < 434 by decide).2 hS.o12 (by decide) (by decide) ?_
      refine r_icmp_ge (tgt := 47) rfl rfl dX0_learn_23 (fun c => absurd c (show ¬ (40 : Int32) ≤ nI k from nI_ge (a := k) (b := 40) (by omega) (by decide))) (fun _ => ?_)
      refine r_aload_n rfl dX0_learn_26 rfl ?_
      refine r_iload_n rfl dX0_learn_27 rfl ?_
      refine r_aald (jn := k) (v := .ref (100 + 8 * k)) rfl dX0_learn_28 (show 2 ≤ 12 ∧ 12 < 434 by decide).1 (show 2 ≤ 12 ∧ 12 < 434 by decide).2 hS.o12 (by decide) (vp_in_nI (by omega) (by decide)) (nI_clamp (by omega)) (by show va_rf (if _ < _ then _ else _) = _; rw [if_pos (show k < 40 by omega)]; rfl) ?_
      refine r_aload_n rfl dX0_learn_29 rfl ?_
      refine r_getv 0 rfl dX0_learn_30 (show 2 ≤ 24 ∧ 24 < 434 by decide) hc fl_X0_11 rfl ?_
      refine r_iload_n rfl dX0_learn_33 rfl ?_
      refine r_aald (jn := k) (v := .ref (27 + 2 * k)) rfl dX0_learn_34 (show 2 ≤ 25 ∧ 25 < 434 by decide).1 (show 2 ≤ 25 ∧ 25 < 434 by decide).2 hS.o25 (by decide) (vp_in_nI (by omega) (by decide)) (nI_clamp (by omega)) (by show va_rf (if _ < _ then _ else _) = _; rw [if_pos (show k < 16 by omega)]; rfl) ?_
      refine r_sipush (v := 255) rfl dX0_learn_35 (by decide) ?_
      obtain ⟨y709, y710, y711, y712, y713, y714, f708⟩ := hS.ln (show k < 40 by omega)
      refine cl_X0_31 rfl rfl dX0_learn_38 (show 2 ≤ 100 + 8 * k ∧ 100 + 8 * k < 434 by omega).1 (show 2 ≤ 100 + 8 * k ∧ 100 + 8 * k < 434 by omega).2 f708 (Nat.le_of_ble_eq_true rfl) ((s_X3_gatherWorlds hS (show k < 40 by omega) (wsAt_hold (j := k) (show k < 16 by omega))).shL hS (okl_c (vr_r (RLb_ln (show k < 40 by omega))) (okl_c (vr_r (RLb_hold (show k < 16 by omega))) (okl_c (vr_i _) (okl_o (okl_o okl_n)))))) ?_
      rintro _ h715 _ ⟨rfl, rfl, hS716, hk717⟩
      have p718 : h715 24 = .inr (0, [.ref 25, .ref 26, .int cc, .int kn, .int bs, .int bz]) := by rw [hk717 24 rfl]; exact hc
      obtain ⟨x719, e720⟩ : ∃ z : Int32, z = (nI k) + Int32.ofInt 1 := ⟨_, rfl⟩
      refine r_iinc (y := x719) (ls' := [some (.ref 24), some (.ref 12), some (.int c), some (.int x719)]) rfl dX0_learn_41 rfl e720.symm (Nat.le_of_ble_eq_true rfl) rfl ?_
      refine r_goto (pc' := 12) rfl dX0_learn_44 ?_
      have z721 : x719 = nI (k + 1) := by rw [e720]; exact nI_1 k
      subst z721
      exact ih (k + 1) (by omega) h715 hS716 kn bs bz p718
set_option maxRecDepth 20000 in
theorem s_X0_learn {xs : Nat → Int32} {L d : Nat} {h : ev_H} (hS : SH h) {c : Int32} : EV xs L (d + 3) 0 0 M_X0_learn 434 h 0 [some (.ref 24), some (.ref 12), some (.int c), none] [] (fun sz' h' r => r = [] ∧ ∃ cc : Int32, cc.toInt ≤ 16 ∧ ∃ kn bs bz, h' 24 = c24 cc kn bs bz) := by
  obtain ⟨cc, kn, bs, bz, hc⟩ := hS.o24
  refine r_aload_n rfl dX0_learn_0 rfl ?_
  refine r_iload_n rfl dX0_learn_1 rfl ?_
  refine r_bipush (v := 16) rfl dX0_learn_2 (by decide) ?_
  refine r_min rfl dX0_learn_4 (Nat.succ_pos _) (Nat.le_of_ble_eq_true rfl) mm_X0_21 mm_st mm_in mm_co ?_
  refine r_topi (fun x51 e52 => ?_)
  refine k_putx 2 (fs' := [.ref 25, .ref 26, .int x51, .int kn, .int bs, .int bz]) rfl dX0_learn_7 (show 2 ≤ 24 ∧ 24 < 434 by decide) hS hc (fp_X0_27 rfl _) (Nat.le_of_ble_eq_true rfl) rfl (fun h53 eh55 hS54 => ?_)
  have p56 : h53 24 = .inr (0, [.ref 25, .ref 26, .int x51, .int kn, .int bs, .int bz]) := by rw [eh55]; exact va_up_self _ _ _
  refine r_iconst (v := 0) rfl dX0_learn_10 (by decide) ?_
  refine r_istore_n (ls' := [some (.ref 24), some (.ref 12), some (.int c), some (.int 0)]) rfl dX0_learn_11 (Nat.le_of_ble_eq_true rfl) rfl ?_
  have hcc : x51.toInt ≤ 16 := by rw [e52]; exact min16 c
  exact EV.post (fun _ _ _ q => ⟨q.1, x51, hcc, q.2⟩) (s_X0_learn_loop hcc 16 0 rfl h53 hS54 _ _ _ p56)
set_option maxRecDepth 20000 in
theorem s_X0_choose {xs : Nat → Int32} {L d : Nat} {cc : Int32} (hcc : cc.toInt ≤ 16) : ∀ (m k : Nat), k + m = 17 → ∀ (h : ev_H) (hS : SH h) (kn bs bz : Int32) (hc : h 24 = c24 cc kn bs bz) (ch br : Int32), EV xs L (d + (m + 3)) 0 0 M_X0_choose 434 h 0 [some (.ref 24), some (.int (nI k)), some (.int ch), some (.int br), none, none, none, none] [] (fun sz' h' r => r = [] ∧ ∃ kn bs bz, h' 24 = c24 cc kn bs bz) := by
  intro m
  induction m with
  | zero =>
    intro k hk h hS kn bs bz hc ch br
    obtain rfl : k = 17 := by omega
    refine r_iload_n rfl dX0_choose_0 rfl ?_
    refine r_if_lt (tgt := 20) rfl rfl dX0_choose_1 (fun c => absurd c (by decide)) (fun _ => ?_)
    refine r_iload_n rfl dX0_choose_4 rfl ?_
    refine r_aload_n rfl dX0_choose_5 rfl ?_
    refine r_getv 2 rfl dX0_choose_6 (show 2 ≤ 24 ∧ 24 < 434 by decide) hc fl_X0_27 rfl ?_
    refine r_icmp_gt (tgt := 20) rfl rfl dX0_choose_9 (fun _ => ?_) (fun c => absurd c (fun z => z (show cc < nI 17 from cc17 hcc)))
    exact r_ret dX0_choose_20 (rt_v rfl) ⟨rfl, _, _, _, hc⟩
  | succ m ihm =>
    intro k hk h hS kn bs bz hc ch br
    have loop : ∀ (n j : Nat), j + n = 16 → ∀ (h : ev_H) (hS : SH h) (kn bs bz : Int32) (hc : h 24 = c24 cc kn bs bz) (wo cl : Int32) (u : Option Value), EV xs L (d + (m + 1 + 3)) 0 0 M_X0_choose 434 h 50 [some (.ref 24), some (.int (nI k)), some (.int ch), some (.int br), some (.int wo), some (.int cl), some (.int (nI j)), u] [] (fun sz' h' r => r = [] ∧ ∃ kn bs bz, h' 24 = c24 cc kn bs bz) := by
      intro n
      induction n with
      | zero =>
        intro j hj h hS kn bs bz hc wo cl u
        obtain rfl : j = 16 := by omega
        refine r_iload rfl dX0_choose_50 rfl ?_
        refine r_aload_n rfl dX0_choose_52 rfl ?_
        refine r_getv 2 rfl dX0_choose_53 (show 2 ≤ 24 ∧ 24 < 434 by decide) hc fl_X0_27 rfl ?_
        refine r_icmp_ge (tgt := 155) rfl rfl dX0_choose_56 (fun _ => ?_) (fun c => absurd c (fun z => z (cc16 hcc)))
        exact r_ret dX0_choose_155 (rt_v rfl) ⟨rfl, _, _, _, hc⟩
      | succ n ihn =>
        intro j hj h hS kn bs bz hc wo cl u
        refine r_iload rfl dX0_choose_50 rfl ?_
        refine r_aload_n rfl dX0_choose_52 rfl ?_
        refine r_getv 2 rfl dX0_choose_53 (show 2 ≤ 24 ∧ 24 < 434 by decide) hc fl_X0_27 rfl ?_
        refine r_icmp_ge (tgt := 155) rfl rfl dX0_choose_56 (fun c301 => ?_) (fun c301 => ?_)
        · exact r_ret dX0_choose_155 (rt_v rfl) ⟨rfl, _, _, _, hc⟩
        · refine r_iload_n rfl dX0_choose_59 rfl ?_
          refine r_bipush (v := 16) rfl dX0_choose_60 (by decide) ?_
          refine r_icmp_ge (tgt := 155) rfl rfl dX0_choose_62 (fun c302 => ?_) (fun c302 => ?_)
          · exact r_ret dX0_choose_155 (rt_v rfl) ⟨rfl, _, _, _, hc⟩
          · refine r_iconst (v := 1) rfl dX0_choose_65 (by decide) ?_
            refine r_iload rfl dX0_choose_66 rfl ?_
            refine r_ishl rfl dX0_choose_68 ?_
            refine r_topi (fun x303 e304 => ?_)
            refine r_istore (ls' := [some (.ref 24), some (.int (nI k)), some (.int ch), some (.int br), some (.int wo), some (.int cl), some (.int (nI j)), some (.int x303)]) rfl dX0_choose_69 (Nat.le_of_ble_eq_true rfl) rfl ?_
            refine r_iload rfl dX0_choose_71 rfl ?_
            refine r_iload rfl dX0_choose_73 rfl ?_
            refine r_iand rfl dX0_choose_75 ?_
            refine r_if_ne (tgt := 149) rfl rfl dX0_choose_76 (fun c305 => ?_) (fun c305 => ?_)
            · obtain ⟨x306, e307⟩ : ∃ z : Int32, z = (nI j) + Int32.ofInt 1 := ⟨_, rfl⟩
              refine r_iinc (y := x306) (ls' := [some (.ref 24), some (.int (nI k)), some (.int ch), some (.int br), some (.int wo), some (.int cl), some (.int x306), some (.int x303)]) rfl dX0_choose_149 rfl e307.symm (Nat.le_of_ble_eq_true rfl) rfl ?_
              refine r_goto (pc' := 50) rfl dX0_choose_152 ?_
              have z308 : x306 = nI (j + 1) := by rw [e307]; exact nI_1 j
              subst z308
              exact ihn (j + 1) (by omega) h hS _ _ _ hc wo cl (some (.int x303))
            · refine r_aload_n rfl dX0_choose_79 rfl ?_
              refine r_getv 0 rfl dX0_choose_80 (show 2 ≤ 24 ∧ 24 < 434 by decide) hc fl_X0_11 rfl ?_
              refine r_iload rfl dX0_choose_83 rfl ?_
              refine r_aald (jn := j) (v := .ref (27 + 2 * j)) rfl dX0_choose_85 (show 2 ≤ 25 ∧ 25 < 434 by decide).1 (show 2 ≤ 25 ∧ 25 < 434 by decide).2 hS.o25 (by decide) (vp_in_nI (by omega) (by decide)) (nI_clamp (by omega)) (by show va_rf (if _ < _ then _ else _) = _; rw [if_pos (show j < 16 by omega)]; rfl) ?_
              refine r_iload rfl dX0_choose_86 rfl ?_
              obtain ⟨g311, hw312⟩ := hS.ws (wsAt_hold (j := j) (show j < 16 by omega))
              refine cl_X0_70 rfl rfl dX0_choose_88 (show _ ∧ _ from ⟨(wsAt_hold (j := j) (show j < 16 by omega)).2.2.1, Nat.lt_of_succ_lt (wsAt_hold (j := j) (show j < 16 by omega)).2.2.2⟩).1 (show _ ∧ _ from ⟨(wsAt_hold (j := j) (show j < 16 by omega)).2.2.1, Nat.lt_of_succ_lt (wsAt_hold (j := j) (show j < 16 by omega)).2.2.2⟩).2 hw312.2.2.1 (Nat.le_of_ble_eq_true rfl) (s_X10_has hw312) ?_
              rintro _ h313 _ ⟨rfl, e314, rfl⟩
              replace e314 := e314.symm
              subst e314
              refine r_if_ne (tgt := 149) rfl rfl dX0_choose_91 (fun c315 => ?_) (fun c315 => ?_)
              · obtain ⟨x316, e317⟩ : ∃ z : Int32, z = (nI j) + Int32.ofInt 1 := ⟨_, rfl⟩
                refine r_iinc (y := x316) (ls' := [some (.ref 24), some (.int (nI k)), some (.int ch), some (.int br), some (.int wo), some (.int cl), some (.int x316), some (.int x303)]) rfl dX0_choose_149 rfl e317.symm (Nat.le_of_ble_eq_true rfl) rfl ?_
                refine r_goto (pc' := 50) rfl dX0_choose_152 ?_
                have z318 : x316 = nI (j + 1) := by rw [e317]; exact nI_1 j
                subst z318
                exact ihn (j + 1) (by omega) h hS _ _ _ hc wo cl (some (.int x303))
              · refine r_aload_n rfl dX0_choose_94 rfl ?_
                refine r_getv 1 rfl dX0_choose_95 (show 2 ≤ 24 ∧ 24 < 434 by decide) hc fl_X0_17 rfl ?_
                refine r_iload_n rfl dX0_choose_98 rfl ?_
                refine r_iconst (v := 1) rfl dX0_choose_99 (by decide) ?_
                refine r_iadd rfl dX0_choose_100 ?_
                refine r_eqi (y := nI (k + 1)) (nI_1 k) ?_
                have k16 : k < 16 := nlt16 (by omega) c302
                refine r_aald (jn := k + 1) (v := .ref (59 + 2 * (k + 1))) rfl dX0_choose_101 (show 2 ≤ 26 ∧ 26 < 434 by decide).1 (show 2 ≤ 26 ∧ 26 < 434 by decide).2 hS.o26 (by decide) (vp_in_nI (by omega) (by decide)) (nI_clamp (by omega)) (by show va_rf (if _ < _ then _ else _) = _; rw [if_pos (show k + 1 < 17 by omega)]; rfl) ?_
                refine r_aload_n rfl dX0_choose_102 rfl ?_
                refine r_getv 1 rfl dX0_choose_103 (show 2 ≤ 24 ∧ 24 < 434 by decide) hc fl_X0_17 rfl ?_
                refine r_iload_n rfl dX0_choose_106 rfl ?_
                refine r_aald (jn := k) (v := .ref (59 + 2 * k)) rfl dX0_choose_107 (show 2 ≤ 26 ∧ 26 < 434 by decide).1 (show 2 ≤ 26 ∧ 26 < 434 by decide).2 hS.o26 (by decide) (vp_in_nI (by omega) (by decide)) (nI_clamp (by omega)) (by show va_rf (if _ < _ then _ else _) = _; rw [if_pos (show k < 17 by omega)]; rfl) ?_
                obtain ⟨g321, hw322⟩ := hS.ws (wsAt_open (j := k + 1) (show k + 1 < 17 by omega))
                obtain ⟨g324, hw325⟩ := hS.ws (wsAt_open (j := k) (show k < 17 by omega))
                refine cl_X0_74 rfl rfl dX0_choose_108 (show _ ∧ _ from ⟨(wsAt_open (j := k + 1) (show k + 1 < 17 by omega)).2.2.1, Nat.lt_of_succ_lt (wsAt_open (j := k + 1) (show k + 1 < 17 by omega)).2.2.2⟩).1 (show _ ∧ _ from ⟨(wsAt_open (j := k + 1) (show k + 1 < 17 by omega)).2.2.1, Nat.lt_of_succ_lt (wsAt_open (j := k + 1) (show k + 1 < 17 by omega)).2.2.2⟩).2 hw322.2.2.1 (Nat.le_of_ble_eq_true rfl) ((s_X10_become hw322 hw325 (by omega)).sh hS) ?_
                rintro _ h326 _ ⟨⟨rfl, eh328, rfl⟩, -, hS327, -⟩
                have p329 : h326 24 = .inr (0, [.ref 25, .ref 26, .int cc, .int kn, .int bs, .int bz]) := by rw [eh328, va_up_ne _ _ (by omega)]; exact hc
                refine r_aload_n rfl dX0_choose_111 rfl ?_
                refine r_getv 1 rfl dX0_choose_112 (show 2 ≤ 24 ∧ 24 < 434 by decide) p329 fl_X0_17 rfl ?_
                refine r_iload_n rfl dX0_choose_115 rfl ?_
                refine r_iconst (v := 1) rfl dX0_choose_116 (by decide) ?_
                refine r_iadd rfl dX0_choose_117 ?_
                refine r_eqi (y := nI (k + 1)) (nI_1 k) ?_
                refine r_aald (jn := k + 1) (v := .ref (59 + 2 * (k + 1))) rfl dX0_choose_118 (show 2 ≤ 26 ∧ 26 < 434 by decide).1 (show 2 ≤ 26 ∧ 26 < 434 by decide).2 hS327.o26 (by decide) (vp_in_nI (by omega) (by decide)) (nI_clamp (by omega)) (by show va_rf (if _ < _ then _ else _) = _; rw [if_pos (show k + 1 < 17 by omega)]; rfl) ?_
                refine r_aload_n rfl dX0_choose_119 rfl ?_
                refine r_getv 0 rfl dX0_choose_120 (show 2 ≤ 24 ∧ 24 < 434 by decide) p329 fl_X0_11 rfl ?_
                refine r_iload rfl dX0_choose_123 rfl ?_
                refine r_aald (jn := j) (v := .ref (27 + 2 * j)) rfl dX0_choose_125 (show 2 ≤ 25 ∧ 25 < 434 by decide).1 (show 2 ≤ 25 ∧ 25 < 434 by decide).2 hS327.o25 (by decide) (vp_in_nI (by omega) (by decide)) (nI_clamp (by omega)) (by show va_rf (if _ < _ then _ else _) = _; rw [if_pos (show j < 16 by omega)]; rfl) ?_
                obtain ⟨g333, hw334⟩ := hS327.ws (wsAt_open (j := k + 1) (show k + 1 < 17 by omega))
                obtain ⟨g336, hw337⟩ := hS327.ws (wsAt_hold (j := j) (show j < 16 by omega))
                refine cl_X0_58 rfl rfl dX0_choose_126 (show _ ∧ _ from ⟨(wsAt_open (j := k + 1) (show k + 1 < 17 by omega)).2.2.1, Nat.lt_of_succ_lt (wsAt_open (j := k + 1) (show k + 1 < 17 by omega)).2.2.2⟩).1 (show _ ∧ _ from ⟨(wsAt_open (j := k + 1) (show k + 1 < 17 by omega)).2.2.1, Nat.lt_of_succ_lt (wsAt_open (j := k + 1) (show k + 1 < 17 by omega)).2.2.2⟩).2 hw334.2.2.1 (Nat.le_of_ble_eq_true rfl) ((s_X10_meet hw334 hw337 (by omega)).sh hS327) ?_
                rintro _ h338 _ ⟨⟨rfl, eh340, rfl⟩, -, hS339, -⟩
                have p341 : h338 24 = .inr (0, [.ref 25, .ref 26, .int cc, .int kn, .int bs, .int bz]) := by rw [eh340, va_up_ne _ _ (by omega)]; exact p329
                refine r_aload_n rfl dX0_choose_129 rfl ?_
                refine r_iload_n rfl dX0_choose_130 rfl ?_
                refine r_iconst (v := 1) rfl dX0_choose_131 (by decide) ?_
                refine r_iadd rfl dX0_choose_132 ?_
                refine r_eqi (y := nI (k + 1)) (nI_1 k) ?_
                refine r_iload_n rfl dX0_choose_133 rfl ?_
                refine r_iload rfl dX0_choose_134 rfl ?_
                refine r_ior rfl dX0_choose_136 ?_
                refine r_iload rfl dX0_choose_137 rfl ?_
                refine cl_X0_54 rfl rfl dX0_choose_139 (show 2 ≤ 24 ∧ 24 < 434 by decide).1 (show 2 ≤ 24 ∧ 24 < 434 by decide).2 p341 (Nat.le_of_ble_eq_true rfl) ((ihm (k + 1) (by omega) h338 hS339 _ _ _ p341 _ _).sh hS339) ?_
                rintro _ h342 _ ⟨⟨rfl, y344, y345, y346, p347⟩, rfl, hS343, -⟩
                refine r_iload rfl dX0_choose_142 rfl ?_
                refine r_iload rfl dX0_choose_144 rfl ?_
                refine r_ior rfl dX0_choose_146 ?_
                refine r_topi (fun x348 e349 => ?_)
                refine r_istore (ls' := [some (.ref 24), some (.int (nI k)), some (.int ch), some (.int br), some (.int wo), some (.int x348), some (.int (nI j)), some (.int x303)]) rfl dX0_choose_147 (Nat.le_of_ble_eq_true rfl) rfl ?_
                obtain ⟨x350, e351⟩ : ∃ z : Int32, z = (nI j) + Int32.ofInt 1 := ⟨_, rfl⟩
                refine r_iinc (y := x350) (ls' := [some (.ref 24), some (.int (nI k)), some (.int ch), some (.int br), some (.int wo), some (.int x348), some (.int x350), some (.int x303)]) rfl dX0_choose_149 rfl e351.symm (Nat.le_of_ble_eq_true rfl) rfl ?_
                refine r_goto (pc' := 50) rfl dX0_choose_152 ?_
                have z352 : x350 = nI (j + 1) := by rw [e351]; exact nI_1 j
                subst z352
                exact ihn (j + 1) (by omega) h342 hS343 _ _ _ p347 wo x348 (some (.int x303))
    refine r_iload_n rfl dX0_choose_0 rfl ?_
    refine r_if_lt (tgt := 20) rfl rfl dX0_choose_1 (fun c => absurd c (nI_pos (by omega))) (fun _ => ?_)
    refine r_iload_n rfl dX0_choose_4 rfl ?_
    refine r_aload_n rfl dX0_choose_5 rfl ?_
    refine r_getv 2 rfl dX0_choose_6 (show 2 ≤ 24 ∧ 24 < 434 by decide) hc fl_X0_27 rfl ?_
    refine r_icmp_gt (tgt := 20) rfl rfl dX0_choose_9 (fun c401 => ?_) (fun c401 => ?_)
    · exact r_ret dX0_choose_20 (rt_v rfl) ⟨rfl, _, _, _, hc⟩
    · refine r_iload_n rfl dX0_choose_12 rfl ?_
      refine r_aload_n rfl dX0_choose_13 rfl ?_
      refine r_getv 5 rfl dX0_choose_14 (show 2 ≤ 24 ∧ 24 < 434 by decide) hc fl_X0_44 rfl ?_
      refine r_icmp_le (tgt := 21) rfl rfl dX0_choose_17 (fun c402 => ?_) (fun c402 => ?_)
      · refine r_aload_n rfl dX0_choose_21 rfl ?_
        refine r_getv 1 rfl dX0_choose_22 (show 2 ≤ 24 ∧ 24 < 434 by decide) hc fl_X0_17 rfl ?_
        refine r_iload_n rfl dX0_choose_25 rfl ?_
        refine r_aald (jn := k) (v := .ref (59 + 2 * k)) rfl dX0_choose_26 (show 2 ≤ 26 ∧ 26 < 434 by decide).1 (show 2 ≤ 26 ∧ 26 < 434 by decide).2 hS.o26 (by decide) (vp_in_nI (by omega) (by decide)) (nI_clamp (by omega)) (by show va_rf (if _ < _ then _ else _) = _; rw [if_pos (show k < 17 by omega)]; rfl) ?_
        obtain ⟨g405, hw406⟩ := hS.ws (wsAt_open (j := k) (show k < 17 by omega))
        refine cl_X0_62 rfl rfl dX0_choose_27 (show _ ∧ _ from ⟨(wsAt_open (j := k) (show k < 17 by omega)).2.2.1, Nat.lt_of_succ_lt (wsAt_open (j := k) (show k < 17 by omega)).2.2.2⟩).1 (show _ ∧ _ from ⟨(wsAt_open (j := k) (show k < 17 by omega)).2.2.1, Nat.lt_of_succ_lt (wsAt_open (j := k) (show k < 17 by omega)).2.2.2⟩).2 hw406.2.2.1 (Nat.le_of_ble_eq_true rfl) (s_X10_leastWorld hw406) ?_
        rintro _ h407 _ ⟨rfl, e408, rfl⟩
        replace e408 := e408.symm
        subst e408
        refine r_topi (fun x409 e410 => ?_)
        refine r_istore (ls' := [some (.ref 24), some (.int (nI k)), some (.int ch), some (.int br), some (.int x409), none, none, none]) rfl dX0_choose_30 (Nat.le_of_ble_eq_true rfl) rfl ?_
        refine r_iload rfl dX0_choose_32 rfl ?_
        refine r_if_ge (tgt := 44) rfl rfl dX0_choose_34 (fun c411 => ?_) (fun c411 => ?_)
        · refine r_iload_n rfl dX0_choose_44 rfl ?_
          refine r_istore (ls' := [some (.ref 24), some (.int (nI k)), some (.int ch), some (.int br), some (.int x409), some (.int br), none, none]) rfl dX0_choose_45 (Nat.le_of_ble_eq_true rfl) rfl ?_
          refine r_iconst (v := 0) rfl dX0_choose_47 (by decide) ?_
          refine r_istore (ls' := [some (.ref 24), some (.int (nI k)), some (.int ch), some (.int br), some (.int x409), some (.int br), some (.int 0), none]) rfl dX0_choose_48 (Nat.le_of_ble_eq_true rfl) rfl ?_
          exact loop 16 0 rfl h hS _ _ _ hc x409 br none
        · refine r_aload_n rfl dX0_choose_37 rfl ?_
          refine r_iload_n rfl dX0_choose_38 rfl ?_
          refine r_iload_n rfl dX0_choose_39 rfl ?_
          refine cl_X0_66 rfl rfl dX0_choose_40 (show 2 ≤ 24 ∧ 24 < 434 by decide).1 (show 2 ≤ 24 ∧ 24 < 434 by decide).2 hc (Nat.le_of_ble_eq_true rfl) ((s_X0_keep hS hc ).sh hS) ?_
          rintro _ h412 _ ⟨⟨rfl, y414, y415, y416, p417⟩, rfl, hS413, -⟩
          exact r_ret dX0_choose_43 (rt_v rfl) ⟨rfl, _, _, _, p417⟩
      · exact r_ret dX0_choose_20 (rt_v rfl) ⟨rfl, _, _, _, hc⟩
set_option maxRecDepth 20000 in
theorem s_X0_leastSet {xs : Nat → Int32} {L d : Nat} {h : ev_H} (hS : SH h) {cc kn bs bz : Int32} (hc : h 24 = c24 cc kn bs bz) (hcc : cc.toInt ≤ 16)  : EV xs L (d + 21) 0 0 M_X0_leastSet 434 h 0 [some (.ref 24)] [] (fun sz' h' r => (∃ x : Int32, r = [.int x]) ∧ ∃ kn bs bz, h' 24 = c24 cc kn bs bz) := by
  refine r_aload_n rfl dX0_leastSet_0 rfl ?_
  refine r_getv 3 rfl dX0_leastSet_1 (show 2 ≤ 24 ∧ 24 < 434 by decide) hc fl_X0_37 rfl ?_
  refine r_if_ne (tgt := 47) rfl rfl dX0_leastSet_4 (fun c51 => ?_) (fun c51 => ?_)
  · refine r_aload_n rfl dX0_leastSet_47 rfl ?_
    refine r_getv 4 rfl dX0_leastSet_48 (show 2 ≤ 24 ∧ 24 < 434 by decide) hc fl_X0_41 rfl ?_
    exact r_ret dX0_leastSet_51 (rt_i rfl) ⟨⟨_, rfl⟩, _, _, _, hc⟩
  · refine r_aload_n rfl dX0_leastSet_7 rfl ?_
    refine r_bipush (v := (-9)) rfl dX0_leastSet_8 (by decide) ?_
    refine k_putx 4 (fs' := [.ref 25, .ref 26, .int cc, .int kn, .int (-9), .int bz]) rfl dX0_leastSet_10 (show 2 ≤ 24 ∧ 24 < 434 by decide) hS hc (fp_X0_41 rfl _) (Nat.le_of_ble_eq_true rfl) rfl (fun h52 eh54 hS53 => ?_)
    have p55 : h52 24 = .inr (0, [.ref 25, .ref 26, .int cc, .int kn, .int (-9), .int bz]) := by rw [eh54]; exact va_up_self _ _ _
    refine r_aload_n rfl dX0_leastSet_13 rfl ?_
    refine r_bipush (v := 17) rfl dX0_leastSet_14 (by decide) ?_
    refine k_putx 5 (fs' := [.ref 25, .ref 26, .int cc, .int kn, .int (-9), .int 17]) rfl dX0_leastSet_16 (show 2 ≤ 24 ∧ 24 < 434 by decide) hS53 p55 (fp_X0_44 rfl _) (Nat.le_of_ble_eq_true rfl) rfl (fun h56 eh58 hS57 => ?_)
    have p59 : h56 24 = .inr (0, [.ref 25, .ref 26, .int cc, .int kn, .int (-9), .int 17]) := by rw [eh58]; exact va_up_self _ _ _
    refine r_aload_n rfl dX0_leastSet_19 rfl ?_
    refine cl_X0_47 rfl rfl dX0_leastSet_20 (show 2 ≤ 24 ∧ 24 < 434 by decide).1 (show 2 ≤ 24 ∧ 24 < 434 by decide).2 p59 (Nat.le_of_ble_eq_true rfl) ((s_X0_allClash hS57 p59 hcc ).sh hS57) ?_
    rintro _ h60 _ ⟨⟨⟨x66, rfl⟩, y62, y63, y64, p65⟩, rfl, hS61, -⟩
    refine r_if_eq (tgt := 42) rfl rfl dX0_leastSet_23 (fun c67 => ?_) (fun c67 => ?_)
    · refine r_aload_n rfl dX0_leastSet_42 rfl ?_
      refine r_iconst (v := 1) rfl dX0_leastSet_43 (by decide) ?_
      refine k_putx 3 (fs' := [.ref 25, .ref 26, .int cc, .int 1, .int y63, .int y64]) rfl dX0_leastSet_44 (show 2 ≤ 24 ∧ 24 < 434 by decide) hS61 p65 (fp_X0_37 rfl _ (Or.inr rfl)) (Nat.le_of_ble_eq_true rfl) rfl (fun h68 eh70 hS69 => ?_)
      have p71 : h68 24 = .inr (0, [.ref 25, .ref 26, .int cc, .int 1, .int y63, .int y64]) := by rw [eh70]; exact va_up_self _ _ _
      refine r_aload_n rfl dX0_leastSet_47 rfl ?_
      refine r_getv 4 rfl dX0_leastSet_48 (show 2 ≤ 24 ∧ 24 < 434 by decide) p71 fl_X0_41 rfl ?_
      exact r_ret dX0_leastSet_51 (rt_i rfl) ⟨⟨_, rfl⟩, _, _, _, p71⟩
    · refine r_aload_n rfl dX0_leastSet_26 rfl ?_
      refine r_getv 1 rfl dX0_leastSet_27 (show 2 ≤ 24 ∧ 24 < 434 by decide) p65 fl_X0_17 rfl ?_
      refine r_iconst (v := 0) rfl dX0_leastSet_30 (by decide) ?_
      refine r_aald (jn := 0) (v := .ref (59 + 2 * 0)) rfl dX0_leastSet_31 (show 2 ≤ 26 ∧ 26 < 434 by decide).1 (show 2 ≤ 26 ∧ 26 < 434 by decide).2 hS61.o26 (by decide) (by unfold vp_in; decide) rfl (by show va_rf (if _ < _ then _ else _) = _; rw [if_pos (show 0 < 17 by decide)]; rfl) ?_
      obtain ⟨g74, hw75⟩ := hS61.ws (wsAt_open (j := 0) (show 0 < 17 by decide))
      refine cl_X0_51 rfl rfl dX0_leastSet_32 (show _ ∧ _ from ⟨(wsAt_open (j := 0) (show 0 < 17 by decide)).2.2.1, Nat.lt_of_succ_lt (wsAt_open (j := 0) (show 0 < 17 by decide)).2.2.2⟩).1 (show _ ∧ _ from ⟨(wsAt_open (j := 0) (show 0 < 17 by decide)).2.2.1, Nat.lt_of_succ_lt (wsAt_open (j := 0) (show 0 < 17 by decide)).2.2.2⟩).2 hw75.2.2.1 (Nat.le_of_ble_eq_true rfl) ((s_X10_fill hw75).sh hS61) ?_
      rintro _ h76 _ ⟨⟨rfl, eh78, rfl⟩, -, hS77, -⟩
      have p79 : h76 24 = .inr (0, [.ref 25, .ref 26, .int cc, .int y62, .int y63, .int y64]) := by rw [eh78, va_up_ne _ _ (by omega)]; exact p65
      refine r_aload_n rfl dX0_leastSet_35 rfl ?_
      refine r_iconst (v := 0) rfl dX0_leastSet_36 (by decide) ?_
      refine r_iconst (v := 0) rfl dX0_leastSet_37 (by decide) ?_
      refine r_iconst (v := 0) rfl dX0_leastSet_38 (by decide) ?_
      refine cl_X0_54 rfl rfl dX0_leastSet_39 (show 2 ≤ 24 ∧ 24 < 434 by decide).1 (show 2 ≤ 24 ∧ 24 < 434 by decide).2 p79 (Nat.le_of_ble_eq_true rfl) ((s_X0_choose hcc 17 0 rfl h76 hS77 _ _ _ p79 _ _).sh hS77) ?_
      rintro _ h80 _ ⟨⟨rfl, y82, y83, y84, p85⟩, rfl, hS81, -⟩
      refine r_aload_n rfl dX0_leastSet_42 rfl ?_
      refine r_iconst (v := 1) rfl dX0_leastSet_43 (by decide) ?_
      refine k_putx 3 (fs' := [.ref 25, .ref 26, .int cc, .int 1, .int y83, .int y84]) rfl dX0_leastSet_44 (show 2 ≤ 24 ∧ 24 < 434 by decide) hS81 p85 (fp_X0_37 rfl _ (Or.inr rfl)) (Nat.le_of_ble_eq_true rfl) rfl (fun h86 eh88 hS87 => ?_)
      have p89 : h86 24 = .inr (0, [.ref 25, .ref 26, .int cc, .int 1, .int y83, .int y84]) := by rw [eh88]; exact va_up_self _ _ _
      refine r_aload_n rfl dX0_leastSet_47 rfl ?_
      refine r_getv 4 rfl dX0_leastSet_48 (show 2 ≤ 24 ∧ 24 < 434 by decide) p89 fl_X0_41 rfl ?_
      exact r_ret dX0_leastSet_51 (rt_i rfl) ⟨⟨_, rfl⟩, _, _, _, p89⟩
