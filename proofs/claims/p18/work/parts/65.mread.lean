theorem dX12_isWell_0 : decode cX12_isWell 0 = .ok (.aload_n 0, 1) := by decide +kernel
theorem dX12_isWell_1 : decode cX12_isWell 1 = .ok (.getfield 89, 3) := by decide +kernel
theorem dX12_isWell_4 : decode cX12_isWell 4 = .ok (.ifCond .ge 7, 3) := by decide +kernel
theorem dX12_isWell_7 : decode cX12_isWell 7 = .ok (.iconst 1, 1) := by decide +kernel
theorem dX12_isWell_8 : decode cX12_isWell 8 = .ok (.goto 4, 3) := by decide +kernel
theorem dX12_isWell_11 : decode cX12_isWell 11 = .ok (.iconst 0, 1) := by decide +kernel
theorem dX12_isWell_12 : decode cX12_isWell 12 = .ok (.ireturn, 1) := by decide +kernel
theorem dX12_wants_0 : decode cX12_wants 0 = .ok (.aload_n 0, 1) := by decide +kernel
theorem dX12_wants_1 : decode cX12_wants 1 = .ok (.invokevirtual 92, 3) := by decide +kernel
theorem dX12_wants_4 : decode cX12_wants 4 = .ok (.ifCond .eq 15, 3) := by decide +kernel
theorem dX12_wants_7 : decode cX12_wants 7 = .ok (.iload_n 1, 1) := by decide +kernel
theorem dX12_wants_8 : decode cX12_wants 8 = .ok (.ifCond .ne 11, 3) := by decide +kernel
theorem dX12_wants_11 : decode cX12_wants 11 = .ok (.aload_n 0, 1) := by decide +kernel
theorem dX12_wants_12 : decode cX12_wants 12 = .ok (.aload_n 0, 1) := by decide +kernel
theorem dX12_wants_13 : decode cX12_wants 13 = .ok (.getfield 69, 3) := by decide +kernel
theorem dX12_wants_16 : decode cX12_wants 16 = .ok (.putfield 89, 3) := by decide +kernel
theorem dX12_wants_19 : decode cX12_wants 19 = .ok (.return_, 1) := by decide +kernel
theorem dX12_goesOn_0 : decode cX12_goesOn 0 = .ok (.aload_n 0, 1) := by decide +kernel
theorem dX12_goesOn_1 : decode cX12_goesOn 1 = .ok (.invokevirtual 92, 3) := by decide +kernel
theorem dX12_goesOn_4 : decode cX12_goesOn 4 = .ok (.ifCond .eq 7, 3) := by decide +kernel
theorem dX12_goesOn_7 : decode cX12_goesOn 7 = .ok (.aload_n 0, 1) := by decide +kernel
theorem dX12_goesOn_8 : decode cX12_goesOn 8 = .ok (.invokevirtual 96, 3) := by decide +kernel
theorem dX12_goesOn_11 : decode cX12_goesOn 11 = .ok (.return_, 1) := by decide +kernel
theorem dX12_begins_0 : decode cX12_begins 0 = .ok (.aload_n 0, 1) := by decide +kernel
theorem dX12_begins_1 : decode cX12_begins 1 = .ok (.iconst (-1), 1) := by decide +kernel
theorem dX12_begins_2 : decode cX12_begins 2 = .ok (.putfield 89, 3) := by decide +kernel
theorem dX12_begins_5 : decode cX12_begins 5 = .ok (.aload_n 0, 1) := by decide +kernel
theorem dX12_begins_6 : decode cX12_begins 6 = .ok (.iconst 0, 1) := by decide +kernel
theorem dX12_begins_7 : decode cX12_begins 7 = .ok (.putfield 82, 3) := by decide +kernel
theorem dX12_begins_10 : decode cX12_begins 10 = .ok (.aload_n 0, 1) := by decide +kernel
theorem dX12_begins_11 : decode cX12_begins 11 = .ok (.invokevirtual 96, 3) := by decide +kernel
theorem dX12_begins_14 : decode cX12_begins 14 = .ok (.return_, 1) := by decide +kernel
theorem dX12_readsClause_0 : decode cX12_readsClause 0 = .ok (.aload_n 0, 1) := by decide +kernel
theorem dX12_readsClause_1 : decode cX12_readsClause 1 = .ok (.aload_n 0, 1) := by decide +kernel
theorem dX12_readsClause_2 : decode cX12_readsClause 2 = .ok (.getfield 76, 3) := by decide +kernel
theorem dX12_readsClause_5 : decode cX12_readsClause 5 = .ok (.iconst 2, 1) := by decide +kernel
theorem dX12_readsClause_6 : decode cX12_readsClause 6 = .ok (.if_icmp .ne 7, 3) := by decide +kernel
theorem dX12_readsClause_9 : decode cX12_readsClause 9 = .ok (.iconst 1, 1) := by decide +kernel
theorem dX12_readsClause_10 : decode cX12_readsClause 10 = .ok (.goto 4, 3) := by decide +kernel
theorem dX12_readsClause_13 : decode cX12_readsClause 13 = .ok (.iconst 0, 1) := by decide +kernel
theorem dX12_readsClause_14 : decode cX12_readsClause 14 = .ok (.invokevirtual 99, 3) := by decide +kernel
theorem dX12_readsClause_17 : decode cX12_readsClause 17 = .ok (.aload_n 0, 1) := by decide +kernel
theorem dX12_readsClause_18 : decode cX12_readsClause 18 = .ok (.getfield 20, 3) := by decide +kernel
theorem dX12_readsClause_21 : decode cX12_readsClause 21 = .ok (.iload_n 1, 1) := by decide +kernel
theorem dX12_readsClause_22 : decode cX12_readsClause 22 = .ok (.iconst 0, 1) := by decide +kernel
theorem dX12_readsClause_23 : decode cX12_readsClause 23 = .ok (.iastore, 1) := by decide +kernel
theorem dX12_readsClause_24 : decode cX12_readsClause 24 = .ok (.aload_n 0, 1) := by decide +kernel
theorem dX12_readsClause_25 : decode cX12_readsClause 25 = .ok (.getfield 20, 3) := by decide +kernel
theorem dX12_readsClause_28 : decode cX12_readsClause 28 = .ok (.iload_n 1, 1) := by decide +kernel
theorem dX12_readsClause_29 : decode cX12_readsClause 29 = .ok (.iconst 1, 1) := by decide +kernel
theorem dX12_readsClause_30 : decode cX12_readsClause 30 = .ok (.iadd, 1) := by decide +kernel
theorem dX12_readsClause_31 : decode cX12_readsClause 31 = .ok (.iconst 0, 1) := by decide +kernel
theorem dX12_readsClause_32 : decode cX12_readsClause 32 = .ok (.iastore, 1) := by decide +kernel
theorem dX12_readsClause_33 : decode cX12_readsClause 33 = .ok (.aload_n 0, 1) := by decide +kernel
theorem dX12_readsClause_34 : decode cX12_readsClause 34 = .ok (.getfield 20, 3) := by decide +kernel
theorem dX12_readsClause_37 : decode cX12_readsClause 37 = .ok (.iload_n 1, 1) := by decide +kernel
theorem dX12_readsClause_38 : decode cX12_readsClause 38 = .ok (.iconst 2, 1) := by decide +kernel
theorem dX12_readsClause_39 : decode cX12_readsClause 39 = .ok (.iadd, 1) := by decide +kernel
theorem dX12_readsClause_40 : decode cX12_readsClause 40 = .ok (.aload_n 0, 1) := by decide +kernel
theorem dX12_readsClause_41 : decode cX12_readsClause 41 = .ok (.getfield 79, 3) := by decide +kernel
theorem dX12_readsClause_44 : decode cX12_readsClause 44 = .ok (.iastore, 1) := by decide +kernel
theorem dX12_readsClause_45 : decode cX12_readsClause 45 = .ok (.aload_n 0, 1) := by decide +kernel
theorem dX12_readsClause_46 : decode cX12_readsClause 46 = .ok (.invokevirtual 103, 3) := by decide +kernel
theorem dX12_readsClause_49 : decode cX12_readsClause 49 = .ok (.aload_n 0, 1) := by decide +kernel
theorem dX12_readsClause_50 : decode cX12_readsClause 50 = .ok (.invokevirtual 92, 3) := by decide +kernel
theorem dX12_readsClause_53 : decode cX12_readsClause 53 = .ok (.ifCond .eq 115, 3) := by decide +kernel
theorem dX12_readsClause_56 : decode cX12_readsClause 56 = .ok (.aload_n 0, 1) := by decide +kernel
theorem dX12_readsClause_57 : decode cX12_readsClause 57 = .ok (.getfield 76, 3) := by decide +kernel
theorem dX12_readsClause_60 : decode cX12_readsClause 60 = .ok (.bipush 6, 2) := by decide +kernel
theorem dX12_readsClause_62 : decode cX12_readsClause 62 = .ok (.if_icmp .eq 106, 3) := by decide +kernel
theorem dX12_readsClause_65 : decode cX12_readsClause 65 = .ok (.aload_n 0, 1) := by decide +kernel
theorem dX12_readsClause_66 : decode cX12_readsClause 66 = .ok (.getfield 76, 3) := by decide +kernel
theorem dX12_readsClause_69 : decode cX12_readsClause 69 = .ok (.iconst 5, 1) := by decide +kernel
theorem dX12_readsClause_70 : decode cX12_readsClause 70 = .ok (.if_icmp .ne 7, 3) := by decide +kernel
theorem dX12_readsClause_73 : decode cX12_readsClause 73 = .ok (.iconst 1, 1) := by decide +kernel
theorem dX12_readsClause_74 : decode cX12_readsClause 74 = .ok (.goto 4, 3) := by decide +kernel
theorem dX12_readsClause_77 : decode cX12_readsClause 77 = .ok (.iconst 0, 1) := by decide +kernel
theorem dX12_readsClause_78 : decode cX12_readsClause 78 = .ok (.istore_n 2, 1) := by decide +kernel
theorem dX12_readsClause_79 : decode cX12_readsClause 79 = .ok (.iload_n 2, 1) := by decide +kernel
theorem dX12_readsClause_80 : decode cX12_readsClause 80 = .ok (.ifCond .eq 7, 3) := by decide +kernel
theorem dX12_readsClause_83 : decode cX12_readsClause 83 = .ok (.aload_n 0, 1) := by decide +kernel
theorem dX12_readsClause_84 : decode cX12_readsClause 84 = .ok (.invokevirtual 96, 3) := by decide +kernel
theorem dX12_readsClause_87 : decode cX12_readsClause 87 = .ok (.aload_n 0, 1) := by decide +kernel
theorem dX12_readsClause_88 : decode cX12_readsClause 88 = .ok (.aload_n 0, 1) := by decide +kernel
theorem dX12_readsClause_89 : decode cX12_readsClause 89 = .ok (.getfield 76, 3) := by decide +kernel
theorem dX12_readsClause_92 : decode cX12_readsClause 92 = .ok (.iconst 1, 1) := by decide +kernel
theorem dX12_readsClause_93 : decode cX12_readsClause 93 = .ok (.if_icmp .ne 32, 3) := by decide +kernel
theorem dX12_readsClause_96 : decode cX12_readsClause 96 = .ok (.aload_n 0, 1) := by decide +kernel
theorem dX12_readsClause_97 : decode cX12_readsClause 97 = .ok (.getfield 20, 3) := by decide +kernel
theorem dX12_readsClause_100 : decode cX12_readsClause 100 = .ok (.iload_n 1, 1) := by decide +kernel
theorem dX12_readsClause_101 : decode cX12_readsClause 101 = .ok (.iaload, 1) := by decide +kernel
theorem dX12_readsClause_102 : decode cX12_readsClause 102 = .ok (.aload_n 0, 1) := by decide +kernel
theorem dX12_readsClause_103 : decode cX12_readsClause 103 = .ok (.getfield 20, 3) := by decide +kernel
theorem dX12_readsClause_106 : decode cX12_readsClause 106 = .ok (.iload_n 1, 1) := by decide +kernel
theorem dX12_readsClause_107 : decode cX12_readsClause 107 = .ok (.iconst 1, 1) := by decide +kernel
theorem dX12_readsClause_108 : decode cX12_readsClause 108 = .ok (.iadd, 1) := by decide +kernel
theorem dX12_readsClause_109 : decode cX12_readsClause 109 = .ok (.iaload, 1) := by decide +kernel
theorem dX12_readsClause_110 : decode cX12_readsClause 110 = .ok (.ior, 1) := by decide +kernel
theorem dX12_readsClause_111 : decode cX12_readsClause 111 = .ok (.aload_n 0, 1) := by decide +kernel
theorem dX12_readsClause_112 : decode cX12_readsClause 112 = .ok (.getfield 79, 3) := by decide +kernel
theorem dX12_readsClause_115 : decode cX12_readsClause 115 = .ok (.ishr, 1) := by decide +kernel
theorem dX12_readsClause_116 : decode cX12_readsClause 116 = .ok (.iconst 1, 1) := by decide +kernel
theorem dX12_readsClause_117 : decode cX12_readsClause 117 = .ok (.iand, 1) := by decide +kernel
theorem dX12_readsClause_118 : decode cX12_readsClause 118 = .ok (.ifCond .ne 7, 3) := by decide +kernel
theorem dX12_readsClause_121 : decode cX12_readsClause 121 = .ok (.iconst 1, 1) := by decide +kernel
theorem dX12_readsClause_122 : decode cX12_readsClause 122 = .ok (.goto 4, 3) := by decide +kernel
theorem dX12_readsClause_125 : decode cX12_readsClause 125 = .ok (.iconst 0, 1) := by decide +kernel
theorem dX12_readsClause_126 : decode cX12_readsClause 126 = .ok (.invokevirtual 99, 3) := by decide +kernel
theorem dX12_readsClause_129 : decode cX12_readsClause 129 = .ok (.aload_n 0, 1) := by decide +kernel
theorem dX12_readsClause_130 : decode cX12_readsClause 130 = .ok (.invokevirtual 92, 3) := by decide +kernel
theorem dX12_readsClause_133 : decode cX12_readsClause 133 = .ok (.ifCond .eq 32, 3) := by decide +kernel
theorem dX12_readsClause_136 : decode cX12_readsClause 136 = .ok (.aload_n 0, 1) := by decide +kernel
theorem dX12_readsClause_137 : decode cX12_readsClause 137 = .ok (.getfield 20, 3) := by decide +kernel
theorem dX12_readsClause_140 : decode cX12_readsClause 140 = .ok (.iload_n 2, 1) := by decide +kernel
theorem dX12_readsClause_141 : decode cX12_readsClause 141 = .ok (.ifCond .eq 9, 3) := by decide +kernel
theorem dX12_readsClause_144 : decode cX12_readsClause 144 = .ok (.iload_n 1, 1) := by decide +kernel
theorem dX12_readsClause_145 : decode cX12_readsClause 145 = .ok (.iconst 1, 1) := by decide +kernel
theorem dX12_readsClause_146 : decode cX12_readsClause 146 = .ok (.iadd, 1) := by decide +kernel
theorem dX12_readsClause_147 : decode cX12_readsClause 147 = .ok (.goto 4, 3) := by decide +kernel
theorem dX12_readsClause_150 : decode cX12_readsClause 150 = .ok (.iload_n 1, 1) := by decide +kernel
theorem dX12_readsClause_151 : decode cX12_readsClause 151 = .ok (.dup2, 1) := by decide +kernel
theorem dX12_readsClause_152 : decode cX12_readsClause 152 = .ok (.iaload, 1) := by decide +kernel
theorem dX12_readsClause_153 : decode cX12_readsClause 153 = .ok (.iconst 1, 1) := by decide +kernel
theorem dX12_readsClause_154 : decode cX12_readsClause 154 = .ok (.aload_n 0, 1) := by decide +kernel
theorem dX12_readsClause_155 : decode cX12_readsClause 155 = .ok (.getfield 79, 3) := by decide +kernel
theorem dX12_readsClause_158 : decode cX12_readsClause 158 = .ok (.ishl, 1) := by decide +kernel
theorem dX12_readsClause_159 : decode cX12_readsClause 159 = .ok (.ior, 1) := by decide +kernel
theorem dX12_readsClause_160 : decode cX12_readsClause 160 = .ok (.iastore, 1) := by decide +kernel
theorem dX12_readsClause_161 : decode cX12_readsClause 161 = .ok (.aload_n 0, 1) := by decide +kernel
theorem dX12_readsClause_162 : decode cX12_readsClause 162 = .ok (.invokevirtual 96, 3) := by decide +kernel
theorem dX12_readsClause_165 : decode cX12_readsClause 165 = .ok (.goto (-116), 3) := by decide +kernel
theorem dX12_readsClause_168 : decode cX12_readsClause 168 = .ok (.aload_n 0, 1) := by decide +kernel
theorem dX12_readsClause_169 : decode cX12_readsClause 169 = .ok (.invokevirtual 103, 3) := by decide +kernel
theorem dX12_readsClause_172 : decode cX12_readsClause 172 = .ok (.return_, 1) := by decide +kernel
set_option maxRecDepth 20000 in
set_option maxHeartbeats 1000000 in
theorem s_X12_isWell1 {xs : Nat → Int32} {L d : Nat} {h : ev_H} {th : Int32} {tr : Int64} {ty nx tk pl va cl md ss wg : Int32} (hS : SH h) (h5 : h 420 = c420 th tr ty nx tk pl va (-1) cl md ss wg) : EV xs L (d + 0) 0 0 M_X12_isWell 434 h 0 [some (.ref 420)] [] (fun sz' h' r => sz' = 434 ∧ h' = h ∧ r = [.int 1]) := by
  refine r_aload_n rfl dX12_isWell_0 rfl ?_
  refine r_getv 8 rfl dX12_isWell_1 (show 2 ≤ 420 ∧ 420 < 434 by decide) h5 fl_X12_89 rfl ?_
  refine r_if_ge (tgt := 11) rfl rfl dX12_isWell_4 (fun zc => absurd zc (by decide)) (fun _ => ?_)
  refine r_iconst (v := 1) rfl dX12_isWell_7 (by decide) ?_
  refine r_goto (pc' := 12) rfl dX12_isWell_8 ?_
  exact r_ret dX12_isWell_12 (rt_z rfl (Or.inr rfl)) ⟨rfl, rfl, rfl⟩
set_option maxRecDepth 20000 in
set_option maxHeartbeats 1000000 in
theorem s_X12_isWell0 {xs : Nat → Int32} {L d : Nat} {h : ev_H} {th : Int32} {tr : Int64} {ty nx tk pl va cl md ss wg : Int32} {q : Nat} (hS : SH h) (h5 : h 420 = c420 th tr ty nx tk pl va (nI q) cl md ss wg) (hq : q < 2 ^ 31) : EV xs L (d + 0) 0 0 M_X12_isWell 434 h 0 [some (.ref 420)] [] (fun sz' h' r => sz' = 434 ∧ h' = h ∧ r = [.int 0]) := by
  refine r_aload_n rfl dX12_isWell_0 rfl ?_
  refine r_getv 8 rfl dX12_isWell_1 (show 2 ≤ 420 ∧ 420 < 434 by decide) h5 fl_X12_89 rfl ?_
  refine r_if_ge (tgt := 11) rfl rfl dX12_isWell_4 (fun _ => ?_) (fun zc => absurd (nI_pos' (by omega)) zc)
  refine r_iconst (v := 0) rfl dX12_isWell_11 (by decide) ?_
  exact r_ret dX12_isWell_12 (rt_z rfl (Or.inl rfl)) ⟨rfl, rfl, rfl⟩
set_option maxRecDepth 20000 in
set_option maxHeartbeats 1000000 in
theorem s_X12_wants1 {xs : Nat → Int32} {L d : Nat} {h : ev_H} {th : Int32} {tr : Int64} {ty nx tk pl va cl md ss wg : Int32} (hS : SH h) (h5 : h 420 = c420 th tr ty nx tk pl va (-1) cl md ss wg) : EV xs L (d + 1) 0 0 M_X12_wants 434 h 0 [some (.ref 420), some (.int 1)] [] (fun sz' h' r => sz' = 434 ∧ SH h' ∧ KM [420] h h' ∧ (h' 420 = c420 th tr ty nx tk pl va (-1) cl md ss wg ∧ r = [])) := by
  refine r_aload_n rfl dX12_wants_0 rfl ?_
  refine cl_X12_92 rfl rfl dX12_wants_1 (show 2 ≤ 420 ∧ 420 < 434 by decide).1 (show 2 ≤ 420 ∧ 420 < 434 by decide).2 h5 (Nat.le_of_ble_eq_true rfl) (s_X12_isWell1 hS h5) ?_
  rintro _ h51 _ ⟨rfl, e52, rfl⟩
  replace e52 := e52.symm
  subst e52
  refine r_if_eq (tgt := 19) rfl rfl dX12_wants_4 (fun zc => absurd zc (by decide)) (fun _ => ?_)
  refine r_iload_n rfl dX12_wants_7 rfl ?_
  refine r_if_ne (tgt := 19) rfl rfl dX12_wants_8 (fun _ => ?_) (fun zc => absurd zc (by decide))
  exact r_ret dX12_wants_19 (rt_v rfl) ⟨rfl, hS, (KM_rf (Mod := [420]) h), h5, rfl⟩
set_option maxRecDepth 20000 in
set_option maxHeartbeats 1000000 in
theorem s_X12_wants0 {xs : Nat → Int32} {L d : Nat} {h : ev_H} {th : Int32} {tr : Int64} {ty nx tk pl va cl md ss wg : Int32} (hS : SH h) (h5 : h 420 = c420 th tr ty nx tk pl va (-1) cl md ss wg) : EV xs L (d + 1) 0 0 M_X12_wants 434 h 0 [some (.ref 420), some (.int 0)] [] (fun sz' h' r => sz' = 434 ∧ SH h' ∧ KM [420] h h' ∧ (h' 420 = c420 th tr ty nx tk pl va pl cl md ss wg ∧ r = [])) := by
  refine r_aload_n rfl dX12_wants_0 rfl ?_
  refine cl_X12_92 rfl rfl dX12_wants_1 (show 2 ≤ 420 ∧ 420 < 434 by decide).1 (show 2 ≤ 420 ∧ 420 < 434 by decide).2 h5 (Nat.le_of_ble_eq_true rfl) (s_X12_isWell1 hS h5) ?_
  rintro _ h51 _ ⟨rfl, e52, rfl⟩
  replace e52 := e52.symm
  subst e52
  refine r_if_eq (tgt := 19) rfl rfl dX12_wants_4 (fun zc => absurd zc (by decide)) (fun _ => ?_)
  refine r_iload_n rfl dX12_wants_7 rfl ?_
  refine r_if_ne (tgt := 19) rfl rfl dX12_wants_8 (fun zc => absurd zc (by decide)) (fun _ => ?_)
  refine r_aload_n rfl dX12_wants_11 rfl ?_
  refine r_aload_n rfl dX12_wants_12 rfl ?_
  refine r_getv 6 rfl dX12_wants_13 (show 2 ≤ 420 ∧ 420 < 434 by decide) h5 fl_X12_69 rfl ?_
  refine e_put 8 (fs' := [.int th, .long tr, .ref 421, .int ty, .int nx, .int tk, .int pl, .int va, .int pl, .int cl, .int md, .int ss, .int wg, .ref 422, .ref 423, .ref 424, .ref 425, .ref 426, .ref 427, .ref 428, .ref 429, .ref 430, .ref 431, .ref 432, .ref 433]) rfl dX12_wants_16 (show 2 ≤ 420 ∧ 420 < 434 by decide) hS (KM_rf (Mod := [420]) h) (by decide) h5 (fp_X12_89 rfl _) (Nat.le_of_ble_eq_true rfl) rfl (fun h53 hS54 hF55 hN56 f57 => ?_)
  exact r_ret dX12_wants_19 (rt_v rfl) ⟨rfl, hS54, hF55, f57, rfl⟩
set_option maxRecDepth 20000 in
set_option maxHeartbeats 1000000 in
theorem s_X12_wantsF {xs : Nat → Int32} {L d : Nat} {h : ev_H} {th : Int32} {tr : Int64} {ty nx tk pl va cl md ss wg : Int32} {q : Nat} {x : Int32} (hS : SH h) (h5 : h 420 = c420 th tr ty nx tk pl va (nI q) cl md ss wg) (hq : q < 2 ^ 31) : EV xs L (d + 1) 0 0 M_X12_wants 434 h 0 [some (.ref 420), some (.int x)] [] (fun sz' h' r => sz' = 434 ∧ SH h' ∧ KM [420] h h' ∧ (h' 420 = c420 th tr ty nx tk pl va (nI q) cl md ss wg ∧ r = [])) := by
  refine r_aload_n rfl dX12_wants_0 rfl ?_
  refine cl_X12_92 rfl rfl dX12_wants_1 (show 2 ≤ 420 ∧ 420 < 434 by decide).1 (show 2 ≤ 420 ∧ 420 < 434 by decide).2 h5 (Nat.le_of_ble_eq_true rfl) (s_X12_isWell0 hS h5 (by omega)) ?_
  rintro _ h51 _ ⟨rfl, e52, rfl⟩
  replace e52 := e52.symm
  subst e52
  refine r_if_eq (tgt := 19) rfl rfl dX12_wants_4 (fun _ => ?_) (fun zc => absurd zc (by decide))
  exact r_ret dX12_wants_19 (rt_v rfl) ⟨rfl, hS, (KM_rf (Mod := [420]) h), h5, rfl⟩
set_option maxRecDepth 20000 in
set_option maxHeartbeats 1000000 in
theorem s_X12_goesOn1 {xs : Nat → Int32} {L d : Nat} {h : ev_H} {th : Int32} {tr : Int64} {tk pl va cl md ss wg : Int32} {f g : Nat → Int32} {n p : Nat} (hS : SH h) (hX : TXR f g n) (hp : p ≤ n) (h5 : h 420 = c420 th tr (nI n) (nI p) tk pl va (-1) cl md ss wg) (h6 : h 421 = c421 g) : EV xs L (d + 3) 0 0 M_X12_goesOn 434 h 0 [some (.ref 420)] [] (fun sz' h' r => sz' = 434 ∧ SH h' ∧ KM [420] h h' ∧ ((∃ w, h' 420 = c420 th tr (nI n) (nI (rdP f n p)) (kmap (tK f n p)) (nI (rdS f n p)) w (-1) cl md ss wg ∧ (tK f n p = 1 ∨ tK f n p = 3 ∨ tK f n p = 4 → w = tV f n p)) ∧ r = [])) := by
  refine r_aload_n rfl dX12_goesOn_0 rfl ?_
  refine cl_X12_92 rfl rfl dX12_goesOn_1 (show 2 ≤ 420 ∧ 420 < 434 by decide).1 (show 2 ≤ 420 ∧ 420 < 434 by decide).2 h5 (Nat.le_of_ble_eq_true rfl) (s_X12_isWell1 hS h5) ?_
  rintro _ h51 _ ⟨rfl, e52, rfl⟩
  replace e52 := e52.symm
  subst e52
  refine r_if_eq (tgt := 11) rfl rfl dX12_goesOn_4 (fun zc => absurd zc (by decide)) (fun _ => ?_)
  refine r_aload_n rfl dX12_goesOn_7 rfl ?_
  refine cl_X12_96 rfl rfl dX12_goesOn_8 (show 2 ≤ 420 ∧ 420 < 434 by decide).1 (show 2 ≤ 420 ∧ 420 < 434 by decide).2 h5 (Nat.le_of_ble_eq_true rfl) (m_adv hS hX hp h5 h6) ?_
  rintro _ h53 _ ⟨rfl, hS54, hK55, ⟨w58, f56, hw59⟩, rfl⟩
  have hF57 := KM_tr (KM_rf (Mod := [420]) h) (KM_sb (by decide) hK55)
  have hl60 := (rdS_le f hp).2
  have f61 : h53 421 = .inl (0, 300, .inl g) := (hK55 421 (by decide)).trans h6
  exact r_ret dX12_goesOn_11 (rt_v rfl) ⟨rfl, hS54, hF57, ⟨_, f56, hw59⟩, rfl⟩
set_option maxRecDepth 20000 in
set_option maxHeartbeats 1000000 in
theorem s_X12_goesOnF {xs : Nat → Int32} {L d : Nat} {h : ev_H} {th : Int32} {tr : Int64} {ty nx tk pl va cl md ss wg : Int32} {q : Nat} (hS : SH h) (h5 : h 420 = c420 th tr ty nx tk pl va (nI q) cl md ss wg) (hq : q < 2 ^ 31) : EV xs L (d + 3) 0 0 M_X12_goesOn 434 h 0 [some (.ref 420)] [] (fun sz' h' r => sz' = 434 ∧ SH h' ∧ KM [420] h h' ∧ (h' = h ∧ r = [])) := by
  refine r_aload_n rfl dX12_goesOn_0 rfl ?_
  refine cl_X12_92 rfl rfl dX12_goesOn_1 (show 2 ≤ 420 ∧ 420 < 434 by decide).1 (show 2 ≤ 420 ∧ 420 < 434 by decide).2 h5 (Nat.le_of_ble_eq_true rfl) (s_X12_isWell0 hS h5 (by omega)) ?_
  rintro _ h51 _ ⟨rfl, e52, rfl⟩
  replace e52 := e52.symm
  subst e52
  refine r_if_eq (tgt := 11) rfl rfl dX12_goesOn_4 (fun _ => ?_) (fun zc => absurd zc (by decide))
  exact r_ret dX12_goesOn_11 (rt_v rfl) ⟨rfl, hS, (KM_rf (Mod := [420]) h), rfl, rfl⟩
set_option maxRecDepth 20000 in
set_option maxHeartbeats 1000000 in
theorem s_X12_begins {xs : Nat → Int32} {L d : Nat} {h : ev_H} {th : Int32} {tr : Int64} {nx tk pl va fa cl md ss wg : Int32} {f g : Nat → Int32} {n : Nat} (hS : SH h) (hX : TXR f g n) (h5 : h 420 = c420 th tr (nI n) nx tk pl va fa cl md ss wg) (h6 : h 421 = c421 g) : EV xs L (d + 3) 0 0 M_X12_begins 434 h 0 [some (.ref 420)] [] (fun sz' h' r => sz' = 434 ∧ SH h' ∧ KM [420] h h' ∧ ((∃ w, h' 420 = c420 th tr (nI n) (nI (rdP f n 0)) (kmap (tK f n 0)) (nI (rdS f n 0)) w (-1) cl md ss wg ∧ (tK f n 0 = 1 ∨ tK f n 0 = 3 ∨ tK f n 0 = 4 → w = tV f n 0)) ∧ r = [])) := by
  refine r_aload_n rfl dX12_begins_0 rfl ?_
  refine r_iconst (v := (-1)) rfl dX12_begins_1 (by decide) ?_
  refine e_put 8 (fs' := [.int th, .long tr, .ref 421, .int (nI n), .int nx, .int tk, .int pl, .int va, .int (-1), .int cl, .int md, .int ss, .int wg, .ref 422, .ref 423, .ref 424, .ref 425, .ref 426, .ref 427, .ref 428, .ref 429, .ref 430, .ref 431, .ref 432, .ref 433]) rfl dX12_begins_2 (show 2 ≤ 420 ∧ 420 < 434 by decide) hS (KM_rf (Mod := [420]) h) (by decide) h5 (fp_X12_89 rfl _) (Nat.le_of_ble_eq_true rfl) rfl (fun h51 hS52 hF53 hN54 f55 => ?_)
  have f56 : h51 421 = .inl (0, 300, .inl g) := (hN54 421 (by decide)).trans h6
  refine r_aload_n rfl dX12_begins_5 rfl ?_
  refine r_iconst (v := 0) rfl dX12_begins_6 (by decide) ?_
  refine e_put 4 (fs' := [.int th, .long tr, .ref 421, .int (nI n), .int 0, .int tk, .int pl, .int va, .int (-1), .int cl, .int md, .int ss, .int wg, .ref 422, .ref 423, .ref 424, .ref 425, .ref 426, .ref 427, .ref 428, .ref 429, .ref 430, .ref 431, .ref 432, .ref 433]) rfl dX12_begins_7 (show 2 ≤ 420 ∧ 420 < 434 by decide) hS52 hF53 (by decide) f55 (fp_X12_82 rfl _) (Nat.le_of_ble_eq_true rfl) rfl (fun h57 hS58 hF59 hN60 f61 => ?_)
  have f62 : h57 421 = .inl (0, 300, .inl g) := (hN60 421 (by decide)).trans f56
  refine r_aload_n rfl dX12_begins_10 rfl ?_
  refine cl_X12_96 rfl rfl dX12_begins_11 (show 2 ≤ 420 ∧ 420 < 434 by decide).1 (show 2 ≤ 420 ∧ 420 < 434 by decide).2 f61 (Nat.le_of_ble_eq_true rfl) (m_adv hS58 hX (Nat.zero_le n) f61 f62) ?_
  rintro _ h63 _ ⟨rfl, hS64, hK65, ⟨w68, f66, hw69⟩, rfl⟩
  have hF67 := KM_tr hF59 (KM_sb (by decide) hK65)
  have hl70 := (rdS_le f (Nat.zero_le n)).2
  have f71 : h63 421 = .inl (0, 300, .inl g) := (hK65 421 (by decide)).trans f62
  exact r_ret dX12_begins_14 (rt_v rfl) ⟨rfl, hS64, hF67, ⟨_, f66, hw69⟩, rfl⟩
/-- the reference's object at the token at p -/
def mTk (f : Nat → Int32) (n p : Nat) (th : Int32) (tr : Int64) (cl md ss wg : Int32) (x : va_E) : Prop := ∃ w, x = c420 th tr (nI n) (nI (rdP f n p)) (kmap (tK f n p)) (nI (rdS f n p)) w (-1) cl md ss wg ∧ (tK f n p = 1 ∨ tK f n p = 3 ∨ tK f n p = 4 → w = tV f n p)
def mFt (n q : Nat) (th : Int32) (tr : Int64) (cl md ss wg : Int32) (x : va_E) : Prop := ∃ nx tk pl va, x = c420 th tr (nI n) nx tk pl va (nI q) cl md ss wg
/-- what readsClause's loop leaves -/
def mcQ (f : Nat → Int32) (n a : Nat) (th : Int32) (tr : Int64) (cl md ss wg : Int32) (h0 : ev_H) (D : Nat → Int32) (q : Bool × Nat × Int32 × Int32) : ev_Q := fun sz' h' r => sz' = 434 ∧ SH h' ∧ KM [420, 423] h0 h' ∧ r = [] ∧ ∃ D', h' 423 = cI 48 D' ∧ (∀ j, j ≠ a → j ≠ a + 1 → D' j = D j) ∧ ((q.1 = true ∧ D' a = q.2.2.1 ∧ D' (a + 1) = q.2.2.2 ∧ mTk f n (rdP f n q.2.1) th tr cl md ss wg (h' 420)) ∨ (q.1 = false ∧ mFt n (rdS f n q.2.1) th tr cl md ss wg (h' 420)))
set_option maxRecDepth 20000 in
set_option maxHeartbeats 1000000 in
theorem s_X12_readsClause_step {xs : Nat → Int32} {L d : Nat} {h : ev_H} {f g : Nat → Int32} {n p a m : Nat} {th : Int32} {tr : Int64} {w cl md ss wg pl tu : Int32} {D : Nat → Int32} {u : Option Value} (hS : SH h) (hX : TXR f g n) (hp : p ≤ n) (h5 : h 420 = c420 th tr (nI n) (nI (rdP f n p)) (kmap (tK f n p)) (nI (rdS f n p)) w (-1) cl md ss wg) (hw : tK f n p = 1 ∨ tK f n p = 3 ∨ tK f n p = 4 → w = tV f n p) (h6 : h 421 = c421 g) (h7 : h 423 = cI 48 D) (ha : a + 2 < 48) (hda : D a = pl) (hdb : D (a + 1) = tu) (hu : UI m (pl ||| tu)) (ih : ∀ (m' p' : Nat) (pl' tu' w' : Int32) (D' : Nat → Int32) (u' : Option Value) (h' : ev_H), m = m' + 1 → p' ≤ n → h' 420 = c420 th tr (nI n) (nI (rdP f n p')) (kmap (tK f n p')) (nI (rdS f n p')) w' (-1) cl md ss wg → (tK f n p' = 1 ∨ tK f n p' = 3 ∨ tK f n p' = 4 → w' = tV f n p') → h' 421 = c421 g → h' 423 = cI 48 D' → D' a = pl' → D' (a + 1) = tu' → UI m' (pl' ||| tu') → SH h' → EV xs L (d + 4) 0 0 M_X12_readsClause 434 h' 49 [some (.ref 420), some (.int (nI a)), u'] [] (mcQ f n a th tr cl md ss wg h' D' (clL f n m' p' pl' tu'))) : EV xs L (d + 4) 0 0 M_X12_readsClause 434 h 49 [some (.ref 420), some (.int (nI a)), u] [] (mcQ f n a th tr cl md ss wg h D (clL f n m p pl tu)) := by
  have hl0 := (rdS_le f hp).2
  have hn := hX.1
  refine r_aload_n rfl dX12_readsClause_49 rfl ?_
  refine cl_X12_92 rfl rfl dX12_readsClause_50 (show 2 ≤ 420 ∧ 420 < 434 by decide).1 (show 2 ≤ 420 ∧ 420 < 434 by decide).2 h5 (Nat.le_of_ble_eq_true rfl) (s_X12_isWell1 hS h5) ?_
  rintro _ h51 _ ⟨rfl, e52, rfl⟩
  replace e52 := e52.symm
  subst e52
  refine r_if_eq (tgt := 168) rfl rfl dX12_readsClause_53 (fun zc => absurd zc (by decide)) (fun _ => ?_)
  refine r_aload_n rfl dX12_readsClause_56 rfl ?_
  refine r_getv 5 rfl dX12_readsClause_57 (show 2 ≤ 420 ∧ 420 < 434 by decide) h5 fl_X12_76 rfl ?_
  refine r_bipush (v := 6) rfl dX12_readsClause_60 (by decide) ?_
  refine r_icmp_eq (tgt := 168) rfl rfl dX12_readsClause_62 (fun c53 => ?_) (fun c53 => ?_)
  · have k54 : tK f n p = 6 := (km6 _).mp c53
    refine r_aload_n rfl dX12_readsClause_168 rfl ?_
    refine cl_X12_103 rfl rfl dX12_readsClause_169 (show 2 ≤ 420 ∧ 420 < 434 by decide).1 (show 2 ≤ 420 ∧ 420 < 434 by decide).2 h5 (Nat.le_of_ble_eq_true rfl) (s_X12_goesOn1 hS hX (rdP_le f hp) h5 h6) ?_
    rintro _ h55 _ ⟨rfl, hS56, hK57, ⟨w60, f58, hw61⟩, rfl⟩
    have hF59 := KM_tr (KM_rf (Mod := [420, 423]) h) (KM_sb (by decide) hK57)
    have hl62 := (rdS_le f (rdP_le f hp)).2
    have f63 : h55 421 = .inl (0, 300, .inl g) := (hK57 421 (by decide)).trans h6
    have f64 : h55 423 = .inl (0, 48, .inl D) := (hK57 423 (by decide)).trans h7
    have e65 : clL f n m p pl tu = (true, p, pl, tu) := by cases m <;> (unfold clL; exact if_pos k54)
    exact r_ret dX12_readsClause_172 (rt_v rfl) (by rw [e65]; exact ⟨rfl, hS56, hF59, rfl, D, f64, fun _ _ _ => rfl, Or.inl ⟨rfl, hda, hdb, _, f58, hw61⟩⟩)
  · have k66 : ¬ tK f n p = 6 := fun z => c53 ((km6 _).mpr z)
    refine r_aload_n rfl dX12_readsClause_65 rfl ?_
    refine r_getv 5 rfl dX12_readsClause_66 (show 2 ≤ 420 ∧ 420 < 434 by decide) h5 fl_X12_76 rfl ?_
    refine r_iconst (v := 5) rfl dX12_readsClause_69 (by decide) ?_
    refine r_icmp_ne (tgt := 77) rfl rfl dX12_readsClause_70 (fun c67 => ?_) (fun c67 => ?_)
    · have k68 : ¬ tK f n p = 5 := fun z => c67 ((km5 _).mpr z)
      have elp69 : lp f n p = p := by unfold lp; exact if_neg k68
      refine r_iconst (v := 0) rfl dX12_readsClause_77 (by decide) ?_
      refine r_istore_n (ls' := [some (.ref 420), some (.int (nI a)), some (.int 0)]) rfl dX12_readsClause_78 (Nat.le_of_ble_eq_true rfl) rfl ?_
      refine r_iload_n rfl dX12_readsClause_79 rfl ?_
      refine r_if_eq (tgt := 87) rfl rfl dX12_readsClause_80 (fun _ => ?_) (fun zc => absurd zc (by decide))
      refine r_aload_n rfl dX12_readsClause_87 rfl ?_
      refine r_aload_n rfl dX12_readsClause_88 rfl ?_
      refine r_getv 5 rfl dX12_readsClause_89 (show 2 ≤ 420 ∧ 420 < 434 by decide) h5 fl_X12_76 rfl ?_
      refine r_iconst (v := 1) rfl dX12_readsClause_92 (by decide) ?_
      refine r_icmp_ne (tgt := 125) rfl rfl dX12_readsClause_93 (fun c70 => ?_) (fun c70 => ?_)
      · have k71 : ¬ tK f n p = 3 := fun z => c70 ((km1 _).mpr z)
        refine r_iconst (v := 0) rfl dX12_readsClause_125 (by decide) ?_
        refine cl_X12_99 rfl rfl dX12_readsClause_126 (show 2 ≤ 420 ∧ 420 < 434 by decide).1 (show 2 ≤ 420 ∧ 420 < 434 by decide).2 h5 (Nat.le_of_ble_eq_true rfl) (s_X12_wants0 hS h5) ?_
        rintro _ h72 _ ⟨rfl, hS73, hK74, f75, rfl⟩
        have hF76 := KM_tr (KM_rf (Mod := [420, 423]) h) (KM_sb (by decide) hK74)
        have f77 : h72 421 = .inl (0, 300, .inl g) := (hK74 421 (by decide)).trans h6
        have f78 : h72 423 = .inl (0, 48, .inl D) := (hK74 423 (by decide)).trans h7
        refine r_aload_n rfl dX12_readsClause_129 rfl ?_
        refine cl_X12_92 rfl rfl dX12_readsClause_130 (show 2 ≤ 420 ∧ 420 < 434 by decide).1 (show 2 ≤ 420 ∧ 420 < 434 by decide).2 f75 (Nat.le_of_ble_eq_true rfl) (s_X12_isWell0 hS73 f75 (by omega)) ?_
        rintro _ h79 _ ⟨rfl, e80, rfl⟩
        replace e80 := e80.symm
        subst e80
        refine r_if_eq (tgt := 165) rfl rfl dX12_readsClause_133 (fun _ => ?_) (fun zc => absurd zc (by decide))
        refine r_goto (pc' := 49) rfl dX12_readsClause_165 ?_
        refine r_aload_n rfl dX12_readsClause_49 rfl ?_
        refine cl_X12_92 rfl rfl dX12_readsClause_50 (show 2 ≤ 420 ∧ 420 < 434 by decide).1 (show 2 ≤ 420 ∧ 420 < 434 by decide).2 f75 (Nat.le_of_ble_eq_true rfl) (s_X12_isWell0 hS73 f75 (by omega)) ?_
        rintro _ h81 _ ⟨rfl, e82, rfl⟩
        replace e82 := e82.symm
        subst e82
        refine r_if_eq (tgt := 168) rfl rfl dX12_readsClause_53 (fun _ => ?_) (fun zc => absurd zc (by decide))
        refine r_aload_n rfl dX12_readsClause_168 rfl ?_
        refine cl_X12_103 rfl rfl dX12_readsClause_169 (show 2 ≤ 420 ∧ 420 < 434 by decide).1 (show 2 ≤ 420 ∧ 420 < 434 by decide).2 f75 (Nat.le_of_ble_eq_true rfl) (s_X12_goesOnF hS73 f75 (by omega)) ?_
        rintro _ h83 _ ⟨rfl, -, -, e84, rfl⟩
        replace e84 := e84.symm
        subst e84
        have nl86 : ¬ LIT f n p (pl ||| tu) := fun z => k71 (by have z1 := z.1; rw [elp69] at z1; exact z1)
        have e85 : clL f n m p pl tu = (false, lp f n p, pl, tu) := by cases m <;> (unfold clL; first | rw [if_neg k66, if_neg nl86] | rw [if_neg k66])
        exact r_ret dX12_readsClause_172 (rt_v rfl) (by rw [e85]; exact ⟨rfl, hS73, hF76, rfl, D, f78, fun _ _ _ => rfl, Or.inr ⟨rfl, by rw [elp69]; exact ⟨_, _, _, _, f75⟩⟩⟩)
      · have k87 : tK f n p = 3 := (km1 _).mp c70
        refine r_aload_n rfl dX12_readsClause_96 rfl ?_
        refine r_getv 14 rfl dX12_readsClause_97 (show 2 ≤ 420 ∧ 420 < 434 by decide) h5 fl_X12_20 rfl ?_
        refine r_iload_n rfl dX12_readsClause_100 rfl ?_
        refine r_ialdv (jn := a) (v := pl) rfl dX12_readsClause_101 (show 2 ≤ 423 ∧ 423 < 434 by decide) h7 (vp_in_nI (n := a) (by omega) (by decide)) (nI_clamp (n := a) (by omega)) hda ?_
        refine r_aload_n rfl dX12_readsClause_102 rfl ?_
        refine r_getv 14 rfl dX12_readsClause_103 (show 2 ≤ 420 ∧ 420 < 434 by decide) h5 fl_X12_20 rfl ?_
        refine r_iload_n rfl dX12_readsClause_106 rfl ?_
        refine r_iconst (v := 1) rfl dX12_readsClause_107 (by decide) ?_
        refine r_iadd rfl dX12_readsClause_108 ?_
        refine r_eqi (y := nI (a + 1)) (show (nI a) + 1 = nI (a + 1) from nI_add a 1) ?_
        refine r_ialdv (jn := a + 1) (v := tu) rfl dX12_readsClause_109 (show 2 ≤ 423 ∧ 423 < 434 by decide) h7 (vp_in_nI (n := a + 1) (by omega) (by decide)) (nI_clamp (n := a + 1) (by omega)) hdb ?_
        refine r_ior rfl dX12_readsClause_110 ?_
        refine r_aload_n rfl dX12_readsClause_111 rfl ?_
        refine r_getv 7 rfl dX12_readsClause_112 (show 2 ≤ 420 ∧ 420 < 434 by decide) h5 fl_X12_79 rfl ?_
        refine r_ishr rfl dX12_readsClause_115 ?_
        refine r_iconst (v := 1) rfl dX12_readsClause_116 (by decide) ?_
        refine r_iand rfl dX12_readsClause_117 ?_
        refine r_if_ne (tgt := 125) rfl rfl dX12_readsClause_118 (fun c88 => ?_) (fun c88 => ?_)
        · refine r_iconst (v := 0) rfl dX12_readsClause_125 (by decide) ?_
          refine cl_X12_99 rfl rfl dX12_readsClause_126 (show 2 ≤ 420 ∧ 420 < 434 by decide).1 (show 2 ≤ 420 ∧ 420 < 434 by decide).2 h5 (Nat.le_of_ble_eq_true rfl) (s_X12_wants0 hS h5) ?_
          rintro _ h89 _ ⟨rfl, hS90, hK91, f92, rfl⟩
          have hF93 := KM_tr (KM_rf (Mod := [420, 423]) h) (KM_sb (by decide) hK91)
          have f94 : h89 421 = .inl (0, 300, .inl g) := (hK91 421 (by decide)).trans h6
          have f95 : h89 423 = .inl (0, 48, .inl D) := (hK91 423 (by decide)).trans h7
          refine r_aload_n rfl dX12_readsClause_129 rfl ?_
          refine cl_X12_92 rfl rfl dX12_readsClause_130 (show 2 ≤ 420 ∧ 420 < 434 by decide).1 (show 2 ≤ 420 ∧ 420 < 434 by decide).2 f92 (Nat.le_of_ble_eq_true rfl) (s_X12_isWell0 hS90 f92 (by omega)) ?_
          rintro _ h96 _ ⟨rfl, e97, rfl⟩
          replace e97 := e97.symm
          subst e97
          refine r_if_eq (tgt := 165) rfl rfl dX12_readsClause_133 (fun _ => ?_) (fun zc => absurd zc (by decide))
          refine r_goto (pc' := 49) rfl dX12_readsClause_165 ?_
          refine r_aload_n rfl dX12_readsClause_49 rfl ?_
          refine cl_X12_92 rfl rfl dX12_readsClause_50 (show 2 ≤ 420 ∧ 420 < 434 by decide).1 (show 2 ≤ 420 ∧ 420 < 434 by decide).2 f92 (Nat.le_of_ble_eq_true rfl) (s_X12_isWell0 hS90 f92 (by omega)) ?_
          rintro _ h98 _ ⟨rfl, e99, rfl⟩
          replace e99 := e99.symm
          subst e99
          refine r_if_eq (tgt := 168) rfl rfl dX12_readsClause_53 (fun _ => ?_) (fun zc => absurd zc (by decide))
          refine r_aload_n rfl dX12_readsClause_168 rfl ?_
          refine cl_X12_103 rfl rfl dX12_readsClause_169 (show 2 ≤ 420 ∧ 420 < 434 by decide).1 (show 2 ≤ 420 ∧ 420 < 434 by decide).2 f92 (Nat.le_of_ble_eq_true rfl) (s_X12_goesOnF hS90 f92 (by omega)) ?_
          rintro _ h100 _ ⟨rfl, -, -, e101, rfl⟩
          replace e101 := e101.symm
          subst e101
          have nl103 : ¬ LIT f n p (pl ||| tu) := fun z => c88 (by
              have z2 := z.2; have wv := hw (Or.inr (Or.inl k87)); obtain ⟨v, hv, ev⟩ := tV3 hX hp k87; unfold lb at z2; rw [elp69] at z2; rw [wv]; exact (UI_b hu hv ev).mpr z2)
          have e102 : clL f n m p pl tu = (false, lp f n p, pl, tu) := by cases m <;> (unfold clL; first | rw [if_neg k66, if_neg nl103] | rw [if_neg k66])
          exact r_ret dX12_readsClause_172 (rt_v rfl) (by rw [e102]; exact ⟨rfl, hS90, hF93, rfl, D, f95, fun _ _ _ => rfl, Or.inr ⟨rfl, by rw [elp69]; exact ⟨_, _, _, _, f92⟩⟩⟩)
        · refine r_iconst (v := 1) rfl dX12_readsClause_121 (by decide) ?_
          refine r_goto (pc' := 126) rfl dX12_readsClause_122 ?_
          refine cl_X12_99 rfl rfl dX12_readsClause_126 (show 2 ≤ 420 ∧ 420 < 434 by decide).1 (show 2 ≤ 420 ∧ 420 < 434 by decide).2 h5 (Nat.le_of_ble_eq_true rfl) (s_X12_wants1 hS h5) ?_
          rintro _ h104 _ ⟨rfl, hS105, hK106, f107, rfl⟩
          have hF108 := KM_tr (KM_rf (Mod := [420, 423]) h) (KM_sb (by decide) hK106)
          have f109 : h104 421 = .inl (0, 300, .inl g) := (hK106 421 (by decide)).trans h6
          have f110 : h104 423 = .inl (0, 48, .inl D) := (hK106 423 (by decide)).trans h7
          refine r_aload_n rfl dX12_readsClause_129 rfl ?_
          refine cl_X12_92 rfl rfl dX12_readsClause_130 (show 2 ≤ 420 ∧ 420 < 434 by decide).1 (show 2 ≤ 420 ∧ 420 < 434 by decide).2 f107 (Nat.le_of_ble_eq_true rfl) (s_X12_isWell1 hS105 f107) ?_
          rintro _ h111 _ ⟨rfl, e112, rfl⟩
          replace e112 := e112.symm
          subst e112
          refine r_if_eq (tgt := 165) rfl rfl dX12_readsClause_133 (fun zc => absurd zc (by decide)) (fun _ => ?_)
          refine r_aload_n rfl dX12_readsClause_136 rfl ?_
          refine r_getv 14 rfl dX12_readsClause_137 (show 2 ≤ 420 ∧ 420 < 434 by decide) f107 fl_X12_20 rfl ?_
          refine r_iload_n rfl dX12_readsClause_140 rfl ?_
          refine r_if_eq (tgt := 150) rfl rfl dX12_readsClause_141 (fun _ => ?_) (fun zc => absurd zc (by decide))
          refine r_iload_n rfl dX12_readsClause_150 rfl ?_
          refine r_dup2 rfl dX12_readsClause_151 (by intro q; cases q) (by intro q; cases q) ?_
          refine r_ialdv (jn := a) (v := pl) rfl dX12_readsClause_152 (show 2 ≤ 423 ∧ 423 < 434 by decide) f110 (vp_in_nI (n := a) (by omega) (by decide)) (nI_clamp (n := a) (by omega)) hda ?_
          refine r_iconst (v := 1) rfl dX12_readsClause_153 (by decide) ?_
          refine r_aload_n rfl dX12_readsClause_154 rfl ?_
          refine r_getv 7 rfl dX12_readsClause_155 (show 2 ≤ 420 ∧ 420 < 434 by decide) f107 fl_X12_79 rfl ?_
          refine r_ishl rfl dX12_readsClause_158 ?_
          refine r_ior rfl dX12_readsClause_159 ?_
          refine e_iast (jn := a) rfl dX12_readsClause_160 (show 2 ≤ 423 ∧ 423 < 434 by decide) hS105 hF108 (by decide) f110 (vp_in_nI (n := a) (by omega) (by decide)) (nI_clamp (n := a) (by omega)) (fun h113 hS114 hF115 hN116 f117 => ?_)
          have f118 : h113 421 = .inl (0, 300, .inl g) := (hN116 421 (by decide)).trans f109
          have f119 : h113 420 = .inr (12, [.int th, .long tr, .ref 421, .int (nI n), .int (nI (rdP f n p)), .int (kmap (tK f n p)), .int (nI (rdS f n p)), .int w, .int (-1), .int cl, .int md, .int ss, .int wg, .ref 422, .ref 423, .ref 424, .ref 425, .ref 426, .ref 427, .ref 428, .ref 429, .ref 430, .ref 431, .ref 432, .ref 433]) := (hN116 420 (by decide)).trans f107
          refine r_aload_n rfl dX12_readsClause_161 rfl ?_
          refine cl_X12_96 rfl rfl dX12_readsClause_162 (show 2 ≤ 420 ∧ 420 < 434 by decide).1 (show 2 ≤ 420 ∧ 420 < 434 by decide).2 f119 (Nat.le_of_ble_eq_true rfl) (m_adv hS114 hX (rdP_le f hp) f119 f118) ?_
          rintro _ h120 _ ⟨rfl, hS121, hK122, ⟨w125, f123, hw126⟩, rfl⟩
          have hF124 := KM_tr hF115 (KM_sb (by decide) hK122)
          have hl127 := (rdS_le f (rdP_le f hp)).2
          have f128 : h120 421 = .inl (0, 300, .inl g) := (hK122 421 (by decide)).trans f118
          have f129 : h120 423 = .inl (0, 48, .inl (upd D a (pl ||| (1 <<< (w &&& 31))))) := (hK122 423 (by decide)).trans f117
          refine r_goto (pc' := 49) rfl dX12_readsClause_165 ?_
          have wv := hw (Or.inr (Or.inl k87))
          obtain ⟨v, hv, ev⟩ := tV3 hX hp k87
          have elb : lb f n p = 1 <<< (w &&& 31) := by unfold lb; rw [elp69, wv]
          have hL : LIT f n p (pl ||| tu) := ⟨by rw [elp69]; exact k87, by rw [elb, wv]; exact (UI_b hu hv ev).mp (by rw [← wv]; exact c88)⟩
          obtain ⟨m1, em, hu1⟩ := UI_lit hX hp hu hL
          subst em
          rw [if_neg k68, if_neg k68, elb] at hu1
          refine EV.post ?_ (ih m1 _ _ _ _ _ _ h120 rfl (rdP_le f hp) f123 hw126 f128 f129 pk_us (by rw [pk_un (by omega)]; exact hdb) hu1 hS121)
          rintro a1 a2 a3 ⟨b1, b2, b3, b4, D1, b5, b6, b7⟩
          rw [clL, if_neg k66, if_pos hL, elp69, if_neg k68, if_neg k68, elb]
          exact ⟨b1, b2, KM_tr hF124 b3, b4, D1, b5, fun j z1 z2 => (b6 j z1 z2).trans (pk_un z1), b7⟩
    · have k130 : tK f n p = 5 := (km5 _).mp c67
      have elp131 : lp f n p = rdP f n p := by unfold lp; exact if_pos k130
      refine r_iconst (v := 1) rfl dX12_readsClause_73 (by decide) ?_
      refine r_goto (pc' := 78) rfl dX12_readsClause_74 ?_
      refine r_istore_n (ls' := [some (.ref 420), some (.int (nI a)), some (.int 1)]) rfl dX12_readsClause_78 (Nat.le_of_ble_eq_true rfl) rfl ?_
      refine r_iload_n rfl dX12_readsClause_79 rfl ?_
      refine r_if_eq (tgt := 87) rfl rfl dX12_readsClause_80 (fun zc => absurd zc (by decide)) (fun _ => ?_)
      refine r_aload_n rfl dX12_readsClause_83 rfl ?_
      refine cl_X12_96 rfl rfl dX12_readsClause_84 (show 2 ≤ 420 ∧ 420 < 434 by decide).1 (show 2 ≤ 420 ∧ 420 < 434 by decide).2 h5 (Nat.le_of_ble_eq_true rfl) (m_adv hS hX (rdP_le f hp) h5 h6) ?_
      rintro _ h132 _ ⟨rfl, hS133, hK134, ⟨w137, f135, hw138⟩, rfl⟩
      have hF136 := KM_tr (KM_rf (Mod := [420, 423]) h) (KM_sb (by decide) hK134)
      have hl139 := (rdS_le f (rdP_le f hp)).2
      have f140 : h132 421 = .inl (0, 300, .inl g) := (hK134 421 (by decide)).trans h6
      have f141 : h132 423 = .inl (0, 48, .inl D) := (hK134 423 (by decide)).trans h7
      refine r_aload_n rfl dX12_readsClause_87 rfl ?_
      refine r_aload_n rfl dX12_readsClause_88 rfl ?_
      refine r_getv 5 rfl dX12_readsClause_89 (show 2 ≤ 420 ∧ 420 < 434 by decide) f135 fl_X12_76 rfl ?_
      refine r_iconst (v := 1) rfl dX12_readsClause_92 (by decide) ?_
      refine r_icmp_ne (tgt := 125) rfl rfl dX12_readsClause_93 (fun c142 => ?_) (fun c142 => ?_)
      · have k143 : ¬ tK f n (rdP f n p) = 3 := fun z => c142 ((km1 _).mpr z)
        refine r_iconst (v := 0) rfl dX12_readsClause_125 (by decide) ?_
        refine cl_X12_99 rfl rfl dX12_readsClause_126 (show 2 ≤ 420 ∧ 420 < 434 by decide).1 (show 2 ≤ 420 ∧ 420 < 434 by decide).2 f135 (Nat.le_of_ble_eq_true rfl) (s_X12_wants0 hS133 f135) ?_
        rintro _ h144 _ ⟨rfl, hS145, hK146, f147, rfl⟩
        have hF148 := KM_tr hF136 (KM_sb (by decide) hK146)
        have f149 : h144 421 = .inl (0, 300, .inl g) := (hK146 421 (by decide)).trans f140
        have f150 : h144 423 = .inl (0, 48, .inl D) := (hK146 423 (by decide)).trans f141
        refine r_aload_n rfl dX12_readsClause_129 rfl ?_
        refine cl_X12_92 rfl rfl dX12_readsClause_130 (show 2 ≤ 420 ∧ 420 < 434 by decide).1 (show 2 ≤ 420 ∧ 420 < 434 by decide).2 f147 (Nat.le_of_ble_eq_true rfl) (s_X12_isWell0 hS145 f147 (by omega)) ?_
        rintro _ h151 _ ⟨rfl, e152, rfl⟩
        replace e152 := e152.symm
        subst e152
        refine r_if_eq (tgt := 165) rfl rfl dX12_readsClause_133 (fun _ => ?_) (fun zc => absurd zc (by decide))
        refine r_goto (pc' := 49) rfl dX12_readsClause_165 ?_
        refine r_aload_n rfl dX12_readsClause_49 rfl ?_
        refine cl_X12_92 rfl rfl dX12_readsClause_50 (show 2 ≤ 420 ∧ 420 < 434 by decide).1 (show 2 ≤ 420 ∧ 420 < 434 by decide).2 f147 (Nat.le_of_ble_eq_true rfl) (s_X12_isWell0 hS145 f147 (by omega)) ?_
        rintro _ h153 _ ⟨rfl, e154, rfl⟩
        replace e154 := e154.symm
        subst e154
        refine r_if_eq (tgt := 168) rfl rfl dX12_readsClause_53 (fun _ => ?_) (fun zc => absurd zc (by decide))
        refine r_aload_n rfl dX12_readsClause_168 rfl ?_
        refine cl_X12_103 rfl rfl dX12_readsClause_169 (show 2 ≤ 420 ∧ 420 < 434 by decide).1 (show 2 ≤ 420 ∧ 420 < 434 by decide).2 f147 (Nat.le_of_ble_eq_true rfl) (s_X12_goesOnF hS145 f147 (by omega)) ?_
        rintro _ h155 _ ⟨rfl, -, -, e156, rfl⟩
        replace e156 := e156.symm
        subst e156
        have nl158 : ¬ LIT f n p (pl ||| tu) := fun z => k143 (by have z1 := z.1; rw [elp131] at z1; exact z1)
        have e157 : clL f n m p pl tu = (false, lp f n p, pl, tu) := by cases m <;> (unfold clL; first | rw [if_neg k66, if_neg nl158] | rw [if_neg k66])
        exact r_ret dX12_readsClause_172 (rt_v rfl) (by rw [e157]; exact ⟨rfl, hS145, hF148, rfl, D, f150, fun _ _ _ => rfl, Or.inr ⟨rfl, by rw [elp131]; exact ⟨_, _, _, _, f147⟩⟩⟩)
      · have k159 : tK f n (rdP f n p) = 3 := (km1 _).mp c142
        refine r_aload_n rfl dX12_readsClause_96 rfl ?_
        refine r_getv 14 rfl dX12_readsClause_97 (show 2 ≤ 420 ∧ 420 < 434 by decide) f135 fl_X12_20 rfl ?_
        refine r_iload_n rfl dX12_readsClause_100 rfl ?_
        refine r_ialdv (jn := a) (v := pl) rfl dX12_readsClause_101 (show 2 ≤ 423 ∧ 423 < 434 by decide) f141 (vp_in_nI (n := a) (by omega) (by decide)) (nI_clamp (n := a) (by omega)) hda ?_
        refine r_aload_n rfl dX12_readsClause_102 rfl ?_
        refine r_getv 14 rfl dX12_readsClause_103 (show 2 ≤ 420 ∧ 420 < 434 by decide) f135 fl_X12_20 rfl ?_
        refine r_iload_n rfl dX12_readsClause_106 rfl ?_
        refine r_iconst (v := 1) rfl dX12_readsClause_107 (by decide) ?_
        refine r_iadd rfl dX12_readsClause_108 ?_
        refine r_eqi (y := nI (a + 1)) (show (nI a) + 1 = nI (a + 1) from nI_add a 1) ?_
        refine r_ialdv (jn := a + 1) (v := tu) rfl dX12_readsClause_109 (show 2 ≤ 423 ∧ 423 < 434 by decide) f141 (vp_in_nI (n := a + 1) (by omega) (by decide)) (nI_clamp (n := a + 1) (by omega)) hdb ?_
        refine r_ior rfl dX12_readsClause_110 ?_
        refine r_aload_n rfl dX12_readsClause_111 rfl ?_
        refine r_getv 7 rfl dX12_readsClause_112 (show 2 ≤ 420 ∧ 420 < 434 by decide) f135 fl_X12_79 rfl ?_
        refine r_ishr rfl dX12_readsClause_115 ?_
        refine r_iconst (v := 1) rfl dX12_readsClause_116 (by decide) ?_
        refine r_iand rfl dX12_readsClause_117 ?_
        refine r_if_ne (tgt := 125) rfl rfl dX12_readsClause_118 (fun c160 => ?_) (fun c160 => ?_)
        · refine r_iconst (v := 0) rfl dX12_readsClause_125 (by decide) ?_
          refine cl_X12_99 rfl rfl dX12_readsClause_126 (show 2 ≤ 420 ∧ 420 < 434 by decide).1 (show 2 ≤ 420 ∧ 420 < 434 by decide).2 f135 (Nat.le_of_ble_eq_true rfl) (s_X12_wants0 hS133 f135) ?_
          rintro _ h161 _ ⟨rfl, hS162, hK163, f164, rfl⟩
          have hF165 := KM_tr hF136 (KM_sb (by decide) hK163)
          have f166 : h161 421 = .inl (0, 300, .inl g) := (hK163 421 (by decide)).trans f140
          have f167 : h161 423 = .inl (0, 48, .inl D) := (hK163 423 (by decide)).trans f141
          refine r_aload_n rfl dX12_readsClause_129 rfl ?_
          refine cl_X12_92 rfl rfl dX12_readsClause_130 (show 2 ≤ 420 ∧ 420 < 434 by decide).1 (show 2 ≤ 420 ∧ 420 < 434 by decide).2 f164 (Nat.le_of_ble_eq_true rfl) (s_X12_isWell0 hS162 f164 (by omega)) ?_
          rintro _ h168 _ ⟨rfl, e169, rfl⟩
          replace e169 := e169.symm
          subst e169
          refine r_if_eq (tgt := 165) rfl rfl dX12_readsClause_133 (fun _ => ?_) (fun zc => absurd zc (by decide))
          refine r_goto (pc' := 49) rfl dX12_readsClause_165 ?_
          refine r_aload_n rfl dX12_readsClause_49 rfl ?_
          refine cl_X12_92 rfl rfl dX12_readsClause_50 (show 2 ≤ 420 ∧ 420 < 434 by decide).1 (show 2 ≤ 420 ∧ 420 < 434 by decide).2 f164 (Nat.le_of_ble_eq_true rfl) (s_X12_isWell0 hS162 f164 (by omega)) ?_
          rintro _ h170 _ ⟨rfl, e171, rfl⟩
          replace e171 := e171.symm
          subst e171
          refine r_if_eq (tgt := 168) rfl rfl dX12_readsClause_53 (fun _ => ?_) (fun zc => absurd zc (by decide))
          refine r_aload_n rfl dX12_readsClause_168 rfl ?_
          refine cl_X12_103 rfl rfl dX12_readsClause_169 (show 2 ≤ 420 ∧ 420 < 434 by decide).1 (show 2 ≤ 420 ∧ 420 < 434 by decide).2 f164 (Nat.le_of_ble_eq_true rfl) (s_X12_goesOnF hS162 f164 (by omega)) ?_
          rintro _ h172 _ ⟨rfl, -, -, e173, rfl⟩
          replace e173 := e173.symm
          subst e173
          have nl175 : ¬ LIT f n p (pl ||| tu) := fun z => c160 (by
              have z2 := z.2; have wv := hw138 (Or.inr (Or.inl k159)); obtain ⟨v, hv, ev⟩ := tV3 hX (rdP_le f hp) k159; unfold lb at z2; rw [elp131] at z2; rw [wv]; exact (UI_b hu hv ev).mpr z2)
          have e174 : clL f n m p pl tu = (false, lp f n p, pl, tu) := by cases m <;> (unfold clL; first | rw [if_neg k66, if_neg nl175] | rw [if_neg k66])
          exact r_ret dX12_readsClause_172 (rt_v rfl) (by rw [e174]; exact ⟨rfl, hS162, hF165, rfl, D, f167, fun _ _ _ => rfl, Or.inr ⟨rfl, by rw [elp131]; exact ⟨_, _, _, _, f164⟩⟩⟩)
        · refine r_iconst (v := 1) rfl dX12_readsClause_121 (by decide) ?_
          refine r_goto (pc' := 126) rfl dX12_readsClause_122 ?_
          refine cl_X12_99 rfl rfl dX12_readsClause_126 (show 2 ≤ 420 ∧ 420 < 434 by decide).1 (show 2 ≤ 420 ∧ 420 < 434 by decide).2 f135 (Nat.le_of_ble_eq_true rfl) (s_X12_wants1 hS133 f135) ?_
          rintro _ h176 _ ⟨rfl, hS177, hK178, f179, rfl⟩
          have hF180 := KM_tr hF136 (KM_sb (by decide) hK178)
          have f181 : h176 421 = .inl (0, 300, .inl g) := (hK178 421 (by decide)).trans f140
          have f182 : h176 423 = .inl (0, 48, .inl D) := (hK178 423 (by decide)).trans f141
          refine r_aload_n rfl dX12_readsClause_129 rfl ?_
          refine cl_X12_92 rfl rfl dX12_readsClause_130 (show 2 ≤ 420 ∧ 420 < 434 by decide).1 (show 2 ≤ 420 ∧ 420 < 434 by decide).2 f179 (Nat.le_of_ble_eq_true rfl) (s_X12_isWell1 hS177 f179) ?_
          rintro _ h183 _ ⟨rfl, e184, rfl⟩
          replace e184 := e184.symm
          subst e184
          refine r_if_eq (tgt := 165) rfl rfl dX12_readsClause_133 (fun zc => absurd zc (by decide)) (fun _ => ?_)
          refine r_aload_n rfl dX12_readsClause_136 rfl ?_
          refine r_getv 14 rfl dX12_readsClause_137 (show 2 ≤ 420 ∧ 420 < 434 by decide) f179 fl_X12_20 rfl ?_
          refine r_iload_n rfl dX12_readsClause_140 rfl ?_
          refine r_if_eq (tgt := 150) rfl rfl dX12_readsClause_141 (fun zc => absurd zc (by decide)) (fun _ => ?_)
          refine r_iload_n rfl dX12_readsClause_144 rfl ?_
          refine r_iconst (v := 1) rfl dX12_readsClause_145 (by decide) ?_
          refine r_iadd rfl dX12_readsClause_146 ?_
          refine r_eqi (y := nI (a + 1)) (show (nI a) + 1 = nI (a + 1) from nI_add a 1) ?_
          refine r_goto (pc' := 151) rfl dX12_readsClause_147 ?_
          refine r_dup2 rfl dX12_readsClause_151 (by intro q; cases q) (by intro q; cases q) ?_
          refine r_ialdv (jn := a + 1) (v := tu) rfl dX12_readsClause_152 (show 2 ≤ 423 ∧ 423 < 434 by decide) f182 (vp_in_nI (n := a + 1) (by omega) (by decide)) (nI_clamp (n := a + 1) (by omega)) hdb ?_
          refine r_iconst (v := 1) rfl dX12_readsClause_153 (by decide) ?_
          refine r_aload_n rfl dX12_readsClause_154 rfl ?_
          refine r_getv 7 rfl dX12_readsClause_155 (show 2 ≤ 420 ∧ 420 < 434 by decide) f179 fl_X12_79 rfl ?_
          refine r_ishl rfl dX12_readsClause_158 ?_
          refine r_ior rfl dX12_readsClause_159 ?_
          refine e_iast (jn := a + 1) rfl dX12_readsClause_160 (show 2 ≤ 423 ∧ 423 < 434 by decide) hS177 hF180 (by decide) f182 (vp_in_nI (n := a + 1) (by omega) (by decide)) (nI_clamp (n := a + 1) (by omega)) (fun h185 hS186 hF187 hN188 f189 => ?_)
          have f190 : h185 421 = .inl (0, 300, .inl g) := (hN188 421 (by decide)).trans f181
          have f191 : h185 420 = .inr (12, [.int th, .long tr, .ref 421, .int (nI n), .int (nI (rdP f n (rdP f n p))), .int (kmap (tK f n (rdP f n p))), .int (nI (rdS f n (rdP f n p))), .int w137, .int (-1), .int cl, .int md, .int ss, .int wg, .ref 422, .ref 423, .ref 424, .ref 425, .ref 426, .ref 427, .ref 428, .ref 429, .ref 430, .ref 431, .ref 432, .ref 433]) := (hN188 420 (by decide)).trans f179
          refine r_aload_n rfl dX12_readsClause_161 rfl ?_
          refine cl_X12_96 rfl rfl dX12_readsClause_162 (show 2 ≤ 420 ∧ 420 < 434 by decide).1 (show 2 ≤ 420 ∧ 420 < 434 by decide).2 f191 (Nat.le_of_ble_eq_true rfl) (m_adv hS186 hX (rdP_le f (rdP_le f hp)) f191 f190) ?_
          rintro _ h192 _ ⟨rfl, hS193, hK194, ⟨w197, f195, hw198⟩, rfl⟩
          have hF196 := KM_tr hF187 (KM_sb (by decide) hK194)
          have hl199 := (rdS_le f (rdP_le f (rdP_le f hp))).2
          have f200 : h192 421 = .inl (0, 300, .inl g) := (hK194 421 (by decide)).trans f190
          have f201 : h192 423 = .inl (0, 48, .inl (upd D (a + 1) (tu ||| (1 <<< (w137 &&& 31))))) := (hK194 423 (by decide)).trans f189
          refine r_goto (pc' := 49) rfl dX12_readsClause_165 ?_
          have wv := hw138 (Or.inr (Or.inl k159))
          obtain ⟨v, hv, ev⟩ := tV3 hX (rdP_le f hp) k159
          have elb : lb f n p = 1 <<< (w137 &&& 31) := by unfold lb; rw [elp131, wv]
          have hL : LIT f n p (pl ||| tu) := ⟨by rw [elp131]; exact k159, by rw [elb, wv]; exact (UI_b hu hv ev).mp (by rw [← wv]; exact c160)⟩
          obtain ⟨m1, em, hu1⟩ := UI_lit hX hp hu hL
          subst em
          rw [if_pos k130, if_pos k130, elb] at hu1
          refine EV.post ?_ (ih m1 _ _ _ _ _ _ h192 rfl (rdP_le f (rdP_le f hp)) f195 hw198 f200 f201 (by rw [pk_un (by omega)]; exact hda) pk_us hu1 hS193)
          rintro a1 a2 a3 ⟨b1, b2, b3, b4, D1, b5, b6, b7⟩
          rw [clL, if_neg k66, if_pos hL, elp131, if_pos k130, if_pos k130, elb]
          exact ⟨b1, b2, KM_tr hF196 b3, b4, D1, b5, fun j z1 z2 => (b6 j z1 z2).trans (pk_un z2), b7⟩
theorem s_X12_readsClause_loop {xs : Nat → Int32} {L d : Nat} {f g : Nat → Int32} {n a : Nat} {th : Int32} {tr : Int64} {cl md ss wg : Int32} (hX : TXR f g n) (ha : a + 2 < 48) : ∀ (m p : Nat) (pl tu w : Int32) (D : Nat → Int32) (u : Option Value) (h : ev_H), p ≤ n → h 420 = c420 th tr (nI n) (nI (rdP f n p)) (kmap (tK f n p)) (nI (rdS f n p)) w (-1) cl md ss wg → (tK f n p = 1 ∨ tK f n p = 3 ∨ tK f n p = 4 → w = tV f n p) → h 421 = c421 g → h 423 = cI 48 D → D a = pl → D (a + 1) = tu → UI m (pl ||| tu) → SH h → EV xs L (d + 4) 0 0 M_X12_readsClause 434 h 49 [some (.ref 420), some (.int (nI a)), u] [] (mcQ f n a th tr cl md ss wg h D (clL f n m p pl tu)) := by
  intro m
  induction m with
  | zero => intro p pl tu w D u h hp h5 hw h6 h7 hda hdb hu hS; exact s_X12_readsClause_step hS hX hp h5 hw h6 h7 ha hda hdb hu (fun m' _ _ _ _ _ _ _ e => absurd e (by omega))
  | succ m ih => intro p pl tu w D u h hp h5 hw h6 h7 hda hdb hu hS; exact s_X12_readsClause_step hS hX hp h5 hw h6 h7 ha hda hdb hu (fun m' p' pl' tu' w' D' u' h' e q1 q2 q3 q4 q5 q6 q7 q8 q9 => by
      obtain rfl : m' = m := by omega
      exact ih p' pl' tu' w' D' u' h' q1 q2 q3 q4 q5 q6 q7 q8 q9)
