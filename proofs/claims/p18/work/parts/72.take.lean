theorem dX11_takeClauses_0 : decode cX11_takeClauses 0 = .ok (.aload_n 0, 1) := by decide +kernel
theorem dX11_takeClauses_1 : decode cX11_takeClauses 1 = .ok (.aload_n 0, 1) := by decide +kernel
theorem dX11_takeClauses_2 : decode cX11_takeClauses 2 = .ok (.getfield 19, 3) := by decide +kernel
theorem dX11_takeClauses_5 : decode cX11_takeClauses 5 = .ok (.invokevirtual 226, 3) := by decide +kernel
theorem dX11_takeClauses_8 : decode cX11_takeClauses 8 = .ok (.aload_n 0, 1) := by decide +kernel
theorem dX11_takeClauses_9 : decode cX11_takeClauses 9 = .ok (.getfield 25, 3) := by decide +kernel
theorem dX11_takeClauses_12 : decode cX11_takeClauses 12 = .ok (.arraylength, 1) := by decide +kernel
theorem dX11_takeClauses_13 : decode cX11_takeClauses 13 = .ok (.invokestatic 229, 3) := by decide +kernel
theorem dX11_takeClauses_16 : decode cX11_takeClauses 16 = .ok (.putfield 108, 3) := by decide +kernel
theorem dX11_takeClauses_19 : decode cX11_takeClauses 19 = .ok (.iconst 0, 1) := by decide +kernel
theorem dX11_takeClauses_20 : decode cX11_takeClauses 20 = .ok (.istore_n 1, 1) := by decide +kernel
theorem dX11_takeClauses_21 : decode cX11_takeClauses 21 = .ok (.iload_n 1, 1) := by decide +kernel
theorem dX11_takeClauses_22 : decode cX11_takeClauses 22 = .ok (.aload_n 0, 1) := by decide +kernel
theorem dX11_takeClauses_23 : decode cX11_takeClauses 23 = .ok (.getfield 108, 3) := by decide +kernel
theorem dX11_takeClauses_26 : decode cX11_takeClauses 26 = .ok (.if_icmp .ge 42, 3) := by decide +kernel
theorem dX11_takeClauses_29 : decode cX11_takeClauses 29 = .ok (.aload_n 0, 1) := by decide +kernel
theorem dX11_takeClauses_30 : decode cX11_takeClauses 30 = .ok (.getfield 25, 3) := by decide +kernel
theorem dX11_takeClauses_33 : decode cX11_takeClauses 33 = .ok (.iload_n 1, 1) := by decide +kernel
theorem dX11_takeClauses_34 : decode cX11_takeClauses 34 = .ok (.aaload, 1) := by decide +kernel
theorem dX11_takeClauses_35 : decode cX11_takeClauses 35 = .ok (.aload_n 0, 1) := by decide +kernel
theorem dX11_takeClauses_36 : decode cX11_takeClauses 36 = .ok (.getfield 19, 3) := by decide +kernel
theorem dX11_takeClauses_39 : decode cX11_takeClauses 39 = .ok (.iload_n 1, 1) := by decide +kernel
theorem dX11_takeClauses_40 : decode cX11_takeClauses 40 = .ok (.invokevirtual 234, 3) := by decide +kernel
theorem dX11_takeClauses_43 : decode cX11_takeClauses 43 = .ok (.aload_n 0, 1) := by decide +kernel
theorem dX11_takeClauses_44 : decode cX11_takeClauses 44 = .ok (.getfield 19, 3) := by decide +kernel
theorem dX11_takeClauses_47 : decode cX11_takeClauses 47 = .ok (.iload_n 1, 1) := by decide +kernel
theorem dX11_takeClauses_48 : decode cX11_takeClauses 48 = .ok (.invokevirtual 237, 3) := by decide +kernel
theorem dX11_takeClauses_51 : decode cX11_takeClauses 51 = .ok (.aload_n 0, 1) := by decide +kernel
theorem dX11_takeClauses_52 : decode cX11_takeClauses 52 = .ok (.getfield 19, 3) := by decide +kernel
theorem dX11_takeClauses_55 : decode cX11_takeClauses 55 = .ok (.iload_n 1, 1) := by decide +kernel
theorem dX11_takeClauses_56 : decode cX11_takeClauses 56 = .ok (.invokevirtual 240, 3) := by decide +kernel
theorem dX11_takeClauses_59 : decode cX11_takeClauses 59 = .ok (.invokevirtual 243, 3) := by decide +kernel
theorem dX11_takeClauses_62 : decode cX11_takeClauses 62 = .ok (.iinc 1 1, 3) := by decide +kernel
theorem dX11_takeClauses_65 : decode cX11_takeClauses 65 = .ok (.goto (-44), 3) := by decide +kernel
theorem dX11_takeClauses_68 : decode cX11_takeClauses 68 = .ok (.aload_n 0, 1) := by decide +kernel
theorem dX11_takeClauses_69 : decode cX11_takeClauses 69 = .ok (.getfield 32, 3) := by decide +kernel
theorem dX11_takeClauses_72 : decode cX11_takeClauses 72 = .ok (.aload_n 0, 1) := by decide +kernel
theorem dX11_takeClauses_73 : decode cX11_takeClauses 73 = .ok (.getfield 25, 3) := by decide +kernel
theorem dX11_takeClauses_76 : decode cX11_takeClauses 76 = .ok (.aload_n 0, 1) := by decide +kernel
theorem dX11_takeClauses_77 : decode cX11_takeClauses 77 = .ok (.getfield 108, 3) := by decide +kernel
theorem dX11_takeClauses_80 : decode cX11_takeClauses 80 = .ok (.invokevirtual 247, 3) := by decide +kernel
theorem dX11_takeClauses_83 : decode cX11_takeClauses 83 = .ok (.aload_n 0, 1) := by decide +kernel
theorem dX11_takeClauses_84 : decode cX11_takeClauses 84 = .ok (.getfield 39, 3) := by decide +kernel
theorem dX11_takeClauses_87 : decode cX11_takeClauses 87 = .ok (.aload_n 0, 1) := by decide +kernel
theorem dX11_takeClauses_88 : decode cX11_takeClauses 88 = .ok (.getfield 25, 3) := by decide +kernel
theorem dX11_takeClauses_91 : decode cX11_takeClauses 91 = .ok (.aload_n 0, 1) := by decide +kernel
theorem dX11_takeClauses_92 : decode cX11_takeClauses 92 = .ok (.getfield 108, 3) := by decide +kernel
theorem dX11_takeClauses_95 : decode cX11_takeClauses 95 = .ok (.invokevirtual 251, 3) := by decide +kernel
theorem dX11_takeClauses_98 : decode cX11_takeClauses 98 = .ok (.iconst 0, 1) := by decide +kernel
theorem dX11_takeClauses_99 : decode cX11_takeClauses 99 = .ok (.istore_n 1, 1) := by decide +kernel
theorem dX11_takeClauses_100 : decode cX11_takeClauses 100 = .ok (.iload_n 1, 1) := by decide +kernel
theorem dX11_takeClauses_101 : decode cX11_takeClauses 101 = .ok (.aload_n 0, 1) := by decide +kernel
theorem dX11_takeClauses_102 : decode cX11_takeClauses 102 = .ok (.getfield 108, 3) := by decide +kernel
theorem dX11_takeClauses_105 : decode cX11_takeClauses 105 = .ok (.if_icmp .ge 25, 3) := by decide +kernel
theorem dX11_takeClauses_108 : decode cX11_takeClauses 108 = .ok (.aload_n 0, 1) := by decide +kernel
theorem dX11_takeClauses_109 : decode cX11_takeClauses 109 = .ok (.getfield 25, 3) := by decide +kernel
theorem dX11_takeClauses_112 : decode cX11_takeClauses 112 = .ok (.iload_n 1, 1) := by decide +kernel
theorem dX11_takeClauses_113 : decode cX11_takeClauses 113 = .ok (.aaload, 1) := by decide +kernel
theorem dX11_takeClauses_114 : decode cX11_takeClauses 114 = .ok (.aload_n 0, 1) := by decide +kernel
theorem dX11_takeClauses_115 : decode cX11_takeClauses 115 = .ok (.getfield 32, 3) := by decide +kernel
theorem dX11_takeClauses_118 : decode cX11_takeClauses 118 = .ok (.invokevirtual 214, 3) := by decide +kernel
theorem dX11_takeClauses_121 : decode cX11_takeClauses 121 = .ok (.invokevirtual 252, 3) := by decide +kernel
theorem dX11_takeClauses_124 : decode cX11_takeClauses 124 = .ok (.iinc 1 1, 3) := by decide +kernel
theorem dX11_takeClauses_127 : decode cX11_takeClauses 127 = .ok (.goto (-27), 3) := by decide +kernel
theorem dX11_takeClauses_130 : decode cX11_takeClauses 130 = .ok (.aload_n 0, 1) := by decide +kernel
theorem dX11_takeClauses_131 : decode cX11_takeClauses 131 = .ok (.getfield 46, 3) := by decide +kernel
theorem dX11_takeClauses_134 : decode cX11_takeClauses 134 = .ok (.invokevirtual 256, 3) := by decide +kernel
theorem dX11_takeClauses_137 : decode cX11_takeClauses 137 = .ok (.aload_n 0, 1) := by decide +kernel
theorem dX11_takeClauses_138 : decode cX11_takeClauses 138 = .ok (.invokevirtual 257, 3) := by decide +kernel
theorem dX11_takeClauses_141 : decode cX11_takeClauses 141 = .ok (.aload_n 0, 1) := by decide +kernel
theorem dX11_takeClauses_142 : decode cX11_takeClauses 142 = .ok (.aload_n 0, 1) := by decide +kernel
theorem dX11_takeClauses_143 : decode cX11_takeClauses 143 = .ok (.invokevirtual 260, 3) := by decide +kernel
theorem dX11_takeClauses_146 : decode cX11_takeClauses 146 = .ok (.putfield 86, 3) := by decide +kernel
theorem dX11_takeClauses_149 : decode cX11_takeClauses 149 = .ok (.return_, 1) := by decide +kernel
theorem dX11_takeSteps_0 : decode cX11_takeSteps 0 = .ok (.aload_n 0, 1) := by decide +kernel
theorem dX11_takeSteps_1 : decode cX11_takeSteps 1 = .ok (.invokevirtual 257, 3) := by decide +kernel
theorem dX11_takeSteps_4 : decode cX11_takeSteps 4 = .ok (.aload_n 0, 1) := by decide +kernel
theorem dX11_takeSteps_5 : decode cX11_takeSteps 5 = .ok (.aload_n 0, 1) := by decide +kernel
theorem dX11_takeSteps_6 : decode cX11_takeSteps 6 = .ok (.getfield 19, 3) := by decide +kernel
theorem dX11_takeSteps_9 : decode cX11_takeSteps 9 = .ok (.invokevirtual 263, 3) := by decide +kernel
theorem dX11_takeSteps_12 : decode cX11_takeSteps 12 = .ok (.putfield 211, 3) := by decide +kernel
theorem dX11_takeSteps_15 : decode cX11_takeSteps 15 = .ok (.iconst 0, 1) := by decide +kernel
theorem dX11_takeSteps_16 : decode cX11_takeSteps 16 = .ok (.istore_n 1, 1) := by decide +kernel
theorem dX11_takeSteps_17 : decode cX11_takeSteps 17 = .ok (.iload_n 1, 1) := by decide +kernel
theorem dX11_takeSteps_18 : decode cX11_takeSteps 18 = .ok (.aload_n 0, 1) := by decide +kernel
theorem dX11_takeSteps_19 : decode cX11_takeSteps 19 = .ok (.getfield 211, 3) := by decide +kernel
theorem dX11_takeSteps_22 : decode cX11_takeSteps 22 = .ok (.if_icmp .ge 44, 3) := by decide +kernel
theorem dX11_takeSteps_25 : decode cX11_takeSteps 25 = .ok (.aload_n 0, 1) := by decide +kernel
theorem dX11_takeSteps_26 : decode cX11_takeSteps 26 = .ok (.getfield 82, 3) := by decide +kernel
theorem dX11_takeSteps_29 : decode cX11_takeSteps 29 = .ok (.bipush (-9), 2) := by decide +kernel
theorem dX11_takeSteps_31 : decode cX11_takeSteps 31 = .ok (.if_icmp .ne 35, 3) := by decide +kernel
theorem dX11_takeSteps_34 : decode cX11_takeSteps 34 = .ok (.aload_n 0, 1) := by decide +kernel
theorem dX11_takeSteps_35 : decode cX11_takeSteps 35 = .ok (.iload_n 1, 1) := by decide +kernel
theorem dX11_takeSteps_36 : decode cX11_takeSteps 36 = .ok (.invokevirtual 266, 3) := by decide +kernel
theorem dX11_takeSteps_39 : decode cX11_takeSteps 39 = .ok (.ifCond .eq 16, 3) := by decide +kernel
theorem dX11_takeSteps_42 : decode cX11_takeSteps 42 = .ok (.aload_n 0, 1) := by decide +kernel
theorem dX11_takeSteps_43 : decode cX11_takeSteps 43 = .ok (.dup, 1) := by decide +kernel
theorem dX11_takeSteps_44 : decode cX11_takeSteps 44 = .ok (.getfield 118, 3) := by decide +kernel
theorem dX11_takeSteps_47 : decode cX11_takeSteps 47 = .ok (.iconst 1, 1) := by decide +kernel
theorem dX11_takeSteps_48 : decode cX11_takeSteps 48 = .ok (.iadd, 1) := by decide +kernel
theorem dX11_takeSteps_49 : decode cX11_takeSteps 49 = .ok (.putfield 118, 3) := by decide +kernel
theorem dX11_takeSteps_52 : decode cX11_takeSteps 52 = .ok (.goto 8, 3) := by decide +kernel
theorem dX11_takeSteps_55 : decode cX11_takeSteps 55 = .ok (.aload_n 0, 1) := by decide +kernel
theorem dX11_takeSteps_56 : decode cX11_takeSteps 56 = .ok (.iload_n 1, 1) := by decide +kernel
theorem dX11_takeSteps_57 : decode cX11_takeSteps 57 = .ok (.putfield 82, 3) := by decide +kernel
theorem dX11_takeSteps_60 : decode cX11_takeSteps 60 = .ok (.iinc 1 1, 3) := by decide +kernel
theorem dX11_takeSteps_63 : decode cX11_takeSteps 63 = .ok (.goto (-46), 3) := by decide +kernel
theorem dX11_takeSteps_66 : decode cX11_takeSteps 66 = .ok (.aload_n 0, 1) := by decide +kernel
theorem dX11_takeSteps_67 : decode cX11_takeSteps 67 = .ok (.aload_n 0, 1) := by decide +kernel
theorem dX11_takeSteps_68 : decode cX11_takeSteps 68 = .ok (.invokevirtual 260, 3) := by decide +kernel
theorem dX11_takeSteps_71 : decode cX11_takeSteps 71 = .ok (.putfield 86, 3) := by decide +kernel
theorem dX11_takeSteps_74 : decode cX11_takeSteps 74 = .ok (.return_, 1) := by decide +kernel
set_option maxRecDepth 20000 in
set_option maxHeartbeats 1000000 in
theorem s_X11_forgetProofx {xs : Nat → Int32} {L d : Nat} {h : ev_H} {cc lc sc wr el : Int32} (hS : SH h) (h2 : h 2 = c2 cc lc sc wr el) : EV xs L (d + 0) 0 0 M_X11_forgetProof 434 h 0 [some (.ref 2)] [] (fun sz' h' r => sz' = 434 ∧ SH h' ∧ KM [2] h h' ∧ (h' 2 = c2 cc cc 0 (-9) el ∧ r = [])) := by
  refine r_aload_n rfl dX11_forgetProof_0 rfl ?_
  refine r_aload_n rfl dX11_forgetProof_1 rfl ?_
  refine r_getv 11 rfl dX11_forgetProof_2 (show 2 ≤ 2 ∧ 2 < 434 by decide) h2 fl_X11_108 rfl ?_
  refine e_put 12 (fs' := [.ref 3, .ref 5, .ref 12, .ref 13, .ref 24, .ref 93, .ref 95, .ref 96, .ref 97, .ref 98, .ref 99, .int cc, .int cc, .int sc, .int wr, .int el]) rfl dX11_forgetProof_5 (show 2 ≤ 2 ∧ 2 < 434 by decide) hS (KM_rf (Mod := [2]) h) (by decide) h2 (fp_X11_118 rfl _) (Nat.le_of_ble_eq_true rfl) rfl (fun h51 hS52 hF53 hN54 f55 => ?_)
  refine r_aload_n rfl dX11_forgetProof_8 rfl ?_
  refine r_iconst (v := 0) rfl dX11_forgetProof_9 (by decide) ?_
  refine e_put 13 (fs' := [.ref 3, .ref 5, .ref 12, .ref 13, .ref 24, .ref 93, .ref 95, .ref 96, .ref 97, .ref 98, .ref 99, .int cc, .int cc, .int 0, .int wr, .int el]) rfl dX11_forgetProof_10 (show 2 ≤ 2 ∧ 2 < 434 by decide) hS52 hF53 (by decide) f55 (fp_X11_211 rfl _) (Nat.le_of_ble_eq_true rfl) rfl (fun h56 hS57 hF58 hN59 f60 => ?_)
  refine r_aload_n rfl dX11_forgetProof_13 rfl ?_
  refine r_bipush (v := (-9)) rfl dX11_forgetProof_14 (by decide) ?_
  refine e_put 14 (fs' := [.ref 3, .ref 5, .ref 12, .ref 13, .ref 24, .ref 93, .ref 95, .ref 96, .ref 97, .ref 98, .ref 99, .int cc, .int cc, .int 0, .int (-9), .int el]) rfl dX11_forgetProof_16 (show 2 ≤ 2 ∧ 2 < 434 by decide) hS57 hF58 (by decide) f60 (fp_X11_82 rfl _) (Nat.le_of_ble_eq_true rfl) rfl (fun h61 hS62 hF63 hN64 f65 => ?_)
  exact r_ret dX11_forgetProof_19 (rt_v rfl) ⟨rfl, hS62, hF63, f65, rfl⟩
/-- what takeClauses leaves -/
def tcQ (h0 : ev_H) (c : Nat) : ev_Q := fun sz' h' r => sz' = 434 ∧ SH h' ∧ KQ h0 h' ∧ (∃ el, h' 2 = c2 (nI c) (nI c) 0 (-9) el) ∧ (∃ cc : Int32, cc.toInt ≤ 16 ∧ ∃ kn bs bz, h' 24 = c24 cc kn bs bz) ∧ r = []
set_option maxRecDepth 20000 in
set_option maxHeartbeats 1000000 in
theorem s_tc2_z {xs : Nat → Int32} {L d : Nat} {h : ev_H} {h0 : ev_H} {c k : Nat} {lc sc wr el : Int32} {cc kn bs bz : Int32} (hS : SH h) (hF : KQ h0 h) (hc : c ≤ 16) (h2 : h 2 = c2 (nI c) lc sc wr el) (hcc : cc.toInt ≤ 16) (h24 : h 24 = c24 cc kn bs bz) (hk : k = c) : EV xs L (d + 5) 0 0 M_X11_takeClauses 434 h 100 [some (.ref 2), some (.int (nI k))] [] (tcQ h0 c) := by
  refine r_iload_n rfl dX11_takeClauses_100 rfl ?_
  refine r_aload_n rfl dX11_takeClauses_101 rfl ?_
  refine r_getv 11 rfl dX11_takeClauses_102 (show 2 ≤ 2 ∧ 2 < 434 by decide) h2 fl_X11_108 rfl ?_
  refine r_icmp_ge (tgt := 130) rfl rfl dX11_takeClauses_105 (fun _ => ?_) (fun zc => absurd (show nI c ≤ nI k from nI_le (a := c) (b := k) (by omega) (by omega)) zc)
  refine r_aload_n rfl dX11_takeClauses_130 rfl ?_
  refine r_getv 5 rfl dX11_takeClauses_131 (show 2 ≤ 2 ∧ 2 < 434 by decide) h2 fl_X11_46 rfl ?_
  obtain ⟨g51, hw52⟩ := hS.ws wsAt_93
  refine cl_X11_256 rfl rfl dX11_takeClauses_134 (show 2 ≤ 93 ∧ 93 < 434 by decide).1 (show 2 ≤ 93 ∧ 93 < 434 by decide).2 hw52.2.2.1 (Nat.le_of_ble_eq_true rfl) ((s_X10_wipe hw52).shB hS (okl_c (vr_r (show RB (93) from Or.inr ⟨by omega, by omega, by omega⟩)) (okl_o okl_n))) ?_
  rintro _ h53 _ ⟨⟨-, -, rfl⟩, rfl, hS54, hk55⟩
  have hF56 := KQ_tr hF (KQ_B hk55)
  have f57 : h53 2 = .inr (11, [.ref 3, .ref 5, .ref 12, .ref 13, .ref 24, .ref 93, .ref 95, .ref 96, .ref 97, .ref 98, .ref 99, .int (nI c), .int lc, .int sc, .int wr, .int el]) := (hk55 2 (RB_n (by decide) (by decide))).trans h2
  have f58 : h53 24 = c24 cc kn bs bz := (hk55 24 (RB_n (by decide) (by decide))).trans h24
  refine r_aload_n rfl dX11_takeClauses_137 rfl ?_
  refine cl_X11_257 rfl rfl dX11_takeClauses_138 (show 2 ≤ 2 ∧ 2 < 434 by decide).1 (show 2 ≤ 2 ∧ 2 < 434 by decide).2 f57 (Nat.le_of_ble_eq_true rfl) (s_X11_forgetProofx hS54 f57) ?_
  rintro _ h59 _ ⟨rfl, hS60, hk61, f62, rfl⟩
  have hF63 := KQ_tr hF56 (KQ_2 hk61)
  have f64 : h59 24 = c24 cc kn bs bz := (hk61 24 (by decide)).trans f58
  refine r_aload_n rfl dX11_takeClauses_141 rfl ?_
  refine r_aload_n rfl dX11_takeClauses_142 rfl ?_
  refine cl_X11_260 rfl rfl dX11_takeClauses_143 (show 2 ≤ 2 ∧ 2 < 434 by decide).1 (show 2 ≤ 2 ∧ 2 < 434 by decide).2 f62 (Nat.le_of_ble_eq_true rfl) ((s_X11_firstEmptyLine hS60 f62).sh hS60) ?_
  rintro _ h65 _ ⟨⟨⟨x68, rfl⟩, hk67⟩, rfl, hS66, -⟩
  have hF69 := KQ_tr hF63 (KQ_B hk67)
  have f70 : h65 24 = c24 cc kn bs bz := (hk67 24 (RB_n (by decide) (by decide))).trans f64
  have f71 : h65 2 = .inr (11, [.ref 3, .ref 5, .ref 12, .ref 13, .ref 24, .ref 93, .ref 95, .ref 96, .ref 97, .ref 98, .ref 99, .int (nI c), .int (nI c), .int 0, .int (-9), .int el]) := (hk67 2 (RB_n (by decide) (by decide))).trans f62
  refine e_put 15 (fs' := [.ref 3, .ref 5, .ref 12, .ref 13, .ref 24, .ref 93, .ref 95, .ref 96, .ref 97, .ref 98, .ref 99, .int (nI c), .int (nI c), .int 0, .int (-9), .int x68]) rfl dX11_takeClauses_146 (show 2 ≤ 2 ∧ 2 < 434 by decide) hS66 (KM_rf (Mod := [2]) _) (by decide) f71 (fp_X11_86 rfl _) (Nat.le_of_ble_eq_true rfl) rfl (fun h72 hS73 _ hN74 f75 => ?_)
  have hF76 := KQ_tr hF69 (KQ_2 hN74)
  have f77 : h72 24 = c24 cc kn bs bz := (hN74 24 (by decide)).trans f70
  exact r_ret dX11_takeClauses_149 (rt_v rfl) ⟨rfl, hS73, hF76, ⟨_, f75⟩, ⟨_, hcc, _, _, _, f77⟩, rfl⟩
set_option maxRecDepth 20000 in
set_option maxHeartbeats 1000000 in
theorem s_tc2_s {xs : Nat → Int32} {L d : Nat} {h : ev_H} {h0 : ev_H} {c k : Nat} {lc sc wr el : Int32} {cc kn bs bz : Int32} (hS : SH h) (hF : KQ h0 h) (hc : c ≤ 16) (h2 : h 2 = c2 (nI c) lc sc wr el) (hcc : cc.toInt ≤ 16) (h24 : h 24 = c24 cc kn bs bz) (hk : k < c) (ih : ∀ h' : ev_H, SH h' → KQ h0 h' → h' 2 = c2 (nI c) lc sc wr el → h' 24 = c24 cc kn bs bz → EV xs L (d + 5) 0 0 M_X11_takeClauses 434 h' 100 [some (.ref 2), some (.int (nI (k + 1)))] [] (tcQ h0 c)) : EV xs L (d + 5) 0 0 M_X11_takeClauses 434 h 100 [some (.ref 2), some (.int (nI k))] [] (tcQ h0 c) := by
  refine r_iload_n rfl dX11_takeClauses_100 rfl ?_
  refine r_aload_n rfl dX11_takeClauses_101 rfl ?_
  refine r_getv 11 rfl dX11_takeClauses_102 (show 2 ≤ 2 ∧ 2 < 434 by decide) h2 fl_X11_108 rfl ?_
  refine r_icmp_ge (tgt := 130) rfl rfl dX11_takeClauses_105 (fun zc => absurd zc (show ¬ nI c ≤ nI k from nI_ge (a := k) (b := c) (by omega) (by omega))) (fun _ => ?_)
  refine r_aload_n rfl dX11_takeClauses_108 rfl ?_
  refine r_getv 2 rfl dX11_takeClauses_109 (show 2 ≤ 2 ∧ 2 < 434 by decide) h2 fl_X11_25 rfl ?_
  refine r_iload_n rfl dX11_takeClauses_112 rfl ?_
  refine r_aald (jn := k) (v := .ref (100 + 8 * k)) rfl dX11_takeClauses_113 (by decide) (by decide) hS.o12 (by decide) (vp_in_nI (n := k) (by omega) (by decide)) (nI_clamp (n := k) (by omega)) (by show va_rf (if _ < _ then _ else _) = _; rw [if_pos (show k < 40 by omega)]; rfl) ?_
  refine r_aload_n rfl dX11_takeClauses_114 rfl ?_
  refine r_getv 3 rfl dX11_takeClauses_115 (show 2 ≤ 2 ∧ 2 < 434 by decide) h2 fl_X11_32 rfl ?_
  obtain ⟨y51, y52, y53, y54, f55⟩ := hS.o13
  refine cl_X11_214 rfl rfl dX11_takeClauses_118 (show 2 ≤ 13 ∧ 13 < 434 by decide).1 (show 2 ≤ 13 ∧ 13 < 434 by decide).2 f55 (Nat.le_of_ble_eq_true rfl) ((s_X7_sharedLetters hS).shB hS (okl_c (vr_r (show RB (13) from Or.inr ⟨by omega, by omega, by omega⟩)) okl_n)) ?_
  rintro _ h56 _ ⟨⟨x59, rfl⟩, rfl, hS57, hk58⟩
  have hF60 := KQ_tr hF (KQ_B hk58)
  have f61 : h56 2 = .inr (11, [.ref 3, .ref 5, .ref 12, .ref 13, .ref 24, .ref 93, .ref 95, .ref 96, .ref 97, .ref 98, .ref 99, .int (nI c), .int lc, .int sc, .int wr, .int el]) := (hk58 2 (RB_n (by decide) (by decide))).trans h2
  have f62 : h56 24 = c24 cc kn bs bz := (hk58 24 (RB_n (by decide) (by decide))).trans h24
  obtain ⟨y63, y64, y65, y66, y67, y68, f69⟩ := hS57.ln (i := k) (by omega)
  refine cl_X11_252 rfl rfl dX11_takeClauses_121 (show 2 ≤ 100 + 8 * k ∧ 100 + 8 * k < 434 by omega).1 (show 2 ≤ 100 + 8 * k ∧ 100 + 8 * k < 434 by omega).2 f69 (Nat.le_of_ble_eq_true rfl) ((s_X3_sayAsClause hS57 (i := k) (by omega)).shB hS57 (okl_c (vr_r (show RB (100 + 8 * k) from Or.inr ⟨by omega, by omega, by omega⟩)) (okl_c (vr_i _) okl_n))) ?_
  rintro _ h70 _ ⟨rfl, rfl, hS71, hk72⟩
  have hF73 := KQ_tr hF60 (KQ_B hk72)
  have f74 : h70 2 = .inr (11, [.ref 3, .ref 5, .ref 12, .ref 13, .ref 24, .ref 93, .ref 95, .ref 96, .ref 97, .ref 98, .ref 99, .int (nI c), .int lc, .int sc, .int wr, .int el]) := (hk72 2 (RB_n (by decide) (by decide))).trans f61
  have f75 : h70 24 = c24 cc kn bs bz := (hk72 24 (RB_n (by decide) (by decide))).trans f62
  refine r_iinc (y := nI (k + 1)) (ls' := [some (.ref 2), some (.int (nI (k + 1)))]) rfl dX11_takeClauses_124 rfl (nI_1 k) (Nat.le_of_ble_eq_true rfl) rfl ?_
  refine r_goto (pc' := 100) rfl dX11_takeClauses_127 ?_
  exact ih h70 hS71 hF73 f74 f75
theorem s_tc2 {xs : Nat → Int32} {L d : Nat} {h0 : ev_H} {c : Nat} {lc sc wr el cc kn bs bz : Int32} (hc : c ≤ 16) (hcc : cc.toInt ≤ 16) : ∀ (n k : Nat) (h : ev_H), k + n = c → SH h → KQ h0 h → h 2 = c2 (nI c) lc sc wr el → h 24 = c24 cc kn bs bz → EV xs L (d + 5) 0 0 M_X11_takeClauses 434 h 100 [some (.ref 2), some (.int (nI k))] [] (tcQ h0 c) := by
  intro n
  induction n with
  | zero => intro k h hk hS hF h2 h24; exact s_tc2_z hS hF hc h2 hcc h24 (by omega)
  | succ n ih => intro k h hk hS hF h2 h24; exact s_tc2_s hS hF hc h2 hcc h24 (by omega) (fun h' q1 q2 q3 q4 => ih (k + 1) h' (by omega) q1 q2 q3 q4)
set_option maxRecDepth 20000 in
set_option maxHeartbeats 1000000 in
theorem s_tc1_z {xs : Nat → Int32} {L d : Nat} {h : ev_H} {h0 : ev_H} {c k : Nat} {lc sc wr el cr pl tu sr : Int32} {A B C : Nat → Int32} (hS : SH h) (hF : KQ h0 h) (hc : c ≤ 16) (h2 : h 2 = c2 (nI c) lc sc wr el) (h5 : h 5 = c5 cr pl tu sr) (h6 : h 6 = cI 16 A) (h7 : h 7 = cI 16 B) (h8 : h 8 = cI 16 C) (hk : k = c) : EV xs L (d + 5) 0 0 M_X11_takeClauses 434 h 21 [some (.ref 2), some (.int (nI k))] [] (tcQ h0 c) := by
  refine r_iload_n rfl dX11_takeClauses_21 rfl ?_
  refine r_aload_n rfl dX11_takeClauses_22 rfl ?_
  refine r_getv 11 rfl dX11_takeClauses_23 (show 2 ≤ 2 ∧ 2 < 434 by decide) h2 fl_X11_108 rfl ?_
  refine r_icmp_ge (tgt := 68) rfl rfl dX11_takeClauses_26 (fun _ => ?_) (fun zc => absurd (show nI c ≤ nI k from nI_le (a := c) (b := k) (by omega) (by omega)) zc)
  refine r_aload_n rfl dX11_takeClauses_68 rfl ?_
  refine r_getv 3 rfl dX11_takeClauses_69 (show 2 ≤ 2 ∧ 2 < 434 by decide) h2 fl_X11_32 rfl ?_
  refine r_aload_n rfl dX11_takeClauses_72 rfl ?_
  refine r_getv 2 rfl dX11_takeClauses_73 (show 2 ≤ 2 ∧ 2 < 434 by decide) h2 fl_X11_25 rfl ?_
  refine r_aload_n rfl dX11_takeClauses_76 rfl ?_
  refine r_getv 11 rfl dX11_takeClauses_77 (show 2 ≤ 2 ∧ 2 < 434 by decide) h2 fl_X11_108 rfl ?_
  obtain ⟨y51, y52, y53, y54, f55⟩ := hS.o13
  refine cl_X11_247 rfl rfl dX11_takeClauses_80 (show 2 ≤ 13 ∧ 13 < 434 by decide).1 (show 2 ≤ 13 ∧ 13 < 434 by decide).2 f55 (Nat.le_of_ble_eq_true rfl) ((s_X7_learn hS).shB hS (okl_c (vr_r (show RB (13) from Or.inr ⟨by omega, by omega, by omega⟩)) (okl_c (vr_r (show RB (12) from Or.inr ⟨by omega, by omega, by omega⟩)) (okl_c (vr_i _) (okl_o okl_n))))) ?_
  rintro _ h56 _ ⟨rfl, rfl, hS57, hk58⟩
  have hF59 := KQ_tr hF (KQ_B hk58)
  have f60 : h56 2 = .inr (11, [.ref 3, .ref 5, .ref 12, .ref 13, .ref 24, .ref 93, .ref 95, .ref 96, .ref 97, .ref 98, .ref 99, .int (nI c), .int lc, .int sc, .int wr, .int el]) := (hk58 2 (RB_n (by decide) (by decide))).trans h2
  have f61 : h56 5 = .inr (4, [.ref 6, .ref 7, .ref 8, .int cr, .int pl, .int tu, .ref 9, .ref 10, .ref 11, .int sr]) := (hk58 5 (RB_n (by decide) (by decide))).trans h5
  have f62 : h56 6 = .inl (0, 16, .inl A) := (hk58 6 (RB_n (by decide) (by decide))).trans h6
  have f63 : h56 7 = .inl (0, 16, .inl B) := (hk58 7 (RB_n (by decide) (by decide))).trans h7
  have f64 : h56 8 = .inl (0, 16, .inl C) := (hk58 8 (RB_n (by decide) (by decide))).trans h8
  refine r_aload_n rfl dX11_takeClauses_83 rfl ?_
  refine r_getv 4 rfl dX11_takeClauses_84 (show 2 ≤ 2 ∧ 2 < 434 by decide) f60 fl_X11_39 rfl ?_
  refine r_aload_n rfl dX11_takeClauses_87 rfl ?_
  refine r_getv 2 rfl dX11_takeClauses_88 (show 2 ≤ 2 ∧ 2 < 434 by decide) f60 fl_X11_25 rfl ?_
  refine r_aload_n rfl dX11_takeClauses_91 rfl ?_
  refine r_getv 11 rfl dX11_takeClauses_92 (show 2 ≤ 2 ∧ 2 < 434 by decide) f60 fl_X11_108 rfl ?_
  obtain ⟨y65, y66, y67, y68, f69⟩ := hS57.o24
  refine cl_X11_251 rfl rfl dX11_takeClauses_95 (show 2 ≤ 24 ∧ 24 < 434 by decide).1 (show 2 ≤ 24 ∧ 24 < 434 by decide).2 f69 (Nat.le_of_ble_eq_true rfl) ((s_X0_learn hS57).shC hS57 (okl_c (vr_r (show RCb 24 = true by decide)) (okl_c (vr_r (show RCb 12 = true by decide)) (okl_c (vr_i _) (okl_o okl_n))))) ?_
  rintro _ h70 _ ⟨⟨rfl, cc73, hcc74, k75, k76, k77, f78⟩, rfl, hS71, hk72⟩
  have hF79 := KQ_tr hF59 (KQ_C hk72)
  have f80 : h70 2 = .inr (11, [.ref 3, .ref 5, .ref 12, .ref 13, .ref 24, .ref 93, .ref 95, .ref 96, .ref 97, .ref 98, .ref 99, .int (nI c), .int lc, .int sc, .int wr, .int el]) := (hk72 2 (by decide)).trans f60
  have f81 : h70 5 = .inr (4, [.ref 6, .ref 7, .ref 8, .int cr, .int pl, .int tu, .ref 9, .ref 10, .ref 11, .int sr]) := (hk72 5 (by decide)).trans f61
  have f82 : h70 6 = .inl (0, 16, .inl A) := (hk72 6 (by decide)).trans f62
  have f83 : h70 7 = .inl (0, 16, .inl B) := (hk72 7 (by decide)).trans f63
  have f84 : h70 8 = .inl (0, 16, .inl C) := (hk72 8 (by decide)).trans f64
  refine r_iconst (v := 0) rfl dX11_takeClauses_98 (by decide) ?_
  refine r_istore_n (ls' := [some (.ref 2), some (.int 0)]) rfl dX11_takeClauses_99 (Nat.le_of_ble_eq_true rfl) rfl ?_
  exact s_tc2 hc hcc74 c 0 h70 (by omega) hS71 hF79 f80 f78
set_option maxRecDepth 20000 in
set_option maxHeartbeats 1000000 in
theorem s_tc1_s {xs : Nat → Int32} {L d : Nat} {h : ev_H} {h0 : ev_H} {c k : Nat} {lc sc wr el cr pl tu sr : Int32} {A B C : Nat → Int32} (hS : SH h) (hF : KQ h0 h) (hc : c ≤ 16) (h2 : h 2 = c2 (nI c) lc sc wr el) (h5 : h 5 = c5 cr pl tu sr) (h6 : h 6 = cI 16 A) (h7 : h 7 = cI 16 B) (h8 : h 8 = cI 16 C) (hk : k < c) (ih : ∀ h' : ev_H, SH h' → KQ h0 h' → h' 2 = c2 (nI c) lc sc wr el → h' 5 = c5 cr pl tu sr → h' 6 = cI 16 A → h' 7 = cI 16 B → h' 8 = cI 16 C → EV xs L (d + 5) 0 0 M_X11_takeClauses 434 h' 21 [some (.ref 2), some (.int (nI (k + 1)))] [] (tcQ h0 c)) : EV xs L (d + 5) 0 0 M_X11_takeClauses 434 h 21 [some (.ref 2), some (.int (nI k))] [] (tcQ h0 c) := by
  refine r_iload_n rfl dX11_takeClauses_21 rfl ?_
  refine r_aload_n rfl dX11_takeClauses_22 rfl ?_
  refine r_getv 11 rfl dX11_takeClauses_23 (show 2 ≤ 2 ∧ 2 < 434 by decide) h2 fl_X11_108 rfl ?_
  refine r_icmp_ge (tgt := 68) rfl rfl dX11_takeClauses_26 (fun zc => absurd zc (show ¬ nI c ≤ nI k from nI_ge (a := k) (b := c) (by omega) (by omega))) (fun _ => ?_)
  refine r_aload_n rfl dX11_takeClauses_29 rfl ?_
  refine r_getv 2 rfl dX11_takeClauses_30 (show 2 ≤ 2 ∧ 2 < 434 by decide) h2 fl_X11_25 rfl ?_
  refine r_iload_n rfl dX11_takeClauses_33 rfl ?_
  refine r_aald (jn := k) (v := .ref (100 + 8 * k)) rfl dX11_takeClauses_34 (by decide) (by decide) hS.o12 (by decide) (vp_in_nI (n := k) (by omega) (by decide)) (nI_clamp (n := k) (by omega)) (by show va_rf (if _ < _ then _ else _) = _; rw [if_pos (show k < 40 by omega)]; rfl) ?_
  refine r_aload_n rfl dX11_takeClauses_35 rfl ?_
  refine r_getv 1 rfl dX11_takeClauses_36 (show 2 ≤ 2 ∧ 2 < 434 by decide) h2 fl_X11_19 rfl ?_
  refine r_iload_n rfl dX11_takeClauses_39 rfl ?_
  refine cl_X11_234 rfl rfl dX11_takeClauses_40 (show 2 ≤ 5 ∧ 5 < 434 by decide).1 (show 2 ≤ 5 ∧ 5 < 434 by decide).2 h5 (Nat.le_of_ble_eq_true rfl) (s_X4_sideOf hS h5 h6 (k := k) (by omega)) ?_
  rintro _ h51 _ ⟨rfl, e52, rfl⟩
  replace e52 := e52.symm
  subst e52
  refine r_aload_n rfl dX11_takeClauses_43 rfl ?_
  refine r_getv 1 rfl dX11_takeClauses_44 (show 2 ≤ 2 ∧ 2 < 434 by decide) h2 fl_X11_19 rfl ?_
  refine r_iload_n rfl dX11_takeClauses_47 rfl ?_
  refine cl_X11_237 rfl rfl dX11_takeClauses_48 (show 2 ≤ 5 ∧ 5 < 434 by decide).1 (show 2 ≤ 5 ∧ 5 < 434 by decide).2 h5 (Nat.le_of_ble_eq_true rfl) (s_X4_plainOf hS h5 h7 (k := k) (by omega)) ?_
  rintro _ h53 _ ⟨rfl, e54, rfl⟩
  replace e54 := e54.symm
  subst e54
  refine r_aload_n rfl dX11_takeClauses_51 rfl ?_
  refine r_getv 1 rfl dX11_takeClauses_52 (show 2 ≤ 2 ∧ 2 < 434 by decide) h2 fl_X11_19 rfl ?_
  refine r_iload_n rfl dX11_takeClauses_55 rfl ?_
  refine cl_X11_240 rfl rfl dX11_takeClauses_56 (show 2 ≤ 5 ∧ 5 < 434 by decide).1 (show 2 ≤ 5 ∧ 5 < 434 by decide).2 h5 (Nat.le_of_ble_eq_true rfl) (s_X4_turnedOf hS h5 h8 (k := k) (by omega)) ?_
  rintro _ h55 _ ⟨rfl, e56, rfl⟩
  replace e56 := e56.symm
  subst e56
  obtain ⟨y57, y58, y59, y60, y61, y62, f63⟩ := hS.ln (i := k) (by omega)
  refine cl_X11_243 rfl rfl dX11_takeClauses_59 (show 2 ≤ 100 + 8 * k ∧ 100 + 8 * k < 434 by omega).1 (show 2 ≤ 100 + 8 * k ∧ 100 + 8 * k < 434 by omega).2 f63 (Nat.le_of_ble_eq_true rfl) ((s_X3_becomeClause hS (i := k) (by omega)).shB hS (okl_c (vr_r (show RB (100 + 8 * k) from Or.inr ⟨by omega, by omega, by omega⟩)) (okl_c (vr_i _) (okl_c (vr_i _) (okl_c (vr_i _) okl_n))))) ?_
  rintro _ h64 _ ⟨rfl, rfl, hS65, hk66⟩
  have hF67 := KQ_tr hF (KQ_B hk66)
  have f68 : h64 2 = .inr (11, [.ref 3, .ref 5, .ref 12, .ref 13, .ref 24, .ref 93, .ref 95, .ref 96, .ref 97, .ref 98, .ref 99, .int (nI c), .int lc, .int sc, .int wr, .int el]) := (hk66 2 (RB_n (by decide) (by decide))).trans h2
  have f69 : h64 5 = .inr (4, [.ref 6, .ref 7, .ref 8, .int cr, .int pl, .int tu, .ref 9, .ref 10, .ref 11, .int sr]) := (hk66 5 (RB_n (by decide) (by decide))).trans h5
  have f70 : h64 6 = .inl (0, 16, .inl A) := (hk66 6 (RB_n (by decide) (by decide))).trans h6
  have f71 : h64 7 = .inl (0, 16, .inl B) := (hk66 7 (RB_n (by decide) (by decide))).trans h7
  have f72 : h64 8 = .inl (0, 16, .inl C) := (hk66 8 (RB_n (by decide) (by decide))).trans h8
  refine r_iinc (y := nI (k + 1)) (ls' := [some (.ref 2), some (.int (nI (k + 1)))]) rfl dX11_takeClauses_62 rfl (nI_1 k) (Nat.le_of_ble_eq_true rfl) rfl ?_
  refine r_goto (pc' := 21) rfl dX11_takeClauses_65 ?_
  exact ih h64 hS65 hF67 f68 f69 f70 f71 f72
theorem s_tc1 {xs : Nat → Int32} {L d : Nat} {h0 : ev_H} {c : Nat} {lc sc wr el cr pl tu sr : Int32} {A B C : Nat → Int32} (hc : c ≤ 16) : ∀ (n k : Nat) (h : ev_H), k + n = c → SH h → KQ h0 h → h 2 = c2 (nI c) lc sc wr el → h 5 = c5 cr pl tu sr → h 6 = cI 16 A → h 7 = cI 16 B → h 8 = cI 16 C → EV xs L (d + 5) 0 0 M_X11_takeClauses 434 h 21 [some (.ref 2), some (.int (nI k))] [] (tcQ h0 c) := by
  intro n
  induction n with
  | zero => intro k h hk hS hF h2 h5 h6 h7 h8; exact s_tc1_z hS hF hc h2 h5 h6 h7 h8 (by omega)
  | succ n ih => intro k h hk hS hF h2 h5 h6 h7 h8; exact s_tc1_s hS hF hc h2 h5 h6 h7 h8 (by omega) (fun h' q1 q2 q3 q4 q5 q6 q7 => ih (k + 1) h' (by omega) q1 q2 q3 q4 q5 q6 q7)
set_option maxRecDepth 20000 in
set_option maxHeartbeats 1000000 in
theorem s_X11_takeClauses {xs : Nat → Int32} {L d : Nat} {h : ev_H} {c : Nat} {cc lc sc wr el pl tu sr : Int32} {A B C : Nat → Int32} (hS : SH h) (hc : c ≤ 16) (h2 : h 2 = c2 cc lc sc wr el) (h5 : h 5 = c5 (nI c) pl tu sr) (h6 : h 6 = cI 16 A) (h7 : h 7 = cI 16 B) (h8 : h 8 = cI 16 C) : EV xs L (d + 5) 0 0 M_X11_takeClauses 434 h 0 [some (.ref 2), none] [] (tcQ h c) := by
  refine r_aload_n rfl dX11_takeClauses_0 rfl ?_
  refine r_aload_n rfl dX11_takeClauses_1 rfl ?_
  refine r_getv 1 rfl dX11_takeClauses_2 (show 2 ≤ 2 ∧ 2 < 434 by decide) h2 fl_X11_19 rfl ?_
  refine cl_X11_226 rfl rfl dX11_takeClauses_5 (show 2 ≤ 5 ∧ 5 < 434 by decide).1 (show 2 ≤ 5 ∧ 5 < 434 by decide).2 h5 (Nat.le_of_ble_eq_true rfl) (s_X4_clausesRead hS h5) ?_
  rintro _ h51 _ ⟨rfl, e52, rfl⟩
  replace e52 := e52.symm
  subst e52
  refine r_aload_n rfl dX11_takeClauses_8 rfl ?_
  refine r_getv 2 rfl dX11_takeClauses_9 (show 2 ≤ 2 ∧ 2 < 434 by decide) h2 fl_X11_25 rfl ?_
  refine r_alen (v := 40) rfl dX11_takeClauses_12 (by decide) (by decide) hS.o12 (by decide) (by decide) ?_
  refine r_min rfl dX11_takeClauses_13 (Nat.succ_pos _) (Nat.le_of_ble_eq_true rfl) mm_X11_229 mm_st mm_in mm_co ?_
  refine r_eqi (y := nI c) (if_neg (show ¬ (40 : Int32) < nI c from nI_nlt (a := 40) (b := c) (by omega) (by decide))) ?_
  refine e_put 11 (fs' := [.ref 3, .ref 5, .ref 12, .ref 13, .ref 24, .ref 93, .ref 95, .ref 96, .ref 97, .ref 98, .ref 99, .int (nI c), .int lc, .int sc, .int wr, .int el]) rfl dX11_takeClauses_16 (show 2 ≤ 2 ∧ 2 < 434 by decide) hS (KM_rf (Mod := [2]) _) (by decide) h2 (fp_X11_108 rfl _) (Nat.le_of_ble_eq_true rfl) rfl (fun h53 hS54 _ hN55 f56 => ?_)
  have hF57 := KQ_tr (KQ_rf h) (KQ_2 hN55)
  have f58 : h53 5 = .inr (4, [.ref 6, .ref 7, .ref 8, .int (nI c), .int pl, .int tu, .ref 9, .ref 10, .ref 11, .int sr]) := (hN55 5 (by decide)).trans h5
  have f59 : h53 6 = .inl (0, 16, .inl A) := (hN55 6 (by decide)).trans h6
  have f60 : h53 7 = .inl (0, 16, .inl B) := (hN55 7 (by decide)).trans h7
  have f61 : h53 8 = .inl (0, 16, .inl C) := (hN55 8 (by decide)).trans h8
  refine r_iconst (v := 0) rfl dX11_takeClauses_19 (by decide) ?_
  refine r_istore_n (ls' := [some (.ref 2), some (.int 0)]) rfl dX11_takeClauses_20 (Nat.le_of_ble_eq_true rfl) rfl ?_
  exact s_tc1 hc c 0 h53 (by omega) hS54 hF57 f56 f58 f59 f60 f61
/-- what takeSteps leaves -/
def tsQ (h0 : ev_H) (c : Nat) (w24 : va_E) : ev_Q := fun sz' h' r => sz' = 434 ∧ SH h' ∧ KQ h0 h' ∧ (∃ lc sc wr el, h' 2 = c2 (nI c) lc sc wr el) ∧ h' 24 = w24 ∧ r = []
set_option maxRecDepth 20000 in
set_option maxHeartbeats 1000000 in
theorem s_ts_z {xs : Nat → Int32} {L d : Nat} {h : ev_H} {h0 : ev_H} {c t s : Nat} {w24 : va_E} {lc wr el cr pl tu sr : Int32} {A B C : Nat → Int32} (hS : SH h) (hF : KQ h0 h) (ht : t ≤ 24) (h2 : h 2 = c2 (nI c) lc (nI t) wr el) (h5 : h 5 = c5 cr pl tu sr) (h9 : h 9 = cI 24 A) (h10 : h 10 = cI 24 B) (h11 : h 11 = cI 24 C) (h24 : h 24 = w24) (hs : s = t) : EV xs L (d + 4) 0 0 M_X11_takeSteps 434 h 17 [some (.ref 2), some (.int (nI s))] [] (tsQ h0 c w24) := by
  refine r_iload_n rfl dX11_takeSteps_17 rfl ?_
  refine r_aload_n rfl dX11_takeSteps_18 rfl ?_
  refine r_getv 13 rfl dX11_takeSteps_19 (show 2 ≤ 2 ∧ 2 < 434 by decide) h2 fl_X11_211 rfl ?_
  refine r_icmp_ge (tgt := 66) rfl rfl dX11_takeSteps_22 (fun _ => ?_) (fun zc => absurd (show nI t ≤ nI s from nI_le (a := t) (b := s) (by omega) (by omega)) zc)
  refine r_aload_n rfl dX11_takeSteps_66 rfl ?_
  refine r_aload_n rfl dX11_takeSteps_67 rfl ?_
  refine cl_X11_260 rfl rfl dX11_takeSteps_68 (show 2 ≤ 2 ∧ 2 < 434 by decide).1 (show 2 ≤ 2 ∧ 2 < 434 by decide).2 h2 (Nat.le_of_ble_eq_true rfl) ((s_X11_firstEmptyLine hS h2).sh hS) ?_
  rintro _ h51 _ ⟨⟨⟨x54, rfl⟩, hk53⟩, rfl, hS52, -⟩
  have hF55 := KQ_tr hF (KQ_B hk53)
  have f56 : h51 2 = .inr (11, [.ref 3, .ref 5, .ref 12, .ref 13, .ref 24, .ref 93, .ref 95, .ref 96, .ref 97, .ref 98, .ref 99, .int (nI c), .int lc, .int (nI t), .int wr, .int el]) := (hk53 2 (RB_n (by decide) (by decide))).trans h2
  have f57 : h51 5 = .inr (4, [.ref 6, .ref 7, .ref 8, .int cr, .int pl, .int tu, .ref 9, .ref 10, .ref 11, .int sr]) := (hk53 5 (RB_n (by decide) (by decide))).trans h5
  have f58 : h51 9 = .inl (0, 24, .inl A) := (hk53 9 (RB_n (by decide) (by decide))).trans h9
  have f59 : h51 10 = .inl (0, 24, .inl B) := (hk53 10 (RB_n (by decide) (by decide))).trans h10
  have f60 : h51 11 = .inl (0, 24, .inl C) := (hk53 11 (RB_n (by decide) (by decide))).trans h11
  have f61 : h51 24 = w24 := (hk53 24 (RB_n (by decide) (by decide))).trans h24
  refine e_put 15 (fs' := [.ref 3, .ref 5, .ref 12, .ref 13, .ref 24, .ref 93, .ref 95, .ref 96, .ref 97, .ref 98, .ref 99, .int (nI c), .int lc, .int (nI t), .int wr, .int x54]) rfl dX11_takeSteps_71 (show 2 ≤ 2 ∧ 2 < 434 by decide) hS52 (KM_rf (Mod := [2]) _) (by decide) f56 (fp_X11_86 rfl _) (Nat.le_of_ble_eq_true rfl) rfl (fun h62 hS63 _ hN64 f65 => ?_)
  have hF66 := KQ_tr hF55 (KQ_2 hN64)
  have f67 : h62 5 = .inr (4, [.ref 6, .ref 7, .ref 8, .int cr, .int pl, .int tu, .ref 9, .ref 10, .ref 11, .int sr]) := (hN64 5 (by decide)).trans f57
  have f68 : h62 9 = .inl (0, 24, .inl A) := (hN64 9 (by decide)).trans f58
  have f69 : h62 10 = .inl (0, 24, .inl B) := (hN64 10 (by decide)).trans f59
  have f70 : h62 11 = .inl (0, 24, .inl C) := (hN64 11 (by decide)).trans f60
  have f71 : h62 24 = w24 := (hN64 24 (by decide)).trans f61
  exact r_ret dX11_takeSteps_74 (rt_v rfl) ⟨rfl, hS63, hF66, ⟨_, _, _, _, f65⟩, f71, rfl⟩
set_option maxRecDepth 20000 in
set_option maxHeartbeats 1000000 in
theorem s_ts_s {xs : Nat → Int32} {L d : Nat} {h : ev_H} {h0 : ev_H} {c t s : Nat} {w24 : va_E} {lc wr el cr pl tu sr : Int32} {A B C : Nat → Int32} (hS : SH h) (hF : KQ h0 h) (ht : t ≤ 24) (h2 : h 2 = c2 (nI c) lc (nI t) wr el) (h5 : h 5 = c5 cr pl tu sr) (h9 : h 9 = cI 24 A) (h10 : h 10 = cI 24 B) (h11 : h 11 = cI 24 C) (h24 : h 24 = w24) (hs : s < t) (ih : ∀ (h' : ev_H) (lc' wr' : Int32), SH h' → KQ h0 h' → h' 2 = c2 (nI c) lc' (nI t) wr' el → h' 5 = c5 cr pl tu sr → h' 9 = cI 24 A → h' 10 = cI 24 B → h' 11 = cI 24 C → h' 24 = w24 → EV xs L (d + 4) 0 0 M_X11_takeSteps 434 h' 17 [some (.ref 2), some (.int (nI (s + 1)))] [] (tsQ h0 c w24)) : EV xs L (d + 4) 0 0 M_X11_takeSteps 434 h 17 [some (.ref 2), some (.int (nI s))] [] (tsQ h0 c w24) := by
  refine r_iload_n rfl dX11_takeSteps_17 rfl ?_
  refine r_aload_n rfl dX11_takeSteps_18 rfl ?_
  refine r_getv 13 rfl dX11_takeSteps_19 (show 2 ≤ 2 ∧ 2 < 434 by decide) h2 fl_X11_211 rfl ?_
  refine r_icmp_ge (tgt := 66) rfl rfl dX11_takeSteps_22 (fun zc => absurd zc (show ¬ nI t ≤ nI s from nI_ge (a := s) (b := t) (by omega) (by omega))) (fun _ => ?_)
  refine r_aload_n rfl dX11_takeSteps_25 rfl ?_
  refine r_getv 14 rfl dX11_takeSteps_26 (show 2 ≤ 2 ∧ 2 < 434 by decide) h2 fl_X11_82 rfl ?_
  refine r_bipush (v := (-9)) rfl dX11_takeSteps_29 (by decide) ?_
  refine r_icmp_ne (tgt := 66) rfl rfl dX11_takeSteps_31 (fun c51 => ?_) (fun c51 => ?_)
  · refine r_aload_n rfl dX11_takeSteps_66 rfl ?_
    refine r_aload_n rfl dX11_takeSteps_67 rfl ?_
    refine cl_X11_260 rfl rfl dX11_takeSteps_68 (show 2 ≤ 2 ∧ 2 < 434 by decide).1 (show 2 ≤ 2 ∧ 2 < 434 by decide).2 h2 (Nat.le_of_ble_eq_true rfl) ((s_X11_firstEmptyLine hS h2).sh hS) ?_
    rintro _ h52 _ ⟨⟨⟨x55, rfl⟩, hk54⟩, rfl, hS53, -⟩
    have hF56 := KQ_tr hF (KQ_B hk54)
    have f57 : h52 2 = .inr (11, [.ref 3, .ref 5, .ref 12, .ref 13, .ref 24, .ref 93, .ref 95, .ref 96, .ref 97, .ref 98, .ref 99, .int (nI c), .int lc, .int (nI t), .int wr, .int el]) := (hk54 2 (RB_n (by decide) (by decide))).trans h2
    have f58 : h52 5 = .inr (4, [.ref 6, .ref 7, .ref 8, .int cr, .int pl, .int tu, .ref 9, .ref 10, .ref 11, .int sr]) := (hk54 5 (RB_n (by decide) (by decide))).trans h5
    have f59 : h52 9 = .inl (0, 24, .inl A) := (hk54 9 (RB_n (by decide) (by decide))).trans h9
    have f60 : h52 10 = .inl (0, 24, .inl B) := (hk54 10 (RB_n (by decide) (by decide))).trans h10
    have f61 : h52 11 = .inl (0, 24, .inl C) := (hk54 11 (RB_n (by decide) (by decide))).trans h11
    have f62 : h52 24 = w24 := (hk54 24 (RB_n (by decide) (by decide))).trans h24
    refine e_put 15 (fs' := [.ref 3, .ref 5, .ref 12, .ref 13, .ref 24, .ref 93, .ref 95, .ref 96, .ref 97, .ref 98, .ref 99, .int (nI c), .int lc, .int (nI t), .int wr, .int x55]) rfl dX11_takeSteps_71 (show 2 ≤ 2 ∧ 2 < 434 by decide) hS53 (KM_rf (Mod := [2]) _) (by decide) f57 (fp_X11_86 rfl _) (Nat.le_of_ble_eq_true rfl) rfl (fun h63 hS64 _ hN65 f66 => ?_)
    have hF67 := KQ_tr hF56 (KQ_2 hN65)
    have f68 : h63 5 = .inr (4, [.ref 6, .ref 7, .ref 8, .int cr, .int pl, .int tu, .ref 9, .ref 10, .ref 11, .int sr]) := (hN65 5 (by decide)).trans f58
    have f69 : h63 9 = .inl (0, 24, .inl A) := (hN65 9 (by decide)).trans f59
    have f70 : h63 10 = .inl (0, 24, .inl B) := (hN65 10 (by decide)).trans f60
    have f71 : h63 11 = .inl (0, 24, .inl C) := (hN65 11 (by decide)).trans f61
    have f72 : h63 24 = w24 := (hN65 24 (by decide)).trans f62
    exact r_ret dX11_takeSteps_74 (rt_v rfl) ⟨rfl, hS64, hF67, ⟨_, _, _, _, f66⟩, f72, rfl⟩
  · refine r_aload_n rfl dX11_takeSteps_34 rfl ?_
    refine r_iload_n rfl dX11_takeSteps_35 rfl ?_
    refine cl_X11_266 rfl rfl dX11_takeSteps_36 (show 2 ≤ 2 ∧ 2 < 434 by decide).1 (show 2 ≤ 2 ∧ 2 < 434 by decide).2 h2 (Nat.le_of_ble_eq_true rfl) (s_X11_makeLine hS h2 h5 h9 h10 h11 (s := s) (by omega)) ?_
    rintro _ h73 _ ⟨rfl, hS74, hk75, f76, f77, z78, hz79, rfl⟩
    have hF80 := KQ_tr hF hk75
    have f81 : h73 5 = .inr (4, [.ref 6, .ref 7, .ref 8, .int cr, .int pl, .int tu, .ref 9, .ref 10, .ref 11, .int sr]) := (hk75 5 (by decide) (by decide)).trans h5
    have f82 : h73 9 = .inl (0, 24, .inl A) := (hk75 9 (by decide) (by decide)).trans h9
    have f83 : h73 10 = .inl (0, 24, .inl B) := (hk75 10 (by decide) (by decide)).trans h10
    have f84 : h73 11 = .inl (0, 24, .inl C) := (hk75 11 (by decide) (by decide)).trans h11
    have f85 : h73 24 = w24 := f77.trans h24
    refine r_if_eq (tgt := 55) rfl rfl dX11_takeSteps_39 (fun c86 => ?_) (fun c86 => ?_)
    · refine r_aload_n rfl dX11_takeSteps_55 rfl ?_
      refine r_iload_n rfl dX11_takeSteps_56 rfl ?_
      refine e_put 14 (fs' := [.ref 3, .ref 5, .ref 12, .ref 13, .ref 24, .ref 93, .ref 95, .ref 96, .ref 97, .ref 98, .ref 99, .int (nI c), .int lc, .int (nI t), .int (nI s), .int el]) rfl dX11_takeSteps_57 (show 2 ≤ 2 ∧ 2 < 434 by decide) hS74 (KM_rf (Mod := [2]) _) (by decide) f76 (fp_X11_82 rfl _) (Nat.le_of_ble_eq_true rfl) rfl (fun h87 hS88 _ hN89 f90 => ?_)
      have hF91 := KQ_tr hF80 (KQ_2 hN89)
      have f92 : h87 5 = .inr (4, [.ref 6, .ref 7, .ref 8, .int cr, .int pl, .int tu, .ref 9, .ref 10, .ref 11, .int sr]) := (hN89 5 (by decide)).trans f81
      have f93 : h87 9 = .inl (0, 24, .inl A) := (hN89 9 (by decide)).trans f82
      have f94 : h87 10 = .inl (0, 24, .inl B) := (hN89 10 (by decide)).trans f83
      have f95 : h87 11 = .inl (0, 24, .inl C) := (hN89 11 (by decide)).trans f84
      have f96 : h87 24 = w24 := (hN89 24 (by decide)).trans f85
      refine r_iinc (y := nI (s + 1)) (ls' := [some (.ref 2), some (.int (nI (s + 1)))]) rfl dX11_takeSteps_60 rfl (nI_1 s) (Nat.le_of_ble_eq_true rfl) rfl ?_
      refine r_goto (pc' := 17) rfl dX11_takeSteps_63 ?_
      exact ih h87 _ _ hS88 hF91 f90 f92 f93 f94 f95 f96
    · refine r_aload_n rfl dX11_takeSteps_42 rfl ?_
      refine r_dup rfl dX11_takeSteps_43 rfl ?_
      refine r_getv 12 rfl dX11_takeSteps_44 (show 2 ≤ 2 ∧ 2 < 434 by decide) f76 fl_X11_118 rfl ?_
      refine r_iconst (v := 1) rfl dX11_takeSteps_47 (by decide) ?_
      refine r_iadd rfl dX11_takeSteps_48 ?_
      refine r_topi (fun x97 e98 => ?_)
      refine e_put 12 (fs' := [.ref 3, .ref 5, .ref 12, .ref 13, .ref 24, .ref 93, .ref 95, .ref 96, .ref 97, .ref 98, .ref 99, .int (nI c), .int x97, .int (nI t), .int wr, .int el]) rfl dX11_takeSteps_49 (show 2 ≤ 2 ∧ 2 < 434 by decide) hS74 (KM_rf (Mod := [2]) _) (by decide) f76 (fp_X11_118 rfl _) (Nat.le_of_ble_eq_true rfl) rfl (fun h99 hS100 _ hN101 f102 => ?_)
      have hF103 := KQ_tr hF80 (KQ_2 hN101)
      have f104 : h99 5 = .inr (4, [.ref 6, .ref 7, .ref 8, .int cr, .int pl, .int tu, .ref 9, .ref 10, .ref 11, .int sr]) := (hN101 5 (by decide)).trans f81
      have f105 : h99 9 = .inl (0, 24, .inl A) := (hN101 9 (by decide)).trans f82
      have f106 : h99 10 = .inl (0, 24, .inl B) := (hN101 10 (by decide)).trans f83
      have f107 : h99 11 = .inl (0, 24, .inl C) := (hN101 11 (by decide)).trans f84
      have f108 : h99 24 = w24 := (hN101 24 (by decide)).trans f85
      refine r_goto (pc' := 60) rfl dX11_takeSteps_52 ?_
      refine r_iinc (y := nI (s + 1)) (ls' := [some (.ref 2), some (.int (nI (s + 1)))]) rfl dX11_takeSteps_60 rfl (nI_1 s) (Nat.le_of_ble_eq_true rfl) rfl ?_
      refine r_goto (pc' := 17) rfl dX11_takeSteps_63 ?_
      exact ih h99 _ _ hS100 hF103 f102 f104 f105 f106 f107 f108
theorem s_ts {xs : Nat → Int32} {L d : Nat} {h0 : ev_H} {c t : Nat} {w24 : va_E} {el cr pl tu sr : Int32} {A B C : Nat → Int32} (ht : t ≤ 24) : ∀ (n s : Nat) (h : ev_H) (lc wr : Int32), s + n = t → SH h → KQ h0 h → h 2 = c2 (nI c) lc (nI t) wr el → h 5 = c5 cr pl tu sr → h 9 = cI 24 A → h 10 = cI 24 B → h 11 = cI 24 C → h 24 = w24 → EV xs L (d + 4) 0 0 M_X11_takeSteps 434 h 17 [some (.ref 2), some (.int (nI s))] [] (tsQ h0 c w24) := by
  intro n
  induction n with
  | zero => intro s h lc wr hs hS hF h2 h5 h9 h10 h11 h24; exact s_ts_z hS hF ht h2 h5 h9 h10 h11 h24 (by omega)
  | succ n ih => intro s h lc wr hs hS hF h2 h5 h9 h10 h11 h24; exact s_ts_s hS hF ht h2 h5 h9 h10 h11 h24 (by omega) (fun h' lc' wr' q1 q2 q3 q4 q5 q6 q7 q8 => ih (s + 1) h' lc' wr' (by omega) q1 q2 q3 q4 q5 q6 q7 q8)
set_option maxRecDepth 20000 in
set_option maxHeartbeats 1000000 in
theorem s_X11_takeSteps {xs : Nat → Int32} {L d : Nat} {h : ev_H} {c t : Nat} {w24 : va_E} {lc sc wr el cr pl tu : Int32} {A B C : Nat → Int32} (hS : SH h) (ht : t ≤ 24) (h2 : h 2 = c2 (nI c) lc sc wr el) (h5 : h 5 = c5 cr pl tu (nI t)) (h9 : h 9 = cI 24 A) (h10 : h 10 = cI 24 B) (h11 : h 11 = cI 24 C) (h24 : h 24 = w24) : EV xs L (d + 4) 0 0 M_X11_takeSteps 434 h 0 [some (.ref 2), none] [] (tsQ h c w24) := by
  refine r_aload_n rfl dX11_takeSteps_0 rfl ?_
  refine cl_X11_257 rfl rfl dX11_takeSteps_1 (show 2 ≤ 2 ∧ 2 < 434 by decide).1 (show 2 ≤ 2 ∧ 2 < 434 by decide).2 h2 (Nat.le_of_ble_eq_true rfl) (s_X11_forgetProofx hS h2) ?_
  rintro _ h51 _ ⟨rfl, hS52, hk53, f54, rfl⟩
  have hF55 := KQ_tr (KQ_rf h) (KQ_2 hk53)
  have f56 : h51 5 = .inr (4, [.ref 6, .ref 7, .ref 8, .int cr, .int pl, .int tu, .ref 9, .ref 10, .ref 11, .int (nI t)]) := (hk53 5 (by decide)).trans h5
  have f57 : h51 9 = .inl (0, 24, .inl A) := (hk53 9 (by decide)).trans h9
  have f58 : h51 10 = .inl (0, 24, .inl B) := (hk53 10 (by decide)).trans h10
  have f59 : h51 11 = .inl (0, 24, .inl C) := (hk53 11 (by decide)).trans h11
  have f60 : h51 24 = w24 := (hk53 24 (by decide)).trans h24
  refine r_aload_n rfl dX11_takeSteps_4 rfl ?_
  refine r_aload_n rfl dX11_takeSteps_5 rfl ?_
  refine r_getv 1 rfl dX11_takeSteps_6 (show 2 ≤ 2 ∧ 2 < 434 by decide) f54 fl_X11_19 rfl ?_
  refine cl_X11_263 rfl rfl dX11_takeSteps_9 (show 2 ≤ 5 ∧ 5 < 434 by decide).1 (show 2 ≤ 5 ∧ 5 < 434 by decide).2 f56 (Nat.le_of_ble_eq_true rfl) (s_X4_stepsRead hS52 f56) ?_
  rintro _ h61 _ ⟨rfl, e62, rfl⟩
  replace e62 := e62.symm
  subst e62
  refine e_put 13 (fs' := [.ref 3, .ref 5, .ref 12, .ref 13, .ref 24, .ref 93, .ref 95, .ref 96, .ref 97, .ref 98, .ref 99, .int (nI c), .int (nI c), .int (nI t), .int (-9), .int el]) rfl dX11_takeSteps_12 (show 2 ≤ 2 ∧ 2 < 434 by decide) hS52 (KM_rf (Mod := [2]) _) (by decide) f54 (fp_X11_211 rfl _) (Nat.le_of_ble_eq_true rfl) rfl (fun h63 hS64 _ hN65 f66 => ?_)
  have hF67 := KQ_tr hF55 (KQ_2 hN65)
  have f68 : h63 5 = .inr (4, [.ref 6, .ref 7, .ref 8, .int cr, .int pl, .int tu, .ref 9, .ref 10, .ref 11, .int (nI t)]) := (hN65 5 (by decide)).trans f56
  have f69 : h63 9 = .inl (0, 24, .inl A) := (hN65 9 (by decide)).trans f57
  have f70 : h63 10 = .inl (0, 24, .inl B) := (hN65 10 (by decide)).trans f58
  have f71 : h63 11 = .inl (0, 24, .inl C) := (hN65 11 (by decide)).trans f59
  have f72 : h63 24 = w24 := (hN65 24 (by decide)).trans f60
  refine r_iconst (v := 0) rfl dX11_takeSteps_15 (by decide) ?_
  refine r_istore_n (ls' := [some (.ref 2), some (.int 0)]) rfl dX11_takeSteps_16 (Nat.le_of_ble_eq_true rfl) rfl ?_
  exact s_ts ht t 0 h63 _ _ (by omega) hS64 hF67 f66 f68 f69 f70 f71 f72
