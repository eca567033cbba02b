theorem dX9_mark_0 : decode cX9_mark 0 = .ok (.aload_n 0, 1) := by decide +kernel
theorem dX9_mark_1 : decode cX9_mark 1 = .ok (.dup, 1) := by decide +kernel
theorem dX9_mark_2 : decode cX9_mark 2 = .ok (.getfield 7, 3) := by decide +kernel
theorem dX9_mark_5 : decode cX9_mark 5 = .ok (.iload_n 1, 1) := by decide +kernel
theorem dX9_mark_6 : decode cX9_mark 6 = .ok (.i2l, 1) := by decide +kernel
theorem dX9_mark_7 : decode cX9_mark 7 = .ok (.ladd, 1) := by decide +kernel
theorem dX9_mark_8 : decode cX9_mark 8 = .ok (.putfield 7, 3) := by decide +kernel
theorem dX9_mark_11 : decode cX9_mark 11 = .ok (.return_, 1) := by decide +kernel
theorem dX9_sum_0 : decode cX9_sum 0 = .ok (.aload_n 0, 1) := by decide +kernel
theorem dX9_sum_1 : decode cX9_sum 1 = .ok (.getfield 7, 3) := by decide +kernel
theorem dX9_sum_4 : decode cX9_sum 4 = .ok (.lreturn, 1) := by decide +kernel
theorem dX6_work_0 : decode cX6_work 0 = .ok (.aload_n 2, 1) := by decide +kernel
theorem dX6_work_1 : decode cX6_work 1 = .ok (.iconst 1, 1) := by decide +kernel
theorem dX6_work_2 : decode cX6_work 2 = .ok (.invokevirtual 7, 3) := by decide +kernel
theorem dX6_work_5 : decode cX6_work 5 = .ok (.aload_n 1, 1) := by decide +kernel
theorem dX6_work_6 : decode cX6_work 6 = .ok (.invokevirtual 13, 3) := by decide +kernel
theorem dX6_work_9 : decode cX6_work 9 = .ok (.ireturn, 1) := by decide +kernel
theorem dX2_work_0 : decode cX2_work 0 = .ok (.aload_n 2, 1) := by decide +kernel
theorem dX2_work_1 : decode cX2_work 1 = .ok (.bipush 10, 2) := by decide +kernel
theorem dX2_work_3 : decode cX2_work 3 = .ok (.invokevirtual 7, 3) := by decide +kernel
theorem dX2_work_6 : decode cX2_work 6 = .ok (.aload_n 0, 1) := by decide +kernel
theorem dX2_work_7 : decode cX2_work 7 = .ok (.aload_n 1, 1) := by decide +kernel
theorem dX2_work_8 : decode cX2_work 8 = .ok (.aload_n 2, 1) := by decide +kernel
theorem dX2_work_9 : decode cX2_work 9 = .ok (.invokespecial 13, 3) := by decide +kernel
theorem dX2_work_12 : decode cX2_work 12 = .ok (.aload_n 1, 1) := by decide +kernel
theorem dX2_work_13 : decode cX2_work 13 = .ok (.iconst 0, 1) := by decide +kernel
theorem dX2_work_14 : decode cX2_work 14 = .ok (.invokevirtual 17, 3) := by decide +kernel
theorem dX2_work_17 : decode cX2_work 17 = .ok (.invokevirtual 23, 3) := by decide +kernel
theorem dX2_work_20 : decode cX2_work 20 = .ok (.iadd, 1) := by decide +kernel
theorem dX2_work_21 : decode cX2_work 21 = .ok (.ireturn, 1) := by decide +kernel
theorem dX5_work_0 : decode cX5_work 0 = .ok (.aload_n 2, 1) := by decide +kernel
theorem dX5_work_1 : decode cX5_work 1 = .ok (.bipush 100, 2) := by decide +kernel
theorem dX5_work_3 : decode cX5_work 3 = .ok (.invokevirtual 7, 3) := by decide +kernel
theorem dX5_work_6 : decode cX5_work 6 = .ok (.iconst 2, 1) := by decide +kernel
theorem dX5_work_7 : decode cX5_work 7 = .ok (.aload_n 0, 1) := by decide +kernel
theorem dX5_work_8 : decode cX5_work 8 = .ok (.aload_n 1, 1) := by decide +kernel
theorem dX5_work_9 : decode cX5_work 9 = .ok (.aload_n 2, 1) := by decide +kernel
theorem dX5_work_10 : decode cX5_work 10 = .ok (.invokespecial 13, 3) := by decide +kernel
theorem dX5_work_13 : decode cX5_work 13 = .ok (.imul, 1) := by decide +kernel
theorem dX5_work_14 : decode cX5_work 14 = .ok (.iconst 1, 1) := by decide +kernel
theorem dX5_work_15 : decode cX5_work 15 = .ok (.iadd, 1) := by decide +kernel
theorem dX5_work_16 : decode cX5_work 16 = .ok (.ireturn, 1) := by decide +kernel
theorem dX1_work_0 : decode cX1_work 0 = .ok (.aload_n 2, 1) := by decide +kernel
theorem dX1_work_1 : decode cX1_work 1 = .ok (.sipush 1000, 3) := by decide +kernel
theorem dX1_work_4 : decode cX1_work 4 = .ok (.invokevirtual 7, 3) := by decide +kernel
theorem dX1_work_7 : decode cX1_work 7 = .ok (.aload_n 0, 1) := by decide +kernel
theorem dX1_work_8 : decode cX1_work 8 = .ok (.aload_n 1, 1) := by decide +kernel
theorem dX1_work_9 : decode cX1_work 9 = .ok (.aload_n 2, 1) := by decide +kernel
theorem dX1_work_10 : decode cX1_work 10 = .ok (.invokespecial 13, 3) := by decide +kernel
theorem dX1_work_13 : decode cX1_work 13 = .ok (.iconst 2, 1) := by decide +kernel
theorem dX1_work_14 : decode cX1_work 14 = .ok (.idiv, 1) := by decide +kernel
theorem dX1_work_15 : decode cX1_work 15 = .ok (.ireturn, 1) := by decide +kernel
theorem dX11_isWay_0 : decode cX11_isWay 0 = .ok (.iload_n 0, 1) := by decide +kernel
theorem dX11_isWay_1 : decode cX11_isWay 1 = .ok (.ifCond .lt 12, 3) := by decide +kernel
theorem dX11_isWay_4 : decode cX11_isWay 4 = .ok (.iload_n 0, 1) := by decide +kernel
theorem dX11_isWay_5 : decode cX11_isWay 5 = .ok (.iconst 3, 1) := by decide +kernel
theorem dX11_isWay_6 : decode cX11_isWay 6 = .ok (.if_icmp .ge 7, 3) := by decide +kernel
theorem dX11_isWay_9 : decode cX11_isWay 9 = .ok (.iconst 1, 1) := by decide +kernel
theorem dX11_isWay_10 : decode cX11_isWay 10 = .ok (.goto 4, 3) := by decide +kernel
theorem dX11_isWay_13 : decode cX11_isWay 13 = .ok (.iconst 0, 1) := by decide +kernel
theorem dX11_isWay_14 : decode cX11_isWay 14 = .ok (.ireturn, 1) := by decide +kernel
theorem dX11_bitOf_0 : decode cX11_bitOf 0 = .ok (.iload_n 0, 1) := by decide +kernel
theorem dX11_bitOf_1 : decode cX11_bitOf 1 = .ok (.ifCond .lt 9, 3) := by decide +kernel
theorem dX11_bitOf_4 : decode cX11_bitOf 4 = .ok (.iload_n 0, 1) := by decide +kernel
theorem dX11_bitOf_5 : decode cX11_bitOf 5 = .ok (.bipush 64, 2) := by decide +kernel
theorem dX11_bitOf_7 : decode cX11_bitOf 7 = .ok (.if_icmp .lt 7, 3) := by decide +kernel
theorem dX11_bitOf_10 : decode cX11_bitOf 10 = .ok (.lconst 0, 1) := by decide +kernel
theorem dX11_bitOf_11 : decode cX11_bitOf 11 = .ok (.goto 6, 3) := by decide +kernel
theorem dX11_bitOf_14 : decode cX11_bitOf 14 = .ok (.lconst 1, 1) := by decide +kernel
theorem dX11_bitOf_15 : decode cX11_bitOf 15 = .ok (.iload_n 0, 1) := by decide +kernel
theorem dX11_bitOf_16 : decode cX11_bitOf 16 = .ok (.lshl, 1) := by decide +kernel
theorem dX11_bitOf_17 : decode cX11_bitOf 17 = .ok (.lreturn, 1) := by decide +kernel
theorem dX11_sizeOrSet_0 : decode cX11_sizeOrSet 0 = .ok (.iload_n 1, 1) := by decide +kernel
theorem dX11_sizeOrSet_1 : decode cX11_sizeOrSet 1 = .ok (.bipush (-9), 2) := by decide +kernel
theorem dX11_sizeOrSet_3 : decode cX11_sizeOrSet 3 = .ok (.if_icmp .eq 8, 3) := by decide +kernel
theorem dX11_sizeOrSet_6 : decode cX11_sizeOrSet 6 = .ok (.iload_n 0, 1) := by decide +kernel
theorem dX11_sizeOrSet_7 : decode cX11_sizeOrSet 7 = .ok (.iconst 1, 1) := by decide +kernel
theorem dX11_sizeOrSet_8 : decode cX11_sizeOrSet 8 = .ok (.if_icmp .ne 7, 3) := by decide +kernel
theorem dX11_sizeOrSet_11 : decode cX11_sizeOrSet 11 = .ok (.iload_n 1, 1) := by decide +kernel
theorem dX11_sizeOrSet_12 : decode cX11_sizeOrSet 12 = .ok (.goto 7, 3) := by decide +kernel
theorem dX11_sizeOrSet_15 : decode cX11_sizeOrSet 15 = .ok (.iload_n 1, 1) := by decide +kernel
theorem dX11_sizeOrSet_16 : decode cX11_sizeOrSet 16 = .ok (.invokestatic 217, 3) := by decide +kernel
theorem dX11_sizeOrSet_19 : decode cX11_sizeOrSet 19 = .ok (.ireturn, 1) := by decide +kernel
set_option maxRecDepth 20000 in
theorem s_X9_mark {xs : Nat → Int32} {L d : Nat} {h : ev_H} (hS : SH h)  {x : Int32} : EV xs L (d + 0) 0 0 M_X9_mark 434 h 0 [some (.ref 95), some (.int x)] [] (fun sz' h' r => r = []) := by
  refine r_aload_n rfl dX9_mark_0 rfl ?_
  refine r_dup rfl dX9_mark_1 rfl ?_
  obtain ⟨y52, f51⟩ := hS.o95
  refine r_getv 0 rfl dX9_mark_2 (show 2 ≤ 95 ∧ 95 < 434 by decide) f51 fl_X9_7 rfl ?_
  refine r_iload_n rfl dX9_mark_5 rfl ?_
  refine r_i2l rfl dX9_mark_6 ?_
  refine r_ladd rfl dX9_mark_7 ?_
  refine r_topl (fun x53 e54 => ?_)
  refine k_put 0 rfl dX9_mark_8 (show 2 ≤ 95 ∧ 95 < 434 by decide) hS f51 (fp_X9_7 rfl _) (Nat.le_of_ble_eq_true rfl) (fun h55 hS56 => ?_)
  exact r_ret dX9_mark_11 (rt_v rfl) rfl
set_option maxRecDepth 20000 in
theorem s_X9_sum {xs : Nat → Int32} {L d : Nat} {h : ev_H} (hS : SH h)   : EV xs L (d + 0) 0 0 M_X9_sum 434 h 0 [some (.ref 95)] [] (fun sz' h' r => ∃ x : Int64, r = [.long x]) := by
  refine r_aload_n rfl dX9_sum_0 rfl ?_
  obtain ⟨y52, f51⟩ := hS.o95
  refine r_getv 0 rfl dX9_sum_1 (show 2 ≤ 95 ∧ 95 < 434 by decide) f51 fl_X9_7 rfl ?_
  exact r_ret dX9_sum_4 (rt_l rfl) ⟨_, rfl⟩
set_option maxRecDepth 20000 in
theorem s_X6_work {xs : Nat → Int32} {L d : Nat} {h : ev_H} (hS : SH h) {t i : Nat} (hi : i < 40)  : EV xs L (d + 2) 0 0 M_X6_work 434 h 0 [some (.ref t), some (.ref (100 + 8 * i)), some (.ref 95)] [] (fun sz' h' r => ∃ x : Int32, r = [.int x]) := by
  refine r_aload_n rfl dX6_work_0 rfl ?_
  refine r_iconst (v := 1) rfl dX6_work_1 (by decide) ?_
  obtain ⟨y52, f51⟩ := hS.o95
  refine cl_X6_7 rfl rfl dX6_work_2 (show 2 ≤ 95 ∧ 95 < 434 by decide).1 (show 2 ≤ 95 ∧ 95 < 434 by decide).2 f51 (Nat.le_of_ble_eq_true rfl) ((s_X9_mark hS ).sh hS) ?_
  rintro _ h53 _ ⟨rfl, rfl, hS54, _⟩
  refine r_aload_n rfl dX6_work_5 rfl ?_
  obtain ⟨y56, y57, y58, y59, y60, y61, f55⟩ := hS54.ln hi
  refine cl_X6_13 rfl rfl dX6_work_6 (show 2 ≤ 100 + 8 * i ∧ 100 + 8 * i < 434 by omega).1 (show 2 ≤ 100 + 8 * i ∧ 100 + 8 * i < 434 by omega).2 f55 (Nat.le_of_ble_eq_true rfl) ((s_X3_literals hS54 hi).sh hS54) ?_
  rintro _ h62 _ ⟨⟨x64, rfl⟩, rfl, hS63, _⟩
  exact r_ret dX6_work_9 (rt_i rfl) ⟨_, rfl⟩
set_option maxRecDepth 20000 in
theorem s_X2_work {xs : Nat → Int32} {L d : Nat} {h : ev_H} (hS : SH h) {t i : Nat} (hi : i < 40) (ht : 2 ≤ t ∧ t < 434) {cj : Nat} {q : vw_C} (hq : dp_cl[cj]? = some q) (ho : ∀ h', SH h' → h' t = .inr (cj, [])) : EV xs L (d + 3) 0 0 M_X2_work 434 h 0 [some (.ref t), some (.ref (100 + 8 * i)), some (.ref 95)] [] (fun sz' h' r => ∃ x : Int32, r = [.int x]) := by
  refine r_aload_n rfl dX2_work_0 rfl ?_
  refine r_bipush (v := 10) rfl dX2_work_1 (by decide) ?_
  obtain ⟨y52, f51⟩ := hS.o95
  refine cl_X2_7 rfl rfl dX2_work_3 (show 2 ≤ 95 ∧ 95 < 434 by decide).1 (show 2 ≤ 95 ∧ 95 < 434 by decide).2 f51 (Nat.le_of_ble_eq_true rfl) ((s_X9_mark hS ).sh hS) ?_
  rintro _ h53 _ ⟨rfl, rfl, hS54, _⟩
  refine r_aload_n rfl dX2_work_6 rfl ?_
  refine r_aload_n rfl dX2_work_7 rfl ?_
  refine r_aload_n rfl dX2_work_8 rfl ?_
  refine cl_X2_13 rfl rfl dX2_work_9 ht.1 ht.2 (ho _ hS54) hq (Nat.le_of_ble_eq_true rfl) ((s_X6_work hS54 hi).sh hS54) ?_
  rintro _ h56 _ ⟨⟨x58, rfl⟩, rfl, hS57, _⟩
  refine r_aload_n rfl dX2_work_12 rfl ?_
  refine r_iconst (v := 0) rfl dX2_work_13 (by decide) ?_
  obtain ⟨y60, y61, y62, y63, y64, y65, f59⟩ := hS57.ln hi
  refine cl_X2_17 rfl rfl dX2_work_14 (show 2 ≤ 100 + 8 * i ∧ 100 + 8 * i < 434 by omega).1 (show 2 ≤ 100 + 8 * i ∧ 100 + 8 * i < 434 by omega).2 f59 (Nat.le_of_ble_eq_true rfl) ((s_X3_sayingBy hS57 hi).sh hS57) ?_
  rintro _ h66 _ ⟨H68, rfl, hS67, -⟩
  rcases H68 with ⟨j69, hj70, rfl⟩
  · obtain ⟨g72, hw73⟩ := hS67.ws (wsAt_ln hi hj70)
    refine cl_X2_23 rfl rfl dX2_work_17 (show _ ∧ _ from ⟨(wsAt_ln hi hj70).2.2.1, Nat.lt_of_succ_lt (wsAt_ln hi hj70).2.2.2⟩).1 (show _ ∧ _ from ⟨(wsAt_ln hi hj70).2.2.1, Nat.lt_of_succ_lt (wsAt_ln hi hj70).2.2.2⟩).2 hw73.2.2.1 (Nat.le_of_ble_eq_true rfl) (s_X10_size hw73) ?_
    rintro _ h74 _ ⟨rfl, e75, rfl⟩
    replace e75 := e75.symm
    subst e75
    refine r_iadd rfl dX2_work_20 ?_
    exact r_ret dX2_work_21 (rt_i rfl) ⟨_, rfl⟩
set_option maxRecDepth 20000 in
theorem s_X5_work {xs : Nat → Int32} {L d : Nat} {h : ev_H} (hS : SH h) {t i : Nat} (hi : i < 40) (ht : 2 ≤ t ∧ t < 434) {cj : Nat} {q : vw_C} (hq : dp_cl[cj]? = some q) (ho : ∀ h', SH h' → h' t = .inr (cj, [])) : EV xs L (d + 3) 0 0 M_X5_work 434 h 0 [some (.ref t), some (.ref (100 + 8 * i)), some (.ref 95)] [] (fun sz' h' r => ∃ x : Int32, r = [.int x]) := by
  refine r_aload_n rfl dX5_work_0 rfl ?_
  refine r_bipush (v := 100) rfl dX5_work_1 (by decide) ?_
  obtain ⟨y52, f51⟩ := hS.o95
  refine cl_X5_7 rfl rfl dX5_work_3 (show 2 ≤ 95 ∧ 95 < 434 by decide).1 (show 2 ≤ 95 ∧ 95 < 434 by decide).2 f51 (Nat.le_of_ble_eq_true rfl) ((s_X9_mark hS ).sh hS) ?_
  rintro _ h53 _ ⟨rfl, rfl, hS54, _⟩
  refine r_iconst (v := 2) rfl dX5_work_6 (by decide) ?_
  refine r_aload_n rfl dX5_work_7 rfl ?_
  refine r_aload_n rfl dX5_work_8 rfl ?_
  refine r_aload_n rfl dX5_work_9 rfl ?_
  refine cl_X5_13 rfl rfl dX5_work_10 ht.1 ht.2 (ho _ hS54) hq (Nat.le_of_ble_eq_true rfl) ((s_X6_work hS54 hi).sh hS54) ?_
  rintro _ h56 _ ⟨⟨x58, rfl⟩, rfl, hS57, _⟩
  refine r_imul rfl dX5_work_13 ?_
  refine r_iconst (v := 1) rfl dX5_work_14 (by decide) ?_
  refine r_iadd rfl dX5_work_15 ?_
  exact r_ret dX5_work_16 (rt_i rfl) ⟨_, rfl⟩
set_option maxRecDepth 20000 in
theorem s_X1_work {xs : Nat → Int32} {L d : Nat} {h : ev_H} (hS : SH h) {t i : Nat} (hi : i < 40) (ht : 2 ≤ t ∧ t < 434) {cj : Nat} {q : vw_C} (hq : dp_cl[cj]? = some q) (ho : ∀ h', SH h' → h' t = .inr (cj, [])) : EV xs L (d + 4) 0 0 M_X1_work 434 h 0 [some (.ref t), some (.ref (100 + 8 * i)), some (.ref 95)] [] (fun sz' h' r => ∃ x : Int32, r = [.int x]) := by
  refine r_aload_n rfl dX1_work_0 rfl ?_
  refine r_sipush (v := 1000) rfl dX1_work_1 (by decide) ?_
  obtain ⟨y52, f51⟩ := hS.o95
  refine cl_X1_7 rfl rfl dX1_work_4 (show 2 ≤ 95 ∧ 95 < 434 by decide).1 (show 2 ≤ 95 ∧ 95 < 434 by decide).2 f51 (Nat.le_of_ble_eq_true rfl) ((s_X9_mark hS ).sh hS) ?_
  rintro _ h53 _ ⟨rfl, rfl, hS54, _⟩
  refine r_aload_n rfl dX1_work_7 rfl ?_
  refine r_aload_n rfl dX1_work_8 rfl ?_
  refine r_aload_n rfl dX1_work_9 rfl ?_
  refine cl_X1_13 rfl rfl dX1_work_10 ht.1 ht.2 (ho _ hS54) hq (Nat.le_of_ble_eq_true rfl) ((s_X2_work hS54 hi ht hq ho).sh hS54) ?_
  rintro _ h56 _ ⟨⟨x58, rfl⟩, rfl, hS57, _⟩
  refine r_iconst (v := 2) rfl dX1_work_13 (by decide) ?_
  refine r_idiv rfl dX1_work_14 (by decide) ?_
  exact r_ret dX1_work_15 (rt_i rfl) ⟨_, rfl⟩
def isWy (w : Int32) : Int32 := if w < 0 then (0) else (if 3 ≤ w then (0) else (1))
set_option maxRecDepth 20000 in
theorem s_X11_isWay {xs : Nat → Int32} {L d sz : Nat} {h : ev_H} {w : Int32}  : EV xs L (d + 0) 0 0 M_X11_isWay sz h 0 [some (.int w)] [] (fun sz' h' r => sz' = sz ∧ h' = h ∧ r = [.int (isWy w)]) := by
  refine r_iload_n rfl dX11_isWay_0 rfl ?_
  refine r_if_lt (tgt := 13) rfl rfl dX11_isWay_1 (fun c51 => ?_) (fun c51 => ?_)
  · refine r_iconst (v := 0) rfl dX11_isWay_13 (by decide) ?_
    exact r_ret dX11_isWay_14 (rt_z rfl (Or.inl rfl)) ⟨rfl, rfl, (by unfold isWy; rw [if_pos c51] <;> rfl)⟩
  · refine r_iload_n rfl dX11_isWay_4 rfl ?_
    refine r_iconst (v := 3) rfl dX11_isWay_5 (by decide) ?_
    refine r_icmp_ge (tgt := 13) rfl rfl dX11_isWay_6 (fun c52 => ?_) (fun c52 => ?_)
    · refine r_iconst (v := 0) rfl dX11_isWay_13 (by decide) ?_
      exact r_ret dX11_isWay_14 (rt_z rfl (Or.inl rfl)) ⟨rfl, rfl, (by unfold isWy; rw [if_neg c51, if_pos c52] <;> rfl)⟩
    · refine r_iconst (v := 1) rfl dX11_isWay_9 (by decide) ?_
      refine r_goto (pc' := 14) rfl dX11_isWay_10 ?_
      exact r_ret dX11_isWay_14 (rt_z rfl (Or.inr rfl)) ⟨rfl, rfl, (by unfold isWy; rw [if_neg c51, if_neg c52] <;> rfl)⟩
def bitO (i : Int32) : Int64 := if i < 0 then (0) else (if i < 64 then (1 <<< ((i : Int32).toInt64 &&& 63)) else (0))
set_option maxRecDepth 20000 in
theorem s_X11_bitOf {xs : Nat → Int32} {L d sz : Nat} {h : ev_H} {i : Int32}  : EV xs L (d + 0) 0 0 M_X11_bitOf sz h 0 [some (.int i)] [] (fun sz' h' r => sz' = sz ∧ h' = h ∧ r = [.long (bitO i)]) := by
  refine r_iload_n rfl dX11_bitOf_0 rfl ?_
  refine r_if_lt (tgt := 10) rfl rfl dX11_bitOf_1 (fun c51 => ?_) (fun c51 => ?_)
  · refine r_lconst (v := 0) rfl dX11_bitOf_10 (by decide) ?_
    refine r_goto (pc' := 17) rfl dX11_bitOf_11 ?_
    exact r_ret dX11_bitOf_17 (rt_l rfl) ⟨rfl, rfl, (by unfold bitO; rw [if_pos c51] <;> rfl)⟩
  · refine r_iload_n rfl dX11_bitOf_4 rfl ?_
    refine r_bipush (v := 64) rfl dX11_bitOf_5 (by decide) ?_
    refine r_icmp_lt (tgt := 14) rfl rfl dX11_bitOf_7 (fun c52 => ?_) (fun c52 => ?_)
    · refine r_lconst (v := 1) rfl dX11_bitOf_14 (by decide) ?_
      refine r_iload_n rfl dX11_bitOf_15 rfl ?_
      refine r_lshl rfl dX11_bitOf_16 ?_
      exact r_ret dX11_bitOf_17 (rt_l rfl) ⟨rfl, rfl, (by unfold bitO; rw [if_neg c51, if_pos c52] <;> rfl)⟩
    · refine r_lconst (v := 0) rfl dX11_bitOf_10 (by decide) ?_
      refine r_goto (pc' := 17) rfl dX11_bitOf_11 ?_
      exact r_ret dX11_bitOf_17 (rt_l rfl) ⟨rfl, rfl, (by unfold bitO; rw [if_neg c51, if_neg c52] <;> rfl)⟩
def sOS (w s : Int32) : Int32 := if s = (-9) then (s) else (if ¬ w = 1 then (bc32 s) else (s))
set_option maxRecDepth 20000 in
theorem s_X11_sizeOrSet {xs : Nat → Int32} {L d sz : Nat} {h : ev_H} {w s : Int32}  : EV xs L (d + 1) 0 0 M_X11_sizeOrSet sz h 0 [some (.int w), some (.int s)] [] (fun sz' h' r => sz' = sz ∧ h' = h ∧ r = [.int (sOS w s)]) := by
  refine r_iload_n rfl dX11_sizeOrSet_0 rfl ?_
  refine r_bipush (v := (-9)) rfl dX11_sizeOrSet_1 (by decide) ?_
  refine r_icmp_eq (tgt := 11) rfl rfl dX11_sizeOrSet_3 (fun c51 => ?_) (fun c51 => ?_)
  · refine r_iload_n rfl dX11_sizeOrSet_11 rfl ?_
    refine r_goto (pc' := 19) rfl dX11_sizeOrSet_12 ?_
    exact r_ret dX11_sizeOrSet_19 (rt_i rfl) ⟨rfl, rfl, (by unfold sOS; rw [if_pos c51] <;> rfl)⟩
  · refine r_iload_n rfl dX11_sizeOrSet_6 rfl ?_
    refine r_iconst (v := 1) rfl dX11_sizeOrSet_7 (by decide) ?_
    refine r_icmp_ne (tgt := 15) rfl rfl dX11_sizeOrSet_8 (fun c52 => ?_) (fun c52 => ?_)
    · refine r_iload_n rfl dX11_sizeOrSet_15 rfl ?_
      refine cl_X11_217 rfl rfl dX11_sizeOrSet_16 (Nat.le_of_ble_eq_true rfl) s_J6_bitCount_0f7a4 ?_
      rintro _ _ _ ⟨rfl, rfl, rfl⟩
      exact r_ret dX11_sizeOrSet_19 (rt_i rfl) ⟨rfl, rfl, (by unfold sOS; rw [if_neg c51, if_pos c52] <;> rfl)⟩
    · refine r_iload_n rfl dX11_sizeOrSet_11 rfl ?_
      refine r_goto (pc' := 19) rfl dX11_sizeOrSet_12 ?_
      exact r_ret dX11_sizeOrSet_19 (rt_i rfl) ⟨rfl, rfl, (by unfold sOS; rw [if_neg c51, if_neg (fun z => z c52)] <;> rfl)⟩
