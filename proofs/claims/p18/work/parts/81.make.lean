theorem dX10_init_0 : decode cX10_init 0 = .ok (.aload_n 0, 1) := by decide +kernel
theorem dX10_init_1 : decode cX10_init 1 = .ok (.invokespecial 3, 3) := by decide +kernel
theorem dX10_init_4 : decode cX10_init 4 = .ok (.aload_n 0, 1) := by decide +kernel
theorem dX10_init_5 : decode cX10_init 5 = .ok (.iconst 4, 1) := by decide +kernel
theorem dX10_init_6 : decode cX10_init 6 = .ok (.newarray .long, 2) := by decide +kernel
theorem dX10_init_8 : decode cX10_init 8 = .ok (.putfield 9, 3) := by decide +kernel
theorem dX10_init_11 : decode cX10_init 11 = .ok (.return_, 1) := by decide +kernel
theorem dX9_init_0 : decode cX9_init 0 = .ok (.aload_n 0, 1) := by decide +kernel
theorem dX9_init_1 : decode cX9_init 1 = .ok (.invokespecial 1, 3) := by decide +kernel
theorem dX9_init_4 : decode cX9_init 4 = .ok (.return_, 1) := by decide +kernel
theorem dX6_init_0 : decode cX6_init 0 = .ok (.aload_n 0, 1) := by decide +kernel
theorem dX6_init_1 : decode cX6_init 1 = .ok (.invokespecial 1, 3) := by decide +kernel
theorem dX6_init_4 : decode cX6_init 4 = .ok (.return_, 1) := by decide +kernel
theorem dX2_init_0 : decode cX2_init 0 = .ok (.aload_n 0, 1) := by decide +kernel
theorem dX2_init_1 : decode cX2_init 1 = .ok (.invokespecial 1, 3) := by decide +kernel
theorem dX2_init_4 : decode cX2_init 4 = .ok (.return_, 1) := by decide +kernel
theorem dX5_init_0 : decode cX5_init 0 = .ok (.aload_n 0, 1) := by decide +kernel
theorem dX5_init_1 : decode cX5_init 1 = .ok (.invokespecial 1, 3) := by decide +kernel
theorem dX5_init_4 : decode cX5_init 4 = .ok (.return_, 1) := by decide +kernel
theorem dX1_init_0 : decode cX1_init 0 = .ok (.aload_n 0, 1) := by decide +kernel
theorem dX1_init_1 : decode cX1_init 1 = .ok (.invokespecial 1, 3) := by decide +kernel
theorem dX1_init_4 : decode cX1_init 4 = .ok (.return_, 1) := by decide +kernel
theorem dX8_init_0 : decode cX8_init 0 = .ok (.aload_n 0, 1) := by decide +kernel
theorem dX8_init_1 : decode cX8_init 1 = .ok (.invokespecial 3, 3) := by decide +kernel
theorem dX8_init_4 : decode cX8_init 4 = .ok (.aload_n 0, 1) := by decide +kernel
theorem dX8_init_5 : decode cX8_init 5 = .ok (.sipush 300, 3) := by decide +kernel
theorem dX8_init_8 : decode cX8_init 8 = .ok (.newarray .byte, 2) := by decide +kernel
theorem dX8_init_10 : decode cX8_init 10 = .ok (.putfield 9, 3) := by decide +kernel
theorem dX8_init_13 : decode cX8_init 13 = .ok (.return_, 1) := by decide +kernel
theorem dX4_init_0 : decode cX4_init 0 = .ok (.aload_n 0, 1) := by decide +kernel
theorem dX4_init_1 : decode cX4_init 1 = .ok (.invokespecial 3, 3) := by decide +kernel
theorem dX4_init_4 : decode cX4_init 4 = .ok (.aload_n 0, 1) := by decide +kernel
theorem dX4_init_5 : decode cX4_init 5 = .ok (.bipush 16, 2) := by decide +kernel
theorem dX4_init_7 : decode cX4_init 7 = .ok (.newarray .int, 2) := by decide +kernel
theorem dX4_init_9 : decode cX4_init 9 = .ok (.putfield 9, 3) := by decide +kernel
theorem dX4_init_12 : decode cX4_init 12 = .ok (.aload_n 0, 1) := by decide +kernel
theorem dX4_init_13 : decode cX4_init 13 = .ok (.bipush 16, 2) := by decide +kernel
theorem dX4_init_15 : decode cX4_init 15 = .ok (.newarray .int, 2) := by decide +kernel
theorem dX4_init_17 : decode cX4_init 17 = .ok (.putfield 15, 3) := by decide +kernel
theorem dX4_init_20 : decode cX4_init 20 = .ok (.aload_n 0, 1) := by decide +kernel
theorem dX4_init_21 : decode cX4_init 21 = .ok (.bipush 16, 2) := by decide +kernel
theorem dX4_init_23 : decode cX4_init 23 = .ok (.newarray .int, 2) := by decide +kernel
theorem dX4_init_25 : decode cX4_init 25 = .ok (.putfield 18, 3) := by decide +kernel
theorem dX4_init_28 : decode cX4_init 28 = .ok (.aload_n 0, 1) := by decide +kernel
theorem dX4_init_29 : decode cX4_init 29 = .ok (.bipush 24, 2) := by decide +kernel
theorem dX4_init_31 : decode cX4_init 31 = .ok (.newarray .int, 2) := by decide +kernel
theorem dX4_init_33 : decode cX4_init 33 = .ok (.putfield 21, 3) := by decide +kernel
theorem dX4_init_36 : decode cX4_init 36 = .ok (.aload_n 0, 1) := by decide +kernel
theorem dX4_init_37 : decode cX4_init 37 = .ok (.bipush 24, 2) := by decide +kernel
theorem dX4_init_39 : decode cX4_init 39 = .ok (.newarray .int, 2) := by decide +kernel
theorem dX4_init_41 : decode cX4_init 41 = .ok (.putfield 24, 3) := by decide +kernel
theorem dX4_init_44 : decode cX4_init 44 = .ok (.aload_n 0, 1) := by decide +kernel
theorem dX4_init_45 : decode cX4_init 45 = .ok (.bipush 24, 2) := by decide +kernel
theorem dX4_init_47 : decode cX4_init 47 = .ok (.newarray .int, 2) := by decide +kernel
theorem dX4_init_49 : decode cX4_init 49 = .ok (.putfield 27, 3) := by decide +kernel
theorem dX4_init_52 : decode cX4_init 52 = .ok (.return_, 1) := by decide +kernel
theorem dX7_init_0 : decode cX7_init 0 = .ok (.aload_n 0, 1) := by decide +kernel
theorem dX7_init_1 : decode cX7_init 1 = .ok (.invokespecial 3, 3) := by decide +kernel
theorem dX7_init_4 : decode cX7_init 4 = .ok (.aload_n 0, 1) := by decide +kernel
theorem dX7_init_5 : decode cX7_init 5 = .ok (.new 9, 3) := by decide +kernel
theorem dX7_init_8 : decode cX7_init 8 = .ok (.dup, 1) := by decide +kernel
theorem dX7_init_9 : decode cX7_init 9 = .ok (.invokespecial 11, 3) := by decide +kernel
theorem dX7_init_12 : decode cX7_init 12 = .ok (.putfield 12, 3) := by decide +kernel
theorem dX7_init_15 : decode cX7_init 15 = .ok (.aload_n 0, 1) := by decide +kernel
theorem dX7_init_16 : decode cX7_init 16 = .ok (.new 9, 3) := by decide +kernel
theorem dX7_init_19 : decode cX7_init 19 = .ok (.dup, 1) := by decide +kernel
theorem dX7_init_20 : decode cX7_init 20 = .ok (.invokespecial 11, 3) := by decide +kernel
theorem dX7_init_23 : decode cX7_init 23 = .ok (.putfield 18, 3) := by decide +kernel
theorem dX7_init_26 : decode cX7_init 26 = .ok (.aload_n 0, 1) := by decide +kernel
theorem dX7_init_27 : decode cX7_init 27 = .ok (.new 9, 3) := by decide +kernel
theorem dX7_init_30 : decode cX7_init 30 = .ok (.dup, 1) := by decide +kernel
theorem dX7_init_31 : decode cX7_init 31 = .ok (.invokespecial 11, 3) := by decide +kernel
theorem dX7_init_34 : decode cX7_init 34 = .ok (.putfield 21, 3) := by decide +kernel
theorem dX7_init_37 : decode cX7_init 37 = .ok (.aload_n 0, 1) := by decide +kernel
theorem dX7_init_38 : decode cX7_init 38 = .ok (.new 9, 3) := by decide +kernel
theorem dX7_init_41 : decode cX7_init 41 = .ok (.dup, 1) := by decide +kernel
theorem dX7_init_42 : decode cX7_init 42 = .ok (.invokespecial 11, 3) := by decide +kernel
theorem dX7_init_45 : decode cX7_init 45 = .ok (.putfield 24, 3) := by decide +kernel
theorem dX7_init_48 : decode cX7_init 48 = .ok (.aload_n 0, 1) := by decide +kernel
theorem dX7_init_49 : decode cX7_init 49 = .ok (.new 9, 3) := by decide +kernel
theorem dX7_init_52 : decode cX7_init 52 = .ok (.dup, 1) := by decide +kernel
theorem dX7_init_53 : decode cX7_init 53 = .ok (.invokespecial 11, 3) := by decide +kernel
theorem dX7_init_56 : decode cX7_init 56 = .ok (.putfield 27, 3) := by decide +kernel
theorem dX7_init_59 : decode cX7_init 59 = .ok (.aload_n 0, 1) := by decide +kernel
theorem dX7_init_60 : decode cX7_init 60 = .ok (.getfield 12, 3) := by decide +kernel
theorem dX7_init_63 : decode cX7_init 63 = .ok (.invokevirtual 30, 3) := by decide +kernel
theorem dX7_init_66 : decode cX7_init 66 = .ok (.aload_n 0, 1) := by decide +kernel
theorem dX7_init_67 : decode cX7_init 67 = .ok (.getfield 18, 3) := by decide +kernel
theorem dX7_init_70 : decode cX7_init 70 = .ok (.invokevirtual 30, 3) := by decide +kernel
theorem dX7_init_73 : decode cX7_init 73 = .ok (.aload_n 0, 1) := by decide +kernel
theorem dX7_init_74 : decode cX7_init 74 = .ok (.getfield 21, 3) := by decide +kernel
theorem dX7_init_77 : decode cX7_init 77 = .ok (.invokevirtual 30, 3) := by decide +kernel
theorem dX7_init_80 : decode cX7_init 80 = .ok (.return_, 1) := by decide +kernel
theorem dX3_init_0 : decode cX3_init 0 = .ok (.aload_n 0, 1) := by decide +kernel
theorem dX3_init_1 : decode cX3_init 1 = .ok (.invokespecial 3, 3) := by decide +kernel
theorem dX3_init_4 : decode cX3_init 4 = .ok (.aload_n 0, 1) := by decide +kernel
theorem dX3_init_5 : decode cX3_init 5 = .ok (.iconst 3, 1) := by decide +kernel
theorem dX3_init_6 : decode cX3_init 6 = .ok (.anewarray 9, 3) := by decide +kernel
theorem dX3_init_9 : decode cX3_init 9 = .ok (.putfield 11, 3) := by decide +kernel
theorem dX3_init_12 : decode cX3_init 12 = .ok (.aload_n 0, 1) := by decide +kernel
theorem dX3_init_13 : decode cX3_init 13 = .ok (.bipush (-9), 2) := by decide +kernel
theorem dX3_init_15 : decode cX3_init 15 = .ok (.putfield 17, 3) := by decide +kernel
theorem dX3_init_18 : decode cX3_init 18 = .ok (.aload_n 0, 1) := by decide +kernel
theorem dX3_init_19 : decode cX3_init 19 = .ok (.bipush (-9), 2) := by decide +kernel
theorem dX3_init_21 : decode cX3_init 21 = .ok (.putfield 21, 3) := by decide +kernel
theorem dX3_init_24 : decode cX3_init 24 = .ok (.aload_n 0, 1) := by decide +kernel
theorem dX3_init_25 : decode cX3_init 25 = .ok (.bipush (-9), 2) := by decide +kernel
theorem dX3_init_27 : decode cX3_init 27 = .ok (.putfield 24, 3) := by decide +kernel
theorem dX3_init_30 : decode cX3_init 30 = .ok (.iconst 0, 1) := by decide +kernel
theorem dX3_init_31 : decode cX3_init 31 = .ok (.istore_n 1, 1) := by decide +kernel
theorem dX3_init_32 : decode cX3_init 32 = .ok (.iload_n 1, 1) := by decide +kernel
theorem dX3_init_33 : decode cX3_init 33 = .ok (.iconst 3, 1) := by decide +kernel
theorem dX3_init_34 : decode cX3_init 34 = .ok (.if_icmp .ge 22, 3) := by decide +kernel
theorem dX3_init_37 : decode cX3_init 37 = .ok (.aload_n 0, 1) := by decide +kernel
theorem dX3_init_38 : decode cX3_init 38 = .ok (.getfield 11, 3) := by decide +kernel
theorem dX3_init_41 : decode cX3_init 41 = .ok (.iload_n 1, 1) := by decide +kernel
theorem dX3_init_42 : decode cX3_init 42 = .ok (.new 9, 3) := by decide +kernel
theorem dX3_init_45 : decode cX3_init 45 = .ok (.dup, 1) := by decide +kernel
theorem dX3_init_46 : decode cX3_init 46 = .ok (.invokespecial 27, 3) := by decide +kernel
theorem dX3_init_49 : decode cX3_init 49 = .ok (.aastore, 1) := by decide +kernel
theorem dX3_init_50 : decode cX3_init 50 = .ok (.iinc 1 1, 3) := by decide +kernel
theorem dX3_init_53 : decode cX3_init 53 = .ok (.goto (-21), 3) := by decide +kernel
theorem dX3_init_56 : decode cX3_init 56 = .ok (.return_, 1) := by decide +kernel
theorem isWS_of {h : ev_H} {sz a q : Nat} {g : Nat → Int64} (ha : 2 ≤ a ∧ a < sz) (hq : 2 ≤ q ∧ q < sz) (h1 : h a = .inr (10, [.ref q])) (h2 : h q = .inl (1, 4, .inr (.inl g))) : isWS h sz a q g (g 0) (g 1) (g 2) (g 3) := ⟨ha, hq, h1, by rw [← ws4_of]; exact h2⟩
set_option maxRecDepth 20000 in
set_option maxHeartbeats 1000000 in
theorem s_X10_init {xs : Nat → Int32} {L d : Nat} {h : ev_H} {a : Nat} (hW : WTH h) (ha : 2 ≤ a) (f0 : h a = .inr (10, [.null])) : EV xs L (d + 1) (1) (5) M_X10_init (a + 1) h 0 [some (.ref a)] [] (fun sz' h' r => sz' = a + 2 ∧ WTH h' ∧ KL a h h' ∧ h' a = .inr (10, [.ref (a + 1)]) ∧ h' (a + 1) = .inl (1, 4, .inr (.inl (fun _ => 0))) ∧ r = []) := by
  refine r_aload_n rfl dX10_init_0 rfl ?_
  refine r_oinit rfl dX10_init_1 (Nat.succ_pos _) (Nat.le_of_ble_eq_true rfl) lo_X10 lk_oi lk_oc ?_
  refine r_aload_n rfl dX10_init_4 rfl ?_
  refine r_iconst (v := 4) rfl dX10_init_5 (by decide) ?_
  refine r_bud (kc' := 0 + 1) (ks' := 1 + 4) (by omega) (by omega) ?_
  refine k_newa rfl dX10_init_6 hW (by decide) (by decide) (by decide) rfl lac_long (fun h51 hW52 hk53 f54 => ?_)
  have f55 : h51 (a + 1) = .inl (1, 4, .inr (.inl (fun _ => 0))) := f54
  have f56 : h51 (a) = .inr (10, [.null]) := (hk53 (a) (by omega)).trans f0
  have K57 : KL (a) h h51 := KL_tr (by omega) (KL_rf (a) h) hk53
  refine k_pc 0 (fs' := [.ref (a + 1)]) rfl dX10_init_8 (by omega) (by omega) hW52 f56 (fp_X10_9 rfl rfl (by omega) _) (Nat.le_of_ble_eq_true rfl) rfl (fun h58 hW59 hk60 f61 => ?_)
  have f62 : h58 (a + 1) = .inl (1, 4, .inr (.inl (fun _ => 0))) := (hk60 (a + 1) (by omega)).trans f55
  have K63 : KL (a) h h58 := KL_kn (by omega) K57 hk60
  exact r_ret dX10_init_11 (rt_v rfl) ⟨rfl, hW59, K63, f61, f62, rfl⟩
set_option maxRecDepth 20000 in
set_option maxHeartbeats 1000000 in
theorem s_X9_init {xs : Nat → Int32} {L d : Nat} {h : ev_H} {a : Nat} (hW : WTH h)  : EV xs L (d + 1) (0) (0) M_X9_init (a + 1) h 0 [some (.ref a)] [] (fun sz' h' r => sz' = a + 1 ∧ h' = h ∧ r = []) := by
  refine r_aload_n rfl dX9_init_0 rfl ?_
  refine r_oinit rfl dX9_init_1 (Nat.succ_pos _) (Nat.le_of_ble_eq_true rfl) lo_X9 lk_oi lk_oc ?_
  exact r_ret dX9_init_4 (rt_v rfl) ⟨rfl, rfl, rfl⟩
set_option maxRecDepth 20000 in
set_option maxHeartbeats 1000000 in
theorem s_X6_init {xs : Nat → Int32} {L d : Nat} {h : ev_H} {a : Nat} (hW : WTH h)  : EV xs L (d + 1) (0) (0) M_X6_init (a + 1) h 0 [some (.ref a)] [] (fun sz' h' r => sz' = a + 1 ∧ h' = h ∧ r = []) := by
  refine r_aload_n rfl dX6_init_0 rfl ?_
  refine r_oinit rfl dX6_init_1 (Nat.succ_pos _) (Nat.le_of_ble_eq_true rfl) lo_X6 lk_oi lk_oc ?_
  exact r_ret dX6_init_4 (rt_v rfl) ⟨rfl, rfl, rfl⟩
set_option maxRecDepth 20000 in
set_option maxHeartbeats 1000000 in
theorem s_X2_init {xs : Nat → Int32} {L d : Nat} {h : ev_H} {a : Nat} (hW : WTH h)  : EV xs L (d + 2) (0) (0) M_X2_init (a + 1) h 0 [some (.ref a)] [] (fun sz' h' r => sz' = a + 1 ∧ h' = h ∧ r = []) := by
  refine r_aload_n rfl dX2_init_0 rfl ?_
  refine r_bud (kc' := 0 + (0)) (ks' := 0 + (0)) (by omega) (by omega) ?_
  refine cl_X2_1 rfl rfl dX2_init_1 (Nat.le_of_ble_eq_true rfl) (s_X6_init hW) ?_
  rintro _ h51 _ ⟨rfl, e52, rfl⟩
  replace e52 := e52.symm
  subst e52
  exact r_ret dX2_init_4 (rt_v rfl) ⟨rfl, rfl, rfl⟩
set_option maxRecDepth 20000 in
set_option maxHeartbeats 1000000 in
theorem s_X5_init {xs : Nat → Int32} {L d : Nat} {h : ev_H} {a : Nat} (hW : WTH h)  : EV xs L (d + 2) (0) (0) M_X5_init (a + 1) h 0 [some (.ref a)] [] (fun sz' h' r => sz' = a + 1 ∧ h' = h ∧ r = []) := by
  refine r_aload_n rfl dX5_init_0 rfl ?_
  refine r_bud (kc' := 0 + (0)) (ks' := 0 + (0)) (by omega) (by omega) ?_
  refine cl_X5_1 rfl rfl dX5_init_1 (Nat.le_of_ble_eq_true rfl) (s_X6_init hW) ?_
  rintro _ h51 _ ⟨rfl, e52, rfl⟩
  replace e52 := e52.symm
  subst e52
  exact r_ret dX5_init_4 (rt_v rfl) ⟨rfl, rfl, rfl⟩
set_option maxRecDepth 20000 in
set_option maxHeartbeats 1000000 in
theorem s_X1_init {xs : Nat → Int32} {L d : Nat} {h : ev_H} {a : Nat} (hW : WTH h)  : EV xs L (d + 3) (0) (0) M_X1_init (a + 1) h 0 [some (.ref a)] [] (fun sz' h' r => sz' = a + 1 ∧ h' = h ∧ r = []) := by
  refine r_aload_n rfl dX1_init_0 rfl ?_
  refine r_bud (kc' := 0 + (0)) (ks' := 0 + (0)) (by omega) (by omega) ?_
  refine cl_X1_1 rfl rfl dX1_init_1 (Nat.le_of_ble_eq_true rfl) (s_X2_init hW) ?_
  rintro _ h51 _ ⟨rfl, e52, rfl⟩
  replace e52 := e52.symm
  subst e52
  exact r_ret dX1_init_4 (rt_v rfl) ⟨rfl, rfl, rfl⟩
set_option maxRecDepth 20000 in
set_option maxHeartbeats 1000000 in
theorem s_X8_init {xs : Nat → Int32} {L d : Nat} {h : ev_H}  (hW : WTH h) (f0 : h 3 = .inr (8, [.null, .int 0, .int 0, .int 0, .int 0, .int 0])) : EV xs L (d + 1) (1) (301) M_X8_init (4) h 0 [some (.ref 3)] [] (fun sz' h' r => sz' = 5 ∧ WTH h' ∧ KL 3 h h' ∧ h' 3 = c3 0 0 0 0 0 ∧ h' 4 = c4 (fun _ => 0) ∧ r = []) := by
  refine r_aload_n rfl dX8_init_0 rfl ?_
  refine r_oinit rfl dX8_init_1 (Nat.succ_pos _) (Nat.le_of_ble_eq_true rfl) lo_X8 lk_oi lk_oc ?_
  refine r_aload_n rfl dX8_init_4 rfl ?_
  refine r_sipush (v := 300) rfl dX8_init_5 (by decide) ?_
  refine r_bud (kc' := 0 + 1) (ks' := 1 + 300) (by omega) (by omega) ?_
  refine k_newa rfl dX8_init_8 hW (by decide) (by decide) (by decide) rfl lac_byte (fun h51 hW52 hk53 f54 => ?_)
  have f55 : h51 (4) = .inl (2, 300, .inl (fun _ => 0)) := f54
  have f56 : h51 (3) = .inr (8, [.null, .int 0, .int 0, .int 0, .int 0, .int 0]) := (hk53 (3) (by omega)).trans f0
  have K57 : KL (3) h h51 := KL_tr (by omega) (KL_rf (3) h) hk53
  refine k_pc 0 (fs' := [.ref 4, .int 0, .int 0, .int 0, .int 0, .int 0]) rfl dX8_init_10 (by omega) (by omega) hW52 f56 (fp_X8_9 rfl rfl (by omega) _) (Nat.le_of_ble_eq_true rfl) rfl (fun h58 hW59 hk60 f61 => ?_)
  have f62 : h58 (4) = .inl (2, 300, .inl (fun _ => 0)) := (hk60 (4) (by omega)).trans f55
  have K63 : KL (3) h h58 := KL_kn (by omega) K57 hk60
  exact r_ret dX8_init_13 (rt_v rfl) ⟨rfl, hW59, K63, f61, f62, rfl⟩
set_option maxRecDepth 20000 in
set_option maxHeartbeats 1000000 in
theorem s_X4_init {xs : Nat → Int32} {L d : Nat} {h : ev_H}  (hW : WTH h) (f0 : h 5 = .inr (4, [.null, .null, .null, .int 0, .int 0, .int 0, .null, .null, .null, .int 0])) : EV xs L (d + 1) (6) (121) M_X4_init (6) h 0 [some (.ref 5)] [] (fun sz' h' r => sz' = 12 ∧ WTH h' ∧ KL 5 h h' ∧ BT 5 12 h' ∧ r = []) := by
  refine r_aload_n rfl dX4_init_0 rfl ?_
  refine r_oinit rfl dX4_init_1 (Nat.succ_pos _) (Nat.le_of_ble_eq_true rfl) lo_X4 lk_oi lk_oc ?_
  refine r_aload_n rfl dX4_init_4 rfl ?_
  refine r_bipush (v := 16) rfl dX4_init_5 (by decide) ?_
  refine r_bud (kc' := 5 + 1) (ks' := 105 + 16) (by omega) (by omega) ?_
  refine k_newa rfl dX4_init_7 hW (by decide) (by decide) (by decide) rfl lac_int (fun h51 hW52 hk53 f54 => ?_)
  have f55 : h51 (6) = .inl (0, 16, .inl (fun _ => 0)) := f54
  have f56 : h51 (5) = .inr (4, [.null, .null, .null, .int 0, .int 0, .int 0, .null, .null, .null, .int 0]) := (hk53 (5) (by omega)).trans f0
  have K57 : KL (5) h h51 := KL_tr (by omega) (KL_rf (5) h) hk53
  refine k_pc 0 (fs' := [.ref 6, .null, .null, .int 0, .int 0, .int 0, .null, .null, .null, .int 0]) rfl dX4_init_9 (by omega) (by omega) hW52 f56 (fp_X4_9 rfl rfl (by omega) _) (Nat.le_of_ble_eq_true rfl) rfl (fun h58 hW59 hk60 f61 => ?_)
  have f62 : h58 (6) = .inl (0, 16, .inl (fun _ => 0)) := (hk60 (6) (by omega)).trans f55
  have K63 : KL (5) h h58 := KL_kn (by omega) K57 hk60
  refine r_aload_n rfl dX4_init_12 rfl ?_
  refine r_bipush (v := 16) rfl dX4_init_13 (by decide) ?_
  refine r_bud (kc' := 4 + 1) (ks' := 89 + 16) (by omega) (by omega) ?_
  refine k_newa rfl dX4_init_15 hW59 (by decide) (by decide) (by decide) rfl lac_int (fun h64 hW65 hk66 f67 => ?_)
  have f68 : h64 (7) = .inl (0, 16, .inl (fun _ => 0)) := f67
  have f69 : h64 (6) = .inl (0, 16, .inl (fun _ => 0)) := (hk66 (6) (by omega)).trans f62
  have f70 : h64 (5) = .inr (4, [.ref 6, .null, .null, .int 0, .int 0, .int 0, .null, .null, .null, .int 0]) := (hk66 (5) (by omega)).trans f61
  have K71 : KL (5) h h64 := KL_tr (by omega) K63 hk66
  refine k_pc 1 (fs' := [.ref 6, .ref 7, .null, .int 0, .int 0, .int 0, .null, .null, .null, .int 0]) rfl dX4_init_17 (by omega) (by omega) hW65 f70 (fp_X4_15 rfl rfl (by omega) _) (Nat.le_of_ble_eq_true rfl) rfl (fun h72 hW73 hk74 f75 => ?_)
  have f76 : h72 (6) = .inl (0, 16, .inl (fun _ => 0)) := (hk74 (6) (by omega)).trans f69
  have f77 : h72 (7) = .inl (0, 16, .inl (fun _ => 0)) := (hk74 (7) (by omega)).trans f68
  have K78 : KL (5) h h72 := KL_kn (by omega) K71 hk74
  refine r_aload_n rfl dX4_init_20 rfl ?_
  refine r_bipush (v := 16) rfl dX4_init_21 (by decide) ?_
  refine r_bud (kc' := 3 + 1) (ks' := 73 + 16) (by omega) (by omega) ?_
  refine k_newa rfl dX4_init_23 hW73 (by decide) (by decide) (by decide) rfl lac_int (fun h79 hW80 hk81 f82 => ?_)
  have f83 : h79 (8) = .inl (0, 16, .inl (fun _ => 0)) := f82
  have f84 : h79 (6) = .inl (0, 16, .inl (fun _ => 0)) := (hk81 (6) (by omega)).trans f76
  have f85 : h79 (7) = .inl (0, 16, .inl (fun _ => 0)) := (hk81 (7) (by omega)).trans f77
  have f86 : h79 (5) = .inr (4, [.ref 6, .ref 7, .null, .int 0, .int 0, .int 0, .null, .null, .null, .int 0]) := (hk81 (5) (by omega)).trans f75
  have K87 : KL (5) h h79 := KL_tr (by omega) K78 hk81
  refine k_pc 2 (fs' := [.ref 6, .ref 7, .ref 8, .int 0, .int 0, .int 0, .null, .null, .null, .int 0]) rfl dX4_init_25 (by omega) (by omega) hW80 f86 (fp_X4_18 rfl rfl (by omega) _) (Nat.le_of_ble_eq_true rfl) rfl (fun h88 hW89 hk90 f91 => ?_)
  have f92 : h88 (6) = .inl (0, 16, .inl (fun _ => 0)) := (hk90 (6) (by omega)).trans f84
  have f93 : h88 (7) = .inl (0, 16, .inl (fun _ => 0)) := (hk90 (7) (by omega)).trans f85
  have f94 : h88 (8) = .inl (0, 16, .inl (fun _ => 0)) := (hk90 (8) (by omega)).trans f83
  have K95 : KL (5) h h88 := KL_kn (by omega) K87 hk90
  refine r_aload_n rfl dX4_init_28 rfl ?_
  refine r_bipush (v := 24) rfl dX4_init_29 (by decide) ?_
  refine r_bud (kc' := 2 + 1) (ks' := 49 + 24) (by omega) (by omega) ?_
  refine k_newa rfl dX4_init_31 hW89 (by decide) (by decide) (by decide) rfl lac_int (fun h96 hW97 hk98 f99 => ?_)
  have f100 : h96 (9) = .inl (0, 24, .inl (fun _ => 0)) := f99
  have f101 : h96 (6) = .inl (0, 16, .inl (fun _ => 0)) := (hk98 (6) (by omega)).trans f92
  have f102 : h96 (7) = .inl (0, 16, .inl (fun _ => 0)) := (hk98 (7) (by omega)).trans f93
  have f103 : h96 (8) = .inl (0, 16, .inl (fun _ => 0)) := (hk98 (8) (by omega)).trans f94
  have f104 : h96 (5) = .inr (4, [.ref 6, .ref 7, .ref 8, .int 0, .int 0, .int 0, .null, .null, .null, .int 0]) := (hk98 (5) (by omega)).trans f91
  have K105 : KL (5) h h96 := KL_tr (by omega) K95 hk98
  refine k_pc 6 (fs' := [.ref 6, .ref 7, .ref 8, .int 0, .int 0, .int 0, .ref 9, .null, .null, .int 0]) rfl dX4_init_33 (by omega) (by omega) hW97 f104 (fp_X4_21 rfl rfl (by omega) _) (Nat.le_of_ble_eq_true rfl) rfl (fun h106 hW107 hk108 f109 => ?_)
  have f110 : h106 (6) = .inl (0, 16, .inl (fun _ => 0)) := (hk108 (6) (by omega)).trans f101
  have f111 : h106 (7) = .inl (0, 16, .inl (fun _ => 0)) := (hk108 (7) (by omega)).trans f102
  have f112 : h106 (8) = .inl (0, 16, .inl (fun _ => 0)) := (hk108 (8) (by omega)).trans f103
  have f113 : h106 (9) = .inl (0, 24, .inl (fun _ => 0)) := (hk108 (9) (by omega)).trans f100
  have K114 : KL (5) h h106 := KL_kn (by omega) K105 hk108
  refine r_aload_n rfl dX4_init_36 rfl ?_
  refine r_bipush (v := 24) rfl dX4_init_37 (by decide) ?_
  refine r_bud (kc' := 1 + 1) (ks' := 25 + 24) (by omega) (by omega) ?_
  refine k_newa rfl dX4_init_39 hW107 (by decide) (by decide) (by decide) rfl lac_int (fun h115 hW116 hk117 f118 => ?_)
  have f119 : h115 (10) = .inl (0, 24, .inl (fun _ => 0)) := f118
  have f120 : h115 (6) = .inl (0, 16, .inl (fun _ => 0)) := (hk117 (6) (by omega)).trans f110
  have f121 : h115 (7) = .inl (0, 16, .inl (fun _ => 0)) := (hk117 (7) (by omega)).trans f111
  have f122 : h115 (8) = .inl (0, 16, .inl (fun _ => 0)) := (hk117 (8) (by omega)).trans f112
  have f123 : h115 (9) = .inl (0, 24, .inl (fun _ => 0)) := (hk117 (9) (by omega)).trans f113
  have f124 : h115 (5) = .inr (4, [.ref 6, .ref 7, .ref 8, .int 0, .int 0, .int 0, .ref 9, .null, .null, .int 0]) := (hk117 (5) (by omega)).trans f109
  have K125 : KL (5) h h115 := KL_tr (by omega) K114 hk117
  refine k_pc 7 (fs' := [.ref 6, .ref 7, .ref 8, .int 0, .int 0, .int 0, .ref 9, .ref 10, .null, .int 0]) rfl dX4_init_41 (by omega) (by omega) hW116 f124 (fp_X4_24 rfl rfl (by omega) _) (Nat.le_of_ble_eq_true rfl) rfl (fun h126 hW127 hk128 f129 => ?_)
  have f130 : h126 (6) = .inl (0, 16, .inl (fun _ => 0)) := (hk128 (6) (by omega)).trans f120
  have f131 : h126 (7) = .inl (0, 16, .inl (fun _ => 0)) := (hk128 (7) (by omega)).trans f121
  have f132 : h126 (8) = .inl (0, 16, .inl (fun _ => 0)) := (hk128 (8) (by omega)).trans f122
  have f133 : h126 (9) = .inl (0, 24, .inl (fun _ => 0)) := (hk128 (9) (by omega)).trans f123
  have f134 : h126 (10) = .inl (0, 24, .inl (fun _ => 0)) := (hk128 (10) (by omega)).trans f119
  have K135 : KL (5) h h126 := KL_kn (by omega) K125 hk128
  refine r_aload_n rfl dX4_init_44 rfl ?_
  refine r_bipush (v := 24) rfl dX4_init_45 (by decide) ?_
  refine r_bud (kc' := 0 + 1) (ks' := 1 + 24) (by omega) (by omega) ?_
  refine k_newa rfl dX4_init_47 hW127 (by decide) (by decide) (by decide) rfl lac_int (fun h136 hW137 hk138 f139 => ?_)
  have f140 : h136 (11) = .inl (0, 24, .inl (fun _ => 0)) := f139
  have f141 : h136 (6) = .inl (0, 16, .inl (fun _ => 0)) := (hk138 (6) (by omega)).trans f130
  have f142 : h136 (7) = .inl (0, 16, .inl (fun _ => 0)) := (hk138 (7) (by omega)).trans f131
  have f143 : h136 (8) = .inl (0, 16, .inl (fun _ => 0)) := (hk138 (8) (by omega)).trans f132
  have f144 : h136 (9) = .inl (0, 24, .inl (fun _ => 0)) := (hk138 (9) (by omega)).trans f133
  have f145 : h136 (10) = .inl (0, 24, .inl (fun _ => 0)) := (hk138 (10) (by omega)).trans f134
  have f146 : h136 (5) = .inr (4, [.ref 6, .ref 7, .ref 8, .int 0, .int 0, .int 0, .ref 9, .ref 10, .null, .int 0]) := (hk138 (5) (by omega)).trans f129
  have K147 : KL (5) h h136 := KL_tr (by omega) K135 hk138
  refine k_pc 8 (fs' := [.ref 6, .ref 7, .ref 8, .int 0, .int 0, .int 0, .ref 9, .ref 10, .ref 11, .int 0]) rfl dX4_init_49 (by omega) (by omega) hW137 f146 (fp_X4_27 rfl rfl (by omega) _) (Nat.le_of_ble_eq_true rfl) rfl (fun h148 hW149 hk150 f151 => ?_)
  have f152 : h148 (6) = .inl (0, 16, .inl (fun _ => 0)) := (hk150 (6) (by omega)).trans f141
  have f153 : h148 (7) = .inl (0, 16, .inl (fun _ => 0)) := (hk150 (7) (by omega)).trans f142
  have f154 : h148 (8) = .inl (0, 16, .inl (fun _ => 0)) := (hk150 (8) (by omega)).trans f143
  have f155 : h148 (9) = .inl (0, 24, .inl (fun _ => 0)) := (hk150 (9) (by omega)).trans f144
  have f156 : h148 (10) = .inl (0, 24, .inl (fun _ => 0)) := (hk150 (10) (by omega)).trans f145
  have f157 : h148 (11) = .inl (0, 24, .inl (fun _ => 0)) := (hk150 (11) (by omega)).trans f140
  have K158 : KL (5) h h148 := KL_kn (by omega) K147 hk150
  exact r_ret dX4_init_52 (rt_v rfl) ⟨rfl, hW149, K158, (BT_jn (BT_jn (BT_jn (BT_jn (BT_jn (BT_jn (BT_1 f151 (sse_rf _)) (BT_1 f152 (sse_rf _))) (BT_1 f153 (sse_rf _))) (BT_1 f154 (sse_rf _))) (BT_1 f155 (sse_rf _))) (BT_1 f156 (sse_rf _))) (BT_1 f157 (sse_rf _))), rfl⟩
set_option maxRecDepth 20000 in
set_option maxHeartbeats 1000000 in
theorem s_X7_init {xs : Nat → Int32} {L d : Nat} {h : ev_H}  (hW : WTH h) (f0 : h 13 = .inr (7, [.null, .null, .null, .null, .null, .int 0, .int 0, .int 0, .int 0])) : EV xs L (d + 2) (10) (31) M_X7_init (14) h 0 [some (.ref 13)] [] (fun sz' h' r => sz' = 24 ∧ WTH h' ∧ KL 13 h h' ∧ BT 13 24 h' ∧ r = []) := by
  refine r_aload_n rfl dX7_init_0 rfl ?_
  refine r_oinit rfl dX7_init_1 (Nat.succ_pos _) (Nat.le_of_ble_eq_true rfl) lo_X7 lk_oi lk_oc ?_
  refine r_aload_n rfl dX7_init_4 rfl ?_
  refine r_bud (kc' := 9 + 1) (ks' := 30 + 1) (by omega) (by omega) ?_
  refine k_new 10 (fs := [.null]) rfl dX7_init_5 hW rfl rfl lk_X7_9 lt_X10 lz_X10 rfl (fun h51 hW52 hk53 f54 => ?_)
  have f55 : h51 (13) = .inr (7, [.null, .null, .null, .null, .null, .int 0, .int 0, .int 0, .int 0]) := (hk53 (13) (by omega)).trans f0
  have K56 : KL (13) h h51 := KL_tr (by omega) (KL_rf (13) h) hk53
  refine r_dup rfl dX7_init_8 rfl ?_
  refine r_bud (kc' := 1 + (8)) (ks' := 5 + (25)) (by omega) (by omega) ?_
  refine cl_X7_11 rfl rfl dX7_init_9 (Nat.le_of_ble_eq_true rfl) (s_X10_init hW52 (by omega) f54) ?_
  rintro _ h57 _ ⟨rfl, hW58, hk59, f60, f61, rfl⟩
  have f62 : h57 (13) = .inr (7, [.null, .null, .null, .null, .null, .int 0, .int 0, .int 0, .int 0]) := (hk59 (13) (by omega)).trans f55
  have K63 : KL (13) h h57 := KL_tr (by omega) K56 hk59
  refine k_pc 0 (fs' := [.ref 14, .null, .null, .null, .null, .int 0, .int 0, .int 0, .int 0]) rfl dX7_init_12 (by omega) (by omega) hW58 f62 (fp_X7_12 rfl rfl (by omega) _) (Nat.le_of_ble_eq_true rfl) rfl (fun h64 hW65 hk66 f67 => ?_)
  have f68 : h64 (14) = .inr (10, [.ref 15]) := (hk66 (14) (by omega)).trans f60
  have f69 : h64 (15) = .inl (1, 4, .inr (.inl (fun _ => 0))) := (hk66 (15) (by omega)).trans f61
  have K70 : KL (13) h h64 := KL_kn (by omega) K63 hk66
  refine r_aload_n rfl dX7_init_15 rfl ?_
  refine r_bud (kc' := 7 + 1) (ks' := 24 + 1) (by omega) (by omega) ?_
  refine k_new 10 (fs := [.null]) rfl dX7_init_16 hW65 rfl rfl lk_X7_9 lt_X10 lz_X10 rfl (fun h71 hW72 hk73 f74 => ?_)
  have f75 : h71 (14) = .inr (10, [.ref 15]) := (hk73 (14) (by omega)).trans f68
  have f76 : h71 (15) = .inl (1, 4, .inr (.inl (fun _ => 0))) := (hk73 (15) (by omega)).trans f69
  have f77 : h71 (13) = .inr (7, [.ref 14, .null, .null, .null, .null, .int 0, .int 0, .int 0, .int 0]) := (hk73 (13) (by omega)).trans f67
  have K78 : KL (13) h h71 := KL_tr (by omega) K70 hk73
  refine r_dup rfl dX7_init_19 rfl ?_
  refine r_bud (kc' := 1 + (6)) (ks' := 5 + (19)) (by omega) (by omega) ?_
  refine cl_X7_11 rfl rfl dX7_init_20 (Nat.le_of_ble_eq_true rfl) (s_X10_init hW72 (by omega) f74) ?_
  rintro _ h79 _ ⟨rfl, hW80, hk81, f82, f83, rfl⟩
  have f84 : h79 (14) = .inr (10, [.ref 15]) := (hk81 (14) (by omega)).trans f75
  have f85 : h79 (15) = .inl (1, 4, .inr (.inl (fun _ => 0))) := (hk81 (15) (by omega)).trans f76
  have f86 : h79 (13) = .inr (7, [.ref 14, .null, .null, .null, .null, .int 0, .int 0, .int 0, .int 0]) := (hk81 (13) (by omega)).trans f77
  have K87 : KL (13) h h79 := KL_tr (by omega) K78 hk81
  refine k_pc 1 (fs' := [.ref 14, .ref 16, .null, .null, .null, .int 0, .int 0, .int 0, .int 0]) rfl dX7_init_23 (by omega) (by omega) hW80 f86 (fp_X7_18 rfl rfl (by omega) _) (Nat.le_of_ble_eq_true rfl) rfl (fun h88 hW89 hk90 f91 => ?_)
  have f92 : h88 (14) = .inr (10, [.ref 15]) := (hk90 (14) (by omega)).trans f84
  have f93 : h88 (15) = .inl (1, 4, .inr (.inl (fun _ => 0))) := (hk90 (15) (by omega)).trans f85
  have f94 : h88 (16) = .inr (10, [.ref 17]) := (hk90 (16) (by omega)).trans f82
  have f95 : h88 (17) = .inl (1, 4, .inr (.inl (fun _ => 0))) := (hk90 (17) (by omega)).trans f83
  have K96 : KL (13) h h88 := KL_kn (by omega) K87 hk90
  refine r_aload_n rfl dX7_init_26 rfl ?_
  refine r_bud (kc' := 5 + 1) (ks' := 18 + 1) (by omega) (by omega) ?_
  refine k_new 10 (fs := [.null]) rfl dX7_init_27 hW89 rfl rfl lk_X7_9 lt_X10 lz_X10 rfl (fun h97 hW98 hk99 f100 => ?_)
  have f101 : h97 (14) = .inr (10, [.ref 15]) := (hk99 (14) (by omega)).trans f92
  have f102 : h97 (15) = .inl (1, 4, .inr (.inl (fun _ => 0))) := (hk99 (15) (by omega)).trans f93
  have f103 : h97 (16) = .inr (10, [.ref 17]) := (hk99 (16) (by omega)).trans f94
  have f104 : h97 (17) = .inl (1, 4, .inr (.inl (fun _ => 0))) := (hk99 (17) (by omega)).trans f95
  have f105 : h97 (13) = .inr (7, [.ref 14, .ref 16, .null, .null, .null, .int 0, .int 0, .int 0, .int 0]) := (hk99 (13) (by omega)).trans f91
  have K106 : KL (13) h h97 := KL_tr (by omega) K96 hk99
  refine r_dup rfl dX7_init_30 rfl ?_
  refine r_bud (kc' := 1 + (4)) (ks' := 5 + (13)) (by omega) (by omega) ?_
  refine cl_X7_11 rfl rfl dX7_init_31 (Nat.le_of_ble_eq_true rfl) (s_X10_init hW98 (by omega) f100) ?_
  rintro _ h107 _ ⟨rfl, hW108, hk109, f110, f111, rfl⟩
  have f112 : h107 (14) = .inr (10, [.ref 15]) := (hk109 (14) (by omega)).trans f101
  have f113 : h107 (15) = .inl (1, 4, .inr (.inl (fun _ => 0))) := (hk109 (15) (by omega)).trans f102
  have f114 : h107 (16) = .inr (10, [.ref 17]) := (hk109 (16) (by omega)).trans f103
  have f115 : h107 (17) = .inl (1, 4, .inr (.inl (fun _ => 0))) := (hk109 (17) (by omega)).trans f104
  have f116 : h107 (13) = .inr (7, [.ref 14, .ref 16, .null, .null, .null, .int 0, .int 0, .int 0, .int 0]) := (hk109 (13) (by omega)).trans f105
  have K117 : KL (13) h h107 := KL_tr (by omega) K106 hk109
  refine k_pc 2 (fs' := [.ref 14, .ref 16, .ref 18, .null, .null, .int 0, .int 0, .int 0, .int 0]) rfl dX7_init_34 (by omega) (by omega) hW108 f116 (fp_X7_21 rfl rfl (by omega) _) (Nat.le_of_ble_eq_true rfl) rfl (fun h118 hW119 hk120 f121 => ?_)
  have f122 : h118 (14) = .inr (10, [.ref 15]) := (hk120 (14) (by omega)).trans f112
  have f123 : h118 (15) = .inl (1, 4, .inr (.inl (fun _ => 0))) := (hk120 (15) (by omega)).trans f113
  have f124 : h118 (16) = .inr (10, [.ref 17]) := (hk120 (16) (by omega)).trans f114
  have f125 : h118 (17) = .inl (1, 4, .inr (.inl (fun _ => 0))) := (hk120 (17) (by omega)).trans f115
  have f126 : h118 (18) = .inr (10, [.ref 19]) := (hk120 (18) (by omega)).trans f110
  have f127 : h118 (19) = .inl (1, 4, .inr (.inl (fun _ => 0))) := (hk120 (19) (by omega)).trans f111
  have K128 : KL (13) h h118 := KL_kn (by omega) K117 hk120
  refine r_aload_n rfl dX7_init_37 rfl ?_
  refine r_bud (kc' := 3 + 1) (ks' := 12 + 1) (by omega) (by omega) ?_
  refine k_new 10 (fs := [.null]) rfl dX7_init_38 hW119 rfl rfl lk_X7_9 lt_X10 lz_X10 rfl (fun h129 hW130 hk131 f132 => ?_)
  have f133 : h129 (14) = .inr (10, [.ref 15]) := (hk131 (14) (by omega)).trans f122
  have f134 : h129 (15) = .inl (1, 4, .inr (.inl (fun _ => 0))) := (hk131 (15) (by omega)).trans f123
  have f135 : h129 (16) = .inr (10, [.ref 17]) := (hk131 (16) (by omega)).trans f124
  have f136 : h129 (17) = .inl (1, 4, .inr (.inl (fun _ => 0))) := (hk131 (17) (by omega)).trans f125
  have f137 : h129 (18) = .inr (10, [.ref 19]) := (hk131 (18) (by omega)).trans f126
  have f138 : h129 (19) = .inl (1, 4, .inr (.inl (fun _ => 0))) := (hk131 (19) (by omega)).trans f127
  have f139 : h129 (13) = .inr (7, [.ref 14, .ref 16, .ref 18, .null, .null, .int 0, .int 0, .int 0, .int 0]) := (hk131 (13) (by omega)).trans f121
  have K140 : KL (13) h h129 := KL_tr (by omega) K128 hk131
  refine r_dup rfl dX7_init_41 rfl ?_
  refine r_bud (kc' := 1 + (2)) (ks' := 5 + (7)) (by omega) (by omega) ?_
  refine cl_X7_11 rfl rfl dX7_init_42 (Nat.le_of_ble_eq_true rfl) (s_X10_init hW130 (by omega) f132) ?_
  rintro _ h141 _ ⟨rfl, hW142, hk143, f144, f145, rfl⟩
  have f146 : h141 (14) = .inr (10, [.ref 15]) := (hk143 (14) (by omega)).trans f133
  have f147 : h141 (15) = .inl (1, 4, .inr (.inl (fun _ => 0))) := (hk143 (15) (by omega)).trans f134
  have f148 : h141 (16) = .inr (10, [.ref 17]) := (hk143 (16) (by omega)).trans f135
  have f149 : h141 (17) = .inl (1, 4, .inr (.inl (fun _ => 0))) := (hk143 (17) (by omega)).trans f136
  have f150 : h141 (18) = .inr (10, [.ref 19]) := (hk143 (18) (by omega)).trans f137
  have f151 : h141 (19) = .inl (1, 4, .inr (.inl (fun _ => 0))) := (hk143 (19) (by omega)).trans f138
  have f152 : h141 (13) = .inr (7, [.ref 14, .ref 16, .ref 18, .null, .null, .int 0, .int 0, .int 0, .int 0]) := (hk143 (13) (by omega)).trans f139
  have K153 : KL (13) h h141 := KL_tr (by omega) K140 hk143
  refine k_pc 3 (fs' := [.ref 14, .ref 16, .ref 18, .ref 20, .null, .int 0, .int 0, .int 0, .int 0]) rfl dX7_init_45 (by omega) (by omega) hW142 f152 (fp_X7_24 rfl rfl (by omega) _) (Nat.le_of_ble_eq_true rfl) rfl (fun h154 hW155 hk156 f157 => ?_)
  have f158 : h154 (14) = .inr (10, [.ref 15]) := (hk156 (14) (by omega)).trans f146
  have f159 : h154 (15) = .inl (1, 4, .inr (.inl (fun _ => 0))) := (hk156 (15) (by omega)).trans f147
  have f160 : h154 (16) = .inr (10, [.ref 17]) := (hk156 (16) (by omega)).trans f148
  have f161 : h154 (17) = .inl (1, 4, .inr (.inl (fun _ => 0))) := (hk156 (17) (by omega)).trans f149
  have f162 : h154 (18) = .inr (10, [.ref 19]) := (hk156 (18) (by omega)).trans f150
  have f163 : h154 (19) = .inl (1, 4, .inr (.inl (fun _ => 0))) := (hk156 (19) (by omega)).trans f151
  have f164 : h154 (20) = .inr (10, [.ref 21]) := (hk156 (20) (by omega)).trans f144
  have f165 : h154 (21) = .inl (1, 4, .inr (.inl (fun _ => 0))) := (hk156 (21) (by omega)).trans f145
  have K166 : KL (13) h h154 := KL_kn (by omega) K153 hk156
  refine r_aload_n rfl dX7_init_48 rfl ?_
  refine r_bud (kc' := 1 + 1) (ks' := 6 + 1) (by omega) (by omega) ?_
  refine k_new 10 (fs := [.null]) rfl dX7_init_49 hW155 rfl rfl lk_X7_9 lt_X10 lz_X10 rfl (fun h167 hW168 hk169 f170 => ?_)
  have f171 : h167 (14) = .inr (10, [.ref 15]) := (hk169 (14) (by omega)).trans f158
  have f172 : h167 (15) = .inl (1, 4, .inr (.inl (fun _ => 0))) := (hk169 (15) (by omega)).trans f159
  have f173 : h167 (16) = .inr (10, [.ref 17]) := (hk169 (16) (by omega)).trans f160
  have f174 : h167 (17) = .inl (1, 4, .inr (.inl (fun _ => 0))) := (hk169 (17) (by omega)).trans f161
  have f175 : h167 (18) = .inr (10, [.ref 19]) := (hk169 (18) (by omega)).trans f162
  have f176 : h167 (19) = .inl (1, 4, .inr (.inl (fun _ => 0))) := (hk169 (19) (by omega)).trans f163
  have f177 : h167 (20) = .inr (10, [.ref 21]) := (hk169 (20) (by omega)).trans f164
  have f178 : h167 (21) = .inl (1, 4, .inr (.inl (fun _ => 0))) := (hk169 (21) (by omega)).trans f165
  have f179 : h167 (13) = .inr (7, [.ref 14, .ref 16, .ref 18, .ref 20, .null, .int 0, .int 0, .int 0, .int 0]) := (hk169 (13) (by omega)).trans f157
  have K180 : KL (13) h h167 := KL_tr (by omega) K166 hk169
  refine r_dup rfl dX7_init_52 rfl ?_
  refine r_bud (kc' := 1 + (0)) (ks' := 5 + (1)) (by omega) (by omega) ?_
  refine cl_X7_11 rfl rfl dX7_init_53 (Nat.le_of_ble_eq_true rfl) (s_X10_init hW168 (by omega) f170) ?_
  rintro _ h181 _ ⟨rfl, hW182, hk183, f184, f185, rfl⟩
  have f186 : h181 (14) = .inr (10, [.ref 15]) := (hk183 (14) (by omega)).trans f171
  have f187 : h181 (15) = .inl (1, 4, .inr (.inl (fun _ => 0))) := (hk183 (15) (by omega)).trans f172
  have f188 : h181 (16) = .inr (10, [.ref 17]) := (hk183 (16) (by omega)).trans f173
  have f189 : h181 (17) = .inl (1, 4, .inr (.inl (fun _ => 0))) := (hk183 (17) (by omega)).trans f174
  have f190 : h181 (18) = .inr (10, [.ref 19]) := (hk183 (18) (by omega)).trans f175
  have f191 : h181 (19) = .inl (1, 4, .inr (.inl (fun _ => 0))) := (hk183 (19) (by omega)).trans f176
  have f192 : h181 (20) = .inr (10, [.ref 21]) := (hk183 (20) (by omega)).trans f177
  have f193 : h181 (21) = .inl (1, 4, .inr (.inl (fun _ => 0))) := (hk183 (21) (by omega)).trans f178
  have f194 : h181 (13) = .inr (7, [.ref 14, .ref 16, .ref 18, .ref 20, .null, .int 0, .int 0, .int 0, .int 0]) := (hk183 (13) (by omega)).trans f179
  have K195 : KL (13) h h181 := KL_tr (by omega) K180 hk183
  refine k_pc 4 (fs' := [.ref 14, .ref 16, .ref 18, .ref 20, .ref 22, .int 0, .int 0, .int 0, .int 0]) rfl dX7_init_56 (by omega) (by omega) hW182 f194 (fp_X7_27 rfl rfl (by omega) _) (Nat.le_of_ble_eq_true rfl) rfl (fun h196 hW197 hk198 f199 => ?_)
  have f200 : h196 (14) = .inr (10, [.ref 15]) := (hk198 (14) (by omega)).trans f186
  have f201 : h196 (15) = .inl (1, 4, .inr (.inl (fun _ => 0))) := (hk198 (15) (by omega)).trans f187
  have f202 : h196 (16) = .inr (10, [.ref 17]) := (hk198 (16) (by omega)).trans f188
  have f203 : h196 (17) = .inl (1, 4, .inr (.inl (fun _ => 0))) := (hk198 (17) (by omega)).trans f189
  have f204 : h196 (18) = .inr (10, [.ref 19]) := (hk198 (18) (by omega)).trans f190
  have f205 : h196 (19) = .inl (1, 4, .inr (.inl (fun _ => 0))) := (hk198 (19) (by omega)).trans f191
  have f206 : h196 (20) = .inr (10, [.ref 21]) := (hk198 (20) (by omega)).trans f192
  have f207 : h196 (21) = .inl (1, 4, .inr (.inl (fun _ => 0))) := (hk198 (21) (by omega)).trans f193
  have f208 : h196 (22) = .inr (10, [.ref 23]) := (hk198 (22) (by omega)).trans f184
  have f209 : h196 (23) = .inl (1, 4, .inr (.inl (fun _ => 0))) := (hk198 (23) (by omega)).trans f185
  have K210 : KL (13) h h196 := KL_kn (by omega) K195 hk198
  refine r_aload_n rfl dX7_init_59 rfl ?_
  refine r_getv 0 rfl dX7_init_60 (by omega) f199 fl_X7_12 rfl ?_
  refine cl_X7_30 rfl rfl dX7_init_63 (by omega) (by omega) f200 (Nat.le_of_ble_eq_true rfl) (s_X10_fill (isWS_of (by omega) (by omega) f200 f201)) ?_
  rintro _ h211 _ ⟨rfl, eh212, rfl⟩
  have hW213 : WTH h211 := by rw [eh212]; exact up_wt hW197 trivial
  have hk214 : KN (15) h196 h211 := fun k hk => by rw [eh212]; exact va_up_ne _ _ hk
  have f215 : h211 (15) = .inl (1, 4, .inr (.inl (ws4 (fun _ => 0) (-1) (-1) (-1) (-1)))) := by rw [eh212]; exact va_up_self _ _ _
  have f216 : h211 (14) = .inr (10, [.ref 15]) := (hk214 (14) (by omega)).trans f200
  have f217 : h211 (16) = .inr (10, [.ref 17]) := (hk214 (16) (by omega)).trans f202
  have f218 : h211 (17) = .inl (1, 4, .inr (.inl (fun _ => 0))) := (hk214 (17) (by omega)).trans f203
  have f219 : h211 (18) = .inr (10, [.ref 19]) := (hk214 (18) (by omega)).trans f204
  have f220 : h211 (19) = .inl (1, 4, .inr (.inl (fun _ => 0))) := (hk214 (19) (by omega)).trans f205
  have f221 : h211 (20) = .inr (10, [.ref 21]) := (hk214 (20) (by omega)).trans f206
  have f222 : h211 (21) = .inl (1, 4, .inr (.inl (fun _ => 0))) := (hk214 (21) (by omega)).trans f207
  have f223 : h211 (22) = .inr (10, [.ref 23]) := (hk214 (22) (by omega)).trans f208
  have f224 : h211 (23) = .inl (1, 4, .inr (.inl (fun _ => 0))) := (hk214 (23) (by omega)).trans f209
  have f225 : h211 (13) = .inr (7, [.ref 14, .ref 16, .ref 18, .ref 20, .ref 22, .int 0, .int 0, .int 0, .int 0]) := (hk214 (13) (by omega)).trans f199
  have K226 : KL (13) h h211 := KL_kn (by omega) K210 hk214
  refine r_aload_n rfl dX7_init_66 rfl ?_
  refine r_getv 1 rfl dX7_init_67 (by omega) f225 fl_X7_18 rfl ?_
  refine cl_X7_30 rfl rfl dX7_init_70 (by omega) (by omega) f217 (Nat.le_of_ble_eq_true rfl) (s_X10_fill (isWS_of (by omega) (by omega) f217 f218)) ?_
  rintro _ h227 _ ⟨rfl, eh228, rfl⟩
  have hW229 : WTH h227 := by rw [eh228]; exact up_wt hW213 trivial
  have hk230 : KN (17) h211 h227 := fun k hk => by rw [eh228]; exact va_up_ne _ _ hk
  have f231 : h227 (17) = .inl (1, 4, .inr (.inl (ws4 (fun _ => 0) (-1) (-1) (-1) (-1)))) := by rw [eh228]; exact va_up_self _ _ _
  have f232 : h227 (14) = .inr (10, [.ref 15]) := (hk230 (14) (by omega)).trans f216
  have f233 : h227 (16) = .inr (10, [.ref 17]) := (hk230 (16) (by omega)).trans f217
  have f234 : h227 (18) = .inr (10, [.ref 19]) := (hk230 (18) (by omega)).trans f219
  have f235 : h227 (19) = .inl (1, 4, .inr (.inl (fun _ => 0))) := (hk230 (19) (by omega)).trans f220
  have f236 : h227 (20) = .inr (10, [.ref 21]) := (hk230 (20) (by omega)).trans f221
  have f237 : h227 (21) = .inl (1, 4, .inr (.inl (fun _ => 0))) := (hk230 (21) (by omega)).trans f222
  have f238 : h227 (22) = .inr (10, [.ref 23]) := (hk230 (22) (by omega)).trans f223
  have f239 : h227 (23) = .inl (1, 4, .inr (.inl (fun _ => 0))) := (hk230 (23) (by omega)).trans f224
  have f240 : h227 (13) = .inr (7, [.ref 14, .ref 16, .ref 18, .ref 20, .ref 22, .int 0, .int 0, .int 0, .int 0]) := (hk230 (13) (by omega)).trans f225
  have f241 : h227 (15) = .inl (1, 4, .inr (.inl (ws4 (fun _ => 0) (-1) (-1) (-1) (-1)))) := (hk230 (15) (by omega)).trans f215
  have K242 : KL (13) h h227 := KL_kn (by omega) K226 hk230
  refine r_aload_n rfl dX7_init_73 rfl ?_
  refine r_getv 2 rfl dX7_init_74 (by omega) f240 fl_X7_21 rfl ?_
  refine cl_X7_30 rfl rfl dX7_init_77 (by omega) (by omega) f234 (Nat.le_of_ble_eq_true rfl) (s_X10_fill (isWS_of (by omega) (by omega) f234 f235)) ?_
  rintro _ h243 _ ⟨rfl, eh244, rfl⟩
  have hW245 : WTH h243 := by rw [eh244]; exact up_wt hW229 trivial
  have hk246 : KN (19) h227 h243 := fun k hk => by rw [eh244]; exact va_up_ne _ _ hk
  have f247 : h243 (19) = .inl (1, 4, .inr (.inl (ws4 (fun _ => 0) (-1) (-1) (-1) (-1)))) := by rw [eh244]; exact va_up_self _ _ _
  have f248 : h243 (14) = .inr (10, [.ref 15]) := (hk246 (14) (by omega)).trans f232
  have f249 : h243 (16) = .inr (10, [.ref 17]) := (hk246 (16) (by omega)).trans f233
  have f250 : h243 (18) = .inr (10, [.ref 19]) := (hk246 (18) (by omega)).trans f234
  have f251 : h243 (20) = .inr (10, [.ref 21]) := (hk246 (20) (by omega)).trans f236
  have f252 : h243 (21) = .inl (1, 4, .inr (.inl (fun _ => 0))) := (hk246 (21) (by omega)).trans f237
  have f253 : h243 (22) = .inr (10, [.ref 23]) := (hk246 (22) (by omega)).trans f238
  have f254 : h243 (23) = .inl (1, 4, .inr (.inl (fun _ => 0))) := (hk246 (23) (by omega)).trans f239
  have f255 : h243 (13) = .inr (7, [.ref 14, .ref 16, .ref 18, .ref 20, .ref 22, .int 0, .int 0, .int 0, .int 0]) := (hk246 (13) (by omega)).trans f240
  have f256 : h243 (15) = .inl (1, 4, .inr (.inl (ws4 (fun _ => 0) (-1) (-1) (-1) (-1)))) := (hk246 (15) (by omega)).trans f241
  have f257 : h243 (17) = .inl (1, 4, .inr (.inl (ws4 (fun _ => 0) (-1) (-1) (-1) (-1)))) := (hk246 (17) (by omega)).trans f231
  have K258 : KL (13) h h243 := KL_kn (by omega) K242 hk246
  exact r_ret dX7_init_80 (rt_v rfl) ⟨rfl, hW245, K258, (BT_jn (BT_jn (BT_jn (BT_jn (BT_jn (BT_1 f255 (sse_rf _)) (BT_ws wsAt_14 f248 f256)) (BT_ws wsAt_16 f249 f257)) (BT_ws wsAt_18 f250 f247)) (BT_ws wsAt_20 f251 f252)) (BT_ws wsAt_22 f253 f254)), rfl⟩
theorem sw3 (i : Nat) : (fun j => if j < 3 then some (102 + 8 * i + 2 * j) else none) = va_up (va_up (va_up (fun _ => none) 0 (some (100 + 8 * i + 2))) 1 (some (100 + 8 * i + 4))) 2 (some (100 + 8 * i + 6)) := by
  funext j
  match j with
  | 0 => rw [va_up_ne _ _ (by decide), va_up_ne _ _ (by decide), va_up_self, if_pos (by decide)]; congr 1; omega
  | 1 => rw [va_up_ne _ _ (by decide), va_up_self, if_pos (by decide)]; congr 1; omega
  | 2 => rw [va_up_self, if_pos (by decide)]; congr 1; omega
  | j + 3 => rw [va_up_ne _ _ (by omega), va_up_ne _ _ (by omega), va_up_ne _ _ (by omega), if_neg (by omega)]
set_option maxRecDepth 20000 in
set_option maxHeartbeats 1000000 in
theorem s_X3_init {xs : Nat → Int32} {L d : Nat} {h : ev_H} {a i : Nat} (hW : WTH h) (f0 : h a = .inr (3, [.null, .int 0, .int 0, .int 0, .int 0, .int 0, .int 0])) (hi : i < 40) (hai : a = 100 + 8 * i) : EV xs L (d + 2) (7) (22) M_X3_init (a + 1) h 0 [some (.ref a), none] [] (fun sz' h' r => sz' = a + 8 ∧ WTH h' ∧ KL a h h' ∧ (∃ fs, h' a = .inr (3, fs)) ∧ BT a (a + 8) h' ∧ r = []) := by
  refine r_aload_n rfl dX3_init_0 rfl ?_
  refine r_oinit rfl dX3_init_1 (Nat.succ_pos _) (Nat.le_of_ble_eq_true rfl) lo_X3 lk_oi lk_oc ?_
  refine r_aload_n rfl dX3_init_4 rfl ?_
  refine r_iconst (v := 3) rfl dX3_init_5 (by decide) ?_
  refine r_bud (kc' := 6 + 1) (ks' := 19 + 3) (by omega) (by omega) ?_
  refine k_anew (t := 3) rfl dX3_init_6 hW (by decide) (by decide) (by decide) (Or.inl ⟨rfl, rfl⟩) lk_X3_9 lao_X10 (fun h51 hW52 hk53 f54 => ?_)
  have f55 : h51 (a) = .inr (3, [.null, .int 0, .int 0, .int 0, .int 0, .int 0, .int 0]) := (hk53 (a) (by omega)).trans f0
  have K56 : KL (a) h h51 := KL_tr (by omega) (KL_rf (a) h) hk53
  refine k_pc 0 (fs' := [.ref (a + 1), .int 0, .int 0, .int 0, .int 0, .int 0, .int 0]) rfl dX3_init_9 (by omega) (by omega) hW52 f55 (fp_X3_11 rfl rfl (by omega) _) (Nat.le_of_ble_eq_true rfl) rfl (fun h57 hW58 hk59 f60 => ?_)
  have f61 : h57 (a + 1) = .inl (3, 3, .inr (.inr (.inr (.inr (fun _ => none))))) := (hk59 (a + 1) (by omega)).trans f54
  have K62 : KL (a) h h57 := KL_kn (by omega) K56 hk59
  refine r_aload_n rfl dX3_init_12 rfl ?_
  refine r_bipush (v := (-9)) rfl dX3_init_13 (by decide) ?_
  refine k_pc 4 (fs' := [.ref (a + 1), .int 0, .int 0, .int 0, .int (-9), .int 0, .int 0]) rfl dX3_init_15 (by omega) (by omega) hW58 f60 (fp_X3_17 rfl _) (Nat.le_of_ble_eq_true rfl) rfl (fun h63 hW64 hk65 f66 => ?_)
  have f67 : h63 (a + 1) = .inl (3, 3, .inr (.inr (.inr (.inr (fun _ => none))))) := (hk65 (a + 1) (by omega)).trans f61
  have K68 : KL (a) h h63 := KL_kn (by omega) K62 hk65
  refine r_aload_n rfl dX3_init_18 rfl ?_
  refine r_bipush (v := (-9)) rfl dX3_init_19 (by decide) ?_
  refine k_pc 5 (fs' := [.ref (a + 1), .int 0, .int 0, .int 0, .int (-9), .int (-9), .int 0]) rfl dX3_init_21 (by omega) (by omega) hW64 f66 (fp_X3_21 rfl _) (Nat.le_of_ble_eq_true rfl) rfl (fun h69 hW70 hk71 f72 => ?_)
  have f73 : h69 (a + 1) = .inl (3, 3, .inr (.inr (.inr (.inr (fun _ => none))))) := (hk71 (a + 1) (by omega)).trans f67
  have K74 : KL (a) h h69 := KL_kn (by omega) K68 hk71
  refine r_aload_n rfl dX3_init_24 rfl ?_
  refine r_bipush (v := (-9)) rfl dX3_init_25 (by decide) ?_
  refine k_pc 6 (fs' := [.ref (a + 1), .int 0, .int 0, .int 0, .int (-9), .int (-9), .int (-9)]) rfl dX3_init_27 (by omega) (by omega) hW70 f72 (fp_X3_24 rfl _) (Nat.le_of_ble_eq_true rfl) rfl (fun h75 hW76 hk77 f78 => ?_)
  have f79 : h75 (a + 1) = .inl (3, 3, .inr (.inr (.inr (.inr (fun _ => none))))) := (hk77 (a + 1) (by omega)).trans f73
  have K80 : KL (a) h h75 := KL_kn (by omega) K74 hk77
  refine r_iconst (v := 0) rfl dX3_init_30 (by decide) ?_
  refine r_istore_n (ls' := [some (.ref a), some (.int 0)]) rfl dX3_init_31 (Nat.le_of_ble_eq_true rfl) rfl ?_
  refine r_iload_n rfl dX3_init_32 rfl ?_
  refine r_iconst (v := 3) rfl dX3_init_33 (by decide) ?_
  refine r_icmp_ge (tgt := 56) rfl rfl dX3_init_34 (fun zc => absurd zc (by decide)) (fun _ => ?_)
  refine r_aload_n rfl dX3_init_37 rfl ?_
  refine r_getv 0 rfl dX3_init_38 (by omega) f78 fl_X3_11 rfl ?_
  refine r_iload_n rfl dX3_init_41 rfl ?_
  refine r_bud (kc' := 5 + 1) (ks' := 18 + 1) (by omega) (by omega) ?_
  refine k_new 10 (fs := [.null]) rfl dX3_init_42 hW76 rfl rfl lk_X3_9 lt_X10 lz_X10 rfl (fun h81 hW82 hk83 f84 => ?_)
  have f85 : h81 (a + 1) = .inl (3, 3, .inr (.inr (.inr (.inr (fun _ => none))))) := (hk83 (a + 1) (by omega)).trans f79
  have f86 : h81 (a) = .inr (3, [.ref (a + 1), .int 0, .int 0, .int 0, .int (-9), .int (-9), .int (-9)]) := (hk83 (a) (by omega)).trans f78
  have K87 : KL (a) h h81 := KL_tr (by omega) K80 hk83
  refine r_dup rfl dX3_init_45 rfl ?_
  refine r_bud (kc' := 1 + (4)) (ks' := 5 + (13)) (by omega) (by omega) ?_
  refine cl_X3_27 rfl rfl dX3_init_46 (Nat.le_of_ble_eq_true rfl) (s_X10_init hW82 (by omega) f84) ?_
  rintro _ h88 _ ⟨rfl, hW89, hk90, f91, f92, rfl⟩
  have f93 : h88 (a + 1) = .inl (3, 3, .inr (.inr (.inr (.inr (fun _ => none))))) := (hk90 (a + 1) (by omega)).trans f85
  have f94 : h88 (a) = .inr (3, [.ref (a + 1), .int 0, .int 0, .int 0, .int (-9), .int (-9), .int (-9)]) := (hk90 (a) (by omega)).trans f86
  have K95 : KL (a) h h88 := KL_tr (by omega) K87 hk90
  refine k_aast (jn := 0) rfl dX3_init_49 (by omega) (by omega) hW89 f93 f91 rfl (Or.inl ⟨rfl, rfl⟩) (by omega) (vp_in_nI (n := 0) (by omega) (by decide)) (nI_clamp (n := 0) (by omega)) (fun h96 hW97 hk98 f99 => ?_)
  have f101 : h96 (a) = .inr (3, [.ref (a + 1), .int 0, .int 0, .int 0, .int (-9), .int (-9), .int (-9)]) := (hk98 (a) (by omega)).trans f94
  have f102 : h96 (a + 2) = .inr (10, [.ref (a + 3)]) := (hk98 (a + 2) (by omega)).trans f91
  have f103 : h96 (a + 3) = .inl (1, 4, .inr (.inl (fun _ => 0))) := (hk98 (a + 3) (by omega)).trans f92
  have K104 : KL (a) h h96 := KL_kn (by omega) K95 hk98
  refine r_iinc (y := 1) (ls' := [some (.ref a), some (.int 1)]) rfl dX3_init_50 rfl (by decide) (Nat.le_of_ble_eq_true rfl) rfl ?_
  refine r_goto (pc' := 32) rfl dX3_init_53 ?_
  refine r_iload_n rfl dX3_init_32 rfl ?_
  refine r_iconst (v := 3) rfl dX3_init_33 (by decide) ?_
  refine r_icmp_ge (tgt := 56) rfl rfl dX3_init_34 (fun zc => absurd zc (by decide)) (fun _ => ?_)
  refine r_aload_n rfl dX3_init_37 rfl ?_
  refine r_getv 0 rfl dX3_init_38 (by omega) f101 fl_X3_11 rfl ?_
  refine r_iload_n rfl dX3_init_41 rfl ?_
  refine r_bud (kc' := 3 + 1) (ks' := 12 + 1) (by omega) (by omega) ?_
  refine k_new 10 (fs := [.null]) rfl dX3_init_42 hW97 rfl rfl lk_X3_9 lt_X10 lz_X10 rfl (fun h105 hW106 hk107 f108 => ?_)
  have f109 : h105 (a) = .inr (3, [.ref (a + 1), .int 0, .int 0, .int 0, .int (-9), .int (-9), .int (-9)]) := (hk107 (a) (by omega)).trans f101
  have f110 : h105 (a + 2) = .inr (10, [.ref (a + 3)]) := (hk107 (a + 2) (by omega)).trans f102
  have f111 : h105 (a + 3) = .inl (1, 4, .inr (.inl (fun _ => 0))) := (hk107 (a + 3) (by omega)).trans f103
  have f112 : h105 (a + 1) = .inl (3, 3, .inr (.inr (.inr (.inr (va_up (fun _ => none) (0) (some (a + 2))))))) := (hk107 (a + 1) (by omega)).trans f99
  have K113 : KL (a) h h105 := KL_tr (by omega) K104 hk107
  refine r_dup rfl dX3_init_45 rfl ?_
  refine r_bud (kc' := 1 + (2)) (ks' := 5 + (7)) (by omega) (by omega) ?_
  refine cl_X3_27 rfl rfl dX3_init_46 (Nat.le_of_ble_eq_true rfl) (s_X10_init hW106 (by omega) f108) ?_
  rintro _ h114 _ ⟨rfl, hW115, hk116, f117, f118, rfl⟩
  have f119 : h114 (a) = .inr (3, [.ref (a + 1), .int 0, .int 0, .int 0, .int (-9), .int (-9), .int (-9)]) := (hk116 (a) (by omega)).trans f109
  have f120 : h114 (a + 2) = .inr (10, [.ref (a + 3)]) := (hk116 (a + 2) (by omega)).trans f110
  have f121 : h114 (a + 3) = .inl (1, 4, .inr (.inl (fun _ => 0))) := (hk116 (a + 3) (by omega)).trans f111
  have f122 : h114 (a + 1) = .inl (3, 3, .inr (.inr (.inr (.inr (va_up (fun _ => none) (0) (some (a + 2))))))) := (hk116 (a + 1) (by omega)).trans f112
  have K123 : KL (a) h h114 := KL_tr (by omega) K113 hk116
  refine k_aast (jn := 1) rfl dX3_init_49 (by omega) (by omega) hW115 f122 f117 rfl (Or.inl ⟨rfl, rfl⟩) (by omega) (vp_in_nI (n := 1) (by omega) (by decide)) (nI_clamp (n := 1) (by omega)) (fun h124 hW125 hk126 f127 => ?_)
  have f129 : h124 (a) = .inr (3, [.ref (a + 1), .int 0, .int 0, .int 0, .int (-9), .int (-9), .int (-9)]) := (hk126 (a) (by omega)).trans f119
  have f130 : h124 (a + 2) = .inr (10, [.ref (a + 3)]) := (hk126 (a + 2) (by omega)).trans f120
  have f131 : h124 (a + 3) = .inl (1, 4, .inr (.inl (fun _ => 0))) := (hk126 (a + 3) (by omega)).trans f121
  have f132 : h124 (a + 4) = .inr (10, [.ref (a + 5)]) := (hk126 (a + 4) (by omega)).trans f117
  have f133 : h124 (a + 5) = .inl (1, 4, .inr (.inl (fun _ => 0))) := (hk126 (a + 5) (by omega)).trans f118
  have K134 : KL (a) h h124 := KL_kn (by omega) K123 hk126
  refine r_iinc (y := 2) (ls' := [some (.ref a), some (.int 2)]) rfl dX3_init_50 rfl (by decide) (Nat.le_of_ble_eq_true rfl) rfl ?_
  refine r_goto (pc' := 32) rfl dX3_init_53 ?_
  refine r_iload_n rfl dX3_init_32 rfl ?_
  refine r_iconst (v := 3) rfl dX3_init_33 (by decide) ?_
  refine r_icmp_ge (tgt := 56) rfl rfl dX3_init_34 (fun zc => absurd zc (by decide)) (fun _ => ?_)
  refine r_aload_n rfl dX3_init_37 rfl ?_
  refine r_getv 0 rfl dX3_init_38 (by omega) f129 fl_X3_11 rfl ?_
  refine r_iload_n rfl dX3_init_41 rfl ?_
  refine r_bud (kc' := 1 + 1) (ks' := 6 + 1) (by omega) (by omega) ?_
  refine k_new 10 (fs := [.null]) rfl dX3_init_42 hW125 rfl rfl lk_X3_9 lt_X10 lz_X10 rfl (fun h135 hW136 hk137 f138 => ?_)
  have f139 : h135 (a) = .inr (3, [.ref (a + 1), .int 0, .int 0, .int 0, .int (-9), .int (-9), .int (-9)]) := (hk137 (a) (by omega)).trans f129
  have f140 : h135 (a + 2) = .inr (10, [.ref (a + 3)]) := (hk137 (a + 2) (by omega)).trans f130
  have f141 : h135 (a + 3) = .inl (1, 4, .inr (.inl (fun _ => 0))) := (hk137 (a + 3) (by omega)).trans f131
  have f142 : h135 (a + 4) = .inr (10, [.ref (a + 5)]) := (hk137 (a + 4) (by omega)).trans f132
  have f143 : h135 (a + 5) = .inl (1, 4, .inr (.inl (fun _ => 0))) := (hk137 (a + 5) (by omega)).trans f133
  have f144 : h135 (a + 1) = .inl (3, 3, .inr (.inr (.inr (.inr (va_up (va_up (fun _ => none) (0) (some (a + 2))) (1) (some (a + 4))))))) := (hk137 (a + 1) (by omega)).trans f127
  have K145 : KL (a) h h135 := KL_tr (by omega) K134 hk137
  refine r_dup rfl dX3_init_45 rfl ?_
  refine r_bud (kc' := 1 + (0)) (ks' := 5 + (1)) (by omega) (by omega) ?_
  refine cl_X3_27 rfl rfl dX3_init_46 (Nat.le_of_ble_eq_true rfl) (s_X10_init hW136 (by omega) f138) ?_
  rintro _ h146 _ ⟨rfl, hW147, hk148, f149, f150, rfl⟩
  have f151 : h146 (a) = .inr (3, [.ref (a + 1), .int 0, .int 0, .int 0, .int (-9), .int (-9), .int (-9)]) := (hk148 (a) (by omega)).trans f139
  have f152 : h146 (a + 2) = .inr (10, [.ref (a + 3)]) := (hk148 (a + 2) (by omega)).trans f140
  have f153 : h146 (a + 3) = .inl (1, 4, .inr (.inl (fun _ => 0))) := (hk148 (a + 3) (by omega)).trans f141
  have f154 : h146 (a + 4) = .inr (10, [.ref (a + 5)]) := (hk148 (a + 4) (by omega)).trans f142
  have f155 : h146 (a + 5) = .inl (1, 4, .inr (.inl (fun _ => 0))) := (hk148 (a + 5) (by omega)).trans f143
  have f156 : h146 (a + 1) = .inl (3, 3, .inr (.inr (.inr (.inr (va_up (va_up (fun _ => none) (0) (some (a + 2))) (1) (some (a + 4))))))) := (hk148 (a + 1) (by omega)).trans f144
  have K157 : KL (a) h h146 := KL_tr (by omega) K145 hk148
  refine k_aast (jn := 2) rfl dX3_init_49 (by omega) (by omega) hW147 f156 f149 rfl (Or.inl ⟨rfl, rfl⟩) (by omega) (vp_in_nI (n := 2) (by omega) (by decide)) (nI_clamp (n := 2) (by omega)) (fun h158 hW159 hk160 f161 => ?_)
  have f163 : h158 (a) = .inr (3, [.ref (a + 1), .int 0, .int 0, .int 0, .int (-9), .int (-9), .int (-9)]) := (hk160 (a) (by omega)).trans f151
  have f164 : h158 (a + 2) = .inr (10, [.ref (a + 3)]) := (hk160 (a + 2) (by omega)).trans f152
  have f165 : h158 (a + 3) = .inl (1, 4, .inr (.inl (fun _ => 0))) := (hk160 (a + 3) (by omega)).trans f153
  have f166 : h158 (a + 4) = .inr (10, [.ref (a + 5)]) := (hk160 (a + 4) (by omega)).trans f154
  have f167 : h158 (a + 5) = .inl (1, 4, .inr (.inl (fun _ => 0))) := (hk160 (a + 5) (by omega)).trans f155
  have f168 : h158 (a + 6) = .inr (10, [.ref (a + 7)]) := (hk160 (a + 6) (by omega)).trans f149
  have f169 : h158 (a + 7) = .inl (1, 4, .inr (.inl (fun _ => 0))) := (hk160 (a + 7) (by omega)).trans f150
  have K170 : KL (a) h h158 := KL_kn (by omega) K157 hk160
  refine r_iinc (y := 3) (ls' := [some (.ref a), some (.int 3)]) rfl dX3_init_50 rfl (by decide) (Nat.le_of_ble_eq_true rfl) rfl ?_
  refine r_goto (pc' := 32) rfl dX3_init_53 ?_
  refine r_iload_n rfl dX3_init_32 rfl ?_
  refine r_iconst (v := 3) rfl dX3_init_33 (by decide) ?_
  refine r_icmp_ge (tgt := 56) rfl rfl dX3_init_34 (fun _ => ?_) (fun zc => absurd zc (by decide))
  exact r_ret dX3_init_56 (rt_v rfl) ⟨rfl, hW159, K170, ⟨_, f163⟩, (BT_jn (BT_jn (BT_jn (BT_jn (BT_1 f163 (by rw [hai, cs0_line hi, show 100 + 8 * i + 1 = 101 + 8 * i by omega]; exact ss_3)) (BT_1 f161 (by rw [hai, show 100 + 8 * i + 1 = 101 + 8 * i by omega, cs0_say hi, sw3 i]; exact sse_rf _))) (BT_ws (by rw [hai, show 100 + 8 * i + 2 = 102 + 8 * i + 2 * 0 by omega]; exact wsAt_ln hi (by decide)) f164 f165)) (BT_ws (by rw [hai, show 100 + 8 * i + 4 = 102 + 8 * i + 2 * 1 by omega]; exact wsAt_ln hi (by decide)) f166 f167)) (BT_ws (by rw [hai, show 100 + 8 * i + 6 = 102 + 8 * i + 2 * 2 by omega]; exact wsAt_ln hi (by decide)) f168 f169)), rfl⟩
