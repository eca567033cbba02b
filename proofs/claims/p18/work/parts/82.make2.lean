theorem dX0_init_0 : decode cX0_init 0 = .ok (.aload_n 0, 1) := by decide +kernel
theorem dX0_init_1 : decode cX0_init 1 = .ok (.invokespecial 3, 3) := by decide +kernel
theorem dX0_init_4 : decode cX0_init 4 = .ok (.aload_n 0, 1) := by decide +kernel
theorem dX0_init_5 : decode cX0_init 5 = .ok (.bipush 16, 2) := by decide +kernel
theorem dX0_init_7 : decode cX0_init 7 = .ok (.anewarray 9, 3) := by decide +kernel
theorem dX0_init_10 : decode cX0_init 10 = .ok (.putfield 11, 3) := by decide +kernel
theorem dX0_init_13 : decode cX0_init 13 = .ok (.aload_n 0, 1) := by decide +kernel
theorem dX0_init_14 : decode cX0_init 14 = .ok (.bipush 17, 2) := by decide +kernel
theorem dX0_init_16 : decode cX0_init 16 = .ok (.anewarray 9, 3) := by decide +kernel
theorem dX0_init_19 : decode cX0_init 19 = .ok (.putfield 17, 3) := by decide +kernel
theorem dX0_init_22 : decode cX0_init 22 = .ok (.iconst 0, 1) := by decide +kernel
theorem dX0_init_23 : decode cX0_init 23 = .ok (.istore_n 1, 1) := by decide +kernel
theorem dX0_init_24 : decode cX0_init 24 = .ok (.iload_n 1, 1) := by decide +kernel
theorem dX0_init_25 : decode cX0_init 25 = .ok (.aload_n 0, 1) := by decide +kernel
theorem dX0_init_26 : decode cX0_init 26 = .ok (.getfield 11, 3) := by decide +kernel
theorem dX0_init_29 : decode cX0_init 29 = .ok (.arraylength, 1) := by decide +kernel
theorem dX0_init_30 : decode cX0_init 30 = .ok (.if_icmp .ge 22, 3) := by decide +kernel
theorem dX0_init_33 : decode cX0_init 33 = .ok (.aload_n 0, 1) := by decide +kernel
theorem dX0_init_34 : decode cX0_init 34 = .ok (.getfield 11, 3) := by decide +kernel
theorem dX0_init_37 : decode cX0_init 37 = .ok (.iload_n 1, 1) := by decide +kernel
theorem dX0_init_38 : decode cX0_init 38 = .ok (.new 9, 3) := by decide +kernel
theorem dX0_init_41 : decode cX0_init 41 = .ok (.dup, 1) := by decide +kernel
theorem dX0_init_42 : decode cX0_init 42 = .ok (.invokespecial 20, 3) := by decide +kernel
theorem dX0_init_45 : decode cX0_init 45 = .ok (.aastore, 1) := by decide +kernel
theorem dX0_init_46 : decode cX0_init 46 = .ok (.iinc 1 1, 3) := by decide +kernel
theorem dX0_init_49 : decode cX0_init 49 = .ok (.goto (-25), 3) := by decide +kernel
theorem dX0_init_52 : decode cX0_init 52 = .ok (.iconst 0, 1) := by decide +kernel
theorem dX0_init_53 : decode cX0_init 53 = .ok (.istore_n 1, 1) := by decide +kernel
theorem dX0_init_54 : decode cX0_init 54 = .ok (.iload_n 1, 1) := by decide +kernel
theorem dX0_init_55 : decode cX0_init 55 = .ok (.aload_n 0, 1) := by decide +kernel
theorem dX0_init_56 : decode cX0_init 56 = .ok (.getfield 17, 3) := by decide +kernel
theorem dX0_init_59 : decode cX0_init 59 = .ok (.arraylength, 1) := by decide +kernel
theorem dX0_init_60 : decode cX0_init 60 = .ok (.if_icmp .ge 22, 3) := by decide +kernel
theorem dX0_init_63 : decode cX0_init 63 = .ok (.aload_n 0, 1) := by decide +kernel
theorem dX0_init_64 : decode cX0_init 64 = .ok (.getfield 17, 3) := by decide +kernel
theorem dX0_init_67 : decode cX0_init 67 = .ok (.iload_n 1, 1) := by decide +kernel
theorem dX0_init_68 : decode cX0_init 68 = .ok (.new 9, 3) := by decide +kernel
theorem dX0_init_71 : decode cX0_init 71 = .ok (.dup, 1) := by decide +kernel
theorem dX0_init_72 : decode cX0_init 72 = .ok (.invokespecial 20, 3) := by decide +kernel
theorem dX0_init_75 : decode cX0_init 75 = .ok (.aastore, 1) := by decide +kernel
theorem dX0_init_76 : decode cX0_init 76 = .ok (.iinc 1 1, 3) := by decide +kernel
theorem dX0_init_79 : decode cX0_init 79 = .ok (.goto (-25), 3) := by decide +kernel
theorem dX0_init_82 : decode cX0_init 82 = .ok (.return_, 1) := by decide +kernel
set_option maxRecDepth 20000 in
set_option maxHeartbeats 1000000 in
theorem s_X0i2_z {xs : Nat → Int32} {L d : Nat} {h : ev_H} {h0 : ev_H} {k : Nat} (hW : WTH h) (hK : KL 24 h0 h) (f24 : h 24 = c24 0 0 0 0) (f25 : h 25 = .inl (3, 16, .inr (.inr (.inr (.inr (fun j => if j < 16 then some (27 + 2 * j) else none)))))) (f26 : h 26 = .inl (3, 17, .inr (.inr (.inr (.inr (fun j => if j < k then some (59 + 2 * j) else none)))))) (hB : BT 27 (59 + 2 * k) h) (hk : k = 17) : EV xs L (d + 2) (0) (1) M_X0_init (59 + 2 * k) h 54 [some (.ref 24), some (.int (nI k))] [] (fun sz' h' r => sz' = 93 ∧ WTH h' ∧ KL 24 h0 h' ∧ h' 24 = c24 0 0 0 0 ∧ BT 24 93 h' ∧ r = []) := by
  refine r_iload_n rfl dX0_init_54 rfl ?_
  refine r_aload_n rfl dX0_init_55 rfl ?_
  refine r_getv 1 rfl dX0_init_56 (by omega) f24 fl_X0_17 rfl ?_
  refine r_alen (v := 17) rfl dX0_init_59 (by omega) (by omega) f26 (by decide) rfl ?_
  refine r_icmp_ge (tgt := 82) rfl rfl dX0_init_60 (fun _ => ?_) (fun zc => absurd (show (17 : Int32) ≤ nI k from nI_le (a := 17) (b := k) (by omega) (by omega)) zc)
  obtain rfl : k = 17 := hk
  exact r_ret dX0_init_82 (rt_v rfl) ⟨rfl, hW, hK, f24, (BT_jn (BT_jn (BT_jn (BT_1 f24 (sse_rf _)) (BT_1 f25 (sse_rf _))) (BT_1 f26 (sse_rf _))) hB), rfl⟩
set_option maxRecDepth 20000 in
set_option maxHeartbeats 1000000 in
theorem s_X0i2_s {xs : Nat → Int32} {L d : Nat} {h : ev_H} {h0 : ev_H} {k n : Nat} (hW : WTH h) (hK : KL 24 h0 h) (f24 : h 24 = c24 0 0 0 0) (f25 : h 25 = .inl (3, 16, .inr (.inr (.inr (.inr (fun j => if j < 16 then some (27 + 2 * j) else none)))))) (f26 : h 26 = .inl (3, 17, .inr (.inr (.inr (.inr (fun j => if j < k then some (59 + 2 * j) else none)))))) (hB : BT 27 (59 + 2 * k) h) (hk : k < 17) (ih : ∀ h' : ev_H, WTH h' → KL 24 h0 h' → h' 24 = c24 0 0 0 0 → h' 25 = .inl (3, 16, .inr (.inr (.inr (.inr (fun j => if j < 16 then some (27 + 2 * j) else none))))) → h' 26 = .inl (3, 17, .inr (.inr (.inr (.inr (fun j => if j < k + 1 then some (59 + 2 * j) else none))))) → BT 27 (59 + 2 * (k + 1)) h' → EV xs L (d + 2) (2 * n) (6 * n + 1) M_X0_init (59 + 2 * (k + 1)) h' 54 [some (.ref 24), some (.int (nI (k + 1)))] [] (fun sz' h' r => sz' = 93 ∧ WTH h' ∧ KL 24 h0 h' ∧ h' 24 = c24 0 0 0 0 ∧ BT 24 93 h' ∧ r = [])) : EV xs L (d + 2) (2 * n + 2) ((6 * n + 1) + 6) M_X0_init (59 + 2 * k) h 54 [some (.ref 24), some (.int (nI k))] [] (fun sz' h' r => sz' = 93 ∧ WTH h' ∧ KL 24 h0 h' ∧ h' 24 = c24 0 0 0 0 ∧ BT 24 93 h' ∧ r = []) := by
  refine r_iload_n rfl dX0_init_54 rfl ?_
  refine r_aload_n rfl dX0_init_55 rfl ?_
  refine r_getv 1 rfl dX0_init_56 (by omega) f24 fl_X0_17 rfl ?_
  refine r_alen (v := 17) rfl dX0_init_59 (by omega) (by omega) f26 (by decide) rfl ?_
  refine r_icmp_ge (tgt := 82) rfl rfl dX0_init_60 (fun zc => absurd zc (show ¬ (17 : Int32) ≤ nI k from nI_ge (a := k) (b := 17) (by omega) (by decide))) (fun _ => ?_)
  refine r_aload_n rfl dX0_init_63 rfl ?_
  refine r_getv 1 rfl dX0_init_64 (by omega) f24 fl_X0_17 rfl ?_
  refine r_iload_n rfl dX0_init_67 rfl ?_
  refine r_bud (kc' := 2 * n + 1 + 1) (ks' := (6 * n + 1) + 5 + 1) (by omega) (by omega) ?_
  refine k_new 10 (fs := [.null]) rfl dX0_init_68 hW rfl rfl lk_X0_9 lt_X10 lz_X10 rfl (fun h51 hW52 hk53 f54 => ?_)
  have f55 : h51 (24) = .inr (0, [.ref 25, .ref 26, .int 0, .int 0, .int 0, .int 0]) := (hk53 (24) (by omega)).trans f24
  have f56 : h51 (25) = .inl (3, 16, .inr (.inr (.inr (.inr (fun j => if j < 16 then some (27 + 2 * j) else none))))) := (hk53 (25) (by omega)).trans f25
  have f57 : h51 (26) = .inl (3, 17, .inr (.inr (.inr (.inr (fun j => if j < k then some (59 + 2 * j) else none))))) := (hk53 (26) (by omega)).trans f26
  have B58 : BT (27) (59 + 2 * k) h51 := BT_kl hB hk53 (by omega)
  have K59 : KL (24) h0 h51 := KL_tr (by omega) hK hk53
  refine r_dup rfl dX0_init_71 rfl ?_
  refine r_bud (kc' := 1 + (2 * n + 0)) (ks' := 5 + ((6 * n + 1) + 0)) (by omega) (by omega) ?_
  refine cl_X0_20 rfl rfl dX0_init_72 (Nat.le_of_ble_eq_true rfl) (s_X10_init hW52 (by omega) f54) ?_
  rintro _ h60 _ ⟨rfl, hW61, hk62, f63, f64, rfl⟩
  have f65 : h60 (24) = .inr (0, [.ref 25, .ref 26, .int 0, .int 0, .int 0, .int 0]) := (hk62 (24) (by omega)).trans f55
  have f66 : h60 (25) = .inl (3, 16, .inr (.inr (.inr (.inr (fun j => if j < 16 then some (27 + 2 * j) else none))))) := (hk62 (25) (by omega)).trans f56
  have f67 : h60 (26) = .inl (3, 17, .inr (.inr (.inr (.inr (fun j => if j < k then some (59 + 2 * j) else none))))) := (hk62 (26) (by omega)).trans f57
  have B68 : BT (27) (59 + 2 * k) h60 := BT_kl B58 hk62 (by omega)
  have K69 : KL (24) h0 h60 := KL_tr (by omega) K59 hk62
  refine k_aast (jn := k) rfl dX0_init_75 (by omega) (by omega) hW61 f67 f63 rfl (Or.inl ⟨rfl, rfl⟩) (by omega) (vp_in_nI (n := k) (by omega) (by decide)) (nI_clamp (n := k) (by omega)) (fun h70 hW71 hk72 f73 => ?_)
  have f74 : h70 (26) = .inl (3, 17, .inr (.inr (.inr (.inr (fun j => if j < k + 1 then some (59 + 2 * j) else none))))) := by rw [f73, fl_up 59 2 k 17 (by omega)]
  have f75 : h70 (24) = .inr (0, [.ref 25, .ref 26, .int 0, .int 0, .int 0, .int 0]) := (hk72 (24) (by omega)).trans f65
  have f76 : h70 (25) = .inl (3, 16, .inr (.inr (.inr (.inr (fun j => if j < 16 then some (27 + 2 * j) else none))))) := (hk72 (25) (by omega)).trans f66
  have f77 : h70 (59 + 2 * k) = .inr (10, [.ref (59 + 2 * k + 1)]) := (hk72 (59 + 2 * k) (by omega)).trans f63
  have f78 : h70 (59 + 2 * k + 1) = .inl (1, 4, .inr (.inl (fun _ => 0))) := (hk72 (59 + 2 * k + 1) (by omega)).trans f64
  have B79 : BT (27) (59 + 2 * k) h70 := BT_kn B68 hk72 (by omega)
  have K80 : KL (24) h0 h70 := KL_kn (by omega) K69 hk72
  refine r_iinc (y := nI (k + 1)) (ls' := [some (.ref 24), some (.int (nI (k + 1)))]) rfl dX0_init_76 rfl (nI_1 k) (Nat.le_of_ble_eq_true rfl) rfl ?_
  refine r_goto (pc' := 54) rfl dX0_init_79 ?_
  refine r_bud (kc' := 2 * n) (ks' := 6 * n + 1) (by omega) (by omega) ?_
  have hB2 : BT 27 (59 + 2 * (k + 1)) h70 := BT_jn B79 (BT_ws (wsAt_open (j := k) (by omega)) f77 f78)
  exact ih h70 hW71 K80 f75 f76 f74 hB2
theorem s_X0i2 {xs : Nat → Int32} {L d : Nat} {h0 : ev_H} : ∀ (n k : Nat) (h : ev_H), k + n = 17 → WTH h → KL 24 h0 h → h 24 = c24 0 0 0 0 → h 25 = .inl (3, 16, .inr (.inr (.inr (.inr (fun j => if j < 16 then some (27 + 2 * j) else none))))) → h 26 = .inl (3, 17, .inr (.inr (.inr (.inr (fun j => if j < k then some (59 + 2 * j) else none))))) → BT 27 (59 + 2 * k) h → EV xs L (d + 2) (2 * n) (6 * n + 1) M_X0_init (59 + 2 * k) h 54 [some (.ref 24), some (.int (nI k))] [] (fun sz' h' r => sz' = 93 ∧ WTH h' ∧ KL 24 h0 h' ∧ h' 24 = c24 0 0 0 0 ∧ BT 24 93 h' ∧ r = []) := by
  intro n
  induction n with
  | zero => intro k h hk hW hK f24 f25 f26 hB; exact s_X0i2_z hW hK f24 f25 f26 hB (by omega)
  | succ n ih => intro k h hk hW hK f24 f25 f26 hB; exact r_bud (by omega) (by omega) (s_X0i2_s (n := n) hW hK f24 f25 f26 hB (by omega) (fun h' q1 q2 q3 q4 q5 q6 => ih (k + 1) h' (by omega) q1 q2 q3 q4 q5 q6))
set_option maxRecDepth 20000 in
set_option maxHeartbeats 1000000 in
theorem s_X0i1_z {xs : Nat → Int32} {L d : Nat} {h : ev_H} {h0 : ev_H} {k : Nat} (hW : WTH h) (hK : KL 24 h0 h) (f24 : h 24 = c24 0 0 0 0) (f25 : h 25 = .inl (3, 16, .inr (.inr (.inr (.inr (fun j => if j < k then some (27 + 2 * j) else none)))))) (f26 : h 26 = .inl (3, 17, .inr (.inr (.inr (.inr (fun _ => none)))))) (hB : BT 27 (27 + 2 * k) h) (hk : k = 16) : EV xs L (d + 2) (34) (103) M_X0_init (27 + 2 * k) h 24 [some (.ref 24), some (.int (nI k))] [] (fun sz' h' r => sz' = 93 ∧ WTH h' ∧ KL 24 h0 h' ∧ h' 24 = c24 0 0 0 0 ∧ BT 24 93 h' ∧ r = []) := by
  refine r_iload_n rfl dX0_init_24 rfl ?_
  refine r_aload_n rfl dX0_init_25 rfl ?_
  refine r_getv 0 rfl dX0_init_26 (by omega) f24 fl_X0_11 rfl ?_
  refine r_alen (v := 16) rfl dX0_init_29 (by omega) (by omega) f25 (by decide) rfl ?_
  refine r_icmp_ge (tgt := 52) rfl rfl dX0_init_30 (fun _ => ?_) (fun zc => absurd (show (16 : Int32) ≤ nI k from nI_le (a := 16) (b := k) (by omega) (by omega)) zc)
  refine r_iconst (v := 0) rfl dX0_init_52 (by decide) ?_
  refine r_istore_n (ls' := [some (.ref 24), some (.int 0)]) rfl dX0_init_53 (Nat.le_of_ble_eq_true rfl) rfl ?_
  obtain rfl : k = 16 := hk
  refine r_bud (kc' := 2 * 17) (ks' := 6 * 17 + 1) rfl rfl ?_
  exact s_X0i2 17 0 h rfl hW hK f24 f25 (by rw [f26, fl_all 59 2 17]) hB
set_option maxRecDepth 20000 in
set_option maxHeartbeats 1000000 in
theorem s_X0i1_s {xs : Nat → Int32} {L d : Nat} {h : ev_H} {h0 : ev_H} {k n : Nat} (hW : WTH h) (hK : KL 24 h0 h) (f24 : h 24 = c24 0 0 0 0) (f25 : h 25 = .inl (3, 16, .inr (.inr (.inr (.inr (fun j => if j < k then some (27 + 2 * j) else none)))))) (f26 : h 26 = .inl (3, 17, .inr (.inr (.inr (.inr (fun _ => none)))))) (hB : BT 27 (27 + 2 * k) h) (hk : k < 16) (ih : ∀ h' : ev_H, WTH h' → KL 24 h0 h' → h' 24 = c24 0 0 0 0 → h' 25 = .inl (3, 16, .inr (.inr (.inr (.inr (fun j => if j < k + 1 then some (27 + 2 * j) else none))))) → h' 26 = .inl (3, 17, .inr (.inr (.inr (.inr (fun _ => none))))) → BT 27 (27 + 2 * (k + 1)) h' → EV xs L (d + 2) (2 * n + 34) (6 * n + 103) M_X0_init (27 + 2 * (k + 1)) h' 24 [some (.ref 24), some (.int (nI (k + 1)))] [] (fun sz' h' r => sz' = 93 ∧ WTH h' ∧ KL 24 h0 h' ∧ h' 24 = c24 0 0 0 0 ∧ BT 24 93 h' ∧ r = [])) : EV xs L (d + 2) ((2 * n + 34) + 2) ((6 * n + 103) + 6) M_X0_init (27 + 2 * k) h 24 [some (.ref 24), some (.int (nI k))] [] (fun sz' h' r => sz' = 93 ∧ WTH h' ∧ KL 24 h0 h' ∧ h' 24 = c24 0 0 0 0 ∧ BT 24 93 h' ∧ r = []) := by
  refine r_iload_n rfl dX0_init_24 rfl ?_
  refine r_aload_n rfl dX0_init_25 rfl ?_
  refine r_getv 0 rfl dX0_init_26 (by omega) f24 fl_X0_11 rfl ?_
  refine r_alen (v := 16) rfl dX0_init_29 (by omega) (by omega) f25 (by decide) rfl ?_
  refine r_icmp_ge (tgt := 52) rfl rfl dX0_init_30 (fun zc => absurd zc (show ¬ (16 : Int32) ≤ nI k from nI_ge (a := k) (b := 16) (by omega) (by decide))) (fun _ => ?_)
  refine r_aload_n rfl dX0_init_33 rfl ?_
  refine r_getv 0 rfl dX0_init_34 (by omega) f24 fl_X0_11 rfl ?_
  refine r_iload_n rfl dX0_init_37 rfl ?_
  refine r_bud (kc' := (2 * n + 34) + 1 + 1) (ks' := (6 * n + 103) + 5 + 1) (by omega) (by omega) ?_
  refine k_new 10 (fs := [.null]) rfl dX0_init_38 hW rfl rfl lk_X0_9 lt_X10 lz_X10 rfl (fun h51 hW52 hk53 f54 => ?_)
  have f55 : h51 (24) = .inr (0, [.ref 25, .ref 26, .int 0, .int 0, .int 0, .int 0]) := (hk53 (24) (by omega)).trans f24
  have f56 : h51 (25) = .inl (3, 16, .inr (.inr (.inr (.inr (fun j => if j < k then some (27 + 2 * j) else none))))) := (hk53 (25) (by omega)).trans f25
  have f57 : h51 (26) = .inl (3, 17, .inr (.inr (.inr (.inr (fun _ => none))))) := (hk53 (26) (by omega)).trans f26
  have B58 : BT (27) (27 + 2 * k) h51 := BT_kl hB hk53 (by omega)
  have K59 : KL (24) h0 h51 := KL_tr (by omega) hK hk53
  refine r_dup rfl dX0_init_41 rfl ?_
  refine r_bud (kc' := 1 + ((2 * n + 34) + 0)) (ks' := 5 + ((6 * n + 103) + 0)) (by omega) (by omega) ?_
  refine cl_X0_20 rfl rfl dX0_init_42 (Nat.le_of_ble_eq_true rfl) (s_X10_init hW52 (by omega) f54) ?_
  rintro _ h60 _ ⟨rfl, hW61, hk62, f63, f64, rfl⟩
  have f65 : h60 (24) = .inr (0, [.ref 25, .ref 26, .int 0, .int 0, .int 0, .int 0]) := (hk62 (24) (by omega)).trans f55
  have f66 : h60 (25) = .inl (3, 16, .inr (.inr (.inr (.inr (fun j => if j < k then some (27 + 2 * j) else none))))) := (hk62 (25) (by omega)).trans f56
  have f67 : h60 (26) = .inl (3, 17, .inr (.inr (.inr (.inr (fun _ => none))))) := (hk62 (26) (by omega)).trans f57
  have B68 : BT (27) (27 + 2 * k) h60 := BT_kl B58 hk62 (by omega)
  have K69 : KL (24) h0 h60 := KL_tr (by omega) K59 hk62
  refine k_aast (jn := k) rfl dX0_init_45 (by omega) (by omega) hW61 f66 f63 rfl (Or.inl ⟨rfl, rfl⟩) (by omega) (vp_in_nI (n := k) (by omega) (by decide)) (nI_clamp (n := k) (by omega)) (fun h70 hW71 hk72 f73 => ?_)
  have f74 : h70 (25) = .inl (3, 16, .inr (.inr (.inr (.inr (fun j => if j < k + 1 then some (27 + 2 * j) else none))))) := by rw [f73, fl_up 27 2 k 16 (by omega)]
  have f75 : h70 (24) = .inr (0, [.ref 25, .ref 26, .int 0, .int 0, .int 0, .int 0]) := (hk72 (24) (by omega)).trans f65
  have f76 : h70 (26) = .inl (3, 17, .inr (.inr (.inr (.inr (fun _ => none))))) := (hk72 (26) (by omega)).trans f67
  have f77 : h70 (27 + 2 * k) = .inr (10, [.ref (27 + 2 * k + 1)]) := (hk72 (27 + 2 * k) (by omega)).trans f63
  have f78 : h70 (27 + 2 * k + 1) = .inl (1, 4, .inr (.inl (fun _ => 0))) := (hk72 (27 + 2 * k + 1) (by omega)).trans f64
  have B79 : BT (27) (27 + 2 * k) h70 := BT_kn B68 hk72 (by omega)
  have K80 : KL (24) h0 h70 := KL_kn (by omega) K69 hk72
  refine r_iinc (y := nI (k + 1)) (ls' := [some (.ref 24), some (.int (nI (k + 1)))]) rfl dX0_init_46 rfl (nI_1 k) (Nat.le_of_ble_eq_true rfl) rfl ?_
  refine r_goto (pc' := 24) rfl dX0_init_49 ?_
  refine r_bud (kc' := 2 * n + 34) (ks' := 6 * n + 103) (by omega) (by omega) ?_
  have hB2 : BT 27 (27 + 2 * (k + 1)) h70 := BT_jn B79 (BT_ws (wsAt_hold (j := k) (by omega)) f77 f78)
  exact ih h70 hW71 K80 f75 f74 f76 hB2
theorem s_X0i1 {xs : Nat → Int32} {L d : Nat} {h0 : ev_H} : ∀ (n k : Nat) (h : ev_H), k + n = 16 → WTH h → KL 24 h0 h → h 24 = c24 0 0 0 0 → h 25 = .inl (3, 16, .inr (.inr (.inr (.inr (fun j => if j < k then some (27 + 2 * j) else none))))) → h 26 = .inl (3, 17, .inr (.inr (.inr (.inr (fun _ => none))))) → BT 27 (27 + 2 * k) h → EV xs L (d + 2) (2 * n + 34) (6 * n + 103) M_X0_init (27 + 2 * k) h 24 [some (.ref 24), some (.int (nI k))] [] (fun sz' h' r => sz' = 93 ∧ WTH h' ∧ KL 24 h0 h' ∧ h' 24 = c24 0 0 0 0 ∧ BT 24 93 h' ∧ r = []) := by
  intro n
  induction n with
  | zero => intro k h hk hW hK f24 f25 f26 hB; exact s_X0i1_z hW hK f24 f25 f26 hB (by omega)
  | succ n ih => intro k h hk hW hK f24 f25 f26 hB; exact r_bud (by omega) (by omega) (s_X0i1_s (n := n) hW hK f24 f25 f26 hB (by omega) (fun h' q1 q2 q3 q4 q5 q6 => ih (k + 1) h' (by omega) q1 q2 q3 q4 q5 q6))
set_option maxRecDepth 20000 in
set_option maxHeartbeats 1000000 in
theorem s_X0_init {xs : Nat → Int32} {L d : Nat} {h : ev_H}  (hW : WTH h) (f0 : h 24 = .inr (0, [.null, .null, .int 0, .int 0, .int 0, .int 0])) : EV xs L (d + 2) (68) (232) M_X0_init (25) h 0 [some (.ref 24), none] [] (fun sz' h' r => sz' = 93 ∧ WTH h' ∧ KL 24 h h' ∧ h' 24 = c24 0 0 0 0 ∧ BT 24 93 h' ∧ r = []) := by
  refine r_aload_n rfl dX0_init_0 rfl ?_
  refine r_oinit rfl dX0_init_1 (Nat.succ_pos _) (Nat.le_of_ble_eq_true rfl) lo_X0 lk_oi lk_oc ?_
  refine r_aload_n rfl dX0_init_4 rfl ?_
  refine r_bipush (v := 16) rfl dX0_init_5 (by decide) ?_
  refine r_bud (kc' := 67 + 1) (ks' := 216 + 16) (by omega) (by omega) ?_
  refine k_anew (t := 3) rfl dX0_init_7 hW (by decide) (by decide) (by decide) (Or.inl ⟨rfl, rfl⟩) lk_X0_9 lao_X10 (fun h51 hW52 hk53 f54 => ?_)
  have f55 : h51 (24) = .inr (0, [.null, .null, .int 0, .int 0, .int 0, .int 0]) := (hk53 (24) (by omega)).trans f0
  have K56 : KL (24) h h51 := KL_tr (by omega) (KL_rf (24) h) hk53
  refine k_pc 0 (fs' := [.ref 25, .null, .int 0, .int 0, .int 0, .int 0]) rfl dX0_init_10 (by omega) (by omega) hW52 f55 (fp_X0_11 rfl rfl (by omega) _) (Nat.le_of_ble_eq_true rfl) rfl (fun h57 hW58 hk59 f60 => ?_)
  have f61 : h57 (25) = .inl (3, 16, .inr (.inr (.inr (.inr (fun _ => none))))) := (hk59 (25) (by omega)).trans f54
  have K62 : KL (24) h h57 := KL_kn (by omega) K56 hk59
  refine r_aload_n rfl dX0_init_13 rfl ?_
  refine r_bipush (v := 17) rfl dX0_init_14 (by decide) ?_
  refine r_bud (kc' := 66 + 1) (ks' := 199 + 17) (by omega) (by omega) ?_
  refine k_anew (t := 3) rfl dX0_init_16 hW58 (by decide) (by decide) (by decide) (Or.inl ⟨rfl, rfl⟩) lk_X0_9 lao_X10 (fun h63 hW64 hk65 f66 => ?_)
  have f67 : h63 (25) = .inl (3, 16, .inr (.inr (.inr (.inr (fun _ => none))))) := (hk65 (25) (by omega)).trans f61
  have f68 : h63 (24) = .inr (0, [.ref 25, .null, .int 0, .int 0, .int 0, .int 0]) := (hk65 (24) (by omega)).trans f60
  have K69 : KL (24) h h63 := KL_tr (by omega) K62 hk65
  refine k_pc 1 (fs' := [.ref 25, .ref 26, .int 0, .int 0, .int 0, .int 0]) rfl dX0_init_19 (by omega) (by omega) hW64 f68 (fp_X0_17 rfl rfl (by omega) _) (Nat.le_of_ble_eq_true rfl) rfl (fun h70 hW71 hk72 f73 => ?_)
  have f74 : h70 (25) = .inl (3, 16, .inr (.inr (.inr (.inr (fun _ => none))))) := (hk72 (25) (by omega)).trans f67
  have f75 : h70 (26) = .inl (3, 17, .inr (.inr (.inr (.inr (fun _ => none))))) := (hk72 (26) (by omega)).trans f66
  have K76 : KL (24) h h70 := KL_kn (by omega) K69 hk72
  refine r_iconst (v := 0) rfl dX0_init_22 (by decide) ?_
  refine r_istore_n (ls' := [some (.ref 24), some (.int 0)]) rfl dX0_init_23 (Nat.le_of_ble_eq_true rfl) rfl ?_
  refine r_bud (kc' := 2 * 16 + 34) (ks' := 6 * 16 + 103) rfl rfl ?_
  exact s_X0i1 16 0 h70 rfl hW71 K76 f73 (by rw [f74, fl_all 27 2 16]) f75 (BT_nil 27 _)
