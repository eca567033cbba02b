theorem dX4_at_0 : decode cX4_at 0 = .ok (.iload_n 1, 1) := by decide +kernel
theorem dX4_at_1 : decode cX4_at 1 = .ok (.ifCond .lt 9, 3) := by decide +kernel
theorem dX4_at_4 : decode cX4_at 4 = .ok (.iload_n 1, 1) := by decide +kernel
theorem dX4_at_5 : decode cX4_at 5 = .ok (.aload_n 0, 1) := by decide +kernel
theorem dX4_at_6 : decode cX4_at 6 = .ok (.arraylength, 1) := by decide +kernel
theorem dX4_at_7 : decode cX4_at 7 = .ok (.if_icmp .lt 7, 3) := by decide +kernel
theorem dX4_at_10 : decode cX4_at 10 = .ok (.iconst 0, 1) := by decide +kernel
theorem dX4_at_11 : decode cX4_at 11 = .ok (.goto 6, 3) := by decide +kernel
theorem dX4_at_14 : decode cX4_at 14 = .ok (.aload_n 0, 1) := by decide +kernel
theorem dX4_at_15 : decode cX4_at 15 = .ok (.iload_n 1, 1) := by decide +kernel
theorem dX4_at_16 : decode cX4_at 16 = .ok (.iaload, 1) := by decide +kernel
theorem dX4_at_17 : decode cX4_at 17 = .ok (.ireturn, 1) := by decide +kernel
theorem dX4_sideOf_0 : decode cX4_sideOf 0 = .ok (.aload_n 0, 1) := by decide +kernel
theorem dX4_sideOf_1 : decode cX4_sideOf 1 = .ok (.getfield 9, 3) := by decide +kernel
theorem dX4_sideOf_4 : decode cX4_sideOf 4 = .ok (.iload_n 1, 1) := by decide +kernel
theorem dX4_sideOf_5 : decode cX4_sideOf 5 = .ok (.invokestatic 34, 3) := by decide +kernel
theorem dX4_sideOf_8 : decode cX4_sideOf 8 = .ok (.ireturn, 1) := by decide +kernel
theorem dX4_plainOf_0 : decode cX4_plainOf 0 = .ok (.aload_n 0, 1) := by decide +kernel
theorem dX4_plainOf_1 : decode cX4_plainOf 1 = .ok (.getfield 15, 3) := by decide +kernel
theorem dX4_plainOf_4 : decode cX4_plainOf 4 = .ok (.iload_n 1, 1) := by decide +kernel
theorem dX4_plainOf_5 : decode cX4_plainOf 5 = .ok (.invokestatic 34, 3) := by decide +kernel
theorem dX4_plainOf_8 : decode cX4_plainOf 8 = .ok (.ireturn, 1) := by decide +kernel
theorem dX4_turnedOf_0 : decode cX4_turnedOf 0 = .ok (.aload_n 0, 1) := by decide +kernel
theorem dX4_turnedOf_1 : decode cX4_turnedOf 1 = .ok (.getfield 18, 3) := by decide +kernel
theorem dX4_turnedOf_4 : decode cX4_turnedOf 4 = .ok (.iload_n 1, 1) := by decide +kernel
theorem dX4_turnedOf_5 : decode cX4_turnedOf 5 = .ok (.invokestatic 34, 3) := by decide +kernel
theorem dX4_turnedOf_8 : decode cX4_turnedOf 8 = .ok (.ireturn, 1) := by decide +kernel
theorem dX4_firstOf_0 : decode cX4_firstOf 0 = .ok (.aload_n 0, 1) := by decide +kernel
theorem dX4_firstOf_1 : decode cX4_firstOf 1 = .ok (.getfield 21, 3) := by decide +kernel
theorem dX4_firstOf_4 : decode cX4_firstOf 4 = .ok (.iload_n 1, 1) := by decide +kernel
theorem dX4_firstOf_5 : decode cX4_firstOf 5 = .ok (.invokestatic 34, 3) := by decide +kernel
theorem dX4_firstOf_8 : decode cX4_firstOf 8 = .ok (.ireturn, 1) := by decide +kernel
theorem dX4_secondOf_0 : decode cX4_secondOf 0 = .ok (.aload_n 0, 1) := by decide +kernel
theorem dX4_secondOf_1 : decode cX4_secondOf 1 = .ok (.getfield 24, 3) := by decide +kernel
theorem dX4_secondOf_4 : decode cX4_secondOf 4 = .ok (.iload_n 1, 1) := by decide +kernel
theorem dX4_secondOf_5 : decode cX4_secondOf 5 = .ok (.invokestatic 34, 3) := by decide +kernel
theorem dX4_secondOf_8 : decode cX4_secondOf 8 = .ok (.ireturn, 1) := by decide +kernel
theorem dX4_letterOf_0 : decode cX4_letterOf 0 = .ok (.aload_n 0, 1) := by decide +kernel
theorem dX4_letterOf_1 : decode cX4_letterOf 1 = .ok (.getfield 27, 3) := by decide +kernel
theorem dX4_letterOf_4 : decode cX4_letterOf 4 = .ok (.iload_n 1, 1) := by decide +kernel
theorem dX4_letterOf_5 : decode cX4_letterOf 5 = .ok (.invokestatic 34, 3) := by decide +kernel
theorem dX4_letterOf_8 : decode cX4_letterOf 8 = .ok (.ireturn, 1) := by decide +kernel
theorem dX4_clausesRead_0 : decode cX4_clausesRead 0 = .ok (.aload_n 0, 1) := by decide +kernel
theorem dX4_clausesRead_1 : decode cX4_clausesRead 1 = .ok (.getfield 30, 3) := by decide +kernel
theorem dX4_clausesRead_4 : decode cX4_clausesRead 4 = .ok (.ireturn, 1) := by decide +kernel
theorem dX4_stepsRead_0 : decode cX4_stepsRead 0 = .ok (.aload_n 0, 1) := by decide +kernel
theorem dX4_stepsRead_1 : decode cX4_stepsRead 1 = .ok (.getfield 38, 3) := by decide +kernel
theorem dX4_stepsRead_4 : decode cX4_stepsRead 4 = .ok (.ireturn, 1) := by decide +kernel
theorem dX11_forgetProof_0 : decode cX11_forgetProof 0 = .ok (.aload_n 0, 1) := by decide +kernel
theorem dX11_forgetProof_1 : decode cX11_forgetProof 1 = .ok (.aload_n 0, 1) := by decide +kernel
theorem dX11_forgetProof_2 : decode cX11_forgetProof 2 = .ok (.getfield 108, 3) := by decide +kernel
theorem dX11_forgetProof_5 : decode cX11_forgetProof 5 = .ok (.putfield 118, 3) := by decide +kernel
theorem dX11_forgetProof_8 : decode cX11_forgetProof 8 = .ok (.aload_n 0, 1) := by decide +kernel
theorem dX11_forgetProof_9 : decode cX11_forgetProof 9 = .ok (.iconst 0, 1) := by decide +kernel
theorem dX11_forgetProof_10 : decode cX11_forgetProof 10 = .ok (.putfield 211, 3) := by decide +kernel
theorem dX11_forgetProof_13 : decode cX11_forgetProof 13 = .ok (.aload_n 0, 1) := by decide +kernel
theorem dX11_forgetProof_14 : decode cX11_forgetProof 14 = .ok (.bipush (-9), 2) := by decide +kernel
theorem dX11_forgetProof_16 : decode cX11_forgetProof 16 = .ok (.putfield 82, 3) := by decide +kernel
theorem dX11_forgetProof_19 : decode cX11_forgetProof 19 = .ok (.return_, 1) := by decide +kernel
theorem KB_rf (h : ev_H) : KB h h := fun _ _ => rfl
theorem KB_tr {a b c : ev_H} (h1 : KB a b) (h2 : KB b c) : KB a c := fun k hk => (h2 k hk).trans (h1 k hk)
/-- nothing but the object's own numbers and what lies within it has changed -/
def KQ (h h' : ev_H) : Prop := ∀ k, k ≠ 2 → RCb k = false → h' k = h k
theorem KQ_rf (h : ev_H) : KQ h h := fun _ _ _ => rfl
theorem KQ_tr {a b c : ev_H} (h1 : KQ a b) (h2 : KQ b c) : KQ a c := fun k z hk => (h2 k z hk).trans (h1 k z hk)
theorem KQ_B {a b : ev_H} (h : ∀ k, ¬ RB k → b k = a k) : KQ a b := fun k _ hk => h k (fun z => by
  unfold RB at z
  unfold RCb at hk
  simp at hk
  omega)
theorem KQ_C {a b : ev_H} (h : ∀ k, RCb k = false → b k = a k) : KQ a b := fun k _ hk => h k hk
theorem KQ_2 {a b : ev_H} (h : KM [2] a b) : KQ a b := fun k hk _ => h k (fun z => hk (List.mem_singleton.mp z))
set_option maxRecDepth 20000 in
set_option maxHeartbeats 1000000 in
theorem s_X4_at6 {xs : Nat → Int32} {L d : Nat} {h : ev_H} {A : Nat → Int32} {k : Nat} (hS : SH h) (h6 : h 6 = cI 16 A) (hk : k < 16) : EV xs L (d + 0) 0 0 M_X4_at 434 h 0 [some (.ref 6), some (.int (nI k))] [] (fun sz' h' r => sz' = 434 ∧ h' = h ∧ r = [.int (A k)]) := by
  refine r_iload_n rfl dX4_at_0 rfl ?_
  refine r_if_lt (tgt := 10) rfl rfl dX4_at_1 (fun zc => absurd zc (nI_pos (by omega))) (fun _ => ?_)
  refine r_iload_n rfl dX4_at_4 rfl ?_
  refine r_aload_n rfl dX4_at_5 rfl ?_
  refine r_alen (v := 16) rfl dX4_at_6 (show 2 ≤ 6 ∧ 6 < 434 by decide).1 (show 2 ≤ 6 ∧ 6 < 434 by decide).2 h6 (by decide) rfl ?_
  refine r_icmp_lt (tgt := 14) rfl rfl dX4_at_7 (fun _ => ?_) (fun zc => absurd (show nI k < (16 : Int32) from nI_lt (a := k) (b := 16) (by omega) (by decide)) zc)
  refine r_aload_n rfl dX4_at_14 rfl ?_
  refine r_iload_n rfl dX4_at_15 rfl ?_
  refine r_ialdv (jn := k) (v := A k) rfl dX4_at_16 (show 2 ≤ 6 ∧ 6 < 434 by decide) h6 (vp_in_nI (n := k) (by omega) (by decide)) (nI_clamp (n := k) (by omega)) rfl ?_
  exact r_ret dX4_at_17 (rt_i rfl) ⟨rfl, rfl, rfl⟩
set_option maxRecDepth 20000 in
set_option maxHeartbeats 1000000 in
theorem s_X4_sideOf {xs : Nat → Int32} {L d : Nat} {h : ev_H} {cr pl tu sr : Int32} {A : Nat → Int32} {k : Nat} (hS : SH h) (h5 : h 5 = c5 cr pl tu sr) (h6 : h 6 = cI 16 A) (hk : k < 16) : EV xs L (d + 1) 0 0 M_X4_sideOf 434 h 0 [some (.ref 5), some (.int (nI k))] [] (fun sz' h' r => sz' = 434 ∧ h' = h ∧ r = [.int (A k)]) := by
  refine r_aload_n rfl dX4_sideOf_0 rfl ?_
  refine r_getv 0 rfl dX4_sideOf_1 (show 2 ≤ 5 ∧ 5 < 434 by decide) h5 fl_X4_9 rfl ?_
  refine r_iload_n rfl dX4_sideOf_4 rfl ?_
  refine cl_X4_34 rfl rfl dX4_sideOf_5 (Nat.le_of_ble_eq_true rfl) (s_X4_at6 hS h6 hk) ?_
  rintro _ h51 _ ⟨rfl, e52, rfl⟩
  replace e52 := e52.symm
  subst e52
  exact r_ret dX4_sideOf_8 (rt_i rfl) ⟨rfl, rfl, rfl⟩
set_option maxRecDepth 20000 in
set_option maxHeartbeats 1000000 in
theorem s_X4_at7 {xs : Nat → Int32} {L d : Nat} {h : ev_H} {A : Nat → Int32} {k : Nat} (hS : SH h) (h6 : h 7 = cI 16 A) (hk : k < 16) : EV xs L (d + 0) 0 0 M_X4_at 434 h 0 [some (.ref 7), some (.int (nI k))] [] (fun sz' h' r => sz' = 434 ∧ h' = h ∧ r = [.int (A k)]) := by
  refine r_iload_n rfl dX4_at_0 rfl ?_
  refine r_if_lt (tgt := 10) rfl rfl dX4_at_1 (fun zc => absurd zc (nI_pos (by omega))) (fun _ => ?_)
  refine r_iload_n rfl dX4_at_4 rfl ?_
  refine r_aload_n rfl dX4_at_5 rfl ?_
  refine r_alen (v := 16) rfl dX4_at_6 (show 2 ≤ 7 ∧ 7 < 434 by decide).1 (show 2 ≤ 7 ∧ 7 < 434 by decide).2 h6 (by decide) rfl ?_
  refine r_icmp_lt (tgt := 14) rfl rfl dX4_at_7 (fun _ => ?_) (fun zc => absurd (show nI k < (16 : Int32) from nI_lt (a := k) (b := 16) (by omega) (by decide)) zc)
  refine r_aload_n rfl dX4_at_14 rfl ?_
  refine r_iload_n rfl dX4_at_15 rfl ?_
  refine r_ialdv (jn := k) (v := A k) rfl dX4_at_16 (show 2 ≤ 7 ∧ 7 < 434 by decide) h6 (vp_in_nI (n := k) (by omega) (by decide)) (nI_clamp (n := k) (by omega)) rfl ?_
  exact r_ret dX4_at_17 (rt_i rfl) ⟨rfl, rfl, rfl⟩
set_option maxRecDepth 20000 in
set_option maxHeartbeats 1000000 in
theorem s_X4_plainOf {xs : Nat → Int32} {L d : Nat} {h : ev_H} {cr pl tu sr : Int32} {A : Nat → Int32} {k : Nat} (hS : SH h) (h5 : h 5 = c5 cr pl tu sr) (h6 : h 7 = cI 16 A) (hk : k < 16) : EV xs L (d + 1) 0 0 M_X4_plainOf 434 h 0 [some (.ref 5), some (.int (nI k))] [] (fun sz' h' r => sz' = 434 ∧ h' = h ∧ r = [.int (A k)]) := by
  refine r_aload_n rfl dX4_plainOf_0 rfl ?_
  refine r_getv 1 rfl dX4_plainOf_1 (show 2 ≤ 5 ∧ 5 < 434 by decide) h5 fl_X4_15 rfl ?_
  refine r_iload_n rfl dX4_plainOf_4 rfl ?_
  refine cl_X4_34 rfl rfl dX4_plainOf_5 (Nat.le_of_ble_eq_true rfl) (s_X4_at7 hS h6 hk) ?_
  rintro _ h51 _ ⟨rfl, e52, rfl⟩
  replace e52 := e52.symm
  subst e52
  exact r_ret dX4_plainOf_8 (rt_i rfl) ⟨rfl, rfl, rfl⟩
set_option maxRecDepth 20000 in
set_option maxHeartbeats 1000000 in
theorem s_X4_at8 {xs : Nat → Int32} {L d : Nat} {h : ev_H} {A : Nat → Int32} {k : Nat} (hS : SH h) (h6 : h 8 = cI 16 A) (hk : k < 16) : EV xs L (d + 0) 0 0 M_X4_at 434 h 0 [some (.ref 8), some (.int (nI k))] [] (fun sz' h' r => sz' = 434 ∧ h' = h ∧ r = [.int (A k)]) := by
  refine r_iload_n rfl dX4_at_0 rfl ?_
  refine r_if_lt (tgt := 10) rfl rfl dX4_at_1 (fun zc => absurd zc (nI_pos (by omega))) (fun _ => ?_)
  refine r_iload_n rfl dX4_at_4 rfl ?_
  refine r_aload_n rfl dX4_at_5 rfl ?_
  refine r_alen (v := 16) rfl dX4_at_6 (show 2 ≤ 8 ∧ 8 < 434 by decide).1 (show 2 ≤ 8 ∧ 8 < 434 by decide).2 h6 (by decide) rfl ?_
  refine r_icmp_lt (tgt := 14) rfl rfl dX4_at_7 (fun _ => ?_) (fun zc => absurd (show nI k < (16 : Int32) from nI_lt (a := k) (b := 16) (by omega) (by decide)) zc)
  refine r_aload_n rfl dX4_at_14 rfl ?_
  refine r_iload_n rfl dX4_at_15 rfl ?_
  refine r_ialdv (jn := k) (v := A k) rfl dX4_at_16 (show 2 ≤ 8 ∧ 8 < 434 by decide) h6 (vp_in_nI (n := k) (by omega) (by decide)) (nI_clamp (n := k) (by omega)) rfl ?_
  exact r_ret dX4_at_17 (rt_i rfl) ⟨rfl, rfl, rfl⟩
set_option maxRecDepth 20000 in
set_option maxHeartbeats 1000000 in
theorem s_X4_turnedOf {xs : Nat → Int32} {L d : Nat} {h : ev_H} {cr pl tu sr : Int32} {A : Nat → Int32} {k : Nat} (hS : SH h) (h5 : h 5 = c5 cr pl tu sr) (h6 : h 8 = cI 16 A) (hk : k < 16) : EV xs L (d + 1) 0 0 M_X4_turnedOf 434 h 0 [some (.ref 5), some (.int (nI k))] [] (fun sz' h' r => sz' = 434 ∧ h' = h ∧ r = [.int (A k)]) := by
  refine r_aload_n rfl dX4_turnedOf_0 rfl ?_
  refine r_getv 2 rfl dX4_turnedOf_1 (show 2 ≤ 5 ∧ 5 < 434 by decide) h5 fl_X4_18 rfl ?_
  refine r_iload_n rfl dX4_turnedOf_4 rfl ?_
  refine cl_X4_34 rfl rfl dX4_turnedOf_5 (Nat.le_of_ble_eq_true rfl) (s_X4_at8 hS h6 hk) ?_
  rintro _ h51 _ ⟨rfl, e52, rfl⟩
  replace e52 := e52.symm
  subst e52
  exact r_ret dX4_turnedOf_8 (rt_i rfl) ⟨rfl, rfl, rfl⟩
set_option maxRecDepth 20000 in
set_option maxHeartbeats 1000000 in
theorem s_X4_at9 {xs : Nat → Int32} {L d : Nat} {h : ev_H} {A : Nat → Int32} {k : Nat} (hS : SH h) (h6 : h 9 = cI 24 A) (hk : k < 24) : EV xs L (d + 0) 0 0 M_X4_at 434 h 0 [some (.ref 9), some (.int (nI k))] [] (fun sz' h' r => sz' = 434 ∧ h' = h ∧ r = [.int (A k)]) := by
  refine r_iload_n rfl dX4_at_0 rfl ?_
  refine r_if_lt (tgt := 10) rfl rfl dX4_at_1 (fun zc => absurd zc (nI_pos (by omega))) (fun _ => ?_)
  refine r_iload_n rfl dX4_at_4 rfl ?_
  refine r_aload_n rfl dX4_at_5 rfl ?_
  refine r_alen (v := 24) rfl dX4_at_6 (show 2 ≤ 9 ∧ 9 < 434 by decide).1 (show 2 ≤ 9 ∧ 9 < 434 by decide).2 h6 (by decide) rfl ?_
  refine r_icmp_lt (tgt := 14) rfl rfl dX4_at_7 (fun _ => ?_) (fun zc => absurd (show nI k < (24 : Int32) from nI_lt (a := k) (b := 24) (by omega) (by decide)) zc)
  refine r_aload_n rfl dX4_at_14 rfl ?_
  refine r_iload_n rfl dX4_at_15 rfl ?_
  refine r_ialdv (jn := k) (v := A k) rfl dX4_at_16 (show 2 ≤ 9 ∧ 9 < 434 by decide) h6 (vp_in_nI (n := k) (by omega) (by decide)) (nI_clamp (n := k) (by omega)) rfl ?_
  exact r_ret dX4_at_17 (rt_i rfl) ⟨rfl, rfl, rfl⟩
set_option maxRecDepth 20000 in
set_option maxHeartbeats 1000000 in
theorem s_X4_firstOf {xs : Nat → Int32} {L d : Nat} {h : ev_H} {cr pl tu sr : Int32} {A : Nat → Int32} {k : Nat} (hS : SH h) (h5 : h 5 = c5 cr pl tu sr) (h6 : h 9 = cI 24 A) (hk : k < 24) : EV xs L (d + 1) 0 0 M_X4_firstOf 434 h 0 [some (.ref 5), some (.int (nI k))] [] (fun sz' h' r => sz' = 434 ∧ h' = h ∧ r = [.int (A k)]) := by
  refine r_aload_n rfl dX4_firstOf_0 rfl ?_
  refine r_getv 6 rfl dX4_firstOf_1 (show 2 ≤ 5 ∧ 5 < 434 by decide) h5 fl_X4_21 rfl ?_
  refine r_iload_n rfl dX4_firstOf_4 rfl ?_
  refine cl_X4_34 rfl rfl dX4_firstOf_5 (Nat.le_of_ble_eq_true rfl) (s_X4_at9 hS h6 hk) ?_
  rintro _ h51 _ ⟨rfl, e52, rfl⟩
  replace e52 := e52.symm
  subst e52
  exact r_ret dX4_firstOf_8 (rt_i rfl) ⟨rfl, rfl, rfl⟩
set_option maxRecDepth 20000 in
set_option maxHeartbeats 1000000 in
theorem s_X4_at10 {xs : Nat → Int32} {L d : Nat} {h : ev_H} {A : Nat → Int32} {k : Nat} (hS : SH h) (h6 : h 10 = cI 24 A) (hk : k < 24) : EV xs L (d + 0) 0 0 M_X4_at 434 h 0 [some (.ref 10), some (.int (nI k))] [] (fun sz' h' r => sz' = 434 ∧ h' = h ∧ r = [.int (A k)]) := by
  refine r_iload_n rfl dX4_at_0 rfl ?_
  refine r_if_lt (tgt := 10) rfl rfl dX4_at_1 (fun zc => absurd zc (nI_pos (by omega))) (fun _ => ?_)
  refine r_iload_n rfl dX4_at_4 rfl ?_
  refine r_aload_n rfl dX4_at_5 rfl ?_
  refine r_alen (v := 24) rfl dX4_at_6 (show 2 ≤ 10 ∧ 10 < 434 by decide).1 (show 2 ≤ 10 ∧ 10 < 434 by decide).2 h6 (by decide) rfl ?_
  refine r_icmp_lt (tgt := 14) rfl rfl dX4_at_7 (fun _ => ?_) (fun zc => absurd (show nI k < (24 : Int32) from nI_lt (a := k) (b := 24) (by omega) (by decide)) zc)
  refine r_aload_n rfl dX4_at_14 rfl ?_
  refine r_iload_n rfl dX4_at_15 rfl ?_
  refine r_ialdv (jn := k) (v := A k) rfl dX4_at_16 (show 2 ≤ 10 ∧ 10 < 434 by decide) h6 (vp_in_nI (n := k) (by omega) (by decide)) (nI_clamp (n := k) (by omega)) rfl ?_
  exact r_ret dX4_at_17 (rt_i rfl) ⟨rfl, rfl, rfl⟩
set_option maxRecDepth 20000 in
set_option maxHeartbeats 1000000 in
theorem s_X4_secondOf {xs : Nat → Int32} {L d : Nat} {h : ev_H} {cr pl tu sr : Int32} {A : Nat → Int32} {k : Nat} (hS : SH h) (h5 : h 5 = c5 cr pl tu sr) (h6 : h 10 = cI 24 A) (hk : k < 24) : EV xs L (d + 1) 0 0 M_X4_secondOf 434 h 0 [some (.ref 5), some (.int (nI k))] [] (fun sz' h' r => sz' = 434 ∧ h' = h ∧ r = [.int (A k)]) := by
  refine r_aload_n rfl dX4_secondOf_0 rfl ?_
  refine r_getv 7 rfl dX4_secondOf_1 (show 2 ≤ 5 ∧ 5 < 434 by decide) h5 fl_X4_24 rfl ?_
  refine r_iload_n rfl dX4_secondOf_4 rfl ?_
  refine cl_X4_34 rfl rfl dX4_secondOf_5 (Nat.le_of_ble_eq_true rfl) (s_X4_at10 hS h6 hk) ?_
  rintro _ h51 _ ⟨rfl, e52, rfl⟩
  replace e52 := e52.symm
  subst e52
  exact r_ret dX4_secondOf_8 (rt_i rfl) ⟨rfl, rfl, rfl⟩
set_option maxRecDepth 20000 in
set_option maxHeartbeats 1000000 in
theorem s_X4_at11 {xs : Nat → Int32} {L d : Nat} {h : ev_H} {A : Nat → Int32} {k : Nat} (hS : SH h) (h6 : h 11 = cI 24 A) (hk : k < 24) : EV xs L (d + 0) 0 0 M_X4_at 434 h 0 [some (.ref 11), some (.int (nI k))] [] (fun sz' h' r => sz' = 434 ∧ h' = h ∧ r = [.int (A k)]) := by
  refine r_iload_n rfl dX4_at_0 rfl ?_
  refine r_if_lt (tgt := 10) rfl rfl dX4_at_1 (fun zc => absurd zc (nI_pos (by omega))) (fun _ => ?_)
  refine r_iload_n rfl dX4_at_4 rfl ?_
  refine r_aload_n rfl dX4_at_5 rfl ?_
  refine r_alen (v := 24) rfl dX4_at_6 (show 2 ≤ 11 ∧ 11 < 434 by decide).1 (show 2 ≤ 11 ∧ 11 < 434 by decide).2 h6 (by decide) rfl ?_
  refine r_icmp_lt (tgt := 14) rfl rfl dX4_at_7 (fun _ => ?_) (fun zc => absurd (show nI k < (24 : Int32) from nI_lt (a := k) (b := 24) (by omega) (by decide)) zc)
  refine r_aload_n rfl dX4_at_14 rfl ?_
  refine r_iload_n rfl dX4_at_15 rfl ?_
  refine r_ialdv (jn := k) (v := A k) rfl dX4_at_16 (show 2 ≤ 11 ∧ 11 < 434 by decide) h6 (vp_in_nI (n := k) (by omega) (by decide)) (nI_clamp (n := k) (by omega)) rfl ?_
  exact r_ret dX4_at_17 (rt_i rfl) ⟨rfl, rfl, rfl⟩
set_option maxRecDepth 20000 in
set_option maxHeartbeats 1000000 in
theorem s_X4_letterOf {xs : Nat → Int32} {L d : Nat} {h : ev_H} {cr pl tu sr : Int32} {A : Nat → Int32} {k : Nat} (hS : SH h) (h5 : h 5 = c5 cr pl tu sr) (h6 : h 11 = cI 24 A) (hk : k < 24) : EV xs L (d + 1) 0 0 M_X4_letterOf 434 h 0 [some (.ref 5), some (.int (nI k))] [] (fun sz' h' r => sz' = 434 ∧ h' = h ∧ r = [.int (A k)]) := by
  refine r_aload_n rfl dX4_letterOf_0 rfl ?_
  refine r_getv 8 rfl dX4_letterOf_1 (show 2 ≤ 5 ∧ 5 < 434 by decide) h5 fl_X4_27 rfl ?_
  refine r_iload_n rfl dX4_letterOf_4 rfl ?_
  refine cl_X4_34 rfl rfl dX4_letterOf_5 (Nat.le_of_ble_eq_true rfl) (s_X4_at11 hS h6 hk) ?_
  rintro _ h51 _ ⟨rfl, e52, rfl⟩
  replace e52 := e52.symm
  subst e52
  exact r_ret dX4_letterOf_8 (rt_i rfl) ⟨rfl, rfl, rfl⟩
set_option maxRecDepth 20000 in
set_option maxHeartbeats 1000000 in
theorem s_X4_clausesRead {xs : Nat → Int32} {L d : Nat} {h : ev_H} {cr pl tu sr : Int32} (hS : SH h) (h5 : h 5 = c5 cr pl tu sr) : EV xs L (d + 0) 0 0 M_X4_clausesRead 434 h 0 [some (.ref 5)] [] (fun sz' h' r => sz' = 434 ∧ h' = h ∧ r = [.int cr]) := by
  refine r_aload_n rfl dX4_clausesRead_0 rfl ?_
  refine r_getv 3 rfl dX4_clausesRead_1 (show 2 ≤ 5 ∧ 5 < 434 by decide) h5 fl_X4_30 rfl ?_
  exact r_ret dX4_clausesRead_4 (rt_i rfl) ⟨rfl, rfl, rfl⟩
set_option maxRecDepth 20000 in
set_option maxHeartbeats 1000000 in
theorem s_X4_stepsRead {xs : Nat → Int32} {L d : Nat} {h : ev_H} {cr pl tu sr : Int32} (hS : SH h) (h5 : h 5 = c5 cr pl tu sr) : EV xs L (d + 0) 0 0 M_X4_stepsRead 434 h 0 [some (.ref 5)] [] (fun sz' h' r => sz' = 434 ∧ h' = h ∧ r = [.int sr]) := by
  refine r_aload_n rfl dX4_stepsRead_0 rfl ?_
  refine r_getv 9 rfl dX4_stepsRead_1 (show 2 ≤ 5 ∧ 5 < 434 by decide) h5 fl_X4_38 rfl ?_
  exact r_ret dX4_stepsRead_4 (rt_i rfl) ⟨rfl, rfl, rfl⟩
set_option maxRecDepth 20000 in
set_option maxHeartbeats 1000000 in
theorem s_X11_forgetProof {xs : Nat → Int32} {L d : Nat} {h : ev_H} {cc lc sc wr el : Int32} (hS : SH h) (h2 : h 2 = c2 cc lc sc wr el) : EV xs L (d + 0) 0 0 M_X11_forgetProof 434 h 0 [some (.ref 2)] [] (fun sz' h' r => sz' = 434 ∧ SH h' ∧ KQ h h' ∧ h' 2 = c2 cc cc 0 (-9) el ∧ r = []) := by
  refine r_aload_n rfl dX11_forgetProof_0 rfl ?_
  refine r_aload_n rfl dX11_forgetProof_1 rfl ?_
  refine r_getv 11 rfl dX11_forgetProof_2 (show 2 ≤ 2 ∧ 2 < 434 by decide) h2 fl_X11_108 rfl ?_
  refine e_put 12 (fs' := [.ref 3, .ref 5, .ref 12, .ref 13, .ref 24, .ref 93, .ref 95, .ref 96, .ref 97, .ref 98, .ref 99, .int cc, .int cc, .int sc, .int wr, .int el]) rfl dX11_forgetProof_5 (show 2 ≤ 2 ∧ 2 < 434 by decide) hS (KM_rf (Mod := [2]) _) (by decide) h2 (fp_X11_118 rfl _) (Nat.le_of_ble_eq_true rfl) rfl (fun h51 hS52 _ hN53 f54 => ?_)
  have hF55 := KQ_tr (KQ_rf h) (KQ_2 hN53)
  refine r_aload_n rfl dX11_forgetProof_8 rfl ?_
  refine r_iconst (v := 0) rfl dX11_forgetProof_9 (by decide) ?_
  refine e_put 13 (fs' := [.ref 3, .ref 5, .ref 12, .ref 13, .ref 24, .ref 93, .ref 95, .ref 96, .ref 97, .ref 98, .ref 99, .int cc, .int cc, .int 0, .int wr, .int el]) rfl dX11_forgetProof_10 (show 2 ≤ 2 ∧ 2 < 434 by decide) hS52 (KM_rf (Mod := [2]) _) (by decide) f54 (fp_X11_211 rfl _) (Nat.le_of_ble_eq_true rfl) rfl (fun h56 hS57 _ hN58 f59 => ?_)
  have hF60 := KQ_tr hF55 (KQ_2 hN58)
  refine r_aload_n rfl dX11_forgetProof_13 rfl ?_
  refine r_bipush (v := (-9)) rfl dX11_forgetProof_14 (by decide) ?_
  refine e_put 14 (fs' := [.ref 3, .ref 5, .ref 12, .ref 13, .ref 24, .ref 93, .ref 95, .ref 96, .ref 97, .ref 98, .ref 99, .int cc, .int cc, .int 0, .int (-9), .int el]) rfl dX11_forgetProof_16 (show 2 ≤ 2 ∧ 2 < 434 by decide) hS57 (KM_rf (Mod := [2]) _) (by decide) f59 (fp_X11_82 rfl _) (Nat.le_of_ble_eq_true rfl) rfl (fun h61 hS62 _ hN63 f64 => ?_)
  have hF65 := KQ_tr hF60 (KQ_2 hN63)
  exact r_ret dX11_forgetProof_19 (rt_v rfl) ⟨rfl, hS62, hF65, f64, rfl⟩

