theorem WD_M {l : List Nat} {h h' : ev_H} {a : Nat} {V : Nat → Int64} (hk : KM l h h') (ha : a + 1 ∉ l) (w : WD h a V) : WD h' a V := by
  obtain ⟨t, e⟩ := w
  exact ⟨t, (hk _ ha).trans e⟩
set_option maxRecDepth 20000 in
set_option maxHeartbeats 1000000 in
theorem v_X9_mark {xs : Nat → Int32} {L d : Nat} {h : ev_H} {s : Int64} {w : Int32} (hS : SH h) (f95 : h 95 = .inr (9, [.long s])) : EV xs L (d + 0) 0 0 M_X9_mark 434 h 0 [some (.ref 95), some (.int w)] [] (fun sz' h' r => sz' = 434 ∧ SH h' ∧ KM [95] h h' ∧ h' 95 = .inr (9, [.long (s + (w : Int32).toInt64)]) ∧ r = []) := by
  refine r_aload_n rfl dX9_mark_0 rfl ?_
  refine r_dup rfl dX9_mark_1 rfl ?_
  refine r_getv 0 rfl dX9_mark_2 (show 2 ≤ 95 ∧ 95 < 434 by decide) f95 fl_X9_7 rfl ?_
  refine r_iload_n rfl dX9_mark_5 rfl ?_
  refine r_i2l rfl dX9_mark_6 ?_
  refine r_ladd rfl dX9_mark_7 ?_
  refine e_put 0 (fs' := [.long (s + ((w : Int32).toInt64))]) rfl dX9_mark_8 (show 2 ≤ 95 ∧ 95 < 434 by decide) hS (KM_rf (Mod := [95]) _) (List.mem_singleton.mpr rfl) f95 (fp_X9_7 rfl _) (Nat.le_of_ble_eq_true rfl) rfl (fun h51 hS52 _ hN53 f54 => ?_)
  have hF55 := KM_tr (KM_rf (Mod := [95]) h) hN53
  exact r_ret dX9_mark_11 (rt_v rfl) ⟨rfl, hS52, hF55, f54, rfl⟩
set_option maxRecDepth 20000 in
set_option maxHeartbeats 1000000 in
theorem v_X6_work {xs : Nat → Int32} {L d : Nat} {h : ev_H} {t i : Nat} {p t0 o a b l : Int32} {V : Nat → Int64} {s : Int64} (hS : SH h) (ht : 2 ≤ t ∧ t < 434) (hi : i < 40) (fl : h (100 + 8 * i) = cLn i p t0 o a b l) (hW : WD h (102 + 8 * i + 2 * 0) V) (f95 : h 95 = .inr (9, [.long s])) : EV xs L (d + 2) 0 0 M_X6_work 434 h 0 [some (.ref t), some (.ref (100 + 8 * i)), some (.ref 95)] [] (fun sz' h' r => sz' = 434 ∧ SH h' ∧ KM [95] h h' ∧ h' 95 = .inr (9, [.long (s + (1 : Int32).toInt64)]) ∧ r = [.int (bc32 p + bc32 t0)]) := by
  refine r_aload_n rfl dX6_work_0 rfl ?_
  refine r_iconst (v := 1) rfl dX6_work_1 (by decide) ?_
  refine cl_X6_7 rfl rfl dX6_work_2 (show 2 ≤ 95 ∧ 95 < 434 by decide).1 (show 2 ≤ 95 ∧ 95 < 434 by decide).2 f95 (Nat.le_of_ble_eq_true rfl) (v_X9_mark hS f95) ?_
  rintro _ h51 _ ⟨rfl, hS52, hk53, f54, rfl⟩
  have hF55 := KM_tr (KM_rf (Mod := [95]) h) hk53
  have f56 : h51 (100 + 8 * i) = .inr (3, [.ref (101 + 8 * i), .int p, .int t0, .int o, .int a, .int b, .int l]) := (hk53 _ (by simp <;> omega)).trans fl
  have w57 : WD h51 (102 + 8 * i + 2 * 0) V := WD_M hk53 (by simp <;> omega) hW
  refine r_aload_n rfl dX6_work_5 rfl ?_
  refine cl_X6_13 rfl rfl dX6_work_6 (show 2 ≤ 100 + 8 * i ∧ 100 + 8 * i < 434 by omega).1 (show 2 ≤ 100 + 8 * i ∧ 100 + 8 * i < 434 by omega).2 f56 (Nat.le_of_ble_eq_true rfl) (x_X3_literals hS52 (i := i) (by omega) f56) ?_
  rintro _ h58 _ ⟨rfl, e59, rfl⟩
  replace e59 := e59.symm
  subst e59
  exact r_ret dX6_work_9 (rt_i rfl) ⟨rfl, hS52, hF55, f54, rfl⟩
set_option maxRecDepth 20000 in
set_option maxHeartbeats 1000000 in
theorem v_X2_work {xs : Nat → Int32} {L d : Nat} {h : ev_H} {t i : Nat} {p t0 o a b l : Int32} {V : Nat → Int64} {s : Int64} {cj : Nat} {q : vw_C} (hS : SH h) (ht : 2 ≤ t ∧ t < 434) (hi : i < 40) (fl : h (100 + 8 * i) = cLn i p t0 o a b l) (hW : WD h (102 + 8 * i + 2 * 0) V) (hq : dp_cl[cj]? = some q) (ho : ∀ h' : ev_H, SH h' → h' t = .inr (cj, [])) (f95 : h 95 = .inr (9, [.long s])) : EV xs L (d + 3) 0 0 M_X2_work 434 h 0 [some (.ref t), some (.ref (100 + 8 * i)), some (.ref 95)] [] (fun sz' h' r => sz' = 434 ∧ SH h' ∧ KM [95] h h' ∧ h' 95 = .inr (9, [.long (s + (10 : Int32).toInt64 + (1 : Int32).toInt64)]) ∧ r = [.int ((bc32 p + bc32 t0) + wsz (V 0) (V 1) (V 2) (V 3))]) := by
  refine r_aload_n rfl dX2_work_0 rfl ?_
  refine r_bipush (v := 10) rfl dX2_work_1 (by decide) ?_
  refine cl_X2_7 rfl rfl dX2_work_3 (show 2 ≤ 95 ∧ 95 < 434 by decide).1 (show 2 ≤ 95 ∧ 95 < 434 by decide).2 f95 (Nat.le_of_ble_eq_true rfl) (v_X9_mark hS f95) ?_
  rintro _ h51 _ ⟨rfl, hS52, hk53, f54, rfl⟩
  have hF55 := KM_tr (KM_rf (Mod := [95]) h) hk53
  have f56 : h51 (100 + 8 * i) = .inr (3, [.ref (101 + 8 * i), .int p, .int t0, .int o, .int a, .int b, .int l]) := (hk53 _ (by simp <;> omega)).trans fl
  have w57 : WD h51 (102 + 8 * i + 2 * 0) V := WD_M hk53 (by simp <;> omega) hW
  refine r_aload_n rfl dX2_work_6 rfl ?_
  refine r_aload_n rfl dX2_work_7 rfl ?_
  refine r_aload_n rfl dX2_work_8 rfl ?_
  refine cl_X2_13 rfl rfl dX2_work_9 ht.1 ht.2 (ho _ hS52) hq (Nat.le_of_ble_eq_true rfl) (v_X6_work hS52 ht (i := i) (by omega) f56 w57 f54) ?_
  rintro _ h58 _ ⟨rfl, hS59, hk60, f61, rfl⟩
  have hF62 := KM_tr hF55 hk60
  have f63 : h58 (100 + 8 * i) = .inr (3, [.ref (101 + 8 * i), .int p, .int t0, .int o, .int a, .int b, .int l]) := (hk60 _ (by simp <;> omega)).trans f56
  have w64 : WD h58 (102 + 8 * i + 2 * 0) V := WD_M hk60 (by simp <;> omega) w57
  refine r_aload_n rfl dX2_work_12 rfl ?_
  refine r_iconst (v := 0) rfl dX2_work_13 (by decide) ?_
  refine cl_X2_17 rfl rfl dX2_work_14 (show 2 ≤ 100 + 8 * i ∧ 100 + 8 * i < 434 by omega).1 (show 2 ≤ 100 + 8 * i ∧ 100 + 8 * i < 434 by omega).2 f63 (Nat.le_of_ble_eq_true rfl) (v_X3_sayingBy hS59 (i := i) (j := 0) (by omega) (by omega)) ?_
  rintro _ h65 _ ⟨rfl, e66, rfl⟩
  replace e66 := e66.symm
  subst e66
  obtain ⟨t67, hw68⟩ := w64.is hS59 (wsAt_ln (i := i) (w := 0) (by omega) (by omega))
  refine cl_X2_23 rfl rfl dX2_work_17 (show _ ∧ _ from ⟨((wsAt_ln (i := i) (w := 0) (by omega) (by omega))).2.2.1, Nat.lt_of_succ_lt ((wsAt_ln (i := i) (w := 0) (by omega) (by omega))).2.2.2⟩).1 (show _ ∧ _ from ⟨((wsAt_ln (i := i) (w := 0) (by omega) (by omega))).2.2.1, Nat.lt_of_succ_lt ((wsAt_ln (i := i) (w := 0) (by omega) (by omega))).2.2.2⟩).2 hw68.2.2.1 (Nat.le_of_ble_eq_true rfl) (s_X10_size hw68) ?_
  rintro _ h69 _ ⟨rfl, e70, rfl⟩
  replace e70 := e70.symm
  subst e70
  refine r_iadd rfl dX2_work_20 ?_
  exact r_ret dX2_work_21 (rt_i rfl) ⟨rfl, hS59, hF62, f61, rfl⟩
set_option maxRecDepth 20000 in
set_option maxHeartbeats 1000000 in
theorem v_X5_work {xs : Nat → Int32} {L d : Nat} {h : ev_H} {t i : Nat} {p t0 o a b l : Int32} {V : Nat → Int64} {s : Int64} {cj : Nat} {q : vw_C} (hS : SH h) (ht : 2 ≤ t ∧ t < 434) (hi : i < 40) (fl : h (100 + 8 * i) = cLn i p t0 o a b l) (hW : WD h (102 + 8 * i + 2 * 0) V) (hq : dp_cl[cj]? = some q) (ho : ∀ h' : ev_H, SH h' → h' t = .inr (cj, [])) (f95 : h 95 = .inr (9, [.long s])) : EV xs L (d + 3) 0 0 M_X5_work 434 h 0 [some (.ref t), some (.ref (100 + 8 * i)), some (.ref 95)] [] (fun sz' h' r => sz' = 434 ∧ SH h' ∧ KM [95] h h' ∧ h' 95 = .inr (9, [.long (s + (100 : Int32).toInt64 + (1 : Int32).toInt64)]) ∧ r = [.int (2 * (bc32 p + bc32 t0) + 1)]) := by
  refine r_aload_n rfl dX5_work_0 rfl ?_
  refine r_bipush (v := 100) rfl dX5_work_1 (by decide) ?_
  refine cl_X5_7 rfl rfl dX5_work_3 (show 2 ≤ 95 ∧ 95 < 434 by decide).1 (show 2 ≤ 95 ∧ 95 < 434 by decide).2 f95 (Nat.le_of_ble_eq_true rfl) (v_X9_mark hS f95) ?_
  rintro _ h51 _ ⟨rfl, hS52, hk53, f54, rfl⟩
  have hF55 := KM_tr (KM_rf (Mod := [95]) h) hk53
  have f56 : h51 (100 + 8 * i) = .inr (3, [.ref (101 + 8 * i), .int p, .int t0, .int o, .int a, .int b, .int l]) := (hk53 _ (by simp <;> omega)).trans fl
  have w57 : WD h51 (102 + 8 * i + 2 * 0) V := WD_M hk53 (by simp <;> omega) hW
  refine r_iconst (v := 2) rfl dX5_work_6 (by decide) ?_
  refine r_aload_n rfl dX5_work_7 rfl ?_
  refine r_aload_n rfl dX5_work_8 rfl ?_
  refine r_aload_n rfl dX5_work_9 rfl ?_
  refine cl_X5_13 rfl rfl dX5_work_10 ht.1 ht.2 (ho _ hS52) hq (Nat.le_of_ble_eq_true rfl) (v_X6_work hS52 ht (i := i) (by omega) f56 w57 f54) ?_
  rintro _ h58 _ ⟨rfl, hS59, hk60, f61, rfl⟩
  have hF62 := KM_tr hF55 hk60
  have f63 : h58 (100 + 8 * i) = .inr (3, [.ref (101 + 8 * i), .int p, .int t0, .int o, .int a, .int b, .int l]) := (hk60 _ (by simp <;> omega)).trans f56
  have w64 : WD h58 (102 + 8 * i + 2 * 0) V := WD_M hk60 (by simp <;> omega) w57
  refine r_imul rfl dX5_work_13 ?_
  refine r_iconst (v := 1) rfl dX5_work_14 (by decide) ?_
  refine r_iadd rfl dX5_work_15 ?_
  exact r_ret dX5_work_16 (rt_i rfl) ⟨rfl, hS59, hF62, f61, rfl⟩
set_option maxRecDepth 20000 in
set_option maxHeartbeats 1000000 in
theorem v_X1_work {xs : Nat → Int32} {L d : Nat} {h : ev_H} {t i : Nat} {p t0 o a b l : Int32} {V : Nat → Int64} {s : Int64} {cj : Nat} {q : vw_C} (hS : SH h) (ht : 2 ≤ t ∧ t < 434) (hi : i < 40) (fl : h (100 + 8 * i) = cLn i p t0 o a b l) (hW : WD h (102 + 8 * i + 2 * 0) V) (hq : dp_cl[cj]? = some q) (ho : ∀ h' : ev_H, SH h' → h' t = .inr (cj, [])) (f95 : h 95 = .inr (9, [.long s])) : EV xs L (d + 4) 0 0 M_X1_work 434 h 0 [some (.ref t), some (.ref (100 + 8 * i)), some (.ref 95)] [] (fun sz' h' r => sz' = 434 ∧ SH h' ∧ KM [95] h h' ∧ h' 95 = .inr (9, [.long (s + (1000 : Int32).toInt64 + (10 : Int32).toInt64 + (1 : Int32).toInt64)]) ∧ r = [.int (((bc32 p + bc32 t0) + wsz (V 0) (V 1) (V 2) (V 3)) / 2)]) := by
  refine r_aload_n rfl dX1_work_0 rfl ?_
  refine r_sipush (v := 1000) rfl dX1_work_1 (by decide) ?_
  refine cl_X1_7 rfl rfl dX1_work_4 (show 2 ≤ 95 ∧ 95 < 434 by decide).1 (show 2 ≤ 95 ∧ 95 < 434 by decide).2 f95 (Nat.le_of_ble_eq_true rfl) (v_X9_mark hS f95) ?_
  rintro _ h51 _ ⟨rfl, hS52, hk53, f54, rfl⟩
  have hF55 := KM_tr (KM_rf (Mod := [95]) h) hk53
  have f56 : h51 (100 + 8 * i) = .inr (3, [.ref (101 + 8 * i), .int p, .int t0, .int o, .int a, .int b, .int l]) := (hk53 _ (by simp <;> omega)).trans fl
  have w57 : WD h51 (102 + 8 * i + 2 * 0) V := WD_M hk53 (by simp <;> omega) hW
  refine r_aload_n rfl dX1_work_7 rfl ?_
  refine r_aload_n rfl dX1_work_8 rfl ?_
  refine r_aload_n rfl dX1_work_9 rfl ?_
  refine cl_X1_13 rfl rfl dX1_work_10 ht.1 ht.2 (ho _ hS52) hq (Nat.le_of_ble_eq_true rfl) (v_X2_work hS52 ht (i := i) (by omega) f56 w57 hq ho f54) ?_
  rintro _ h58 _ ⟨rfl, hS59, hk60, f61, rfl⟩
  have hF62 := KM_tr hF55 hk60
  have f63 : h58 (100 + 8 * i) = .inr (3, [.ref (101 + 8 * i), .int p, .int t0, .int o, .int a, .int b, .int l]) := (hk60 _ (by simp <;> omega)).trans f56
  have w64 : WD h58 (102 + 8 * i + 2 * 0) V := WD_M hk60 (by simp <;> omega) w57
  refine r_iconst (v := 2) rfl dX1_work_13 (by decide) ?_
  refine r_idiv rfl dX1_work_14 (by decide) ?_
  exact r_ret dX1_work_15 (rt_i rfl) ⟨rfl, hS59, hF62, f61, rfl⟩
