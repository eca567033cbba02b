set_option maxRecDepth 20000 in
set_option maxHeartbeats 1000000 in
theorem x_X9_mark {xs : Nat → Int32} {L d : Nat} {h : ev_H} {s : Int64} {w : Int32} (hS : SH h) (f95 : h 95 = .inr (9, [.long s])) : EV xs L (d + 0) 0 0 M_X9_mark 434 h 0 [some (.ref 95), some (.int w)] [] (fun sz' h' r => sz' = 434 ∧ SH h' ∧ KX [95] h h' ∧ h' 95 = .inr (9, [.long (s + (w : Int32).toInt64)]) ∧ r = []) := by
  refine r_aload_n rfl dX9_mark_0 rfl ?_
  refine r_dup rfl dX9_mark_1 rfl ?_
  refine r_getv 0 rfl dX9_mark_2 (show 2 ≤ 95 ∧ 95 < 434 by decide) f95 fl_X9_7 rfl ?_
  refine r_iload_n rfl dX9_mark_5 rfl ?_
  refine r_i2l rfl dX9_mark_6 ?_
  refine r_ladd rfl dX9_mark_7 ?_
  refine e_put 0 (fs' := [.long (s + ((w : Int32).toInt64))]) rfl dX9_mark_8 (show 2 ≤ 95 ∧ 95 < 434 by decide) hS (KM_rf (Mod := [95]) _) (List.mem_singleton.mpr rfl) f95 (fp_X9_7 rfl _) (Nat.le_of_ble_eq_true rfl) rfl (fun h51 hS52 _ hN53 f54 => ?_)
  have hk55 : KX [95] h h51 := KX_M (fun _ z => z) hN53
  have hF56 := KX_tr (KX_rf (l := [95]) h) (KX_sb (l := [95]) (by first | decide | exact fun _ z => z | simp) hk55)
  exact r_ret dX9_mark_11 (rt_v rfl) ⟨rfl, hS52, hF56, f54, rfl⟩
set_option maxRecDepth 20000 in
set_option maxHeartbeats 1000000 in
theorem x_X6_work {xs : Nat → Int32} {L d : Nat} {h : ev_H} {t i : Nat} {s : Int64} (hS : SH h) (ht : 2 ≤ t ∧ t < 434) (hi : i < 40) (f95 : h 95 = .inr (9, [.long s])) : EV xs L (d + 2) 0 0 M_X6_work 434 h 0 [some (.ref t), some (.ref (100 + 8 * i)), some (.ref 95)] [] (fun sz' h' r => sz' = 434 ∧ SH h' ∧ KX [95] h h' ∧ h' 95 = .inr (9, [.long (s + (1 : Int32).toInt64)]) ∧ ∃ x : Int32, r = [.int x]) := by
  refine r_aload_n rfl dX6_work_0 rfl ?_
  refine r_iconst (v := 1) rfl dX6_work_1 (by decide) ?_
  refine cl_X6_7 rfl rfl dX6_work_2 (show 2 ≤ 95 ∧ 95 < 434 by decide).1 (show 2 ≤ 95 ∧ 95 < 434 by decide).2 f95 (Nat.le_of_ble_eq_true rfl) (x_X9_mark hS f95) ?_
  rintro _ h51 _ ⟨rfl, hS52, hk53, f54, rfl⟩
  have hF55 := KX_tr (KX_rf (l := [95]) h) (KX_sb (l := [95]) (by first | decide | exact fun _ z => z | simp) hk53)
  refine r_aload_n rfl dX6_work_5 rfl ?_
  obtain ⟨y56, y57, y58, y59, y60, y61, f62⟩ := hS52.ln (i := i) (by omega)
  refine cl_X6_13 rfl rfl dX6_work_6 (show 2 ≤ 100 + 8 * i ∧ 100 + 8 * i < 434 by omega).1 (show 2 ≤ 100 + 8 * i ∧ 100 + 8 * i < 434 by omega).2 f62 (Nat.le_of_ble_eq_true rfl) (x_X3_literals hS52 (i := i) (by omega) f62) ?_
  rintro _ h63 _ ⟨rfl, e64, rfl⟩
  replace e64 := e64.symm
  subst e64
  exact r_ret dX6_work_9 (rt_i rfl) ⟨rfl, hS52, hF55, f54, _, rfl⟩
set_option maxRecDepth 20000 in
set_option maxHeartbeats 1000000 in
theorem x_X2_work {xs : Nat → Int32} {L d : Nat} {h : ev_H} {t i : Nat} {s : Int64} {cj : Nat} {q : vw_C} (hS : SH h) (ht : 2 ≤ t ∧ t < 434) (hi : i < 40) (hq : dp_cl[cj]? = some q) (ho : ∀ h' : ev_H, SH h' → h' t = .inr (cj, [])) (f95 : h 95 = .inr (9, [.long s])) : EV xs L (d + 3) 0 0 M_X2_work 434 h 0 [some (.ref t), some (.ref (100 + 8 * i)), some (.ref 95)] [] (fun sz' h' r => sz' = 434 ∧ SH h' ∧ KX [95] h h' ∧ h' 95 = .inr (9, [.long (s + (10 : Int32).toInt64 + (1 : Int32).toInt64)]) ∧ ∃ x : Int32, r = [.int x]) := by
  refine r_aload_n rfl dX2_work_0 rfl ?_
  refine r_bipush (v := 10) rfl dX2_work_1 (by decide) ?_
  refine cl_X2_7 rfl rfl dX2_work_3 (show 2 ≤ 95 ∧ 95 < 434 by decide).1 (show 2 ≤ 95 ∧ 95 < 434 by decide).2 f95 (Nat.le_of_ble_eq_true rfl) (x_X9_mark hS f95) ?_
  rintro _ h51 _ ⟨rfl, hS52, hk53, f54, rfl⟩
  have hF55 := KX_tr (KX_rf (l := [95]) h) (KX_sb (l := [95]) (by first | decide | exact fun _ z => z | simp) hk53)
  refine r_aload_n rfl dX2_work_6 rfl ?_
  refine r_aload_n rfl dX2_work_7 rfl ?_
  refine r_aload_n rfl dX2_work_8 rfl ?_
  refine cl_X2_13 rfl rfl dX2_work_9 ht.1 ht.2 (ho _ hS52) hq (Nat.le_of_ble_eq_true rfl) (x_X6_work hS52 ht (i := i) (by omega) f54) ?_
  rintro _ h56 _ ⟨rfl, hS57, hk58, f59, x60, rfl⟩
  have hF61 := KX_tr hF55 (KX_sb (l := [95]) (by first | decide | exact fun _ z => z | simp) hk58)
  refine r_aload_n rfl dX2_work_12 rfl ?_
  refine r_iconst (v := 0) rfl dX2_work_13 (by decide) ?_
  obtain ⟨y62, y63, y64, y65, y66, y67, f68⟩ := hS57.ln (i := i) (by omega)
  refine cl_X2_17 rfl rfl dX2_work_14 (show 2 ≤ 100 + 8 * i ∧ 100 + 8 * i < 434 by omega).1 (show 2 ≤ 100 + 8 * i ∧ 100 + 8 * i < 434 by omega).2 f68 (Nat.le_of_ble_eq_true rfl) (x_X3_sayingBy hS57 (i := i) (by omega)) ?_
  rintro _ h69 _ ⟨rfl, e70, j71, hj72, rfl⟩
  replace e70 := e70.symm
  subst e70
  obtain ⟨g73, hw74⟩ := hS57.ws (wsAt_ln (i := i) (w := j71) (by omega) hj72)
  refine cl_X2_23 rfl rfl dX2_work_17 (show _ ∧ _ from ⟨((wsAt_ln (i := i) (w := j71) (by omega) hj72)).2.2.1, Nat.lt_of_succ_lt ((wsAt_ln (i := i) (w := j71) (by omega) hj72)).2.2.2⟩).1 (show _ ∧ _ from ⟨((wsAt_ln (i := i) (w := j71) (by omega) hj72)).2.2.1, Nat.lt_of_succ_lt ((wsAt_ln (i := i) (w := j71) (by omega) hj72)).2.2.2⟩).2 hw74.2.2.1 (Nat.le_of_ble_eq_true rfl) (s_X10_size hw74) ?_
  rintro _ h75 _ ⟨rfl, e76, rfl⟩
  replace e76 := e76.symm
  subst e76
  refine r_iadd rfl dX2_work_20 ?_
  exact r_ret dX2_work_21 (rt_i rfl) ⟨rfl, hS57, hF61, f59, _, rfl⟩
set_option maxRecDepth 20000 in
set_option maxHeartbeats 1000000 in
theorem x_X5_work {xs : Nat → Int32} {L d : Nat} {h : ev_H} {t i : Nat} {s : Int64} {cj : Nat} {q : vw_C} (hS : SH h) (ht : 2 ≤ t ∧ t < 434) (hi : i < 40) (hq : dp_cl[cj]? = some q) (ho : ∀ h' : ev_H, SH h' → h' t = .inr (cj, [])) (f95 : h 95 = .inr (9, [.long s])) : EV xs L (d + 3) 0 0 M_X5_work 434 h 0 [some (.ref t), some (.ref (100 + 8 * i)), some (.ref 95)] [] (fun sz' h' r => sz' = 434 ∧ SH h' ∧ KX [95] h h' ∧ h' 95 = .inr (9, [.long (s + (100 : Int32).toInt64 + (1 : Int32).toInt64)]) ∧ ∃ x : Int32, r = [.int x]) := by
  refine r_aload_n rfl dX5_work_0 rfl ?_
  refine r_bipush (v := 100) rfl dX5_work_1 (by decide) ?_
  refine cl_X5_7 rfl rfl dX5_work_3 (show 2 ≤ 95 ∧ 95 < 434 by decide).1 (show 2 ≤ 95 ∧ 95 < 434 by decide).2 f95 (Nat.le_of_ble_eq_true rfl) (x_X9_mark hS f95) ?_
  rintro _ h51 _ ⟨rfl, hS52, hk53, f54, rfl⟩
  have hF55 := KX_tr (KX_rf (l := [95]) h) (KX_sb (l := [95]) (by first | decide | exact fun _ z => z | simp) hk53)
  refine r_iconst (v := 2) rfl dX5_work_6 (by decide) ?_
  refine r_aload_n rfl dX5_work_7 rfl ?_
  refine r_aload_n rfl dX5_work_8 rfl ?_
  refine r_aload_n rfl dX5_work_9 rfl ?_
  refine cl_X5_13 rfl rfl dX5_work_10 ht.1 ht.2 (ho _ hS52) hq (Nat.le_of_ble_eq_true rfl) (x_X6_work hS52 ht (i := i) (by omega) f54) ?_
  rintro _ h56 _ ⟨rfl, hS57, hk58, f59, x60, rfl⟩
  have hF61 := KX_tr hF55 (KX_sb (l := [95]) (by first | decide | exact fun _ z => z | simp) hk58)
  refine r_imul rfl dX5_work_13 ?_
  refine r_iconst (v := 1) rfl dX5_work_14 (by decide) ?_
  refine r_iadd rfl dX5_work_15 ?_
  exact r_ret dX5_work_16 (rt_i rfl) ⟨rfl, hS57, hF61, f59, _, rfl⟩
set_option maxRecDepth 20000 in
set_option maxHeartbeats 1000000 in
theorem x_X1_work {xs : Nat → Int32} {L d : Nat} {h : ev_H} {t i : Nat} {s : Int64} {cj : Nat} {q : vw_C} (hS : SH h) (ht : 2 ≤ t ∧ t < 434) (hi : i < 40) (hq : dp_cl[cj]? = some q) (ho : ∀ h' : ev_H, SH h' → h' t = .inr (cj, [])) (f95 : h 95 = .inr (9, [.long s])) : EV xs L (d + 4) 0 0 M_X1_work 434 h 0 [some (.ref t), some (.ref (100 + 8 * i)), some (.ref 95)] [] (fun sz' h' r => sz' = 434 ∧ SH h' ∧ KX [95] h h' ∧ h' 95 = .inr (9, [.long (s + (1000 : Int32).toInt64 + (10 : Int32).toInt64 + (1 : Int32).toInt64)]) ∧ ∃ x : Int32, r = [.int x]) := by
  refine r_aload_n rfl dX1_work_0 rfl ?_
  refine r_sipush (v := 1000) rfl dX1_work_1 (by decide) ?_
  refine cl_X1_7 rfl rfl dX1_work_4 (show 2 ≤ 95 ∧ 95 < 434 by decide).1 (show 2 ≤ 95 ∧ 95 < 434 by decide).2 f95 (Nat.le_of_ble_eq_true rfl) (x_X9_mark hS f95) ?_
  rintro _ h51 _ ⟨rfl, hS52, hk53, f54, rfl⟩
  have hF55 := KX_tr (KX_rf (l := [95]) h) (KX_sb (l := [95]) (by first | decide | exact fun _ z => z | simp) hk53)
  refine r_aload_n rfl dX1_work_7 rfl ?_
  refine r_aload_n rfl dX1_work_8 rfl ?_
  refine r_aload_n rfl dX1_work_9 rfl ?_
  refine cl_X1_13 rfl rfl dX1_work_10 ht.1 ht.2 (ho _ hS52) hq (Nat.le_of_ble_eq_true rfl) (x_X2_work hS52 ht (i := i) (by omega) hq ho f54) ?_
  rintro _ h56 _ ⟨rfl, hS57, hk58, f59, x60, rfl⟩
  have hF61 := KX_tr hF55 (KX_sb (l := [95]) (by first | decide | exact fun _ z => z | simp) hk58)
  refine r_iconst (v := 2) rfl dX1_work_13 (by decide) ?_
  refine r_idiv rfl dX1_work_14 (by decide) ?_
  exact r_ret dX1_work_15 (rt_i rfl) ⟨rfl, hS57, hF61, f59, _, rfl⟩
/-- THE TRACE behind labour -/
def lbT (x y : Int32) (k : Nat) (s : Int64) : Int64 := if inR x 0 3 = 0 then s else if inR y 0 (nI k - 1) = 0 then s else if x = 0 then s + 1 else if x = 1 then s + 11 else if x = 2 then s + 101 else s + 1011
theorem inR_ln {y : Int32} {k : Nat} (hk : k ≤ 40) (h : ∀ n : Nat, n < k → ¬ y = nI n) : inR y 0 (nI k - 1) = 0 := Decidable.byContradiction (fun z => by
  obtain ⟨j, hj, e⟩ := isLn hk z
  exact h j hj e)
theorem inR_in {k n : Nat} (hk : k ≤ 40) (hn : n < k) : ¬ inR (nI n) 0 (nI k - 1) = 0 := by
  obtain ⟨j, rfl⟩ : ∃ j, k = j + 1 := ⟨k - 1, by omega⟩
  rw [nI_pred]
  unfold inR
  rw [if_neg (nI_pos (by omega)), if_neg (nI_nlt (by omega) (by omega))]
  decide
theorem inR_out {x : Int32} (h : x.toInt < 0 ∨ 3 < x.toInt) : inR x 0 3 = 0 := by
  unfold inR
  rcases h with h | h
  · rw [if_pos (by rw [Int32.lt_iff_toInt_lt]; exact h)]
  · split
    · rfl
    · rw [if_pos (by rw [Int32.lt_iff_toInt_lt]; exact h)]
theorem lgc {a b : Int64} (e : a = b) : (.inr (9, [.long a]) : va_E) = .inr (9, [.long b]) := by rw [e]
theorem lab_0 {s : Int64} : (.inr (9, [.long (s + (1 : Int32).toInt64)]) : va_E) = .inr (9, [.long (if (nI 0 : Int32) = 0 then s + 1 else if (nI 0 : Int32) = 1 then s + 11 else if (nI 0 : Int32) = 2 then s + 101 else s + 1011)]) := by
  refine lgc ?_
  rw [show (if (nI 0 : Int32) = 0 then s + 1 else if (nI 0 : Int32) = 1 then s + 11 else if (nI 0 : Int32) = 2 then s + 101 else s + 1011) = s + 1 from if_pos (by decide)]
  try simp only [Int64.add_assoc]
  exact congrArg (fun z => s + z) (by decide)
theorem lab_1 {s : Int64} : (.inr (9, [.long (s + (10 : Int32).toInt64 + (1 : Int32).toInt64)]) : va_E) = .inr (9, [.long (if (nI 1 : Int32) = 0 then s + 1 else if (nI 1 : Int32) = 1 then s + 11 else if (nI 1 : Int32) = 2 then s + 101 else s + 1011)]) := by
  refine lgc ?_
  rw [show (if (nI 1 : Int32) = 0 then s + 1 else if (nI 1 : Int32) = 1 then s + 11 else if (nI 1 : Int32) = 2 then s + 101 else s + 1011) = s + 11 from (if_neg (by decide)).trans (if_pos (by decide))]
  try simp only [Int64.add_assoc]
  exact congrArg (fun z => s + z) (by decide)
theorem lab_2 {s : Int64} : (.inr (9, [.long (s + (100 : Int32).toInt64 + (1 : Int32).toInt64)]) : va_E) = .inr (9, [.long (if (nI 2 : Int32) = 0 then s + 1 else if (nI 2 : Int32) = 1 then s + 11 else if (nI 2 : Int32) = 2 then s + 101 else s + 1011)]) := by
  refine lgc ?_
  rw [show (if (nI 2 : Int32) = 0 then s + 1 else if (nI 2 : Int32) = 1 then s + 11 else if (nI 2 : Int32) = 2 then s + 101 else s + 1011) = s + 101 from (if_neg (by decide)).trans ((if_neg (by decide)).trans (if_pos (by decide)))]
  try simp only [Int64.add_assoc]
  exact congrArg (fun z => s + z) (by decide)
theorem lab_3 {s : Int64} : (.inr (9, [.long (s + (1000 : Int32).toInt64 + (10 : Int32).toInt64 + (1 : Int32).toInt64)]) : va_E) = .inr (9, [.long (if (nI 3 : Int32) = 0 then s + 1 else if (nI 3 : Int32) = 1 then s + 11 else if (nI 3 : Int32) = 2 then s + 101 else s + 1011)]) := by
  refine lgc ?_
  rw [show (if (nI 3 : Int32) = 0 then s + 1 else if (nI 3 : Int32) = 1 then s + 11 else if (nI 3 : Int32) = 2 then s + 101 else s + 1011) = s + 1011 from (if_neg (by decide)).trans ((if_neg (by decide)).trans (if_neg (by decide)))]
  try simp only [Int64.add_assoc]
  exact congrArg (fun z => s + z) (by decide)
set_option maxRecDepth 20000 in
set_option maxHeartbeats 1000000 in
theorem x_X11_labour {xs : Nat → Int32} {L d : Nat} {h : ev_H} {k : Nat} {cc sc wr el : Int32} {x y : Int32} {s : Int64} (hS : SH h) (h2 : h 2 = c2 cc (nI k) sc wr el) (hk : k ≤ 40) (f95 : h 95 = .inr (9, [.long s])) : EV xs L (d + 5) 0 0 M_X11_labour 434 h 0 [some (.ref 2), some (.int x), some (.int y), none, none] [] (fun sz' h' r => sz' = 434 ∧ SH h' ∧ KX [95] h h' ∧ h' 95 = .inr (9, [.long (lbT x y k s)]) ∧ ∃ x : Int32, r = [.int x]) := by
  refine r_aload_n rfl dX11_labour_0 rfl ?_
  refine r_iload_n rfl dX11_labour_1 rfl ?_
  refine cl_X11_203 rfl rfl dX11_labour_2 (show 2 ≤ 2 ∧ 2 < 434 by decide).1 (show 2 ≤ 2 ∧ 2 < 434 by decide).2 h2 (Nat.le_of_ble_eq_true rfl) (x_X11_ruleOf hS h2 hk) ?_
  rintro _ h51 _ ⟨rfl, e52, ⟨q53, hq54, ex55, rfl⟩ | ⟨ho56, rfl⟩⟩
  · replace e52 := e52.symm
    subst e52
    obtain rfl | rfl | rfl | rfl : q53 = 0 ∨ q53 = 1 ∨ q53 = 2 ∨ q53 = 3 := by omega
    · subst ex55
      refine r_astore_n (ls' := [some (.ref 2), some (.int (nI 0)), some (.int y), some (.ref 96), none]) rfl dX11_labour_5 (Nat.le_of_ble_eq_true rfl) rfl ?_
      refine r_aload_n rfl dX11_labour_6 rfl ?_
      refine r_iload_n rfl dX11_labour_7 rfl ?_
      refine cl_X11_121 rfl rfl dX11_labour_8 (show 2 ≤ 2 ∧ 2 < 434 by decide).1 (show 2 ≤ 2 ∧ 2 < 434 by decide).2 h2 (Nat.le_of_ble_eq_true rfl) (x_X11_lineAt hS h2 hk) ?_
      rintro _ h57 _ ⟨rfl, e58, ⟨n59, hn60, ex61, rfl⟩ | ⟨hno62, rfl⟩⟩
      · replace e58 := e58.symm
        subst e58
        subst ex61
        refine r_astore (ls' := [some (.ref 2), some (.int (nI 0)), some (.int (nI n59)), some (.ref 96), some (.ref (100 + 8 * n59))]) rfl dX11_labour_11 (Nat.le_of_ble_eq_true rfl) rfl ?_
        refine r_aload_n rfl dX11_labour_13 rfl ?_
        refine r_ifnull rfl (by decide) dX11_labour_14 ?_
        refine r_aload rfl dX11_labour_17 rfl ?_
        refine r_ifnonnull (tgt := 26) rfl dX11_labour_19 ?_
        refine r_aload_n rfl dX11_labour_26 rfl ?_
        refine r_aload rfl dX11_labour_27 rfl ?_
        refine r_aload_n rfl dX11_labour_29 rfl ?_
        refine r_getv 6 rfl dX11_labour_30 (show 2 ≤ 2 ∧ 2 < 434 by decide) h2 fl_X11_53 rfl ?_
        refine cl_X11_207 rfl rfl dX11_labour_33 (show 2 ≤ 96 ∧ 96 < 434 by decide).1 (show 2 ≤ 96 ∧ 96 < 434 by decide).2 hS.o96 (Nat.le_of_ble_eq_true rfl) (x_X6_work (t := 96) hS (by decide) (i := n59) (by omega) f95) ?_
        rintro _ h63 _ ⟨rfl, hS64, hk65, f66, x67, rfl⟩
        have hF68 := KX_tr (KX_rf (l := [95]) h) (KX_sb (l := [95]) (by first | decide | exact fun _ z => z | simp) hk65)
        have f69 : h63 (2) = .inr (11, [.ref 3, .ref 5, .ref 12, .ref 13, .ref 24, .ref 93, .ref 95, .ref 96, .ref 97, .ref 98, .ref 99, .int cc, .int (nI k), .int sc, .int wr, .int el]) := (hk65 _ (by decide) nSP_2).trans h2
        exact r_ret dX11_labour_36 (rt_i rfl) ⟨rfl, hS64, hF68, (by rw [lbT, if_neg (by decide), if_neg (inR_in hk hn60)]; rw [f66]; exact lab_0), _, rfl⟩
      · replace e58 := e58.symm
        subst e58
        refine r_astoreN (ls' := [some (.ref 2), some (.int (nI 0)), some (.int y), some (.ref 96), some (.null)]) rfl dX11_labour_11 (Nat.le_of_ble_eq_true rfl) rfl ?_
        refine r_aload_n rfl dX11_labour_13 rfl ?_
        refine r_ifnull rfl (by decide) dX11_labour_14 ?_
        refine r_aloadN rfl dX11_labour_17 rfl ?_
        refine r_ifnonnullN rfl (by decide) dX11_labour_19 ?_
        refine r_iconst (v := (-1)) rfl dX11_labour_22 (by decide) ?_
        refine r_goto (pc' := 36) rfl dX11_labour_23 ?_
        exact r_ret dX11_labour_36 (rt_i rfl) ⟨rfl, hS, (KX_rf (l := [95]) h), (by rw [lbT, if_neg (by decide), if_pos (inR_ln hk hno62)]; exact f95), _, rfl⟩
    · subst ex55
      refine r_astore_n (ls' := [some (.ref 2), some (.int (nI 1)), some (.int y), some (.ref 97), none]) rfl dX11_labour_5 (Nat.le_of_ble_eq_true rfl) rfl ?_
      refine r_aload_n rfl dX11_labour_6 rfl ?_
      refine r_iload_n rfl dX11_labour_7 rfl ?_
      refine cl_X11_121 rfl rfl dX11_labour_8 (show 2 ≤ 2 ∧ 2 < 434 by decide).1 (show 2 ≤ 2 ∧ 2 < 434 by decide).2 h2 (Nat.le_of_ble_eq_true rfl) (x_X11_lineAt hS h2 hk) ?_
      rintro _ h70 _ ⟨rfl, e71, ⟨n72, hn73, ex74, rfl⟩ | ⟨hno75, rfl⟩⟩
      · replace e71 := e71.symm
        subst e71
        subst ex74
        refine r_astore (ls' := [some (.ref 2), some (.int (nI 1)), some (.int (nI n72)), some (.ref 97), some (.ref (100 + 8 * n72))]) rfl dX11_labour_11 (Nat.le_of_ble_eq_true rfl) rfl ?_
        refine r_aload_n rfl dX11_labour_13 rfl ?_
        refine r_ifnull rfl (by decide) dX11_labour_14 ?_
        refine r_aload rfl dX11_labour_17 rfl ?_
        refine r_ifnonnull (tgt := 26) rfl dX11_labour_19 ?_
        refine r_aload_n rfl dX11_labour_26 rfl ?_
        refine r_aload rfl dX11_labour_27 rfl ?_
        refine r_aload_n rfl dX11_labour_29 rfl ?_
        refine r_getv 6 rfl dX11_labour_30 (show 2 ≤ 2 ∧ 2 < 434 by decide) h2 fl_X11_53 rfl ?_
        refine cl_X11_207_X2 rfl rfl dX11_labour_33 (show 2 ≤ 97 ∧ 97 < 434 by decide).1 (show 2 ≤ 97 ∧ 97 < 434 by decide).2 hS.o97 (Nat.le_of_ble_eq_true rfl) (x_X2_work (t := 97) hS (by decide) (i := n72) (by omega) (q := (RX2, TX2, 0)) rfl (fun _ z => z.o97) f95) ?_
        rintro _ h76 _ ⟨rfl, hS77, hk78, f79, x80, rfl⟩
        have hF81 := KX_tr (KX_rf (l := [95]) h) (KX_sb (l := [95]) (by first | decide | exact fun _ z => z | simp) hk78)
        have f82 : h76 (2) = .inr (11, [.ref 3, .ref 5, .ref 12, .ref 13, .ref 24, .ref 93, .ref 95, .ref 96, .ref 97, .ref 98, .ref 99, .int cc, .int (nI k), .int sc, .int wr, .int el]) := (hk78 _ (by decide) nSP_2).trans h2
        exact r_ret dX11_labour_36 (rt_i rfl) ⟨rfl, hS77, hF81, (by rw [lbT, if_neg (by decide), if_neg (inR_in hk hn73)]; rw [f79]; exact lab_1), _, rfl⟩
      · replace e71 := e71.symm
        subst e71
        refine r_astoreN (ls' := [some (.ref 2), some (.int (nI 1)), some (.int y), some (.ref 97), some (.null)]) rfl dX11_labour_11 (Nat.le_of_ble_eq_true rfl) rfl ?_
        refine r_aload_n rfl dX11_labour_13 rfl ?_
        refine r_ifnull rfl (by decide) dX11_labour_14 ?_
        refine r_aloadN rfl dX11_labour_17 rfl ?_
        refine r_ifnonnullN rfl (by decide) dX11_labour_19 ?_
        refine r_iconst (v := (-1)) rfl dX11_labour_22 (by decide) ?_
        refine r_goto (pc' := 36) rfl dX11_labour_23 ?_
        exact r_ret dX11_labour_36 (rt_i rfl) ⟨rfl, hS, (KX_rf (l := [95]) h), (by rw [lbT, if_neg (by decide), if_pos (inR_ln hk hno75)]; exact f95), _, rfl⟩
    · subst ex55
      refine r_astore_n (ls' := [some (.ref 2), some (.int (nI 2)), some (.int y), some (.ref 98), none]) rfl dX11_labour_5 (Nat.le_of_ble_eq_true rfl) rfl ?_
      refine r_aload_n rfl dX11_labour_6 rfl ?_
      refine r_iload_n rfl dX11_labour_7 rfl ?_
      refine cl_X11_121 rfl rfl dX11_labour_8 (show 2 ≤ 2 ∧ 2 < 434 by decide).1 (show 2 ≤ 2 ∧ 2 < 434 by decide).2 h2 (Nat.le_of_ble_eq_true rfl) (x_X11_lineAt hS h2 hk) ?_
      rintro _ h83 _ ⟨rfl, e84, ⟨n85, hn86, ex87, rfl⟩ | ⟨hno88, rfl⟩⟩
      · replace e84 := e84.symm
        subst e84
        subst ex87
        refine r_astore (ls' := [some (.ref 2), some (.int (nI 2)), some (.int (nI n85)), some (.ref 98), some (.ref (100 + 8 * n85))]) rfl dX11_labour_11 (Nat.le_of_ble_eq_true rfl) rfl ?_
        refine r_aload_n rfl dX11_labour_13 rfl ?_
        refine r_ifnull rfl (by decide) dX11_labour_14 ?_
        refine r_aload rfl dX11_labour_17 rfl ?_
        refine r_ifnonnull (tgt := 26) rfl dX11_labour_19 ?_
        refine r_aload_n rfl dX11_labour_26 rfl ?_
        refine r_aload rfl dX11_labour_27 rfl ?_
        refine r_aload_n rfl dX11_labour_29 rfl ?_
        refine r_getv 6 rfl dX11_labour_30 (show 2 ≤ 2 ∧ 2 < 434 by decide) h2 fl_X11_53 rfl ?_
        refine cl_X11_207_X5 rfl rfl dX11_labour_33 (show 2 ≤ 98 ∧ 98 < 434 by decide).1 (show 2 ≤ 98 ∧ 98 < 434 by decide).2 hS.o98 (Nat.le_of_ble_eq_true rfl) (x_X5_work (t := 98) hS (by decide) (i := n85) (by omega) (q := (RX5, TX5, 0)) rfl (fun _ z => z.o98) f95) ?_
        rintro _ h89 _ ⟨rfl, hS90, hk91, f92, x93, rfl⟩
        have hF94 := KX_tr (KX_rf (l := [95]) h) (KX_sb (l := [95]) (by first | decide | exact fun _ z => z | simp) hk91)
        have f95 : h89 (2) = .inr (11, [.ref 3, .ref 5, .ref 12, .ref 13, .ref 24, .ref 93, .ref 95, .ref 96, .ref 97, .ref 98, .ref 99, .int cc, .int (nI k), .int sc, .int wr, .int el]) := (hk91 _ (by decide) nSP_2).trans h2
        exact r_ret dX11_labour_36 (rt_i rfl) ⟨rfl, hS90, hF94, (by rw [lbT, if_neg (by decide), if_neg (inR_in hk hn86)]; rw [f92]; exact lab_2), _, rfl⟩
      · replace e84 := e84.symm
        subst e84
        refine r_astoreN (ls' := [some (.ref 2), some (.int (nI 2)), some (.int y), some (.ref 98), some (.null)]) rfl dX11_labour_11 (Nat.le_of_ble_eq_true rfl) rfl ?_
        refine r_aload_n rfl dX11_labour_13 rfl ?_
        refine r_ifnull rfl (by decide) dX11_labour_14 ?_
        refine r_aloadN rfl dX11_labour_17 rfl ?_
        refine r_ifnonnullN rfl (by decide) dX11_labour_19 ?_
        refine r_iconst (v := (-1)) rfl dX11_labour_22 (by decide) ?_
        refine r_goto (pc' := 36) rfl dX11_labour_23 ?_
        exact r_ret dX11_labour_36 (rt_i rfl) ⟨rfl, hS, (KX_rf (l := [95]) h), (by rw [lbT, if_neg (by decide), if_pos (inR_ln hk hno88)]; exact f95), _, rfl⟩
    · subst ex55
      refine r_astore_n (ls' := [some (.ref 2), some (.int (nI 3)), some (.int y), some (.ref 99), none]) rfl dX11_labour_5 (Nat.le_of_ble_eq_true rfl) rfl ?_
      refine r_aload_n rfl dX11_labour_6 rfl ?_
      refine r_iload_n rfl dX11_labour_7 rfl ?_
      refine cl_X11_121 rfl rfl dX11_labour_8 (show 2 ≤ 2 ∧ 2 < 434 by decide).1 (show 2 ≤ 2 ∧ 2 < 434 by decide).2 h2 (Nat.le_of_ble_eq_true rfl) (x_X11_lineAt hS h2 hk) ?_
      rintro _ h96 _ ⟨rfl, e97, ⟨n98, hn99, ex100, rfl⟩ | ⟨hno101, rfl⟩⟩
      · replace e97 := e97.symm
        subst e97
        subst ex100
        refine r_astore (ls' := [some (.ref 2), some (.int (nI 3)), some (.int (nI n98)), some (.ref 99), some (.ref (100 + 8 * n98))]) rfl dX11_labour_11 (Nat.le_of_ble_eq_true rfl) rfl ?_
        refine r_aload_n rfl dX11_labour_13 rfl ?_
        refine r_ifnull rfl (by decide) dX11_labour_14 ?_
        refine r_aload rfl dX11_labour_17 rfl ?_
        refine r_ifnonnull (tgt := 26) rfl dX11_labour_19 ?_
        refine r_aload_n rfl dX11_labour_26 rfl ?_
        refine r_aload rfl dX11_labour_27 rfl ?_
        refine r_aload_n rfl dX11_labour_29 rfl ?_
        refine r_getv 6 rfl dX11_labour_30 (show 2 ≤ 2 ∧ 2 < 434 by decide) h2 fl_X11_53 rfl ?_
        refine cl_X11_207_X1 rfl rfl dX11_labour_33 (show 2 ≤ 99 ∧ 99 < 434 by decide).1 (show 2 ≤ 99 ∧ 99 < 434 by decide).2 hS.o99 (Nat.le_of_ble_eq_true rfl) (x_X1_work (t := 99) hS (by decide) (i := n98) (by omega) (q := (RX1, TX1, 0)) rfl (fun _ z => z.o99) f95) ?_
        rintro _ h102 _ ⟨rfl, hS103, hk104, f105, x106, rfl⟩
        have hF107 := KX_tr (KX_rf (l := [95]) h) (KX_sb (l := [95]) (by first | decide | exact fun _ z => z | simp) hk104)
        have f108 : h102 (2) = .inr (11, [.ref 3, .ref 5, .ref 12, .ref 13, .ref 24, .ref 93, .ref 95, .ref 96, .ref 97, .ref 98, .ref 99, .int cc, .int (nI k), .int sc, .int wr, .int el]) := (hk104 _ (by decide) nSP_2).trans h2
        exact r_ret dX11_labour_36 (rt_i rfl) ⟨rfl, hS103, hF107, (by rw [lbT, if_neg (by decide), if_neg (inR_in hk hn99)]; rw [f105]; exact lab_3), _, rfl⟩
      · replace e97 := e97.symm
        subst e97
        refine r_astoreN (ls' := [some (.ref 2), some (.int (nI 3)), some (.int y), some (.ref 99), some (.null)]) rfl dX11_labour_11 (Nat.le_of_ble_eq_true rfl) rfl ?_
        refine r_aload_n rfl dX11_labour_13 rfl ?_
        refine r_ifnull rfl (by decide) dX11_labour_14 ?_
        refine r_aloadN rfl dX11_labour_17 rfl ?_
        refine r_ifnonnullN rfl (by decide) dX11_labour_19 ?_
        refine r_iconst (v := (-1)) rfl dX11_labour_22 (by decide) ?_
        refine r_goto (pc' := 36) rfl dX11_labour_23 ?_
        exact r_ret dX11_labour_36 (rt_i rfl) ⟨rfl, hS, (KX_rf (l := [95]) h), (by rw [lbT, if_neg (by decide), if_pos (inR_ln hk hno101)]; exact f95), _, rfl⟩
  · replace e52 := e52.symm
    subst e52
    refine r_astore_nN (ls' := [some (.ref 2), some (.int x), some (.int y), some (.null), none]) rfl dX11_labour_5 (Nat.le_of_ble_eq_true rfl) rfl ?_
    refine r_aload_n rfl dX11_labour_6 rfl ?_
    refine r_iload_n rfl dX11_labour_7 rfl ?_
    refine cl_X11_121 rfl rfl dX11_labour_8 (show 2 ≤ 2 ∧ 2 < 434 by decide).1 (show 2 ≤ 2 ∧ 2 < 434 by decide).2 h2 (Nat.le_of_ble_eq_true rfl) (x_X11_lineAt hS h2 hk) ?_
    rintro _ h109 _ ⟨rfl, e110, ⟨n111, hn112, ex113, rfl⟩ | ⟨hno114, rfl⟩⟩
    · replace e110 := e110.symm
      subst e110
      subst ex113
      refine r_astore (ls' := [some (.ref 2), some (.int x), some (.int (nI n111)), some (.null), some (.ref (100 + 8 * n111))]) rfl dX11_labour_11 (Nat.le_of_ble_eq_true rfl) rfl ?_
      refine r_aload_nN rfl dX11_labour_13 rfl ?_
      refine r_ifnullN (tgt := 22) rfl dX11_labour_14 ?_
      refine r_iconst (v := (-1)) rfl dX11_labour_22 (by decide) ?_
      refine r_goto (pc' := 36) rfl dX11_labour_23 ?_
      exact r_ret dX11_labour_36 (rt_i rfl) ⟨rfl, hS, (KX_rf (l := [95]) h), (by rw [lbT, if_pos (inR_out ho56)]; exact f95), _, rfl⟩
    · replace e110 := e110.symm
      subst e110
      refine r_astoreN (ls' := [some (.ref 2), some (.int x), some (.int y), some (.null), some (.null)]) rfl dX11_labour_11 (Nat.le_of_ble_eq_true rfl) rfl ?_
      refine r_aload_nN rfl dX11_labour_13 rfl ?_
      refine r_ifnullN (tgt := 22) rfl dX11_labour_14 ?_
      refine r_iconst (v := (-1)) rfl dX11_labour_22 (by decide) ?_
      refine r_goto (pc' := 36) rfl dX11_labour_23 ?_
      exact r_ret dX11_labour_36 (rt_i rfl) ⟨rfl, hS, (KX_rf (l := [95]) h), (by rw [lbT, if_pos (inR_out ho56)]; exact f95), _, rfl⟩
set_option maxRecDepth 20000 in
set_option maxHeartbeats 1000000 in
theorem x_X9_sum {xs : Nat → Int32} {L d : Nat} {h : ev_H} {s : Int64} (hS : SH h) (f95 : h 95 = .inr (9, [.long s])) : EV xs L (d + 0) 0 0 M_X9_sum 434 h 0 [some (.ref 95)] [] (fun sz' h' r => sz' = 434 ∧ h' = h ∧ r = [.long s]) := by
  refine r_aload_n rfl dX9_sum_0 rfl ?_
  refine r_getv 0 rfl dX9_sum_1 (show 2 ≤ 95 ∧ 95 < 434 by decide) f95 fl_X9_7 rfl ?_
  exact r_ret dX9_sum_4 (rt_l rfl) ⟨rfl, rfl, rfl⟩
set_option maxRecDepth 20000 in
set_option maxHeartbeats 1000000 in
theorem x_X11_trace {xs : Nat → Int32} {L d : Nat} {h : ev_H} {k : Nat} {cc sc wr el : Int32} {s : Int64} (hS : SH h) (h2 : h 2 = c2 cc (nI k) sc wr el) (hk : k ≤ 40) (f95 : h 95 = .inr (9, [.long s])) : EV xs L (d + 1) 0 0 M_X11_trace 434 h 0 [some (.ref 2)] [] (fun sz' h' r => sz' = 434 ∧ h' = h ∧ r = [.long s]) := by
  refine r_aload_n rfl dX11_trace_0 rfl ?_
  refine r_getv 6 rfl dX11_trace_1 (show 2 ≤ 2 ∧ 2 < 434 by decide) h2 fl_X11_53 rfl ?_
  refine cl_X11_222 rfl rfl dX11_trace_4 (show 2 ≤ 95 ∧ 95 < 434 by decide).1 (show 2 ≤ 95 ∧ 95 < 434 by decide).2 f95 (Nat.le_of_ble_eq_true rfl) (x_X9_sum hS f95) ?_
  rintro _ h51 _ ⟨rfl, e52, rfl⟩
  replace e52 := e52.symm
  subst e52
  exact r_ret dX11_trace_7 (rt_l rfl) ⟨rfl, rfl, rfl⟩
