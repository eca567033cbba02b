set_option maxRecDepth 20000 in
set_option maxHeartbeats 1000000 in
theorem x_X3_becomeClause {xs : Nat → Int32} {L d : Nat} {h : ev_H} {i : Nat} {p t o a b l : Int32} {x y z : Int32} (hS : SH h) (hi : i < 40) (fl : h (100 + 8 * i) = cLn i p t o a b l) : EV xs L (d + 0) 0 0 M_X3_becomeClause 434 h 0 [some (.ref (100 + 8 * i)), some (.int x), some (.int y), some (.int z)] [] (fun sz' h' r => sz' = 434 ∧ SH h' ∧ KX [100 + 8 * i] h h' ∧ h' (100 + 8 * i) = cLn i y z x (-9) (-9) (-9) ∧ r = []) := by
  refine r_aload_n rfl dX3_becomeClause_0 rfl ?_
  refine r_iload_n rfl dX3_becomeClause_1 rfl ?_
  refine e_put 1 (fs' := [.ref (101 + 8 * i), .int y, .int t, .int o, .int a, .int b, .int l]) rfl dX3_becomeClause_2 (show 2 ≤ 100 + 8 * i ∧ 100 + 8 * i < 434 by omega) hS (KM_rf (Mod := [100 + 8 * i]) _) (List.mem_singleton.mpr rfl) fl (fp_X3_28 rfl _) (Nat.le_of_ble_eq_true rfl) rfl (fun h51 hS52 _ hN53 f54 => ?_)
  have hk55 : KX [100 + 8 * i] h h51 := KX_M (fun _ z => z) hN53
  have hF56 := KX_tr (KX_rf (l := [100 + 8 * i]) h) (KX_sb (l := [100 + 8 * i]) (by first | decide | exact fun _ z => z | simp) hk55)
  refine r_aload_n rfl dX3_becomeClause_5 rfl ?_
  refine r_iload_n rfl dX3_becomeClause_6 rfl ?_
  refine e_put 2 (fs' := [.ref (101 + 8 * i), .int y, .int z, .int o, .int a, .int b, .int l]) rfl dX3_becomeClause_7 (show 2 ≤ 100 + 8 * i ∧ 100 + 8 * i < 434 by omega) hS52 (KM_rf (Mod := [100 + 8 * i]) _) (List.mem_singleton.mpr rfl) f54 (fp_X3_31 rfl _) (Nat.le_of_ble_eq_true rfl) rfl (fun h57 hS58 _ hN59 f60 => ?_)
  have hk61 : KX [100 + 8 * i] h51 h57 := KX_M (fun _ z => z) hN59
  have hF62 := KX_tr hF56 (KX_sb (l := [100 + 8 * i]) (by first | decide | exact fun _ z => z | simp) hk61)
  refine r_aload_n rfl dX3_becomeClause_10 rfl ?_
  refine r_iload_n rfl dX3_becomeClause_11 rfl ?_
  refine e_put 3 (fs' := [.ref (101 + 8 * i), .int y, .int z, .int x, .int a, .int b, .int l]) rfl dX3_becomeClause_12 (show 2 ≤ 100 + 8 * i ∧ 100 + 8 * i < 434 by omega) hS58 (KM_rf (Mod := [100 + 8 * i]) _) (List.mem_singleton.mpr rfl) f60 (fp_X3_34 rfl _) (Nat.le_of_ble_eq_true rfl) rfl (fun h63 hS64 _ hN65 f66 => ?_)
  have hk67 : KX [100 + 8 * i] h57 h63 := KX_M (fun _ z => z) hN65
  have hF68 := KX_tr hF62 (KX_sb (l := [100 + 8 * i]) (by first | decide | exact fun _ z => z | simp) hk67)
  refine r_aload_n rfl dX3_becomeClause_15 rfl ?_
  refine r_bipush (v := (-9)) rfl dX3_becomeClause_16 (by decide) ?_
  refine e_put 4 (fs' := [.ref (101 + 8 * i), .int y, .int z, .int x, .int (-9), .int b, .int l]) rfl dX3_becomeClause_18 (show 2 ≤ 100 + 8 * i ∧ 100 + 8 * i < 434 by omega) hS64 (KM_rf (Mod := [100 + 8 * i]) _) (List.mem_singleton.mpr rfl) f66 (fp_X3_17 rfl _) (Nat.le_of_ble_eq_true rfl) rfl (fun h69 hS70 _ hN71 f72 => ?_)
  have hk73 : KX [100 + 8 * i] h63 h69 := KX_M (fun _ z => z) hN71
  have hF74 := KX_tr hF68 (KX_sb (l := [100 + 8 * i]) (by first | decide | exact fun _ z => z | simp) hk73)
  refine r_aload_n rfl dX3_becomeClause_21 rfl ?_
  refine r_bipush (v := (-9)) rfl dX3_becomeClause_22 (by decide) ?_
  refine e_put 5 (fs' := [.ref (101 + 8 * i), .int y, .int z, .int x, .int (-9), .int (-9), .int l]) rfl dX3_becomeClause_24 (show 2 ≤ 100 + 8 * i ∧ 100 + 8 * i < 434 by omega) hS70 (KM_rf (Mod := [100 + 8 * i]) _) (List.mem_singleton.mpr rfl) f72 (fp_X3_21 rfl _) (Nat.le_of_ble_eq_true rfl) rfl (fun h75 hS76 _ hN77 f78 => ?_)
  have hk79 : KX [100 + 8 * i] h69 h75 := KX_M (fun _ z => z) hN77
  have hF80 := KX_tr hF74 (KX_sb (l := [100 + 8 * i]) (by first | decide | exact fun _ z => z | simp) hk79)
  refine r_aload_n rfl dX3_becomeClause_27 rfl ?_
  refine r_bipush (v := (-9)) rfl dX3_becomeClause_28 (by decide) ?_
  refine e_put 6 (fs' := [.ref (101 + 8 * i), .int y, .int z, .int x, .int (-9), .int (-9), .int (-9)]) rfl dX3_becomeClause_30 (show 2 ≤ 100 + 8 * i ∧ 100 + 8 * i < 434 by omega) hS76 (KM_rf (Mod := [100 + 8 * i]) _) (List.mem_singleton.mpr rfl) f78 (fp_X3_24 rfl _) (Nat.le_of_ble_eq_true rfl) rfl (fun h81 hS82 _ hN83 f84 => ?_)
  have hk85 : KX [100 + 8 * i] h75 h81 := KX_M (fun _ z => z) hN83
  have hF86 := KX_tr hF80 (KX_sb (l := [100 + 8 * i]) (by first | decide | exact fun _ z => z | simp) hk85)
  exact r_ret dX3_becomeClause_33 (rt_v rfl) ⟨rfl, hS82, hF86, f84, rfl⟩
set_option maxRecDepth 20000 in
set_option maxHeartbeats 1000000 in
theorem x_X3_rememberCut {xs : Nat → Int32} {L d : Nat} {h : ev_H} {i : Nat} {p t o a b l : Int32} {x y z : Int32} (hS : SH h) (hi : i < 40) (fl : h (100 + 8 * i) = cLn i p t o a b l) : EV xs L (d + 0) 0 0 M_X3_rememberCut 434 h 0 [some (.ref (100 + 8 * i)), some (.int x), some (.int y), some (.int z)] [] (fun sz' h' r => sz' = 434 ∧ SH h' ∧ KX [100 + 8 * i] h h' ∧ h' (100 + 8 * i) = cLn i p t 0 x y z ∧ r = []) := by
  refine r_aload_n rfl dX3_rememberCut_0 rfl ?_
  refine r_iconst (v := 0) rfl dX3_rememberCut_1 (by decide) ?_
  refine e_put 3 (fs' := [.ref (101 + 8 * i), .int p, .int t, .int 0, .int a, .int b, .int l]) rfl dX3_rememberCut_2 (show 2 ≤ 100 + 8 * i ∧ 100 + 8 * i < 434 by omega) hS (KM_rf (Mod := [100 + 8 * i]) _) (List.mem_singleton.mpr rfl) fl (fp_X3_34 rfl _) (Nat.le_of_ble_eq_true rfl) rfl (fun h51 hS52 _ hN53 f54 => ?_)
  have hk55 : KX [100 + 8 * i] h h51 := KX_M (fun _ z => z) hN53
  have hF56 := KX_tr (KX_rf (l := [100 + 8 * i]) h) (KX_sb (l := [100 + 8 * i]) (by first | decide | exact fun _ z => z | simp) hk55)
  refine r_aload_n rfl dX3_rememberCut_5 rfl ?_
  refine r_iload_n rfl dX3_rememberCut_6 rfl ?_
  refine e_put 4 (fs' := [.ref (101 + 8 * i), .int p, .int t, .int 0, .int x, .int b, .int l]) rfl dX3_rememberCut_7 (show 2 ≤ 100 + 8 * i ∧ 100 + 8 * i < 434 by omega) hS52 (KM_rf (Mod := [100 + 8 * i]) _) (List.mem_singleton.mpr rfl) f54 (fp_X3_17 rfl _) (Nat.le_of_ble_eq_true rfl) rfl (fun h57 hS58 _ hN59 f60 => ?_)
  have hk61 : KX [100 + 8 * i] h51 h57 := KX_M (fun _ z => z) hN59
  have hF62 := KX_tr hF56 (KX_sb (l := [100 + 8 * i]) (by first | decide | exact fun _ z => z | simp) hk61)
  refine r_aload_n rfl dX3_rememberCut_10 rfl ?_
  refine r_iload_n rfl dX3_rememberCut_11 rfl ?_
  refine e_put 5 (fs' := [.ref (101 + 8 * i), .int p, .int t, .int 0, .int x, .int y, .int l]) rfl dX3_rememberCut_12 (show 2 ≤ 100 + 8 * i ∧ 100 + 8 * i < 434 by omega) hS58 (KM_rf (Mod := [100 + 8 * i]) _) (List.mem_singleton.mpr rfl) f60 (fp_X3_21 rfl _) (Nat.le_of_ble_eq_true rfl) rfl (fun h63 hS64 _ hN65 f66 => ?_)
  have hk67 : KX [100 + 8 * i] h57 h63 := KX_M (fun _ z => z) hN65
  have hF68 := KX_tr hF62 (KX_sb (l := [100 + 8 * i]) (by first | decide | exact fun _ z => z | simp) hk67)
  refine r_aload_n rfl dX3_rememberCut_15 rfl ?_
  refine r_iload_n rfl dX3_rememberCut_16 rfl ?_
  refine e_put 6 (fs' := [.ref (101 + 8 * i), .int p, .int t, .int 0, .int x, .int y, .int z]) rfl dX3_rememberCut_17 (show 2 ≤ 100 + 8 * i ∧ 100 + 8 * i < 434 by omega) hS64 (KM_rf (Mod := [100 + 8 * i]) _) (List.mem_singleton.mpr rfl) f66 (fp_X3_24 rfl _) (Nat.le_of_ble_eq_true rfl) rfl (fun h69 hS70 _ hN71 f72 => ?_)
  have hk73 : KX [100 + 8 * i] h63 h69 := KX_M (fun _ z => z) hN71
  have hF74 := KX_tr hF68 (KX_sb (l := [100 + 8 * i]) (by first | decide | exact fun _ z => z | simp) hk73)
  exact r_ret dX3_rememberCut_20 (rt_v rfl) ⟨rfl, hS70, hF74, f72, rfl⟩
/-- whether a cut can be made: of LITERALS p1, t1 of the one LINE and p2, t2 of the other, at a bit -/
abbrev cutP (p1 p2 b : Int32) : Int32 := (p1 &&& (b ^^^ (-1))) ||| p2
abbrev cutT (t1 t2 b : Int32) : Int32 := t1 ||| (t2 &&& (b ^^^ (-1)))
abbrev cutK (p1 t1 p2 t2 b : Int32) : Prop := ¬ p1 &&& b = 0 ∧ ¬ t2 &&& b = 0 ∧ cutP p1 p2 b &&& cutT t1 t2 b = 0
set_option maxRecDepth 20000 in
set_option maxHeartbeats 1000000 in
theorem x_X3_becomeCut {xs : Nat → Int32} {L d : Nat} {h : ev_H} {i j m : Nat} {p t o a b l p1 t1 o1 a1 b1 l1 p2 t2 o2 a2 b2 l2 c : Int32} (hS : SH h) (hi : i < 40) (fl : h (100 + 8 * i) = cLn i p t o a b l) (hj : j < 40) (hm : m < 40) (fj : h (100 + 8 * j) = cLn j p1 t1 o1 a1 b1 l1) (fm : h (100 + 8 * m) = cLn m p2 t2 o2 a2 b2 l2) (hij : i ≠ j) (him : i ≠ m) : EV xs L (d + 0) 0 0 M_X3_becomeCut 434 h 0 [some (.ref (100 + 8 * i)), some (.ref (100 + 8 * j)), some (.ref (100 + 8 * m)), some (.int c), none, none, none] [] (fun sz' h' r => sz' = 434 ∧ SH h' ∧ KX [100 + 8 * i] h h' ∧ ((cutK p1 t1 p2 t2 (1 <<< (c &&& 31)) ∧ h' (100 + 8 * i) = cLn i (cutP p1 p2 (1 <<< (c &&& 31))) (cutT t1 t2 (1 <<< (c &&& 31))) o a b l ∧ r = [.int 1]) ∨ (¬ cutK p1 t1 p2 t2 (1 <<< (c &&& 31)) ∧ h' (100 + 8 * i) = cLn i p t o a b l ∧ r = [.int 0]))) := by
  refine r_iconst (v := 1) rfl dX3_becomeCut_0 (by decide) ?_
  refine r_iload_n rfl dX3_becomeCut_1 rfl ?_
  refine r_ishl rfl dX3_becomeCut_2 ?_
  refine r_topi (fun x51 e52 => ?_)
  refine r_istore (ls' := [some (.ref (100 + 8 * i)), some (.ref (100 + 8 * j)), some (.ref (100 + 8 * m)), some (.int c), some (.int x51), none, none]) rfl dX3_becomeCut_3 (Nat.le_of_ble_eq_true rfl) rfl ?_
  refine r_aload_n rfl dX3_becomeCut_5 rfl ?_
  refine r_getv 1 rfl dX3_becomeCut_6 (show 2 ≤ 100 + 8 * j ∧ 100 + 8 * j < 434 by omega) fj fl_X3_28 rfl ?_
  refine r_iload rfl dX3_becomeCut_9 rfl ?_
  refine r_iand rfl dX3_becomeCut_11 ?_
  refine r_if_eq (tgt := 25) rfl rfl dX3_becomeCut_12 (fun c53 => ?_) (fun c53 => ?_)
  · refine r_iconst (v := 0) rfl dX3_becomeCut_25 (by decide) ?_
    subst e52
    exact r_ret dX3_becomeCut_26 (rt_z rfl (Or.inl rfl)) ⟨rfl, hS, (KX_rf (l := [100 + 8 * i]) h), Or.inr ⟨fun z => z.1 c53, fl, rfl⟩⟩
  · refine r_aload_n rfl dX3_becomeCut_15 rfl ?_
    refine r_getv 2 rfl dX3_becomeCut_16 (show 2 ≤ 100 + 8 * m ∧ 100 + 8 * m < 434 by omega) fm fl_X3_31 rfl ?_
    refine r_iload rfl dX3_becomeCut_19 rfl ?_
    refine r_iand rfl dX3_becomeCut_21 ?_
    refine r_if_ne (tgt := 27) rfl rfl dX3_becomeCut_22 (fun c54 => ?_) (fun c54 => ?_)
    · refine r_aload_n rfl dX3_becomeCut_27 rfl ?_
      refine r_getv 1 rfl dX3_becomeCut_28 (show 2 ≤ 100 + 8 * j ∧ 100 + 8 * j < 434 by omega) fj fl_X3_28 rfl ?_
      refine r_iload rfl dX3_becomeCut_31 rfl ?_
      refine r_iconst (v := (-1)) rfl dX3_becomeCut_33 (by decide) ?_
      refine r_ixor rfl dX3_becomeCut_34 ?_
      refine r_iand rfl dX3_becomeCut_35 ?_
      refine r_aload_n rfl dX3_becomeCut_36 rfl ?_
      refine r_getv 1 rfl dX3_becomeCut_37 (show 2 ≤ 100 + 8 * m ∧ 100 + 8 * m < 434 by omega) fm fl_X3_28 rfl ?_
      refine r_ior rfl dX3_becomeCut_40 ?_
      refine r_topi (fun x55 e56 => ?_)
      refine r_istore (ls' := [some (.ref (100 + 8 * i)), some (.ref (100 + 8 * j)), some (.ref (100 + 8 * m)), some (.int c), some (.int x51), some (.int x55), none]) rfl dX3_becomeCut_41 (Nat.le_of_ble_eq_true rfl) rfl ?_
      refine r_aload_n rfl dX3_becomeCut_43 rfl ?_
      refine r_getv 2 rfl dX3_becomeCut_44 (show 2 ≤ 100 + 8 * j ∧ 100 + 8 * j < 434 by omega) fj fl_X3_31 rfl ?_
      refine r_aload_n rfl dX3_becomeCut_47 rfl ?_
      refine r_getv 2 rfl dX3_becomeCut_48 (show 2 ≤ 100 + 8 * m ∧ 100 + 8 * m < 434 by omega) fm fl_X3_31 rfl ?_
      refine r_iload rfl dX3_becomeCut_51 rfl ?_
      refine r_iconst (v := (-1)) rfl dX3_becomeCut_53 (by decide) ?_
      refine r_ixor rfl dX3_becomeCut_54 ?_
      refine r_iand rfl dX3_becomeCut_55 ?_
      refine r_ior rfl dX3_becomeCut_56 ?_
      refine r_topi (fun x57 e58 => ?_)
      refine r_istore (ls' := [some (.ref (100 + 8 * i)), some (.ref (100 + 8 * j)), some (.ref (100 + 8 * m)), some (.int c), some (.int x51), some (.int x55), some (.int x57)]) rfl dX3_becomeCut_57 (Nat.le_of_ble_eq_true rfl) rfl ?_
      refine r_iload rfl dX3_becomeCut_59 rfl ?_
      refine r_iload rfl dX3_becomeCut_61 rfl ?_
      refine r_iand rfl dX3_becomeCut_63 ?_
      refine r_if_eq (tgt := 69) rfl rfl dX3_becomeCut_64 (fun c59 => ?_) (fun c59 => ?_)
      · refine r_aload_n rfl dX3_becomeCut_69 rfl ?_
        refine r_iload rfl dX3_becomeCut_70 rfl ?_
        refine e_put 1 (fs' := [.ref (101 + 8 * i), .int x55, .int t, .int o, .int a, .int b, .int l]) rfl dX3_becomeCut_72 (show 2 ≤ 100 + 8 * i ∧ 100 + 8 * i < 434 by omega) hS (KM_rf (Mod := [100 + 8 * i]) _) (List.mem_singleton.mpr rfl) fl (fp_X3_28 rfl _) (Nat.le_of_ble_eq_true rfl) rfl (fun h60 hS61 _ hN62 f63 => ?_)
        have hk64 : KX [100 + 8 * i] h h60 := KX_M (fun _ z => z) hN62
        have hF65 := KX_tr (KX_rf (l := [100 + 8 * i]) h) (KX_sb (l := [100 + 8 * i]) (by first | decide | exact fun _ z => z | simp) hk64)
        have f66 : h60 (100 + 8 * j) = .inr (3, [.ref (101 + 8 * j), .int p1, .int t1, .int o1, .int a1, .int b1, .int l1]) := (hk64 _ (by simp <;> omega) (nSP_ln (i := j) (by omega))).trans fj
        have f67 : h60 (100 + 8 * m) = .inr (3, [.ref (101 + 8 * m), .int p2, .int t2, .int o2, .int a2, .int b2, .int l2]) := (hk64 _ (by simp <;> omega) (nSP_ln (i := m) (by omega))).trans fm
        refine r_aload_n rfl dX3_becomeCut_75 rfl ?_
        refine r_iload rfl dX3_becomeCut_76 rfl ?_
        refine e_put 2 (fs' := [.ref (101 + 8 * i), .int x55, .int x57, .int o, .int a, .int b, .int l]) rfl dX3_becomeCut_78 (show 2 ≤ 100 + 8 * i ∧ 100 + 8 * i < 434 by omega) hS61 (KM_rf (Mod := [100 + 8 * i]) _) (List.mem_singleton.mpr rfl) f63 (fp_X3_31 rfl _) (Nat.le_of_ble_eq_true rfl) rfl (fun h68 hS69 _ hN70 f71 => ?_)
        have hk72 : KX [100 + 8 * i] h60 h68 := KX_M (fun _ z => z) hN70
        have hF73 := KX_tr hF65 (KX_sb (l := [100 + 8 * i]) (by first | decide | exact fun _ z => z | simp) hk72)
        have f74 : h68 (100 + 8 * j) = .inr (3, [.ref (101 + 8 * j), .int p1, .int t1, .int o1, .int a1, .int b1, .int l1]) := (hk72 _ (by simp <;> omega) (nSP_ln (i := j) (by omega))).trans f66
        have f75 : h68 (100 + 8 * m) = .inr (3, [.ref (101 + 8 * m), .int p2, .int t2, .int o2, .int a2, .int b2, .int l2]) := (hk72 _ (by simp <;> omega) (nSP_ln (i := m) (by omega))).trans f67
        refine r_iconst (v := 1) rfl dX3_becomeCut_81 (by decide) ?_
        subst e58
        subst e56
        subst e52
        exact r_ret dX3_becomeCut_82 (rt_z rfl (Or.inr rfl)) ⟨rfl, hS69, hF73, Or.inl ⟨⟨c53, c54, c59⟩, f71, rfl⟩⟩
      · refine r_iconst (v := 0) rfl dX3_becomeCut_67 (by decide) ?_
        subst e58
        subst e56
        subst e52
        exact r_ret dX3_becomeCut_68 (rt_z rfl (Or.inl rfl)) ⟨rfl, hS, (KX_rf (l := [100 + 8 * i]) h), Or.inr ⟨fun z => c59 z.2.2, fl, rfl⟩⟩
    · refine r_iconst (v := 0) rfl dX3_becomeCut_25 (by decide) ?_
      subst e52
      exact r_ret dX3_becomeCut_26 (rt_z rfl (Or.inl rfl)) ⟨rfl, hS, (KX_rf (l := [100 + 8 * i]) h), Or.inr ⟨fun z => z.2.1 c54, fl, rfl⟩⟩
set_option maxRecDepth 20000 in
set_option maxHeartbeats 1000000 in
theorem x_gw_z {xs : Nat → Int32} {L d : Nat} {h : ev_H} {h0 : ev_H} {i q k : Nat} {p t o a b l m : Int32} {u : Option Value} (hS : SH h) (hi : i < 40) (hq : wsAt q) (hF : KX [] h0 h) (fl : h (100 + 8 * i) = cLn i p t o a b l) (hk : k = 8) : EV xs L (d + 2) 0 0 M_X3_gatherWorlds 434 h 6 [some (.ref (100 + 8 * i)), some (.ref q), some (.int m), some (.int (nI k)), u] [] (fun sz' h' r => sz' = 434 ∧ SH h' ∧ KX [] h0 h' ∧ r = []) := by
  refine r_iload_n rfl dX3_gatherWorlds_6 rfl ?_
  refine r_bipush (v := 8) rfl dX3_gatherWorlds_7 (by decide) ?_
  refine r_icmp_ge (tgt := 57) rfl rfl dX3_gatherWorlds_9 (fun _ => ?_) (fun zc => absurd (show (8 : Int32) ≤ nI k from nI_le (a := 8) (b := k) (by omega) (by omega)) zc)
  exact r_ret dX3_gatherWorlds_57 (rt_v rfl) ⟨rfl, hS, hF, rfl⟩
set_option maxRecDepth 20000 in
set_option maxHeartbeats 1000000 in
theorem x_gw_s {xs : Nat → Int32} {L d : Nat} {h : ev_H} {h0 : ev_H} {i q k : Nat} {p t o a b l m : Int32} {u : Option Value} (hS : SH h) (hi : i < 40) (hq : wsAt q) (hF : KX [] h0 h) (fl : h (100 + 8 * i) = cLn i p t o a b l) (hk : k < 8) (ih : ∀ (h' : ev_H) (u' : Option Value), SH h' → KX [] h0 h' → h' (100 + 8 * i) = cLn i p t o a b l → EV xs L (d + 2) 0 0 M_X3_gatherWorlds 434 h' 6 [some (.ref (100 + 8 * i)), some (.ref q), some (.int m), some (.int (nI (k + 1))), u'] [] (fun sz' h' r => sz' = 434 ∧ SH h' ∧ KX [] h0 h' ∧ r = [])) : EV xs L (d + 2) 0 0 M_X3_gatherWorlds 434 h 6 [some (.ref (100 + 8 * i)), some (.ref q), some (.int m), some (.int (nI k)), u] [] (fun sz' h' r => sz' = 434 ∧ SH h' ∧ KX [] h0 h' ∧ r = []) := by
  refine r_iload_n rfl dX3_gatherWorlds_6 rfl ?_
  refine r_bipush (v := 8) rfl dX3_gatherWorlds_7 (by decide) ?_
  refine r_icmp_ge (tgt := 57) rfl rfl dX3_gatherWorlds_9 (fun zc => absurd zc (show ¬ (8 : Int32) ≤ nI k from nI_ge (a := k) (b := 8) (by omega) (by decide))) (fun _ => ?_)
  refine r_iconst (v := 1) rfl dX3_gatherWorlds_12 (by decide) ?_
  refine r_iload_n rfl dX3_gatherWorlds_13 rfl ?_
  refine r_ishl rfl dX3_gatherWorlds_14 ?_
  refine r_iload_n rfl dX3_gatherWorlds_15 rfl ?_
  refine r_iand rfl dX3_gatherWorlds_16 ?_
  refine r_topi (fun x51 e52 => ?_)
  refine r_istore (ls' := [some (.ref (100 + 8 * i)), some (.ref q), some (.int m), some (.int (nI k)), some (.int x51)]) rfl dX3_gatherWorlds_17 (Nat.le_of_ble_eq_true rfl) rfl ?_
  refine r_aload_n rfl dX3_gatherWorlds_19 rfl ?_
  refine r_getv 1 rfl dX3_gatherWorlds_20 (show 2 ≤ 100 + 8 * i ∧ 100 + 8 * i < 434 by omega) fl fl_X3_28 rfl ?_
  refine r_iload rfl dX3_gatherWorlds_23 rfl ?_
  refine r_iand rfl dX3_gatherWorlds_25 ?_
  refine r_if_eq (tgt := 35) rfl rfl dX3_gatherWorlds_26 (fun c53 => ?_) (fun c53 => ?_)
  · refine r_aload_n rfl dX3_gatherWorlds_35 rfl ?_
    refine r_getv 2 rfl dX3_gatherWorlds_36 (show 2 ≤ 100 + 8 * i ∧ 100 + 8 * i < 434 by omega) fl fl_X3_31 rfl ?_
    refine r_iload rfl dX3_gatherWorlds_39 rfl ?_
    refine r_iand rfl dX3_gatherWorlds_41 ?_
    refine r_if_eq (tgt := 51) rfl rfl dX3_gatherWorlds_42 (fun c54 => ?_) (fun c54 => ?_)
    · refine r_iinc (y := nI (k + 1)) (ls' := [some (.ref (100 + 8 * i)), some (.ref q), some (.int m), some (.int (nI (k + 1))), some (.int x51)]) rfl dX3_gatherWorlds_51 rfl (nI_1 k) (Nat.le_of_ble_eq_true rfl) rfl ?_
      refine r_goto (pc' := 6) rfl dX3_gatherWorlds_54 ?_
      exact ih h _ hS hF fl
    · refine r_aload_n rfl dX3_gatherWorlds_45 rfl ?_
      refine r_iload_n rfl dX3_gatherWorlds_46 rfl ?_
      refine r_iconst (v := 0) rfl dX3_gatherWorlds_47 (by decide) ?_
      obtain ⟨g55, hw56⟩ := hS.ws hq
      refine cl_X3_46 rfl rfl dX3_gatherWorlds_48 (show _ ∧ _ from ⟨(hq).2.2.1, Nat.lt_of_succ_lt (hq).2.2.2⟩).1 (show _ ∧ _ from ⟨(hq).2.2.1, Nat.lt_of_succ_lt (hq).2.2.2⟩).2 hw56.2.2.1 (Nat.le_of_ble_eq_true rfl) (s_X10_joinWhere hw56) ?_
      rintro _ h57 _ ⟨rfl, eh58, rfl⟩
      have hS59 := SH_p hS hq eh58
      have hk60 : KX [] h h57 := KX_p hq eh58
      have hF61 := KX_tr hF (KX_sb (l := []) (by first | decide | exact fun _ z => z | simp) hk60)
      have f62 : h57 (100 + 8 * i) = .inr (3, [.ref (101 + 8 * i), .int p, .int t, .int o, .int a, .int b, .int l]) := (hk60 _ (by simp <;> omega) (nSP_ln (i := i) (by omega))).trans fl
      refine r_iinc (y := nI (k + 1)) (ls' := [some (.ref (100 + 8 * i)), some (.ref q), some (.int m), some (.int (nI (k + 1))), some (.int x51)]) rfl dX3_gatherWorlds_51 rfl (nI_1 k) (Nat.le_of_ble_eq_true rfl) rfl ?_
      refine r_goto (pc' := 6) rfl dX3_gatherWorlds_54 ?_
      exact ih h57 _ hS59 hF61 f62
  · refine r_aload_n rfl dX3_gatherWorlds_29 rfl ?_
    refine r_iload_n rfl dX3_gatherWorlds_30 rfl ?_
    refine r_iconst (v := 1) rfl dX3_gatherWorlds_31 (by decide) ?_
    obtain ⟨g63, hw64⟩ := hS.ws hq
    refine cl_X3_46 rfl rfl dX3_gatherWorlds_32 (show _ ∧ _ from ⟨(hq).2.2.1, Nat.lt_of_succ_lt (hq).2.2.2⟩).1 (show _ ∧ _ from ⟨(hq).2.2.1, Nat.lt_of_succ_lt (hq).2.2.2⟩).2 hw64.2.2.1 (Nat.le_of_ble_eq_true rfl) (s_X10_joinWhere hw64) ?_
    rintro _ h65 _ ⟨rfl, eh66, rfl⟩
    have hS67 := SH_p hS hq eh66
    have hk68 : KX [] h h65 := KX_p hq eh66
    have hF69 := KX_tr hF (KX_sb (l := []) (by first | decide | exact fun _ z => z | simp) hk68)
    have f70 : h65 (100 + 8 * i) = .inr (3, [.ref (101 + 8 * i), .int p, .int t, .int o, .int a, .int b, .int l]) := (hk68 _ (by simp <;> omega) (nSP_ln (i := i) (by omega))).trans fl
    refine r_aload_n rfl dX3_gatherWorlds_35 rfl ?_
    refine r_getv 2 rfl dX3_gatherWorlds_36 (show 2 ≤ 100 + 8 * i ∧ 100 + 8 * i < 434 by omega) f70 fl_X3_31 rfl ?_
    refine r_iload rfl dX3_gatherWorlds_39 rfl ?_
    refine r_iand rfl dX3_gatherWorlds_41 ?_
    refine r_if_eq (tgt := 51) rfl rfl dX3_gatherWorlds_42 (fun c71 => ?_) (fun c71 => ?_)
    · refine r_iinc (y := nI (k + 1)) (ls' := [some (.ref (100 + 8 * i)), some (.ref q), some (.int m), some (.int (nI (k + 1))), some (.int x51)]) rfl dX3_gatherWorlds_51 rfl (nI_1 k) (Nat.le_of_ble_eq_true rfl) rfl ?_
      refine r_goto (pc' := 6) rfl dX3_gatherWorlds_54 ?_
      exact ih h65 _ hS67 hF69 f70
    · refine r_aload_n rfl dX3_gatherWorlds_45 rfl ?_
      refine r_iload_n rfl dX3_gatherWorlds_46 rfl ?_
      refine r_iconst (v := 0) rfl dX3_gatherWorlds_47 (by decide) ?_
      obtain ⟨g72, hw73⟩ := hS67.ws hq
      refine cl_X3_46 rfl rfl dX3_gatherWorlds_48 (show _ ∧ _ from ⟨(hq).2.2.1, Nat.lt_of_succ_lt (hq).2.2.2⟩).1 (show _ ∧ _ from ⟨(hq).2.2.1, Nat.lt_of_succ_lt (hq).2.2.2⟩).2 hw73.2.2.1 (Nat.le_of_ble_eq_true rfl) (s_X10_joinWhere hw73) ?_
      rintro _ h74 _ ⟨rfl, eh75, rfl⟩
      have hS76 := SH_p hS67 hq eh75
      have hk77 : KX [] h65 h74 := KX_p hq eh75
      have hF78 := KX_tr hF69 (KX_sb (l := []) (by first | decide | exact fun _ z => z | simp) hk77)
      have f79 : h74 (100 + 8 * i) = .inr (3, [.ref (101 + 8 * i), .int p, .int t, .int o, .int a, .int b, .int l]) := (hk77 _ (by simp <;> omega) (nSP_ln (i := i) (by omega))).trans f70
      refine r_iinc (y := nI (k + 1)) (ls' := [some (.ref (100 + 8 * i)), some (.ref q), some (.int m), some (.int (nI (k + 1))), some (.int x51)]) rfl dX3_gatherWorlds_51 rfl (nI_1 k) (Nat.le_of_ble_eq_true rfl) rfl ?_
      refine r_goto (pc' := 6) rfl dX3_gatherWorlds_54 ?_
      exact ih h74 _ hS76 hF78 f79
theorem x_gw {xs : Nat → Int32} {L d : Nat} {h0 : ev_H} {i q : Nat} {p t o a b l m : Int32} (hi : i < 40) (hq : wsAt q) : ∀ (n k : Nat) (h : ev_H) (u : Option Value), k + n = 8 → SH h → KX [] h0 h → h (100 + 8 * i) = cLn i p t o a b l → EV xs L (d + 2) 0 0 M_X3_gatherWorlds 434 h 6 [some (.ref (100 + 8 * i)), some (.ref q), some (.int m), some (.int (nI k)), u] [] (fun sz' h' r => sz' = 434 ∧ SH h' ∧ KX [] h0 h' ∧ r = []) := by
  intro n
  induction n with
  | zero => intro k h u hk hS hF fl; exact x_gw_z hS hi hq hF fl (by omega)
  | succ n ih => intro k h u hk hS hF fl; exact x_gw_s hS hi hq hF fl (by omega) (fun h' u' q1 q2 q3 => ih (k + 1) h' u' (by omega) q1 q2 q3)
set_option maxRecDepth 20000 in
set_option maxHeartbeats 1000000 in
theorem x_X3_gatherWorlds {xs : Nat → Int32} {L d : Nat} {h : ev_H} {i q : Nat} {p t o a b l m : Int32} (hS : SH h) (hi : i < 40) (hq : wsAt q) (fl : h (100 + 8 * i) = cLn i p t o a b l) : EV xs L (d + 2) 0 0 M_X3_gatherWorlds 434 h 0 [some (.ref (100 + 8 * i)), some (.ref q), some (.int m), none, none] [] (fun sz' h' r => sz' = 434 ∧ SH h' ∧ KX [] h h' ∧ r = []) := by
  refine r_aload_n rfl dX3_gatherWorlds_0 rfl ?_
  obtain ⟨g51, hw52⟩ := hS.ws hq
  refine cl_X3_43 rfl rfl dX3_gatherWorlds_1 (show _ ∧ _ from ⟨(hq).2.2.1, Nat.lt_of_succ_lt (hq).2.2.2⟩).1 (show _ ∧ _ from ⟨(hq).2.2.1, Nat.lt_of_succ_lt (hq).2.2.2⟩).2 hw52.2.2.1 (Nat.le_of_ble_eq_true rfl) (s_X10_wipe hw52) ?_
  rintro _ h53 _ ⟨rfl, eh54, rfl⟩
  have hS55 := SH_p hS hq eh54
  have hk56 : KX [] h h53 := KX_p hq eh54
  have hF57 := KX_tr (KX_rf (l := []) h) (KX_sb (l := []) (by first | decide | exact fun _ z => z | simp) hk56)
  have f58 : h53 (100 + 8 * i) = .inr (3, [.ref (101 + 8 * i), .int p, .int t, .int o, .int a, .int b, .int l]) := (hk56 _ (by simp <;> omega) (nSP_ln (i := i) (by omega))).trans fl
  refine r_iconst (v := 0) rfl dX3_gatherWorlds_4 (by decide) ?_
  refine r_istore_n (ls' := [some (.ref (100 + 8 * i)), some (.ref q), some (.int m), some (.int 0), none]) rfl dX3_gatherWorlds_5 (Nat.le_of_ble_eq_true rfl) rfl ?_
  exact x_gw hi hq 8 0 h53 _ rfl hS55 hF57 f58
set_option maxRecDepth 20000 in
set_option maxHeartbeats 1000000 in
theorem x_X3_sayAsClause {xs : Nat → Int32} {L d : Nat} {h : ev_H} {i : Nat} {p t o a b l : Int32} {m : Int32} (hS : SH h) (hi : i < 40) (fl : h (100 + 8 * i) = cLn i p t o a b l) : EV xs L (d + 3) 0 0 M_X3_sayAsClause 434 h 0 [some (.ref (100 + 8 * i)), some (.int m)] [] (fun sz' h' r => sz' = 434 ∧ SH h' ∧ KX [] h h' ∧ r = []) := by
  refine r_aload_n rfl dX3_sayAsClause_0 rfl ?_
  refine r_getv 3 rfl dX3_sayAsClause_1 (show 2 ≤ 100 + 8 * i ∧ 100 + 8 * i < 434 by omega) fl fl_X3_34 rfl ?_
  refine r_iconst (v := 1) rfl dX3_sayAsClause_4 (by decide) ?_
  refine r_icmp_ne (tgt := 40) rfl rfl dX3_sayAsClause_5 (fun c51 => ?_) (fun c51 => ?_)
  · refine r_aload_n rfl dX3_sayAsClause_40 rfl ?_
    refine r_getv 0 rfl dX3_sayAsClause_41 (show 2 ≤ 100 + 8 * i ∧ 100 + 8 * i < 434 by omega) fl fl_X3_11 rfl ?_
    refine r_iconst (v := 0) rfl dX3_sayAsClause_44 (by decide) ?_
    refine r_aald (jn := 0) (v := .ref (102 + 8 * i + 2 * 0)) rfl dX3_sayAsClause_45 (show 2 ≤ 101 + 8 * i ∧ 101 + 8 * i < 434 by omega).1 (show 2 ≤ 101 + 8 * i ∧ 101 + 8 * i < 434 by omega).2 (hS.say (i := i) (by omega)) (by decide) (vp_in_nI (n := 0) (by omega) (by decide)) (nI_clamp (n := 0) (by omega)) (by show va_rf (if _ < _ then _ else _) = _; rw [if_pos (show 0 < 3 by omega)]; rfl) ?_
    obtain ⟨g52, hw53⟩ := hS.ws (wsAt_ln (i := i) (w := 0) (by omega) (by omega))
    refine cl_X3_54 rfl rfl dX3_sayAsClause_46 (show _ ∧ _ from ⟨((wsAt_ln (i := i) (w := 0) (by omega) (by omega))).2.2.1, Nat.lt_of_succ_lt ((wsAt_ln (i := i) (w := 0) (by omega) (by omega))).2.2.2⟩).1 (show _ ∧ _ from ⟨((wsAt_ln (i := i) (w := 0) (by omega) (by omega))).2.2.1, Nat.lt_of_succ_lt ((wsAt_ln (i := i) (w := 0) (by omega) (by omega))).2.2.2⟩).2 hw53.2.2.1 (Nat.le_of_ble_eq_true rfl) (s_X10_fill hw53) ?_
    rintro _ h54 _ ⟨rfl, eh55, rfl⟩
    have hS56 := SH_p hS (wsAt_ln (i := i) (w := 0) (by omega) (by omega)) eh55
    have hk57 : KX [] h h54 := KX_p (wsAt_ln (i := i) (w := 0) (by omega) (by omega)) eh55
    have hF58 := KX_tr (KX_rf (l := []) h) (KX_sb (l := []) (by first | decide | exact fun _ z => z | simp) hk57)
    have f59 : h54 (100 + 8 * i) = .inr (3, [.ref (101 + 8 * i), .int p, .int t, .int o, .int a, .int b, .int l]) := (hk57 _ (by simp <;> omega) (nSP_ln (i := i) (by omega))).trans fl
    refine r_aload_n rfl dX3_sayAsClause_49 rfl ?_
    refine r_aload_n rfl dX3_sayAsClause_50 rfl ?_
    refine r_getv 0 rfl dX3_sayAsClause_51 (show 2 ≤ 100 + 8 * i ∧ 100 + 8 * i < 434 by omega) f59 fl_X3_11 rfl ?_
    refine r_iconst (v := 1) rfl dX3_sayAsClause_54 (by decide) ?_
    refine r_aald (jn := 1) (v := .ref (102 + 8 * i + 2 * 1)) rfl dX3_sayAsClause_55 (show 2 ≤ 101 + 8 * i ∧ 101 + 8 * i < 434 by omega).1 (show 2 ≤ 101 + 8 * i ∧ 101 + 8 * i < 434 by omega).2 (hS56.say (i := i) (by omega)) (by decide) (vp_in_nI (n := 1) (by omega) (by decide)) (nI_clamp (n := 1) (by omega)) (by show va_rf (if _ < _ then _ else _) = _; rw [if_pos (show 1 < 3 by omega)]; rfl) ?_
    refine r_iload_n rfl dX3_sayAsClause_56 rfl ?_
    refine cl_X3_50 rfl rfl dX3_sayAsClause_57 (show 2 ≤ 100 + 8 * i ∧ 100 + 8 * i < 434 by omega).1 (show 2 ≤ 100 + 8 * i ∧ 100 + 8 * i < 434 by omega).2 f59 (Nat.le_of_ble_eq_true rfl) (x_X3_gatherWorlds hS56 (i := i) (by omega) (wsAt_ln (i := i) (w := 1) (by omega) (by omega)) f59) ?_
    rintro _ h60 _ ⟨rfl, hS61, hk62, rfl⟩
    have hF63 := KX_tr hF58 (KX_sb (l := []) (by first | decide | exact fun _ z => z | simp) hk62)
    have f64 : h60 (100 + 8 * i) = .inr (3, [.ref (101 + 8 * i), .int p, .int t, .int o, .int a, .int b, .int l]) := (hk62 _ (by simp <;> omega) (nSP_ln (i := i) (by omega))).trans f59
    refine r_aload_n rfl dX3_sayAsClause_60 rfl ?_
    refine r_getv 0 rfl dX3_sayAsClause_61 (show 2 ≤ 100 + 8 * i ∧ 100 + 8 * i < 434 by omega) f64 fl_X3_11 rfl ?_
    refine r_iconst (v := 1) rfl dX3_sayAsClause_64 (by decide) ?_
    refine r_aald (jn := 1) (v := .ref (102 + 8 * i + 2 * 1)) rfl dX3_sayAsClause_65 (show 2 ≤ 101 + 8 * i ∧ 101 + 8 * i < 434 by omega).1 (show 2 ≤ 101 + 8 * i ∧ 101 + 8 * i < 434 by omega).2 (hS61.say (i := i) (by omega)) (by decide) (vp_in_nI (n := 1) (by omega) (by decide)) (nI_clamp (n := 1) (by omega)) (by show va_rf (if _ < _ then _ else _) = _; rw [if_pos (show 1 < 3 by omega)]; rfl) ?_
    obtain ⟨g65, hw66⟩ := hS61.ws (wsAt_ln (i := i) (w := 1) (by omega) (by omega))
    refine cl_X3_57 rfl rfl dX3_sayAsClause_66 (show _ ∧ _ from ⟨((wsAt_ln (i := i) (w := 1) (by omega) (by omega))).2.2.1, Nat.lt_of_succ_lt ((wsAt_ln (i := i) (w := 1) (by omega) (by omega))).2.2.2⟩).1 (show _ ∧ _ from ⟨((wsAt_ln (i := i) (w := 1) (by omega) (by omega))).2.2.1, Nat.lt_of_succ_lt ((wsAt_ln (i := i) (w := 1) (by omega) (by omega))).2.2.2⟩).2 hw66.2.2.1 (Nat.le_of_ble_eq_true rfl) (s_X10_turn hw66) ?_
    rintro _ h67 _ ⟨rfl, eh68, rfl⟩
    have hS69 := SH_p hS61 (wsAt_ln (i := i) (w := 1) (by omega) (by omega)) eh68
    have hk70 : KX [] h60 h67 := KX_p (wsAt_ln (i := i) (w := 1) (by omega) (by omega)) eh68
    have hF71 := KX_tr hF63 (KX_sb (l := []) (by first | decide | exact fun _ z => z | simp) hk70)
    have f72 : h67 (100 + 8 * i) = .inr (3, [.ref (101 + 8 * i), .int p, .int t, .int o, .int a, .int b, .int l]) := (hk70 _ (by simp <;> omega) (nSP_ln (i := i) (by omega))).trans f64
    refine r_aload_n rfl dX3_sayAsClause_69 rfl ?_
    refine r_getv 0 rfl dX3_sayAsClause_70 (show 2 ≤ 100 + 8 * i ∧ 100 + 8 * i < 434 by omega) f72 fl_X3_11 rfl ?_
    refine r_iconst (v := 2) rfl dX3_sayAsClause_73 (by decide) ?_
    refine r_aald (jn := 2) (v := .ref (102 + 8 * i + 2 * 2)) rfl dX3_sayAsClause_74 (show 2 ≤ 101 + 8 * i ∧ 101 + 8 * i < 434 by omega).1 (show 2 ≤ 101 + 8 * i ∧ 101 + 8 * i < 434 by omega).2 (hS69.say (i := i) (by omega)) (by decide) (vp_in_nI (n := 2) (by omega) (by decide)) (nI_clamp (n := 2) (by omega)) (by show va_rf (if _ < _ then _ else _) = _; rw [if_pos (show 2 < 3 by omega)]; rfl) ?_
    obtain ⟨g73, hw74⟩ := hS69.ws (wsAt_ln (i := i) (w := 2) (by omega) (by omega))
    refine cl_X3_54 rfl rfl dX3_sayAsClause_75 (show _ ∧ _ from ⟨((wsAt_ln (i := i) (w := 2) (by omega) (by omega))).2.2.1, Nat.lt_of_succ_lt ((wsAt_ln (i := i) (w := 2) (by omega) (by omega))).2.2.2⟩).1 (show _ ∧ _ from ⟨((wsAt_ln (i := i) (w := 2) (by omega) (by omega))).2.2.1, Nat.lt_of_succ_lt ((wsAt_ln (i := i) (w := 2) (by omega) (by omega))).2.2.2⟩).2 hw74.2.2.1 (Nat.le_of_ble_eq_true rfl) (s_X10_fill hw74) ?_
    rintro _ h75 _ ⟨rfl, eh76, rfl⟩
    have hS77 := SH_p hS69 (wsAt_ln (i := i) (w := 2) (by omega) (by omega)) eh76
    have hk78 : KX [] h67 h75 := KX_p (wsAt_ln (i := i) (w := 2) (by omega) (by omega)) eh76
    have hF79 := KX_tr hF71 (KX_sb (l := []) (by first | decide | exact fun _ z => z | simp) hk78)
    have f80 : h75 (100 + 8 * i) = .inr (3, [.ref (101 + 8 * i), .int p, .int t, .int o, .int a, .int b, .int l]) := (hk78 _ (by simp <;> omega) (nSP_ln (i := i) (by omega))).trans f72
    exact r_ret dX3_sayAsClause_78 (rt_v rfl) ⟨rfl, hS77, hF79, rfl⟩
  · refine r_aload_n rfl dX3_sayAsClause_8 rfl ?_
    refine r_aload_n rfl dX3_sayAsClause_9 rfl ?_
    refine r_getv 0 rfl dX3_sayAsClause_10 (show 2 ≤ 100 + 8 * i ∧ 100 + 8 * i < 434 by omega) fl fl_X3_11 rfl ?_
    refine r_iconst (v := 0) rfl dX3_sayAsClause_13 (by decide) ?_
    refine r_aald (jn := 0) (v := .ref (102 + 8 * i + 2 * 0)) rfl dX3_sayAsClause_14 (show 2 ≤ 101 + 8 * i ∧ 101 + 8 * i < 434 by omega).1 (show 2 ≤ 101 + 8 * i ∧ 101 + 8 * i < 434 by omega).2 (hS.say (i := i) (by omega)) (by decide) (vp_in_nI (n := 0) (by omega) (by decide)) (nI_clamp (n := 0) (by omega)) (by show va_rf (if _ < _ then _ else _) = _; rw [if_pos (show 0 < 3 by omega)]; rfl) ?_
    refine r_iload_n rfl dX3_sayAsClause_15 rfl ?_
    refine cl_X3_50 rfl rfl dX3_sayAsClause_16 (show 2 ≤ 100 + 8 * i ∧ 100 + 8 * i < 434 by omega).1 (show 2 ≤ 100 + 8 * i ∧ 100 + 8 * i < 434 by omega).2 fl (Nat.le_of_ble_eq_true rfl) (x_X3_gatherWorlds hS (i := i) (by omega) (wsAt_ln (i := i) (w := 0) (by omega) (by omega)) fl) ?_
    rintro _ h81 _ ⟨rfl, hS82, hk83, rfl⟩
    have hF84 := KX_tr (KX_rf (l := []) h) (KX_sb (l := []) (by first | decide | exact fun _ z => z | simp) hk83)
    have f85 : h81 (100 + 8 * i) = .inr (3, [.ref (101 + 8 * i), .int p, .int t, .int o, .int a, .int b, .int l]) := (hk83 _ (by simp <;> omega) (nSP_ln (i := i) (by omega))).trans fl
    refine r_aload_n rfl dX3_sayAsClause_19 rfl ?_
    refine r_getv 0 rfl dX3_sayAsClause_20 (show 2 ≤ 100 + 8 * i ∧ 100 + 8 * i < 434 by omega) f85 fl_X3_11 rfl ?_
    refine r_iconst (v := 1) rfl dX3_sayAsClause_23 (by decide) ?_
    refine r_aald (jn := 1) (v := .ref (102 + 8 * i + 2 * 1)) rfl dX3_sayAsClause_24 (show 2 ≤ 101 + 8 * i ∧ 101 + 8 * i < 434 by omega).1 (show 2 ≤ 101 + 8 * i ∧ 101 + 8 * i < 434 by omega).2 (hS82.say (i := i) (by omega)) (by decide) (vp_in_nI (n := 1) (by omega) (by decide)) (nI_clamp (n := 1) (by omega)) (by show va_rf (if _ < _ then _ else _) = _; rw [if_pos (show 1 < 3 by omega)]; rfl) ?_
    obtain ⟨g86, hw87⟩ := hS82.ws (wsAt_ln (i := i) (w := 1) (by omega) (by omega))
    refine cl_X3_43 rfl rfl dX3_sayAsClause_25 (show _ ∧ _ from ⟨((wsAt_ln (i := i) (w := 1) (by omega) (by omega))).2.2.1, Nat.lt_of_succ_lt ((wsAt_ln (i := i) (w := 1) (by omega) (by omega))).2.2.2⟩).1 (show _ ∧ _ from ⟨((wsAt_ln (i := i) (w := 1) (by omega) (by omega))).2.2.1, Nat.lt_of_succ_lt ((wsAt_ln (i := i) (w := 1) (by omega) (by omega))).2.2.2⟩).2 hw87.2.2.1 (Nat.le_of_ble_eq_true rfl) (s_X10_wipe hw87) ?_
    rintro _ h88 _ ⟨rfl, eh89, rfl⟩
    have hS90 := SH_p hS82 (wsAt_ln (i := i) (w := 1) (by omega) (by omega)) eh89
    have hk91 : KX [] h81 h88 := KX_p (wsAt_ln (i := i) (w := 1) (by omega) (by omega)) eh89
    have hF92 := KX_tr hF84 (KX_sb (l := []) (by first | decide | exact fun _ z => z | simp) hk91)
    have f93 : h88 (100 + 8 * i) = .inr (3, [.ref (101 + 8 * i), .int p, .int t, .int o, .int a, .int b, .int l]) := (hk91 _ (by simp <;> omega) (nSP_ln (i := i) (by omega))).trans f85
    refine r_aload_n rfl dX3_sayAsClause_28 rfl ?_
    refine r_getv 0 rfl dX3_sayAsClause_29 (show 2 ≤ 100 + 8 * i ∧ 100 + 8 * i < 434 by omega) f93 fl_X3_11 rfl ?_
    refine r_iconst (v := 2) rfl dX3_sayAsClause_32 (by decide) ?_
    refine r_aald (jn := 2) (v := .ref (102 + 8 * i + 2 * 2)) rfl dX3_sayAsClause_33 (show 2 ≤ 101 + 8 * i ∧ 101 + 8 * i < 434 by omega).1 (show 2 ≤ 101 + 8 * i ∧ 101 + 8 * i < 434 by omega).2 (hS90.say (i := i) (by omega)) (by decide) (vp_in_nI (n := 2) (by omega) (by decide)) (nI_clamp (n := 2) (by omega)) (by show va_rf (if _ < _ then _ else _) = _; rw [if_pos (show 2 < 3 by omega)]; rfl) ?_
    obtain ⟨g94, hw95⟩ := hS90.ws (wsAt_ln (i := i) (w := 2) (by omega) (by omega))
    refine cl_X3_43 rfl rfl dX3_sayAsClause_34 (show _ ∧ _ from ⟨((wsAt_ln (i := i) (w := 2) (by omega) (by omega))).2.2.1, Nat.lt_of_succ_lt ((wsAt_ln (i := i) (w := 2) (by omega) (by omega))).2.2.2⟩).1 (show _ ∧ _ from ⟨((wsAt_ln (i := i) (w := 2) (by omega) (by omega))).2.2.1, Nat.lt_of_succ_lt ((wsAt_ln (i := i) (w := 2) (by omega) (by omega))).2.2.2⟩).2 hw95.2.2.1 (Nat.le_of_ble_eq_true rfl) (s_X10_wipe hw95) ?_
    rintro _ h96 _ ⟨rfl, eh97, rfl⟩
    have hS98 := SH_p hS90 (wsAt_ln (i := i) (w := 2) (by omega) (by omega)) eh97
    have hk99 : KX [] h88 h96 := KX_p (wsAt_ln (i := i) (w := 2) (by omega) (by omega)) eh97
    have hF100 := KX_tr hF92 (KX_sb (l := []) (by first | decide | exact fun _ z => z | simp) hk99)
    have f101 : h96 (100 + 8 * i) = .inr (3, [.ref (101 + 8 * i), .int p, .int t, .int o, .int a, .int b, .int l]) := (hk99 _ (by simp <;> omega) (nSP_ln (i := i) (by omega))).trans f93
    refine r_goto (pc' := 78) rfl dX3_sayAsClause_37 ?_
    exact r_ret dX3_sayAsClause_78 (rt_v rfl) ⟨rfl, hS98, hF100, rfl⟩
set_option maxRecDepth 20000 in
set_option maxHeartbeats 1000000 in
theorem x_X3_sayAsCut {xs : Nat → Int32} {L d : Nat} {h : ev_H} {i j m : Nat} {p t o a b l p1 t1 o1 a1 b1 l1 p2 t2 o2 a2 b2 l2 c : Int32} (hS : SH h) (hi : i < 40) (fl : h (100 + 8 * i) = cLn i p t o a b l) (hj : j < 40) (hm : m < 40) (fj : h (100 + 8 * j) = cLn j p1 t1 o1 a1 b1 l1) (fm : h (100 + 8 * m) = cLn m p2 t2 o2 a2 b2 l2) (hij : i ≠ j) (him : i ≠ m) : EV xs L (d + 2) 0 0 M_X3_sayAsCut 434 h 0 [some (.ref (100 + 8 * i)), some (.ref (100 + 8 * j)), some (.ref (100 + 8 * m)), some (.int c), none, none, none] [] (fun sz' h' r => sz' = 434 ∧ SH h' ∧ KX [] h h' ∧ r = []) := by
  refine r_iconst (v := 0) rfl dX3_sayAsCut_0 (by decide) ?_
  refine r_istore (ls' := [some (.ref (100 + 8 * i)), some (.ref (100 + 8 * j)), some (.ref (100 + 8 * m)), some (.int c), some (.int 0), none, none]) rfl dX3_sayAsCut_1 (Nat.le_of_ble_eq_true rfl) rfl ?_
  refine r_iload rfl dX3_sayAsCut_3 rfl ?_
  refine r_iconst (v := 3) rfl dX3_sayAsCut_5 (by decide) ?_
  refine r_icmp_ge (tgt := 113) rfl rfl dX3_sayAsCut_6 (fun zc => absurd zc (by decide)) (fun _ => ?_)
  refine r_aload_n rfl dX3_sayAsCut_9 rfl ?_
  refine r_getv 0 rfl dX3_sayAsCut_10 (show 2 ≤ 100 + 8 * j ∧ 100 + 8 * j < 434 by omega) fj fl_X3_11 rfl ?_
  refine r_iload rfl dX3_sayAsCut_13 rfl ?_
  refine r_aald (jn := 0) (v := .ref (102 + 8 * j + 2 * 0)) rfl dX3_sayAsCut_15 (show 2 ≤ 101 + 8 * j ∧ 101 + 8 * j < 434 by omega).1 (show 2 ≤ 101 + 8 * j ∧ 101 + 8 * j < 434 by omega).2 (hS.say (i := j) (by omega)) (by decide) (vp_in_nI (n := 0) (by omega) (by decide)) (nI_clamp (n := 0) (by omega)) (by show va_rf (if _ < _ then _ else _) = _; rw [if_pos (show 0 < 3 by omega)]; rfl) ?_
  refine r_astore (ls' := [some (.ref (100 + 8 * i)), some (.ref (100 + 8 * j)), some (.ref (100 + 8 * m)), some (.int c), some (.int 0), some (.ref (102 + 8 * j + 2 * 0)), none]) rfl dX3_sayAsCut_16 (Nat.le_of_ble_eq_true rfl) rfl ?_
  refine r_aload_n rfl dX3_sayAsCut_18 rfl ?_
  refine r_getv 0 rfl dX3_sayAsCut_19 (show 2 ≤ 100 + 8 * m ∧ 100 + 8 * m < 434 by omega) fm fl_X3_11 rfl ?_
  refine r_iload rfl dX3_sayAsCut_22 rfl ?_
  refine r_aald (jn := 0) (v := .ref (102 + 8 * m + 2 * 0)) rfl dX3_sayAsCut_24 (show 2 ≤ 101 + 8 * m ∧ 101 + 8 * m < 434 by omega).1 (show 2 ≤ 101 + 8 * m ∧ 101 + 8 * m < 434 by omega).2 (hS.say (i := m) (by omega)) (by decide) (vp_in_nI (n := 0) (by omega) (by decide)) (nI_clamp (n := 0) (by omega)) (by show va_rf (if _ < _ then _ else _) = _; rw [if_pos (show 0 < 3 by omega)]; rfl) ?_
  refine r_astore (ls' := [some (.ref (100 + 8 * i)), some (.ref (100 + 8 * j)), some (.ref (100 + 8 * m)), some (.int c), some (.int 0), some (.ref (102 + 8 * j + 2 * 0)), some (.ref (102 + 8 * m + 2 * 0))]) rfl dX3_sayAsCut_25 (Nat.le_of_ble_eq_true rfl) rfl ?_
  refine r_iload rfl dX3_sayAsCut_27 rfl ?_
  refine r_iconst (v := 2) rfl dX3_sayAsCut_29 (by decide) ?_
  refine r_icmp_ne (tgt := 59) rfl rfl dX3_sayAsCut_30 (fun _ => ?_) (fun zc => absurd zc (by decide))
  refine r_aload_n rfl dX3_sayAsCut_59 rfl ?_
  refine r_getv 0 rfl dX3_sayAsCut_60 (show 2 ≤ 100 + 8 * i ∧ 100 + 8 * i < 434 by omega) fl fl_X3_11 rfl ?_
  refine r_iload rfl dX3_sayAsCut_63 rfl ?_
  refine r_aald (jn := 0) (v := .ref (102 + 8 * i + 2 * 0)) rfl dX3_sayAsCut_65 (show 2 ≤ 101 + 8 * i ∧ 101 + 8 * i < 434 by omega).1 (show 2 ≤ 101 + 8 * i ∧ 101 + 8 * i < 434 by omega).2 (hS.say (i := i) (by omega)) (by decide) (vp_in_nI (n := 0) (by omega) (by decide)) (nI_clamp (n := 0) (by omega)) (by show va_rf (if _ < _ then _ else _) = _; rw [if_pos (show 0 < 3 by omega)]; rfl) ?_
  refine r_aload rfl dX3_sayAsCut_66 rfl ?_
  obtain ⟨g51, hw52⟩ := hS.ws (wsAt_ln (i := i) (w := 0) (by omega) (by omega))
  obtain ⟨g53, hw54⟩ := hS.ws (wsAt_ln (i := j) (w := 0) (by omega) (by omega))
  refine cl_X3_64 rfl rfl dX3_sayAsCut_68 (show _ ∧ _ from ⟨((wsAt_ln (i := i) (w := 0) (by omega) (by omega))).2.2.1, Nat.lt_of_succ_lt ((wsAt_ln (i := i) (w := 0) (by omega) (by omega))).2.2.2⟩).1 (show _ ∧ _ from ⟨((wsAt_ln (i := i) (w := 0) (by omega) (by omega))).2.2.1, Nat.lt_of_succ_lt ((wsAt_ln (i := i) (w := 0) (by omega) (by omega))).2.2.2⟩).2 hw52.2.2.1 (Nat.le_of_ble_eq_true rfl) (s_X10_become hw52 hw54 (by omega)) ?_
  rintro _ h55 _ ⟨rfl, eh56, rfl⟩
  have hS57 := SH_p hS (wsAt_ln (i := i) (w := 0) (by omega) (by omega)) eh56
  have hk58 : KX [] h h55 := KX_p (wsAt_ln (i := i) (w := 0) (by omega) (by omega)) eh56
  have hF59 := KX_tr (KX_rf (l := []) h) (KX_sb (l := []) (by first | decide | exact fun _ z => z | simp) hk58)
  have f60 : h55 (100 + 8 * i) = .inr (3, [.ref (101 + 8 * i), .int p, .int t, .int o, .int a, .int b, .int l]) := (hk58 _ (by simp <;> omega) (nSP_ln (i := i) (by omega))).trans fl
  have f61 : h55 (100 + 8 * j) = .inr (3, [.ref (101 + 8 * j), .int p1, .int t1, .int o1, .int a1, .int b1, .int l1]) := (hk58 _ (by simp <;> omega) (nSP_ln (i := j) (by omega))).trans fj
  have f62 : h55 (100 + 8 * m) = .inr (3, [.ref (101 + 8 * m), .int p2, .int t2, .int o2, .int a2, .int b2, .int l2]) := (hk58 _ (by simp <;> omega) (nSP_ln (i := m) (by omega))).trans fm
  refine r_iload rfl dX3_sayAsCut_71 rfl ?_
  refine r_iload_n rfl dX3_sayAsCut_73 rfl ?_
  refine cl_X3_68 rfl rfl dX3_sayAsCut_74 (Nat.le_of_ble_eq_true rfl) s_X3_joins ?_
  rintro _ h63 _ ⟨rfl, e64, rfl⟩
  replace e64 := e64.symm
  subst e64
  refine r_if_eq (tgt := 95) rfl rfl dX3_sayAsCut_77 (fun c65 => ?_) (fun c65 => ?_)
  · refine r_aload_n rfl dX3_sayAsCut_95 rfl ?_
    refine r_getv 0 rfl dX3_sayAsCut_96 (show 2 ≤ 100 + 8 * i ∧ 100 + 8 * i < 434 by omega) f60 fl_X3_11 rfl ?_
    refine r_iload rfl dX3_sayAsCut_99 rfl ?_
    refine r_aald (jn := 0) (v := .ref (102 + 8 * i + 2 * 0)) rfl dX3_sayAsCut_101 (show 2 ≤ 101 + 8 * i ∧ 101 + 8 * i < 434 by omega).1 (show 2 ≤ 101 + 8 * i ∧ 101 + 8 * i < 434 by omega).2 (hS57.say (i := i) (by omega)) (by decide) (vp_in_nI (n := 0) (by omega) (by decide)) (nI_clamp (n := 0) (by omega)) (by show va_rf (if _ < _ then _ else _) = _; rw [if_pos (show 0 < 3 by omega)]; rfl) ?_
    refine r_aload rfl dX3_sayAsCut_102 rfl ?_
    obtain ⟨g66, hw67⟩ := hS57.ws (wsAt_ln (i := i) (w := 0) (by omega) (by omega))
    obtain ⟨g68, hw69⟩ := hS57.ws (wsAt_ln (i := m) (w := 0) (by omega) (by omega))
    refine cl_X3_75 rfl rfl dX3_sayAsCut_104 (show _ ∧ _ from ⟨((wsAt_ln (i := i) (w := 0) (by omega) (by omega))).2.2.1, Nat.lt_of_succ_lt ((wsAt_ln (i := i) (w := 0) (by omega) (by omega))).2.2.2⟩).1 (show _ ∧ _ from ⟨((wsAt_ln (i := i) (w := 0) (by omega) (by omega))).2.2.1, Nat.lt_of_succ_lt ((wsAt_ln (i := i) (w := 0) (by omega) (by omega))).2.2.2⟩).2 hw67.2.2.1 (Nat.le_of_ble_eq_true rfl) (s_X10_meet hw67 hw69 (by omega)) ?_
    rintro _ h70 _ ⟨rfl, eh71, rfl⟩
    have hS72 := SH_p hS57 (wsAt_ln (i := i) (w := 0) (by omega) (by omega)) eh71
    have hk73 : KX [] h55 h70 := KX_p (wsAt_ln (i := i) (w := 0) (by omega) (by omega)) eh71
    have hF74 := KX_tr hF59 (KX_sb (l := []) (by first | decide | exact fun _ z => z | simp) hk73)
    have f75 : h70 (100 + 8 * i) = .inr (3, [.ref (101 + 8 * i), .int p, .int t, .int o, .int a, .int b, .int l]) := (hk73 _ (by simp <;> omega) (nSP_ln (i := i) (by omega))).trans f60
    have f76 : h70 (100 + 8 * j) = .inr (3, [.ref (101 + 8 * j), .int p1, .int t1, .int o1, .int a1, .int b1, .int l1]) := (hk73 _ (by simp <;> omega) (nSP_ln (i := j) (by omega))).trans f61
    have f77 : h70 (100 + 8 * m) = .inr (3, [.ref (101 + 8 * m), .int p2, .int t2, .int o2, .int a2, .int b2, .int l2]) := (hk73 _ (by simp <;> omega) (nSP_ln (i := m) (by omega))).trans f62
    refine r_iinc (y := 1) (ls' := [some (.ref (100 + 8 * i)), some (.ref (100 + 8 * j)), some (.ref (100 + 8 * m)), some (.int c), some (.int 1), some (.ref (102 + 8 * j + 2 * 0)), some (.ref (102 + 8 * m + 2 * 0))]) rfl dX3_sayAsCut_107 rfl (by decide) (Nat.le_of_ble_eq_true rfl) rfl ?_
    refine r_goto (pc' := 3) rfl dX3_sayAsCut_110 ?_
    refine r_iload rfl dX3_sayAsCut_3 rfl ?_
    refine r_iconst (v := 3) rfl dX3_sayAsCut_5 (by decide) ?_
    refine r_icmp_ge (tgt := 113) rfl rfl dX3_sayAsCut_6 (fun zc => absurd zc (by decide)) (fun _ => ?_)
    refine r_aload_n rfl dX3_sayAsCut_9 rfl ?_
    refine r_getv 0 rfl dX3_sayAsCut_10 (show 2 ≤ 100 + 8 * j ∧ 100 + 8 * j < 434 by omega) f76 fl_X3_11 rfl ?_
    refine r_iload rfl dX3_sayAsCut_13 rfl ?_
    refine r_aald (jn := 1) (v := .ref (102 + 8 * j + 2 * 1)) rfl dX3_sayAsCut_15 (show 2 ≤ 101 + 8 * j ∧ 101 + 8 * j < 434 by omega).1 (show 2 ≤ 101 + 8 * j ∧ 101 + 8 * j < 434 by omega).2 (hS72.say (i := j) (by omega)) (by decide) (vp_in_nI (n := 1) (by omega) (by decide)) (nI_clamp (n := 1) (by omega)) (by show va_rf (if _ < _ then _ else _) = _; rw [if_pos (show 1 < 3 by omega)]; rfl) ?_
    refine r_astore (ls' := [some (.ref (100 + 8 * i)), some (.ref (100 + 8 * j)), some (.ref (100 + 8 * m)), some (.int c), some (.int 1), some (.ref (102 + 8 * j + 2 * 1)), some (.ref (102 + 8 * m + 2 * 0))]) rfl dX3_sayAsCut_16 (Nat.le_of_ble_eq_true rfl) rfl ?_
    refine r_aload_n rfl dX3_sayAsCut_18 rfl ?_
    refine r_getv 0 rfl dX3_sayAsCut_19 (show 2 ≤ 100 + 8 * m ∧ 100 + 8 * m < 434 by omega) f77 fl_X3_11 rfl ?_
    refine r_iload rfl dX3_sayAsCut_22 rfl ?_
    refine r_aald (jn := 1) (v := .ref (102 + 8 * m + 2 * 1)) rfl dX3_sayAsCut_24 (show 2 ≤ 101 + 8 * m ∧ 101 + 8 * m < 434 by omega).1 (show 2 ≤ 101 + 8 * m ∧ 101 + 8 * m < 434 by omega).2 (hS72.say (i := m) (by omega)) (by decide) (vp_in_nI (n := 1) (by omega) (by decide)) (nI_clamp (n := 1) (by omega)) (by show va_rf (if _ < _ then _ else _) = _; rw [if_pos (show 1 < 3 by omega)]; rfl) ?_
    refine r_astore (ls' := [some (.ref (100 + 8 * i)), some (.ref (100 + 8 * j)), some (.ref (100 + 8 * m)), some (.int c), some (.int 1), some (.ref (102 + 8 * j + 2 * 1)), some (.ref (102 + 8 * m + 2 * 1))]) rfl dX3_sayAsCut_25 (Nat.le_of_ble_eq_true rfl) rfl ?_
    refine r_iload rfl dX3_sayAsCut_27 rfl ?_
    refine r_iconst (v := 2) rfl dX3_sayAsCut_29 (by decide) ?_
    refine r_icmp_ne (tgt := 59) rfl rfl dX3_sayAsCut_30 (fun _ => ?_) (fun zc => absurd zc (by decide))
    refine r_aload_n rfl dX3_sayAsCut_59 rfl ?_
    refine r_getv 0 rfl dX3_sayAsCut_60 (show 2 ≤ 100 + 8 * i ∧ 100 + 8 * i < 434 by omega) f75 fl_X3_11 rfl ?_
    refine r_iload rfl dX3_sayAsCut_63 rfl ?_
    refine r_aald (jn := 1) (v := .ref (102 + 8 * i + 2 * 1)) rfl dX3_sayAsCut_65 (show 2 ≤ 101 + 8 * i ∧ 101 + 8 * i < 434 by omega).1 (show 2 ≤ 101 + 8 * i ∧ 101 + 8 * i < 434 by omega).2 (hS72.say (i := i) (by omega)) (by decide) (vp_in_nI (n := 1) (by omega) (by decide)) (nI_clamp (n := 1) (by omega)) (by show va_rf (if _ < _ then _ else _) = _; rw [if_pos (show 1 < 3 by omega)]; rfl) ?_
    refine r_aload rfl dX3_sayAsCut_66 rfl ?_
    obtain ⟨g78, hw79⟩ := hS72.ws (wsAt_ln (i := i) (w := 1) (by omega) (by omega))
    obtain ⟨g80, hw81⟩ := hS72.ws (wsAt_ln (i := j) (w := 1) (by omega) (by omega))
    refine cl_X3_64 rfl rfl dX3_sayAsCut_68 (show _ ∧ _ from ⟨((wsAt_ln (i := i) (w := 1) (by omega) (by omega))).2.2.1, Nat.lt_of_succ_lt ((wsAt_ln (i := i) (w := 1) (by omega) (by omega))).2.2.2⟩).1 (show _ ∧ _ from ⟨((wsAt_ln (i := i) (w := 1) (by omega) (by omega))).2.2.1, Nat.lt_of_succ_lt ((wsAt_ln (i := i) (w := 1) (by omega) (by omega))).2.2.2⟩).2 hw79.2.2.1 (Nat.le_of_ble_eq_true rfl) (s_X10_become hw79 hw81 (by omega)) ?_
    rintro _ h82 _ ⟨rfl, eh83, rfl⟩
    have hS84 := SH_p hS72 (wsAt_ln (i := i) (w := 1) (by omega) (by omega)) eh83
    have hk85 : KX [] h70 h82 := KX_p (wsAt_ln (i := i) (w := 1) (by omega) (by omega)) eh83
    have hF86 := KX_tr hF74 (KX_sb (l := []) (by first | decide | exact fun _ z => z | simp) hk85)
    have f87 : h82 (100 + 8 * i) = .inr (3, [.ref (101 + 8 * i), .int p, .int t, .int o, .int a, .int b, .int l]) := (hk85 _ (by simp <;> omega) (nSP_ln (i := i) (by omega))).trans f75
    have f88 : h82 (100 + 8 * j) = .inr (3, [.ref (101 + 8 * j), .int p1, .int t1, .int o1, .int a1, .int b1, .int l1]) := (hk85 _ (by simp <;> omega) (nSP_ln (i := j) (by omega))).trans f76
    have f89 : h82 (100 + 8 * m) = .inr (3, [.ref (101 + 8 * m), .int p2, .int t2, .int o2, .int a2, .int b2, .int l2]) := (hk85 _ (by simp <;> omega) (nSP_ln (i := m) (by omega))).trans f77
    refine r_iload rfl dX3_sayAsCut_71 rfl ?_
    refine r_iload_n rfl dX3_sayAsCut_73 rfl ?_
    refine cl_X3_68 rfl rfl dX3_sayAsCut_74 (Nat.le_of_ble_eq_true rfl) s_X3_joins ?_
    rintro _ h90 _ ⟨rfl, e91, rfl⟩
    replace e91 := e91.symm
    subst e91
    refine r_if_eq (tgt := 95) rfl rfl dX3_sayAsCut_77 (fun c92 => ?_) (fun c92 => ?_)
    · refine r_aload_n rfl dX3_sayAsCut_95 rfl ?_
      refine r_getv 0 rfl dX3_sayAsCut_96 (show 2 ≤ 100 + 8 * i ∧ 100 + 8 * i < 434 by omega) f87 fl_X3_11 rfl ?_
      refine r_iload rfl dX3_sayAsCut_99 rfl ?_
      refine r_aald (jn := 1) (v := .ref (102 + 8 * i + 2 * 1)) rfl dX3_sayAsCut_101 (show 2 ≤ 101 + 8 * i ∧ 101 + 8 * i < 434 by omega).1 (show 2 ≤ 101 + 8 * i ∧ 101 + 8 * i < 434 by omega).2 (hS84.say (i := i) (by omega)) (by decide) (vp_in_nI (n := 1) (by omega) (by decide)) (nI_clamp (n := 1) (by omega)) (by show va_rf (if _ < _ then _ else _) = _; rw [if_pos (show 1 < 3 by omega)]; rfl) ?_
      refine r_aload rfl dX3_sayAsCut_102 rfl ?_
      obtain ⟨g93, hw94⟩ := hS84.ws (wsAt_ln (i := i) (w := 1) (by omega) (by omega))
      obtain ⟨g95, hw96⟩ := hS84.ws (wsAt_ln (i := m) (w := 1) (by omega) (by omega))
      refine cl_X3_75 rfl rfl dX3_sayAsCut_104 (show _ ∧ _ from ⟨((wsAt_ln (i := i) (w := 1) (by omega) (by omega))).2.2.1, Nat.lt_of_succ_lt ((wsAt_ln (i := i) (w := 1) (by omega) (by omega))).2.2.2⟩).1 (show _ ∧ _ from ⟨((wsAt_ln (i := i) (w := 1) (by omega) (by omega))).2.2.1, Nat.lt_of_succ_lt ((wsAt_ln (i := i) (w := 1) (by omega) (by omega))).2.2.2⟩).2 hw94.2.2.1 (Nat.le_of_ble_eq_true rfl) (s_X10_meet hw94 hw96 (by omega)) ?_
      rintro _ h97 _ ⟨rfl, eh98, rfl⟩
      have hS99 := SH_p hS84 (wsAt_ln (i := i) (w := 1) (by omega) (by omega)) eh98
      have hk100 : KX [] h82 h97 := KX_p (wsAt_ln (i := i) (w := 1) (by omega) (by omega)) eh98
      have hF101 := KX_tr hF86 (KX_sb (l := []) (by first | decide | exact fun _ z => z | simp) hk100)
      have f102 : h97 (100 + 8 * i) = .inr (3, [.ref (101 + 8 * i), .int p, .int t, .int o, .int a, .int b, .int l]) := (hk100 _ (by simp <;> omega) (nSP_ln (i := i) (by omega))).trans f87
      have f103 : h97 (100 + 8 * j) = .inr (3, [.ref (101 + 8 * j), .int p1, .int t1, .int o1, .int a1, .int b1, .int l1]) := (hk100 _ (by simp <;> omega) (nSP_ln (i := j) (by omega))).trans f88
      have f104 : h97 (100 + 8 * m) = .inr (3, [.ref (101 + 8 * m), .int p2, .int t2, .int o2, .int a2, .int b2, .int l2]) := (hk100 _ (by simp <;> omega) (nSP_ln (i := m) (by omega))).trans f89
      refine r_iinc (y := 2) (ls' := [some (.ref (100 + 8 * i)), some (.ref (100 + 8 * j)), some (.ref (100 + 8 * m)), some (.int c), some (.int 2), some (.ref (102 + 8 * j + 2 * 1)), some (.ref (102 + 8 * m + 2 * 1))]) rfl dX3_sayAsCut_107 rfl (by decide) (Nat.le_of_ble_eq_true rfl) rfl ?_
      refine r_goto (pc' := 3) rfl dX3_sayAsCut_110 ?_
      refine r_iload rfl dX3_sayAsCut_3 rfl ?_
      refine r_iconst (v := 3) rfl dX3_sayAsCut_5 (by decide) ?_
      refine r_icmp_ge (tgt := 113) rfl rfl dX3_sayAsCut_6 (fun zc => absurd zc (by decide)) (fun _ => ?_)
      refine r_aload_n rfl dX3_sayAsCut_9 rfl ?_
      refine r_getv 0 rfl dX3_sayAsCut_10 (show 2 ≤ 100 + 8 * j ∧ 100 + 8 * j < 434 by omega) f103 fl_X3_11 rfl ?_
      refine r_iload rfl dX3_sayAsCut_13 rfl ?_
      refine r_aald (jn := 2) (v := .ref (102 + 8 * j + 2 * 2)) rfl dX3_sayAsCut_15 (show 2 ≤ 101 + 8 * j ∧ 101 + 8 * j < 434 by omega).1 (show 2 ≤ 101 + 8 * j ∧ 101 + 8 * j < 434 by omega).2 (hS99.say (i := j) (by omega)) (by decide) (vp_in_nI (n := 2) (by omega) (by decide)) (nI_clamp (n := 2) (by omega)) (by show va_rf (if _ < _ then _ else _) = _; rw [if_pos (show 2 < 3 by omega)]; rfl) ?_
      refine r_astore (ls' := [some (.ref (100 + 8 * i)), some (.ref (100 + 8 * j)), some (.ref (100 + 8 * m)), some (.int c), some (.int 2), some (.ref (102 + 8 * j + 2 * 2)), some (.ref (102 + 8 * m + 2 * 1))]) rfl dX3_sayAsCut_16 (Nat.le_of_ble_eq_true rfl) rfl ?_
      refine r_aload_n rfl dX3_sayAsCut_18 rfl ?_
      refine r_getv 0 rfl dX3_sayAsCut_19 (show 2 ≤ 100 + 8 * m ∧ 100 + 8 * m < 434 by omega) f104 fl_X3_11 rfl ?_
      refine r_iload rfl dX3_sayAsCut_22 rfl ?_
      refine r_aald (jn := 2) (v := .ref (102 + 8 * m + 2 * 2)) rfl dX3_sayAsCut_24 (show 2 ≤ 101 + 8 * m ∧ 101 + 8 * m < 434 by omega).1 (show 2 ≤ 101 + 8 * m ∧ 101 + 8 * m < 434 by omega).2 (hS99.say (i := m) (by omega)) (by decide) (vp_in_nI (n := 2) (by omega) (by decide)) (nI_clamp (n := 2) (by omega)) (by show va_rf (if _ < _ then _ else _) = _; rw [if_pos (show 2 < 3 by omega)]; rfl) ?_
      refine r_astore (ls' := [some (.ref (100 + 8 * i)), some (.ref (100 + 8 * j)), some (.ref (100 + 8 * m)), some (.int c), some (.int 2), some (.ref (102 + 8 * j + 2 * 2)), some (.ref (102 + 8 * m + 2 * 2))]) rfl dX3_sayAsCut_25 (Nat.le_of_ble_eq_true rfl) rfl ?_
      refine r_iload rfl dX3_sayAsCut_27 rfl ?_
      refine r_iconst (v := 2) rfl dX3_sayAsCut_29 (by decide) ?_
      refine r_icmp_ne (tgt := 59) rfl rfl dX3_sayAsCut_30 (fun zc => absurd zc (by decide)) (fun _ => ?_)
      refine r_iload_n rfl dX3_sayAsCut_33 rfl ?_
      refine r_iconst (v := 3) rfl dX3_sayAsCut_34 (by decide) ?_
      refine r_icmp_ne (tgt := 59) rfl rfl dX3_sayAsCut_35 (fun c105 => ?_) (fun c105 => ?_)
      · refine r_aload_n rfl dX3_sayAsCut_59 rfl ?_
        refine r_getv 0 rfl dX3_sayAsCut_60 (show 2 ≤ 100 + 8 * i ∧ 100 + 8 * i < 434 by omega) f102 fl_X3_11 rfl ?_
        refine r_iload rfl dX3_sayAsCut_63 rfl ?_
        refine r_aald (jn := 2) (v := .ref (102 + 8 * i + 2 * 2)) rfl dX3_sayAsCut_65 (show 2 ≤ 101 + 8 * i ∧ 101 + 8 * i < 434 by omega).1 (show 2 ≤ 101 + 8 * i ∧ 101 + 8 * i < 434 by omega).2 (hS99.say (i := i) (by omega)) (by decide) (vp_in_nI (n := 2) (by omega) (by decide)) (nI_clamp (n := 2) (by omega)) (by show va_rf (if _ < _ then _ else _) = _; rw [if_pos (show 2 < 3 by omega)]; rfl) ?_
        refine r_aload rfl dX3_sayAsCut_66 rfl ?_
        obtain ⟨g106, hw107⟩ := hS99.ws (wsAt_ln (i := i) (w := 2) (by omega) (by omega))
        obtain ⟨g108, hw109⟩ := hS99.ws (wsAt_ln (i := j) (w := 2) (by omega) (by omega))
        refine cl_X3_64 rfl rfl dX3_sayAsCut_68 (show _ ∧ _ from ⟨((wsAt_ln (i := i) (w := 2) (by omega) (by omega))).2.2.1, Nat.lt_of_succ_lt ((wsAt_ln (i := i) (w := 2) (by omega) (by omega))).2.2.2⟩).1 (show _ ∧ _ from ⟨((wsAt_ln (i := i) (w := 2) (by omega) (by omega))).2.2.1, Nat.lt_of_succ_lt ((wsAt_ln (i := i) (w := 2) (by omega) (by omega))).2.2.2⟩).2 hw107.2.2.1 (Nat.le_of_ble_eq_true rfl) (s_X10_become hw107 hw109 (by omega)) ?_
        rintro _ h110 _ ⟨rfl, eh111, rfl⟩
        have hS112 := SH_p hS99 (wsAt_ln (i := i) (w := 2) (by omega) (by omega)) eh111
        have hk113 : KX [] h97 h110 := KX_p (wsAt_ln (i := i) (w := 2) (by omega) (by omega)) eh111
        have hF114 := KX_tr hF101 (KX_sb (l := []) (by first | decide | exact fun _ z => z | simp) hk113)
        have f115 : h110 (100 + 8 * i) = .inr (3, [.ref (101 + 8 * i), .int p, .int t, .int o, .int a, .int b, .int l]) := (hk113 _ (by simp <;> omega) (nSP_ln (i := i) (by omega))).trans f102
        have f116 : h110 (100 + 8 * j) = .inr (3, [.ref (101 + 8 * j), .int p1, .int t1, .int o1, .int a1, .int b1, .int l1]) := (hk113 _ (by simp <;> omega) (nSP_ln (i := j) (by omega))).trans f103
        have f117 : h110 (100 + 8 * m) = .inr (3, [.ref (101 + 8 * m), .int p2, .int t2, .int o2, .int a2, .int b2, .int l2]) := (hk113 _ (by simp <;> omega) (nSP_ln (i := m) (by omega))).trans f104
        refine r_iload rfl dX3_sayAsCut_71 rfl ?_
        refine r_iload_n rfl dX3_sayAsCut_73 rfl ?_
        refine cl_X3_68 rfl rfl dX3_sayAsCut_74 (Nat.le_of_ble_eq_true rfl) s_X3_joins ?_
        rintro _ h118 _ ⟨rfl, e119, rfl⟩
        replace e119 := e119.symm
        subst e119
        refine r_if_eq (tgt := 95) rfl rfl dX3_sayAsCut_77 (fun c120 => ?_) (fun c120 => ?_)
        · refine r_aload_n rfl dX3_sayAsCut_95 rfl ?_
          refine r_getv 0 rfl dX3_sayAsCut_96 (show 2 ≤ 100 + 8 * i ∧ 100 + 8 * i < 434 by omega) f115 fl_X3_11 rfl ?_
          refine r_iload rfl dX3_sayAsCut_99 rfl ?_
          refine r_aald (jn := 2) (v := .ref (102 + 8 * i + 2 * 2)) rfl dX3_sayAsCut_101 (show 2 ≤ 101 + 8 * i ∧ 101 + 8 * i < 434 by omega).1 (show 2 ≤ 101 + 8 * i ∧ 101 + 8 * i < 434 by omega).2 (hS112.say (i := i) (by omega)) (by decide) (vp_in_nI (n := 2) (by omega) (by decide)) (nI_clamp (n := 2) (by omega)) (by show va_rf (if _ < _ then _ else _) = _; rw [if_pos (show 2 < 3 by omega)]; rfl) ?_
          refine r_aload rfl dX3_sayAsCut_102 rfl ?_
          obtain ⟨g121, hw122⟩ := hS112.ws (wsAt_ln (i := i) (w := 2) (by omega) (by omega))
          obtain ⟨g123, hw124⟩ := hS112.ws (wsAt_ln (i := m) (w := 2) (by omega) (by omega))
          refine cl_X3_75 rfl rfl dX3_sayAsCut_104 (show _ ∧ _ from ⟨((wsAt_ln (i := i) (w := 2) (by omega) (by omega))).2.2.1, Nat.lt_of_succ_lt ((wsAt_ln (i := i) (w := 2) (by omega) (by omega))).2.2.2⟩).1 (show _ ∧ _ from ⟨((wsAt_ln (i := i) (w := 2) (by omega) (by omega))).2.2.1, Nat.lt_of_succ_lt ((wsAt_ln (i := i) (w := 2) (by omega) (by omega))).2.2.2⟩).2 hw122.2.2.1 (Nat.le_of_ble_eq_true rfl) (s_X10_meet hw122 hw124 (by omega)) ?_
          rintro _ h125 _ ⟨rfl, eh126, rfl⟩
          have hS127 := SH_p hS112 (wsAt_ln (i := i) (w := 2) (by omega) (by omega)) eh126
          have hk128 : KX [] h110 h125 := KX_p (wsAt_ln (i := i) (w := 2) (by omega) (by omega)) eh126
          have hF129 := KX_tr hF114 (KX_sb (l := []) (by first | decide | exact fun _ z => z | simp) hk128)
          have f130 : h125 (100 + 8 * i) = .inr (3, [.ref (101 + 8 * i), .int p, .int t, .int o, .int a, .int b, .int l]) := (hk128 _ (by simp <;> omega) (nSP_ln (i := i) (by omega))).trans f115
          have f131 : h125 (100 + 8 * j) = .inr (3, [.ref (101 + 8 * j), .int p1, .int t1, .int o1, .int a1, .int b1, .int l1]) := (hk128 _ (by simp <;> omega) (nSP_ln (i := j) (by omega))).trans f116
          have f132 : h125 (100 + 8 * m) = .inr (3, [.ref (101 + 8 * m), .int p2, .int t2, .int o2, .int a2, .int b2, .int l2]) := (hk128 _ (by simp <;> omega) (nSP_ln (i := m) (by omega))).trans f117
          refine r_iinc (y := 3) (ls' := [some (.ref (100 + 8 * i)), some (.ref (100 + 8 * j)), some (.ref (100 + 8 * m)), some (.int c), some (.int 3), some (.ref (102 + 8 * j + 2 * 2)), some (.ref (102 + 8 * m + 2 * 2))]) rfl dX3_sayAsCut_107 rfl (by decide) (Nat.le_of_ble_eq_true rfl) rfl ?_
          refine r_goto (pc' := 3) rfl dX3_sayAsCut_110 ?_
          refine r_iload rfl dX3_sayAsCut_3 rfl ?_
          refine r_iconst (v := 3) rfl dX3_sayAsCut_5 (by decide) ?_
          refine r_icmp_ge (tgt := 113) rfl rfl dX3_sayAsCut_6 (fun _ => ?_) (fun zc => absurd zc (by decide))
          exact r_ret dX3_sayAsCut_113 (rt_v rfl) ⟨rfl, hS127, hF129, rfl⟩
        · refine r_aload_n rfl dX3_sayAsCut_80 rfl ?_
          refine r_getv 0 rfl dX3_sayAsCut_81 (show 2 ≤ 100 + 8 * i ∧ 100 + 8 * i < 434 by omega) f115 fl_X3_11 rfl ?_
          refine r_iload rfl dX3_sayAsCut_84 rfl ?_
          refine r_aald (jn := 2) (v := .ref (102 + 8 * i + 2 * 2)) rfl dX3_sayAsCut_86 (show 2 ≤ 101 + 8 * i ∧ 101 + 8 * i < 434 by omega).1 (show 2 ≤ 101 + 8 * i ∧ 101 + 8 * i < 434 by omega).2 (hS112.say (i := i) (by omega)) (by decide) (vp_in_nI (n := 2) (by omega) (by decide)) (nI_clamp (n := 2) (by omega)) (by show va_rf (if _ < _ then _ else _) = _; rw [if_pos (show 2 < 3 by omega)]; rfl) ?_
          refine r_aload rfl dX3_sayAsCut_87 rfl ?_
          obtain ⟨g133, hw134⟩ := hS112.ws (wsAt_ln (i := i) (w := 2) (by omega) (by omega))
          obtain ⟨g135, hw136⟩ := hS112.ws (wsAt_ln (i := m) (w := 2) (by omega) (by omega))
          refine cl_X3_72 rfl rfl dX3_sayAsCut_89 (show _ ∧ _ from ⟨((wsAt_ln (i := i) (w := 2) (by omega) (by omega))).2.2.1, Nat.lt_of_succ_lt ((wsAt_ln (i := i) (w := 2) (by omega) (by omega))).2.2.2⟩).1 (show _ ∧ _ from ⟨((wsAt_ln (i := i) (w := 2) (by omega) (by omega))).2.2.1, Nat.lt_of_succ_lt ((wsAt_ln (i := i) (w := 2) (by omega) (by omega))).2.2.2⟩).2 hw134.2.2.1 (Nat.le_of_ble_eq_true rfl) (s_X10_join hw134 hw136 (by omega)) ?_
          rintro _ h137 _ ⟨rfl, eh138, rfl⟩
          have hS139 := SH_p hS112 (wsAt_ln (i := i) (w := 2) (by omega) (by omega)) eh138
          have hk140 : KX [] h110 h137 := KX_p (wsAt_ln (i := i) (w := 2) (by omega) (by omega)) eh138
          have hF141 := KX_tr hF114 (KX_sb (l := []) (by first | decide | exact fun _ z => z | simp) hk140)
          have f142 : h137 (100 + 8 * i) = .inr (3, [.ref (101 + 8 * i), .int p, .int t, .int o, .int a, .int b, .int l]) := (hk140 _ (by simp <;> omega) (nSP_ln (i := i) (by omega))).trans f115
          have f143 : h137 (100 + 8 * j) = .inr (3, [.ref (101 + 8 * j), .int p1, .int t1, .int o1, .int a1, .int b1, .int l1]) := (hk140 _ (by simp <;> omega) (nSP_ln (i := j) (by omega))).trans f116
          have f144 : h137 (100 + 8 * m) = .inr (3, [.ref (101 + 8 * m), .int p2, .int t2, .int o2, .int a2, .int b2, .int l2]) := (hk140 _ (by simp <;> omega) (nSP_ln (i := m) (by omega))).trans f117
          refine r_goto (pc' := 107) rfl dX3_sayAsCut_92 ?_
          refine r_iinc (y := 3) (ls' := [some (.ref (100 + 8 * i)), some (.ref (100 + 8 * j)), some (.ref (100 + 8 * m)), some (.int c), some (.int 3), some (.ref (102 + 8 * j + 2 * 2)), some (.ref (102 + 8 * m + 2 * 2))]) rfl dX3_sayAsCut_107 rfl (by decide) (Nat.le_of_ble_eq_true rfl) rfl ?_
          refine r_goto (pc' := 3) rfl dX3_sayAsCut_110 ?_
          refine r_iload rfl dX3_sayAsCut_3 rfl ?_
          refine r_iconst (v := 3) rfl dX3_sayAsCut_5 (by decide) ?_
          refine r_icmp_ge (tgt := 113) rfl rfl dX3_sayAsCut_6 (fun _ => ?_) (fun zc => absurd zc (by decide))
          exact r_ret dX3_sayAsCut_113 (rt_v rfl) ⟨rfl, hS139, hF141, rfl⟩
      · refine r_aload_n rfl dX3_sayAsCut_38 rfl ?_
        refine r_getv 0 rfl dX3_sayAsCut_39 (show 2 ≤ 100 + 8 * i ∧ 100 + 8 * i < 434 by omega) f102 fl_X3_11 rfl ?_
        refine r_iload rfl dX3_sayAsCut_42 rfl ?_
        refine r_aald (jn := 2) (v := .ref (102 + 8 * i + 2 * 2)) rfl dX3_sayAsCut_44 (show 2 ≤ 101 + 8 * i ∧ 101 + 8 * i < 434 by omega).1 (show 2 ≤ 101 + 8 * i ∧ 101 + 8 * i < 434 by omega).2 (hS99.say (i := i) (by omega)) (by decide) (vp_in_nI (n := 2) (by omega) (by decide)) (nI_clamp (n := 2) (by omega)) (by show va_rf (if _ < _ then _ else _) = _; rw [if_pos (show 2 < 3 by omega)]; rfl) ?_
        refine r_aload_n rfl dX3_sayAsCut_45 rfl ?_
        refine r_getv 6 rfl dX3_sayAsCut_46 (show 2 ≤ 100 + 8 * i ∧ 100 + 8 * i < 434 by omega) f102 fl_X3_24 rfl ?_
        refine r_aload rfl dX3_sayAsCut_49 rfl ?_
        refine r_aload rfl dX3_sayAsCut_51 rfl ?_
        obtain ⟨g145, hw146⟩ := hS99.ws (wsAt_ln (i := i) (w := 2) (by omega) (by omega))
        obtain ⟨g147, hw148⟩ := hS99.ws (wsAt_ln (i := m) (w := 2) (by omega) (by omega))
        obtain ⟨g149, hw150⟩ := hS99.ws (wsAt_ln (i := j) (w := 2) (by omega) (by omega))
        refine cl_X3_60 rfl rfl dX3_sayAsCut_53 (show _ ∧ _ from ⟨((wsAt_ln (i := i) (w := 2) (by omega) (by omega))).2.2.1, Nat.lt_of_succ_lt ((wsAt_ln (i := i) (w := 2) (by omega) (by omega))).2.2.2⟩).1 (show _ ∧ _ from ⟨((wsAt_ln (i := i) (w := 2) (by omega) (by omega))).2.2.1, Nat.lt_of_succ_lt ((wsAt_ln (i := i) (w := 2) (by omega) (by omega))).2.2.2⟩).2 hw146.2.2.1 (Nat.le_of_ble_eq_true rfl) (s_X10_choose hw146 hw148 hw150 (by omega) (by omega)) ?_
        rintro _ h151 _ ⟨rfl, eh152, rfl⟩
        have hS153 := SH_p hS99 (wsAt_ln (i := i) (w := 2) (by omega) (by omega)) eh152
        have hk154 : KX [] h97 h151 := KX_p (wsAt_ln (i := i) (w := 2) (by omega) (by omega)) eh152
        have hF155 := KX_tr hF101 (KX_sb (l := []) (by first | decide | exact fun _ z => z | simp) hk154)
        have f156 : h151 (100 + 8 * i) = .inr (3, [.ref (101 + 8 * i), .int p, .int t, .int o, .int a, .int b, .int l]) := (hk154 _ (by simp <;> omega) (nSP_ln (i := i) (by omega))).trans f102
        have f157 : h151 (100 + 8 * j) = .inr (3, [.ref (101 + 8 * j), .int p1, .int t1, .int o1, .int a1, .int b1, .int l1]) := (hk154 _ (by simp <;> omega) (nSP_ln (i := j) (by omega))).trans f103
        have f158 : h151 (100 + 8 * m) = .inr (3, [.ref (101 + 8 * m), .int p2, .int t2, .int o2, .int a2, .int b2, .int l2]) := (hk154 _ (by simp <;> omega) (nSP_ln (i := m) (by omega))).trans f104
        refine r_goto (pc' := 107) rfl dX3_sayAsCut_56 ?_
        refine r_iinc (y := 3) (ls' := [some (.ref (100 + 8 * i)), some (.ref (100 + 8 * j)), some (.ref (100 + 8 * m)), some (.int c), some (.int 3), some (.ref (102 + 8 * j + 2 * 2)), some (.ref (102 + 8 * m + 2 * 2))]) rfl dX3_sayAsCut_107 rfl (by decide) (Nat.le_of_ble_eq_true rfl) rfl ?_
        refine r_goto (pc' := 3) rfl dX3_sayAsCut_110 ?_
        refine r_iload rfl dX3_sayAsCut_3 rfl ?_
        refine r_iconst (v := 3) rfl dX3_sayAsCut_5 (by decide) ?_
        refine r_icmp_ge (tgt := 113) rfl rfl dX3_sayAsCut_6 (fun _ => ?_) (fun zc => absurd zc (by decide))
        exact r_ret dX3_sayAsCut_113 (rt_v rfl) ⟨rfl, hS153, hF155, rfl⟩
    · refine r_aload_n rfl dX3_sayAsCut_80 rfl ?_
      refine r_getv 0 rfl dX3_sayAsCut_81 (show 2 ≤ 100 + 8 * i ∧ 100 + 8 * i < 434 by omega) f87 fl_X3_11 rfl ?_
      refine r_iload rfl dX3_sayAsCut_84 rfl ?_
      refine r_aald (jn := 1) (v := .ref (102 + 8 * i + 2 * 1)) rfl dX3_sayAsCut_86 (show 2 ≤ 101 + 8 * i ∧ 101 + 8 * i < 434 by omega).1 (show 2 ≤ 101 + 8 * i ∧ 101 + 8 * i < 434 by omega).2 (hS84.say (i := i) (by omega)) (by decide) (vp_in_nI (n := 1) (by omega) (by decide)) (nI_clamp (n := 1) (by omega)) (by show va_rf (if _ < _ then _ else _) = _; rw [if_pos (show 1 < 3 by omega)]; rfl) ?_
      refine r_aload rfl dX3_sayAsCut_87 rfl ?_
      obtain ⟨g159, hw160⟩ := hS84.ws (wsAt_ln (i := i) (w := 1) (by omega) (by omega))
      obtain ⟨g161, hw162⟩ := hS84.ws (wsAt_ln (i := m) (w := 1) (by omega) (by omega))
      refine cl_X3_72 rfl rfl dX3_sayAsCut_89 (show _ ∧ _ from ⟨((wsAt_ln (i := i) (w := 1) (by omega) (by omega))).2.2.1, Nat.lt_of_succ_lt ((wsAt_ln (i := i) (w := 1) (by omega) (by omega))).2.2.2⟩).1 (show _ ∧ _ from ⟨((wsAt_ln (i := i) (w := 1) (by omega) (by omega))).2.2.1, Nat.lt_of_succ_lt ((wsAt_ln (i := i) (w := 1) (by omega) (by omega))).2.2.2⟩).2 hw160.2.2.1 (Nat.le_of_ble_eq_true rfl) (s_X10_join hw160 hw162 (by omega)) ?_
      rintro _ h163 _ ⟨rfl, eh164, rfl⟩
      have hS165 := SH_p hS84 (wsAt_ln (i := i) (w := 1) (by omega) (by omega)) eh164
      have hk166 : KX [] h82 h163 := KX_p (wsAt_ln (i := i) (w := 1) (by omega) (by omega)) eh164
      have hF167 := KX_tr hF86 (KX_sb (l := []) (by first | decide | exact fun _ z => z | simp) hk166)
      have f168 : h163 (100 + 8 * i) = .inr (3, [.ref (101 + 8 * i), .int p, .int t, .int o, .int a, .int b, .int l]) := (hk166 _ (by simp <;> omega) (nSP_ln (i := i) (by omega))).trans f87
      have f169 : h163 (100 + 8 * j) = .inr (3, [.ref (101 + 8 * j), .int p1, .int t1, .int o1, .int a1, .int b1, .int l1]) := (hk166 _ (by simp <;> omega) (nSP_ln (i := j) (by omega))).trans f88
      have f170 : h163 (100 + 8 * m) = .inr (3, [.ref (101 + 8 * m), .int p2, .int t2, .int o2, .int a2, .int b2, .int l2]) := (hk166 _ (by simp <;> omega) (nSP_ln (i := m) (by omega))).trans f89
      refine r_goto (pc' := 107) rfl dX3_sayAsCut_92 ?_
      refine r_iinc (y := 2) (ls' := [some (.ref (100 + 8 * i)), some (.ref (100 + 8 * j)), some (.ref (100 + 8 * m)), some (.int c), some (.int 2), some (.ref (102 + 8 * j + 2 * 1)), some (.ref (102 + 8 * m + 2 * 1))]) rfl dX3_sayAsCut_107 rfl (by decide) (Nat.le_of_ble_eq_true rfl) rfl ?_
      refine r_goto (pc' := 3) rfl dX3_sayAsCut_110 ?_
      refine r_iload rfl dX3_sayAsCut_3 rfl ?_
      refine r_iconst (v := 3) rfl dX3_sayAsCut_5 (by decide) ?_
      refine r_icmp_ge (tgt := 113) rfl rfl dX3_sayAsCut_6 (fun zc => absurd zc (by decide)) (fun _ => ?_)
      refine r_aload_n rfl dX3_sayAsCut_9 rfl ?_
      refine r_getv 0 rfl dX3_sayAsCut_10 (show 2 ≤ 100 + 8 * j ∧ 100 + 8 * j < 434 by omega) f169 fl_X3_11 rfl ?_
      refine r_iload rfl dX3_sayAsCut_13 rfl ?_
      refine r_aald (jn := 2) (v := .ref (102 + 8 * j + 2 * 2)) rfl dX3_sayAsCut_15 (show 2 ≤ 101 + 8 * j ∧ 101 + 8 * j < 434 by omega).1 (show 2 ≤ 101 + 8 * j ∧ 101 + 8 * j < 434 by omega).2 (hS165.say (i := j) (by omega)) (by decide) (vp_in_nI (n := 2) (by omega) (by decide)) (nI_clamp (n := 2) (by omega)) (by show va_rf (if _ < _ then _ else _) = _; rw [if_pos (show 2 < 3 by omega)]; rfl) ?_
      refine r_astore (ls' := [some (.ref (100 + 8 * i)), some (.ref (100 + 8 * j)), some (.ref (100 + 8 * m)), some (.int c), some (.int 2), some (.ref (102 + 8 * j + 2 * 2)), some (.ref (102 + 8 * m + 2 * 1))]) rfl dX3_sayAsCut_16 (Nat.le_of_ble_eq_true rfl) rfl ?_
      refine r_aload_n rfl dX3_sayAsCut_18 rfl ?_
      refine r_getv 0 rfl dX3_sayAsCut_19 (show 2 ≤ 100 + 8 * m ∧ 100 + 8 * m < 434 by omega) f170 fl_X3_11 rfl ?_
      refine r_iload rfl dX3_sayAsCut_22 rfl ?_
      refine r_aald (jn := 2) (v := .ref (102 + 8 * m + 2 * 2)) rfl dX3_sayAsCut_24 (show 2 ≤ 101 + 8 * m ∧ 101 + 8 * m < 434 by omega).1 (show 2 ≤ 101 + 8 * m ∧ 101 + 8 * m < 434 by omega).2 (hS165.say (i := m) (by omega)) (by decide) (vp_in_nI (n := 2) (by omega) (by decide)) (nI_clamp (n := 2) (by omega)) (by show va_rf (if _ < _ then _ else _) = _; rw [if_pos (show 2 < 3 by omega)]; rfl) ?_
      refine r_astore (ls' := [some (.ref (100 + 8 * i)), some (.ref (100 + 8 * j)), some (.ref (100 + 8 * m)), some (.int c), some (.int 2), some (.ref (102 + 8 * j + 2 * 2)), some (.ref (102 + 8 * m + 2 * 2))]) rfl dX3_sayAsCut_25 (Nat.le_of_ble_eq_true rfl) rfl ?_
      refine r_iload rfl dX3_sayAsCut_27 rfl ?_
      refine r_iconst (v := 2) rfl dX3_sayAsCut_29 (by decide) ?_
      refine r_icmp_ne (tgt := 59) rfl rfl dX3_sayAsCut_30 (fun zc => absurd zc (by decide)) (fun _ => ?_)
      refine r_iload_n rfl dX3_sayAsCut_33 rfl ?_
      refine r_iconst (v := 3) rfl dX3_sayAsCut_34 (by decide) ?_
      refine r_icmp_ne (tgt := 59) rfl rfl dX3_sayAsCut_35 (fun c171 => ?_) (fun c171 => ?_)
      · refine r_aload_n rfl dX3_sayAsCut_59 rfl ?_
        refine r_getv 0 rfl dX3_sayAsCut_60 (show 2 ≤ 100 + 8 * i ∧ 100 + 8 * i < 434 by omega) f168 fl_X3_11 rfl ?_
        refine r_iload rfl dX3_sayAsCut_63 rfl ?_
        refine r_aald (jn := 2) (v := .ref (102 + 8 * i + 2 * 2)) rfl dX3_sayAsCut_65 (show 2 ≤ 101 + 8 * i ∧ 101 + 8 * i < 434 by omega).1 (show 2 ≤ 101 + 8 * i ∧ 101 + 8 * i < 434 by omega).2 (hS165.say (i := i) (by omega)) (by decide) (vp_in_nI (n := 2) (by omega) (by decide)) (nI_clamp (n := 2) (by omega)) (by show va_rf (if _ < _ then _ else _) = _; rw [if_pos (show 2 < 3 by omega)]; rfl) ?_
        refine r_aload rfl dX3_sayAsCut_66 rfl ?_
        obtain ⟨g172, hw173⟩ := hS165.ws (wsAt_ln (i := i) (w := 2) (by omega) (by omega))
        obtain ⟨g174, hw175⟩ := hS165.ws (wsAt_ln (i := j) (w := 2) (by omega) (by omega))
        refine cl_X3_64 rfl rfl dX3_sayAsCut_68 (show _ ∧ _ from ⟨((wsAt_ln (i := i) (w := 2) (by omega) (by omega))).2.2.1, Nat.lt_of_succ_lt ((wsAt_ln (i := i) (w := 2) (by omega) (by omega))).2.2.2⟩).1 (show _ ∧ _ from ⟨((wsAt_ln (i := i) (w := 2) (by omega) (by omega))).2.2.1, Nat.lt_of_succ_lt ((wsAt_ln (i := i) (w := 2) (by omega) (by omega))).2.2.2⟩).2 hw173.2.2.1 (Nat.le_of_ble_eq_true rfl) (s_X10_become hw173 hw175 (by omega)) ?_
        rintro _ h176 _ ⟨rfl, eh177, rfl⟩
        have hS178 := SH_p hS165 (wsAt_ln (i := i) (w := 2) (by omega) (by omega)) eh177
        have hk179 : KX [] h163 h176 := KX_p (wsAt_ln (i := i) (w := 2) (by omega) (by omega)) eh177
        have hF180 := KX_tr hF167 (KX_sb (l := []) (by first | decide | exact fun _ z => z | simp) hk179)
        have f181 : h176 (100 + 8 * i) = .inr (3, [.ref (101 + 8 * i), .int p, .int t, .int o, .int a, .int b, .int l]) := (hk179 _ (by simp <;> omega) (nSP_ln (i := i) (by omega))).trans f168
        have f182 : h176 (100 + 8 * j) = .inr (3, [.ref (101 + 8 * j), .int p1, .int t1, .int o1, .int a1, .int b1, .int l1]) := (hk179 _ (by simp <;> omega) (nSP_ln (i := j) (by omega))).trans f169
        have f183 : h176 (100 + 8 * m) = .inr (3, [.ref (101 + 8 * m), .int p2, .int t2, .int o2, .int a2, .int b2, .int l2]) := (hk179 _ (by simp <;> omega) (nSP_ln (i := m) (by omega))).trans f170
        refine r_iload rfl dX3_sayAsCut_71 rfl ?_
        refine r_iload_n rfl dX3_sayAsCut_73 rfl ?_
        refine cl_X3_68 rfl rfl dX3_sayAsCut_74 (Nat.le_of_ble_eq_true rfl) s_X3_joins ?_
        rintro _ h184 _ ⟨rfl, e185, rfl⟩
        replace e185 := e185.symm
        subst e185
        refine r_if_eq (tgt := 95) rfl rfl dX3_sayAsCut_77 (fun c186 => ?_) (fun c186 => ?_)
        · refine r_aload_n rfl dX3_sayAsCut_95 rfl ?_
          refine r_getv 0 rfl dX3_sayAsCut_96 (show 2 ≤ 100 + 8 * i ∧ 100 + 8 * i < 434 by omega) f181 fl_X3_11 rfl ?_
          refine r_iload rfl dX3_sayAsCut_99 rfl ?_
          refine r_aald (jn := 2) (v := .ref (102 + 8 * i + 2 * 2)) rfl dX3_sayAsCut_101 (show 2 ≤ 101 + 8 * i ∧ 101 + 8 * i < 434 by omega).1 (show 2 ≤ 101 + 8 * i ∧ 101 + 8 * i < 434 by omega).2 (hS178.say (i := i) (by omega)) (by decide) (vp_in_nI (n := 2) (by omega) (by decide)) (nI_clamp (n := 2) (by omega)) (by show va_rf (if _ < _ then _ else _) = _; rw [if_pos (show 2 < 3 by omega)]; rfl) ?_
          refine r_aload rfl dX3_sayAsCut_102 rfl ?_
          obtain ⟨g187, hw188⟩ := hS178.ws (wsAt_ln (i := i) (w := 2) (by omega) (by omega))
          obtain ⟨g189, hw190⟩ := hS178.ws (wsAt_ln (i := m) (w := 2) (by omega) (by omega))
          refine cl_X3_75 rfl rfl dX3_sayAsCut_104 (show _ ∧ _ from ⟨((wsAt_ln (i := i) (w := 2) (by omega) (by omega))).2.2.1, Nat.lt_of_succ_lt ((wsAt_ln (i := i) (w := 2) (by omega) (by omega))).2.2.2⟩).1 (show _ ∧ _ from ⟨((wsAt_ln (i := i) (w := 2) (by omega) (by omega))).2.2.1, Nat.lt_of_succ_lt ((wsAt_ln (i := i) (w := 2) (by omega) (by omega))).2.2.2⟩).2 hw188.2.2.1 (Nat.le_of_ble_eq_true rfl) (s_X10_meet hw188 hw190 (by omega)) ?_
          rintro _ h191 _ ⟨rfl, eh192, rfl⟩
          have hS193 := SH_p hS178 (wsAt_ln (i := i) (w := 2) (by omega) (by omega)) eh192
          have hk194 : KX [] h176 h191 := KX_p (wsAt_ln (i := i) (w := 2) (by omega) (by omega)) eh192
          have hF195 := KX_tr hF180 (KX_sb (l := []) (by first | decide | exact fun _ z => z | simp) hk194)
          have f196 : h191 (100 + 8 * i) = .inr (3, [.ref (101 + 8 * i), .int p, .int t, .int o, .int a, .int b, .int l]) := (hk194 _ (by simp <;> omega) (nSP_ln (i := i) (by omega))).trans f181
          have f197 : h191 (100 + 8 * j) = .inr (3, [.ref (101 + 8 * j), .int p1, .int t1, .int o1, .int a1, .int b1, .int l1]) := (hk194 _ (by simp <;> omega) (nSP_ln (i := j) (by omega))).trans f182
          have f198 : h191 (100 + 8 * m) = .inr (3, [.ref (101 + 8 * m), .int p2, .int t2, .int o2, .int a2, .int b2, .int l2]) := (hk194 _ (by simp <;> omega) (nSP_ln (i := m) (by omega))).trans f183
          refine r_iinc (y := 3) (ls' := [some (.ref (100 + 8 * i)), some (.ref (100 + 8 * j)), some (.ref (100 + 8 * m)), some (.int c), some (.int 3), some (.ref (102 + 8 * j + 2 * 2)), some (.ref (102 + 8 * m + 2 * 2))]) rfl dX3_sayAsCut_107 rfl (by decide) (Nat.le_of_ble_eq_true rfl) rfl ?_
          refine r_goto (pc' := 3) rfl dX3_sayAsCut_110 ?_
          refine r_iload rfl dX3_sayAsCut_3 rfl ?_
          refine r_iconst (v := 3) rfl dX3_sayAsCut_5 (by decide) ?_
          refine r_icmp_ge (tgt := 113) rfl rfl dX3_sayAsCut_6 (fun _ => ?_) (fun zc => absurd zc (by decide))
          exact r_ret dX3_sayAsCut_113 (rt_v rfl) ⟨rfl, hS193, hF195, rfl⟩
        · refine r_aload_n rfl dX3_sayAsCut_80 rfl ?_
          refine r_getv 0 rfl dX3_sayAsCut_81 (show 2 ≤ 100 + 8 * i ∧ 100 + 8 * i < 434 by omega) f181 fl_X3_11 rfl ?_
          refine r_iload rfl dX3_sayAsCut_84 rfl ?_
          refine r_aald (jn := 2) (v := .ref (102 + 8 * i + 2 * 2)) rfl dX3_sayAsCut_86 (show 2 ≤ 101 + 8 * i ∧ 101 + 8 * i < 434 by omega).1 (show 2 ≤ 101 + 8 * i ∧ 101 + 8 * i < 434 by omega).2 (hS178.say (i := i) (by omega)) (by decide) (vp_in_nI (n := 2) (by omega) (by decide)) (nI_clamp (n := 2) (by omega)) (by show va_rf (if _ < _ then _ else _) = _; rw [if_pos (show 2 < 3 by omega)]; rfl) ?_
          refine r_aload rfl dX3_sayAsCut_87 rfl ?_
          obtain ⟨g199, hw200⟩ := hS178.ws (wsAt_ln (i := i) (w := 2) (by omega) (by omega))
          obtain ⟨g201, hw202⟩ := hS178.ws (wsAt_ln (i := m) (w := 2) (by omega) (by omega))
          refine cl_X3_72 rfl rfl dX3_sayAsCut_89 (show _ ∧ _ from ⟨((wsAt_ln (i := i) (w := 2) (by omega) (by omega))).2.2.1, Nat.lt_of_succ_lt ((wsAt_ln (i := i) (w := 2) (by omega) (by omega))).2.2.2⟩).1 (show _ ∧ _ from ⟨((wsAt_ln (i := i) (w := 2) (by omega) (by omega))).2.2.1, Nat.lt_of_succ_lt ((wsAt_ln (i := i) (w := 2) (by omega) (by omega))).2.2.2⟩).2 hw200.2.2.1 (Nat.le_of_ble_eq_true rfl) (s_X10_join hw200 hw202 (by omega)) ?_
          rintro _ h203 _ ⟨rfl, eh204, rfl⟩
          have hS205 := SH_p hS178 (wsAt_ln (i := i) (w := 2) (by omega) (by omega)) eh204
          have hk206 : KX [] h176 h203 := KX_p (wsAt_ln (i := i) (w := 2) (by omega) (by omega)) eh204
          have hF207 := KX_tr hF180 (KX_sb (l := []) (by first | decide | exact fun _ z => z | simp) hk206)
          have f208 : h203 (100 + 8 * i) = .inr (3, [.ref (101 + 8 * i), .int p, .int t, .int o, .int a, .int b, .int l]) := (hk206 _ (by simp <;> omega) (nSP_ln (i := i) (by omega))).trans f181
          have f209 : h203 (100 + 8 * j) = .inr (3, [.ref (101 + 8 * j), .int p1, .int t1, .int o1, .int a1, .int b1, .int l1]) := (hk206 _ (by simp <;> omega) (nSP_ln (i := j) (by omega))).trans f182
          have f210 : h203 (100 + 8 * m) = .inr (3, [.ref (101 + 8 * m), .int p2, .int t2, .int o2, .int a2, .int b2, .int l2]) := (hk206 _ (by simp <;> omega) (nSP_ln (i := m) (by omega))).trans f183
          refine r_goto (pc' := 107) rfl dX3_sayAsCut_92 ?_
          refine r_iinc (y := 3) (ls' := [some (.ref (100 + 8 * i)), some (.ref (100 + 8 * j)), some (.ref (100 + 8 * m)), some (.int c), some (.int 3), some (.ref (102 + 8 * j + 2 * 2)), some (.ref (102 + 8 * m + 2 * 2))]) rfl dX3_sayAsCut_107 rfl (by decide) (Nat.le_of_ble_eq_true rfl) rfl ?_
          refine r_goto (pc' := 3) rfl dX3_sayAsCut_110 ?_
          refine r_iload rfl dX3_sayAsCut_3 rfl ?_
          refine r_iconst (v := 3) rfl dX3_sayAsCut_5 (by decide) ?_
          refine r_icmp_ge (tgt := 113) rfl rfl dX3_sayAsCut_6 (fun _ => ?_) (fun zc => absurd zc (by decide))
          exact r_ret dX3_sayAsCut_113 (rt_v rfl) ⟨rfl, hS205, hF207, rfl⟩
      · refine r_aload_n rfl dX3_sayAsCut_38 rfl ?_
        refine r_getv 0 rfl dX3_sayAsCut_39 (show 2 ≤ 100 + 8 * i ∧ 100 + 8 * i < 434 by omega) f168 fl_X3_11 rfl ?_
        refine r_iload rfl dX3_sayAsCut_42 rfl ?_
        refine r_aald (jn := 2) (v := .ref (102 + 8 * i + 2 * 2)) rfl dX3_sayAsCut_44 (show 2 ≤ 101 + 8 * i ∧ 101 + 8 * i < 434 by omega).1 (show 2 ≤ 101 + 8 * i ∧ 101 + 8 * i < 434 by omega).2 (hS165.say (i := i) (by omega)) (by decide) (vp_in_nI (n := 2) (by omega) (by decide)) (nI_clamp (n := 2) (by omega)) (by show va_rf (if _ < _ then _ else _) = _; rw [if_pos (show 2 < 3 by omega)]; rfl) ?_
        refine r_aload_n rfl dX3_sayAsCut_45 rfl ?_
        refine r_getv 6 rfl dX3_sayAsCut_46 (show 2 ≤ 100 + 8 * i ∧ 100 + 8 * i < 434 by omega) f168 fl_X3_24 rfl ?_
        refine r_aload rfl dX3_sayAsCut_49 rfl ?_
        refine r_aload rfl dX3_sayAsCut_51 rfl ?_
        obtain ⟨g211, hw212⟩ := hS165.ws (wsAt_ln (i := i) (w := 2) (by omega) (by omega))
        obtain ⟨g213, hw214⟩ := hS165.ws (wsAt_ln (i := m) (w := 2) (by omega) (by omega))
        obtain ⟨g215, hw216⟩ := hS165.ws (wsAt_ln (i := j) (w := 2) (by omega) (by omega))
        refine cl_X3_60 rfl rfl dX3_sayAsCut_53 (show _ ∧ _ from ⟨((wsAt_ln (i := i) (w := 2) (by omega) (by omega))).2.2.1, Nat.lt_of_succ_lt ((wsAt_ln (i := i) (w := 2) (by omega) (by omega))).2.2.2⟩).1 (show _ ∧ _ from ⟨((wsAt_ln (i := i) (w := 2) (by omega) (by omega))).2.2.1, Nat.lt_of_succ_lt ((wsAt_ln (i := i) (w := 2) (by omega) (by omega))).2.2.2⟩).2 hw212.2.2.1 (Nat.le_of_ble_eq_true rfl) (s_X10_choose hw212 hw214 hw216 (by omega) (by omega)) ?_
        rintro _ h217 _ ⟨rfl, eh218, rfl⟩
        have hS219 := SH_p hS165 (wsAt_ln (i := i) (w := 2) (by omega) (by omega)) eh218
        have hk220 : KX [] h163 h217 := KX_p (wsAt_ln (i := i) (w := 2) (by omega) (by omega)) eh218
        have hF221 := KX_tr hF167 (KX_sb (l := []) (by first | decide | exact fun _ z => z | simp) hk220)
        have f222 : h217 (100 + 8 * i) = .inr (3, [.ref (101 + 8 * i), .int p, .int t, .int o, .int a, .int b, .int l]) := (hk220 _ (by simp <;> omega) (nSP_ln (i := i) (by omega))).trans f168
        have f223 : h217 (100 + 8 * j) = .inr (3, [.ref (101 + 8 * j), .int p1, .int t1, .int o1, .int a1, .int b1, .int l1]) := (hk220 _ (by simp <;> omega) (nSP_ln (i := j) (by omega))).trans f169
        have f224 : h217 (100 + 8 * m) = .inr (3, [.ref (101 + 8 * m), .int p2, .int t2, .int o2, .int a2, .int b2, .int l2]) := (hk220 _ (by simp <;> omega) (nSP_ln (i := m) (by omega))).trans f170
        refine r_goto (pc' := 107) rfl dX3_sayAsCut_56 ?_
        refine r_iinc (y := 3) (ls' := [some (.ref (100 + 8 * i)), some (.ref (100 + 8 * j)), some (.ref (100 + 8 * m)), some (.int c), some (.int 3), some (.ref (102 + 8 * j + 2 * 2)), some (.ref (102 + 8 * m + 2 * 2))]) rfl dX3_sayAsCut_107 rfl (by decide) (Nat.le_of_ble_eq_true rfl) rfl ?_
        refine r_goto (pc' := 3) rfl dX3_sayAsCut_110 ?_
        refine r_iload rfl dX3_sayAsCut_3 rfl ?_
        refine r_iconst (v := 3) rfl dX3_sayAsCut_5 (by decide) ?_
        refine r_icmp_ge (tgt := 113) rfl rfl dX3_sayAsCut_6 (fun _ => ?_) (fun zc => absurd zc (by decide))
        exact r_ret dX3_sayAsCut_113 (rt_v rfl) ⟨rfl, hS219, hF221, rfl⟩
  · refine r_aload_n rfl dX3_sayAsCut_80 rfl ?_
    refine r_getv 0 rfl dX3_sayAsCut_81 (show 2 ≤ 100 + 8 * i ∧ 100 + 8 * i < 434 by omega) f60 fl_X3_11 rfl ?_
    refine r_iload rfl dX3_sayAsCut_84 rfl ?_
    refine r_aald (jn := 0) (v := .ref (102 + 8 * i + 2 * 0)) rfl dX3_sayAsCut_86 (show 2 ≤ 101 + 8 * i ∧ 101 + 8 * i < 434 by omega).1 (show 2 ≤ 101 + 8 * i ∧ 101 + 8 * i < 434 by omega).2 (hS57.say (i := i) (by omega)) (by decide) (vp_in_nI (n := 0) (by omega) (by decide)) (nI_clamp (n := 0) (by omega)) (by show va_rf (if _ < _ then _ else _) = _; rw [if_pos (show 0 < 3 by omega)]; rfl) ?_
    refine r_aload rfl dX3_sayAsCut_87 rfl ?_
    obtain ⟨g225, hw226⟩ := hS57.ws (wsAt_ln (i := i) (w := 0) (by omega) (by omega))
    obtain ⟨g227, hw228⟩ := hS57.ws (wsAt_ln (i := m) (w := 0) (by omega) (by omega))
    refine cl_X3_72 rfl rfl dX3_sayAsCut_89 (show _ ∧ _ from ⟨((wsAt_ln (i := i) (w := 0) (by omega) (by omega))).2.2.1, Nat.lt_of_succ_lt ((wsAt_ln (i := i) (w := 0) (by omega) (by omega))).2.2.2⟩).1 (show _ ∧ _ from ⟨((wsAt_ln (i := i) (w := 0) (by omega) (by omega))).2.2.1, Nat.lt_of_succ_lt ((wsAt_ln (i := i) (w := 0) (by omega) (by omega))).2.2.2⟩).2 hw226.2.2.1 (Nat.le_of_ble_eq_true rfl) (s_X10_join hw226 hw228 (by omega)) ?_
    rintro _ h229 _ ⟨rfl, eh230, rfl⟩
    have hS231 := SH_p hS57 (wsAt_ln (i := i) (w := 0) (by omega) (by omega)) eh230
    have hk232 : KX [] h55 h229 := KX_p (wsAt_ln (i := i) (w := 0) (by omega) (by omega)) eh230
    have hF233 := KX_tr hF59 (KX_sb (l := []) (by first | decide | exact fun _ z => z | simp) hk232)
    have f234 : h229 (100 + 8 * i) = .inr (3, [.ref (101 + 8 * i), .int p, .int t, .int o, .int a, .int b, .int l]) := (hk232 _ (by simp <;> omega) (nSP_ln (i := i) (by omega))).trans f60
    have f235 : h229 (100 + 8 * j) = .inr (3, [.ref (101 + 8 * j), .int p1, .int t1, .int o1, .int a1, .int b1, .int l1]) := (hk232 _ (by simp <;> omega) (nSP_ln (i := j) (by omega))).trans f61
    have f236 : h229 (100 + 8 * m) = .inr (3, [.ref (101 + 8 * m), .int p2, .int t2, .int o2, .int a2, .int b2, .int l2]) := (hk232 _ (by simp <;> omega) (nSP_ln (i := m) (by omega))).trans f62
    refine r_goto (pc' := 107) rfl dX3_sayAsCut_92 ?_
    refine r_iinc (y := 1) (ls' := [some (.ref (100 + 8 * i)), some (.ref (100 + 8 * j)), some (.ref (100 + 8 * m)), some (.int c), some (.int 1), some (.ref (102 + 8 * j + 2 * 0)), some (.ref (102 + 8 * m + 2 * 0))]) rfl dX3_sayAsCut_107 rfl (by decide) (Nat.le_of_ble_eq_true rfl) rfl ?_
    refine r_goto (pc' := 3) rfl dX3_sayAsCut_110 ?_
    refine r_iload rfl dX3_sayAsCut_3 rfl ?_
    refine r_iconst (v := 3) rfl dX3_sayAsCut_5 (by decide) ?_
    refine r_icmp_ge (tgt := 113) rfl rfl dX3_sayAsCut_6 (fun zc => absurd zc (by decide)) (fun _ => ?_)
    refine r_aload_n rfl dX3_sayAsCut_9 rfl ?_
    refine r_getv 0 rfl dX3_sayAsCut_10 (show 2 ≤ 100 + 8 * j ∧ 100 + 8 * j < 434 by omega) f235 fl_X3_11 rfl ?_
    refine r_iload rfl dX3_sayAsCut_13 rfl ?_
    refine r_aald (jn := 1) (v := .ref (102 + 8 * j + 2 * 1)) rfl dX3_sayAsCut_15 (show 2 ≤ 101 + 8 * j ∧ 101 + 8 * j < 434 by omega).1 (show 2 ≤ 101 + 8 * j ∧ 101 + 8 * j < 434 by omega).2 (hS231.say (i := j) (by omega)) (by decide) (vp_in_nI (n := 1) (by omega) (by decide)) (nI_clamp (n := 1) (by omega)) (by show va_rf (if _ < _ then _ else _) = _; rw [if_pos (show 1 < 3 by omega)]; rfl) ?_
    refine r_astore (ls' := [some (.ref (100 + 8 * i)), some (.ref (100 + 8 * j)), some (.ref (100 + 8 * m)), some (.int c), some (.int 1), some (.ref (102 + 8 * j + 2 * 1)), some (.ref (102 + 8 * m + 2 * 0))]) rfl dX3_sayAsCut_16 (Nat.le_of_ble_eq_true rfl) rfl ?_
    refine r_aload_n rfl dX3_sayAsCut_18 rfl ?_
    refine r_getv 0 rfl dX3_sayAsCut_19 (show 2 ≤ 100 + 8 * m ∧ 100 + 8 * m < 434 by omega) f236 fl_X3_11 rfl ?_
    refine r_iload rfl dX3_sayAsCut_22 rfl ?_
    refine r_aald (jn := 1) (v := .ref (102 + 8 * m + 2 * 1)) rfl dX3_sayAsCut_24 (show 2 ≤ 101 + 8 * m ∧ 101 + 8 * m < 434 by omega).1 (show 2 ≤ 101 + 8 * m ∧ 101 + 8 * m < 434 by omega).2 (hS231.say (i := m) (by omega)) (by decide) (vp_in_nI (n := 1) (by omega) (by decide)) (nI_clamp (n := 1) (by omega)) (by show va_rf (if _ < _ then _ else _) = _; rw [if_pos (show 1 < 3 by omega)]; rfl) ?_
    refine r_astore (ls' := [some (.ref (100 + 8 * i)), some (.ref (100 + 8 * j)), some (.ref (100 + 8 * m)), some (.int c), some (.int 1), some (.ref (102 + 8 * j + 2 * 1)), some (.ref (102 + 8 * m + 2 * 1))]) rfl dX3_sayAsCut_25 (Nat.le_of_ble_eq_true rfl) rfl ?_
    refine r_iload rfl dX3_sayAsCut_27 rfl ?_
    refine r_iconst (v := 2) rfl dX3_sayAsCut_29 (by decide) ?_
    refine r_icmp_ne (tgt := 59) rfl rfl dX3_sayAsCut_30 (fun _ => ?_) (fun zc => absurd zc (by decide))
    refine r_aload_n rfl dX3_sayAsCut_59 rfl ?_
    refine r_getv 0 rfl dX3_sayAsCut_60 (show 2 ≤ 100 + 8 * i ∧ 100 + 8 * i < 434 by omega) f234 fl_X3_11 rfl ?_
    refine r_iload rfl dX3_sayAsCut_63 rfl ?_
    refine r_aald (jn := 1) (v := .ref (102 + 8 * i + 2 * 1)) rfl dX3_sayAsCut_65 (show 2 ≤ 101 + 8 * i ∧ 101 + 8 * i < 434 by omega).1 (show 2 ≤ 101 + 8 * i ∧ 101 + 8 * i < 434 by omega).2 (hS231.say (i := i) (by omega)) (by decide) (vp_in_nI (n := 1) (by omega) (by decide)) (nI_clamp (n := 1) (by omega)) (by show va_rf (if _ < _ then _ else _) = _; rw [if_pos (show 1 < 3 by omega)]; rfl) ?_
    refine r_aload rfl dX3_sayAsCut_66 rfl ?_
    obtain ⟨g237, hw238⟩ := hS231.ws (wsAt_ln (i := i) (w := 1) (by omega) (by omega))
    obtain ⟨g239, hw240⟩ := hS231.ws (wsAt_ln (i := j) (w := 1) (by omega) (by omega))
    refine cl_X3_64 rfl rfl dX3_sayAsCut_68 (show _ ∧ _ from ⟨((wsAt_ln (i := i) (w := 1) (by omega) (by omega))).2.2.1, Nat.lt_of_succ_lt ((wsAt_ln (i := i) (w := 1) (by omega) (by omega))).2.2.2⟩).1 (show _ ∧ _ from ⟨((wsAt_ln (i := i) (w := 1) (by omega) (by omega))).2.2.1, Nat.lt_of_succ_lt ((wsAt_ln (i := i) (w := 1) (by omega) (by omega))).2.2.2⟩).2 hw238.2.2.1 (Nat.le_of_ble_eq_true rfl) (s_X10_become hw238 hw240 (by omega)) ?_
    rintro _ h241 _ ⟨rfl, eh242, rfl⟩
    have hS243 := SH_p hS231 (wsAt_ln (i := i) (w := 1) (by omega) (by omega)) eh242
    have hk244 : KX [] h229 h241 := KX_p (wsAt_ln (i := i) (w := 1) (by omega) (by omega)) eh242
    have hF245 := KX_tr hF233 (KX_sb (l := []) (by first | decide | exact fun _ z => z | simp) hk244)
    have f246 : h241 (100 + 8 * i) = .inr (3, [.ref (101 + 8 * i), .int p, .int t, .int o, .int a, .int b, .int l]) := (hk244 _ (by simp <;> omega) (nSP_ln (i := i) (by omega))).trans f234
    have f247 : h241 (100 + 8 * j) = .inr (3, [.ref (101 + 8 * j), .int p1, .int t1, .int o1, .int a1, .int b1, .int l1]) := (hk244 _ (by simp <;> omega) (nSP_ln (i := j) (by omega))).trans f235
    have f248 : h241 (100 + 8 * m) = .inr (3, [.ref (101 + 8 * m), .int p2, .int t2, .int o2, .int a2, .int b2, .int l2]) := (hk244 _ (by simp <;> omega) (nSP_ln (i := m) (by omega))).trans f236
    refine r_iload rfl dX3_sayAsCut_71 rfl ?_
    refine r_iload_n rfl dX3_sayAsCut_73 rfl ?_
    refine cl_X3_68 rfl rfl dX3_sayAsCut_74 (Nat.le_of_ble_eq_true rfl) s_X3_joins ?_
    rintro _ h249 _ ⟨rfl, e250, rfl⟩
    replace e250 := e250.symm
    subst e250
    refine r_if_eq (tgt := 95) rfl rfl dX3_sayAsCut_77 (fun c251 => ?_) (fun c251 => ?_)
    · refine r_aload_n rfl dX3_sayAsCut_95 rfl ?_
      refine r_getv 0 rfl dX3_sayAsCut_96 (show 2 ≤ 100 + 8 * i ∧ 100 + 8 * i < 434 by omega) f246 fl_X3_11 rfl ?_
      refine r_iload rfl dX3_sayAsCut_99 rfl ?_
      refine r_aald (jn := 1) (v := .ref (102 + 8 * i + 2 * 1)) rfl dX3_sayAsCut_101 (show 2 ≤ 101 + 8 * i ∧ 101 + 8 * i < 434 by omega).1 (show 2 ≤ 101 + 8 * i ∧ 101 + 8 * i < 434 by omega).2 (hS243.say (i := i) (by omega)) (by decide) (vp_in_nI (n := 1) (by omega) (by decide)) (nI_clamp (n := 1) (by omega)) (by show va_rf (if _ < _ then _ else _) = _; rw [if_pos (show 1 < 3 by omega)]; rfl) ?_
      refine r_aload rfl dX3_sayAsCut_102 rfl ?_
      obtain ⟨g252, hw253⟩ := hS243.ws (wsAt_ln (i := i) (w := 1) (by omega) (by omega))
      obtain ⟨g254, hw255⟩ := hS243.ws (wsAt_ln (i := m) (w := 1) (by omega) (by omega))
      refine cl_X3_75 rfl rfl dX3_sayAsCut_104 (show _ ∧ _ from ⟨((wsAt_ln (i := i) (w := 1) (by omega) (by omega))).2.2.1, Nat.lt_of_succ_lt ((wsAt_ln (i := i) (w := 1) (by omega) (by omega))).2.2.2⟩).1 (show _ ∧ _ from ⟨((wsAt_ln (i := i) (w := 1) (by omega) (by omega))).2.2.1, Nat.lt_of_succ_lt ((wsAt_ln (i := i) (w := 1) (by omega) (by omega))).2.2.2⟩).2 hw253.2.2.1 (Nat.le_of_ble_eq_true rfl) (s_X10_meet hw253 hw255 (by omega)) ?_
      rintro _ h256 _ ⟨rfl, eh257, rfl⟩
      have hS258 := SH_p hS243 (wsAt_ln (i := i) (w := 1) (by omega) (by omega)) eh257
      have hk259 : KX [] h241 h256 := KX_p (wsAt_ln (i := i) (w := 1) (by omega) (by omega)) eh257
      have hF260 := KX_tr hF245 (KX_sb (l := []) (by first | decide | exact fun _ z => z | simp) hk259)
      have f261 : h256 (100 + 8 * i) = .inr (3, [.ref (101 + 8 * i), .int p, .int t, .int o, .int a, .int b, .int l]) := (hk259 _ (by simp <;> omega) (nSP_ln (i := i) (by omega))).trans f246
      have f262 : h256 (100 + 8 * j) = .inr (3, [.ref (101 + 8 * j), .int p1, .int t1, .int o1, .int a1, .int b1, .int l1]) := (hk259 _ (by simp <;> omega) (nSP_ln (i := j) (by omega))).trans f247
      have f263 : h256 (100 + 8 * m) = .inr (3, [.ref (101 + 8 * m), .int p2, .int t2, .int o2, .int a2, .int b2, .int l2]) := (hk259 _ (by simp <;> omega) (nSP_ln (i := m) (by omega))).trans f248
      refine r_iinc (y := 2) (ls' := [some (.ref (100 + 8 * i)), some (.ref (100 + 8 * j)), some (.ref (100 + 8 * m)), some (.int c), some (.int 2), some (.ref (102 + 8 * j + 2 * 1)), some (.ref (102 + 8 * m + 2 * 1))]) rfl dX3_sayAsCut_107 rfl (by decide) (Nat.le_of_ble_eq_true rfl) rfl ?_
      refine r_goto (pc' := 3) rfl dX3_sayAsCut_110 ?_
      refine r_iload rfl dX3_sayAsCut_3 rfl ?_
      refine r_iconst (v := 3) rfl dX3_sayAsCut_5 (by decide) ?_
      refine r_icmp_ge (tgt := 113) rfl rfl dX3_sayAsCut_6 (fun zc => absurd zc (by decide)) (fun _ => ?_)
      refine r_aload_n rfl dX3_sayAsCut_9 rfl ?_
      refine r_getv 0 rfl dX3_sayAsCut_10 (show 2 ≤ 100 + 8 * j ∧ 100 + 8 * j < 434 by omega) f262 fl_X3_11 rfl ?_
      refine r_iload rfl dX3_sayAsCut_13 rfl ?_
      refine r_aald (jn := 2) (v := .ref (102 + 8 * j + 2 * 2)) rfl dX3_sayAsCut_15 (show 2 ≤ 101 + 8 * j ∧ 101 + 8 * j < 434 by omega).1 (show 2 ≤ 101 + 8 * j ∧ 101 + 8 * j < 434 by omega).2 (hS258.say (i := j) (by omega)) (by decide) (vp_in_nI (n := 2) (by omega) (by decide)) (nI_clamp (n := 2) (by omega)) (by show va_rf (if _ < _ then _ else _) = _; rw [if_pos (show 2 < 3 by omega)]; rfl) ?_
      refine r_astore (ls' := [some (.ref (100 + 8 * i)), some (.ref (100 + 8 * j)), some (.ref (100 + 8 * m)), some (.int c), some (.int 2), some (.ref (102 + 8 * j + 2 * 2)), some (.ref (102 + 8 * m + 2 * 1))]) rfl dX3_sayAsCut_16 (Nat.le_of_ble_eq_true rfl) rfl ?_
      refine r_aload_n rfl dX3_sayAsCut_18 rfl ?_
      refine r_getv 0 rfl dX3_sayAsCut_19 (show 2 ≤ 100 + 8 * m ∧ 100 + 8 * m < 434 by omega) f263 fl_X3_11 rfl ?_
      refine r_iload rfl dX3_sayAsCut_22 rfl ?_
      refine r_aald (jn := 2) (v := .ref (102 + 8 * m + 2 * 2)) rfl dX3_sayAsCut_24 (show 2 ≤ 101 + 8 * m ∧ 101 + 8 * m < 434 by omega).1 (show 2 ≤ 101 + 8 * m ∧ 101 + 8 * m < 434 by omega).2 (hS258.say (i := m) (by omega)) (by decide) (vp_in_nI (n := 2) (by omega) (by decide)) (nI_clamp (n := 2) (by omega)) (by show va_rf (if _ < _ then _ else _) = _; rw [if_pos (show 2 < 3 by omega)]; rfl) ?_
      refine r_astore (ls' := [some (.ref (100 + 8 * i)), some (.ref (100 + 8 * j)), some (.ref (100 + 8 * m)), some (.int c), some (.int 2), some (.ref (102 + 8 * j + 2 * 2)), some (.ref (102 + 8 * m + 2 * 2))]) rfl dX3_sayAsCut_25 (Nat.le_of_ble_eq_true rfl) rfl ?_
      refine r_iload rfl dX3_sayAsCut_27 rfl ?_
      refine r_iconst (v := 2) rfl dX3_sayAsCut_29 (by decide) ?_
      refine r_icmp_ne (tgt := 59) rfl rfl dX3_sayAsCut_30 (fun zc => absurd zc (by decide)) (fun _ => ?_)
      refine r_iload_n rfl dX3_sayAsCut_33 rfl ?_
      refine r_iconst (v := 3) rfl dX3_sayAsCut_34 (by decide) ?_
      refine r_icmp_ne (tgt := 59) rfl rfl dX3_sayAsCut_35 (fun c264 => ?_) (fun c264 => ?_)
      · refine r_aload_n rfl dX3_sayAsCut_59 rfl ?_
        refine r_getv 0 rfl dX3_sayAsCut_60 (show 2 ≤ 100 + 8 * i ∧ 100 + 8 * i < 434 by omega) f261 fl_X3_11 rfl ?_
        refine r_iload rfl dX3_sayAsCut_63 rfl ?_
        refine r_aald (jn := 2) (v := .ref (102 + 8 * i + 2 * 2)) rfl dX3_sayAsCut_65 (show 2 ≤ 101 + 8 * i ∧ 101 + 8 * i < 434 by omega).1 (show 2 ≤ 101 + 8 * i ∧ 101 + 8 * i < 434 by omega).2 (hS258.say (i := i) (by omega)) (by decide) (vp_in_nI (n := 2) (by omega) (by decide)) (nI_clamp (n := 2) (by omega)) (by show va_rf (if _ < _ then _ else _) = _; rw [if_pos (show 2 < 3 by omega)]; rfl) ?_
        refine r_aload rfl dX3_sayAsCut_66 rfl ?_
        obtain ⟨g265, hw266⟩ := hS258.ws (wsAt_ln (i := i) (w := 2) (by omega) (by omega))
        obtain ⟨g267, hw268⟩ := hS258.ws (wsAt_ln (i := j) (w := 2) (by omega) (by omega))
        refine cl_X3_64 rfl rfl dX3_sayAsCut_68 (show _ ∧ _ from ⟨((wsAt_ln (i := i) (w := 2) (by omega) (by omega))).2.2.1, Nat.lt_of_succ_lt ((wsAt_ln (i := i) (w := 2) (by omega) (by omega))).2.2.2⟩).1 (show _ ∧ _ from ⟨((wsAt_ln (i := i) (w := 2) (by omega) (by omega))).2.2.1, Nat.lt_of_succ_lt ((wsAt_ln (i := i) (w := 2) (by omega) (by omega))).2.2.2⟩).2 hw266.2.2.1 (Nat.le_of_ble_eq_true rfl) (s_X10_become hw266 hw268 (by omega)) ?_
        rintro _ h269 _ ⟨rfl, eh270, rfl⟩
        have hS271 := SH_p hS258 (wsAt_ln (i := i) (w := 2) (by omega) (by omega)) eh270
        have hk272 : KX [] h256 h269 := KX_p (wsAt_ln (i := i) (w := 2) (by omega) (by omega)) eh270
        have hF273 := KX_tr hF260 (KX_sb (l := []) (by first | decide | exact fun _ z => z | simp) hk272)
        have f274 : h269 (100 + 8 * i) = .inr (3, [.ref (101 + 8 * i), .int p, .int t, .int o, .int a, .int b, .int l]) := (hk272 _ (by simp <;> omega) (nSP_ln (i := i) (by omega))).trans f261
        have f275 : h269 (100 + 8 * j) = .inr (3, [.ref (101 + 8 * j), .int p1, .int t1, .int o1, .int a1, .int b1, .int l1]) := (hk272 _ (by simp <;> omega) (nSP_ln (i := j) (by omega))).trans f262
        have f276 : h269 (100 + 8 * m) = .inr (3, [.ref (101 + 8 * m), .int p2, .int t2, .int o2, .int a2, .int b2, .int l2]) := (hk272 _ (by simp <;> omega) (nSP_ln (i := m) (by omega))).trans f263
        refine r_iload rfl dX3_sayAsCut_71 rfl ?_
        refine r_iload_n rfl dX3_sayAsCut_73 rfl ?_
        refine cl_X3_68 rfl rfl dX3_sayAsCut_74 (Nat.le_of_ble_eq_true rfl) s_X3_joins ?_
        rintro _ h277 _ ⟨rfl, e278, rfl⟩
        replace e278 := e278.symm
        subst e278
        refine r_if_eq (tgt := 95) rfl rfl dX3_sayAsCut_77 (fun c279 => ?_) (fun c279 => ?_)
        · refine r_aload_n rfl dX3_sayAsCut_95 rfl ?_
          refine r_getv 0 rfl dX3_sayAsCut_96 (show 2 ≤ 100 + 8 * i ∧ 100 + 8 * i < 434 by omega) f274 fl_X3_11 rfl ?_
          refine r_iload rfl dX3_sayAsCut_99 rfl ?_
          refine r_aald (jn := 2) (v := .ref (102 + 8 * i + 2 * 2)) rfl dX3_sayAsCut_101 (show 2 ≤ 101 + 8 * i ∧ 101 + 8 * i < 434 by omega).1 (show 2 ≤ 101 + 8 * i ∧ 101 + 8 * i < 434 by omega).2 (hS271.say (i := i) (by omega)) (by decide) (vp_in_nI (n := 2) (by omega) (by decide)) (nI_clamp (n := 2) (by omega)) (by show va_rf (if _ < _ then _ else _) = _; rw [if_pos (show 2 < 3 by omega)]; rfl) ?_
          refine r_aload rfl dX3_sayAsCut_102 rfl ?_
          obtain ⟨g280, hw281⟩ := hS271.ws (wsAt_ln (i := i) (w := 2) (by omega) (by omega))
          obtain ⟨g282, hw283⟩ := hS271.ws (wsAt_ln (i := m) (w := 2) (by omega) (by omega))
          refine cl_X3_75 rfl rfl dX3_sayAsCut_104 (show _ ∧ _ from ⟨((wsAt_ln (i := i) (w := 2) (by omega) (by omega))).2.2.1, Nat.lt_of_succ_lt ((wsAt_ln (i := i) (w := 2) (by omega) (by omega))).2.2.2⟩).1 (show _ ∧ _ from ⟨((wsAt_ln (i := i) (w := 2) (by omega) (by omega))).2.2.1, Nat.lt_of_succ_lt ((wsAt_ln (i := i) (w := 2) (by omega) (by omega))).2.2.2⟩).2 hw281.2.2.1 (Nat.le_of_ble_eq_true rfl) (s_X10_meet hw281 hw283 (by omega)) ?_
          rintro _ h284 _ ⟨rfl, eh285, rfl⟩
          have hS286 := SH_p hS271 (wsAt_ln (i := i) (w := 2) (by omega) (by omega)) eh285
          have hk287 : KX [] h269 h284 := KX_p (wsAt_ln (i := i) (w := 2) (by omega) (by omega)) eh285
          have hF288 := KX_tr hF273 (KX_sb (l := []) (by first | decide | exact fun _ z => z | simp) hk287)
          have f289 : h284 (100 + 8 * i) = .inr (3, [.ref (101 + 8 * i), .int p, .int t, .int o, .int a, .int b, .int l]) := (hk287 _ (by simp <;> omega) (nSP_ln (i := i) (by omega))).trans f274
          have f290 : h284 (100 + 8 * j) = .inr (3, [.ref (101 + 8 * j), .int p1, .int t1, .int o1, .int a1, .int b1, .int l1]) := (hk287 _ (by simp <;> omega) (nSP_ln (i := j) (by omega))).trans f275
          have f291 : h284 (100 + 8 * m) = .inr (3, [.ref (101 + 8 * m), .int p2, .int t2, .int o2, .int a2, .int b2, .int l2]) := (hk287 _ (by simp <;> omega) (nSP_ln (i := m) (by omega))).trans f276
          refine r_iinc (y := 3) (ls' := [some (.ref (100 + 8 * i)), some (.ref (100 + 8 * j)), some (.ref (100 + 8 * m)), some (.int c), some (.int 3), some (.ref (102 + 8 * j + 2 * 2)), some (.ref (102 + 8 * m + 2 * 2))]) rfl dX3_sayAsCut_107 rfl (by decide) (Nat.le_of_ble_eq_true rfl) rfl ?_
          refine r_goto (pc' := 3) rfl dX3_sayAsCut_110 ?_
          refine r_iload rfl dX3_sayAsCut_3 rfl ?_
          refine r_iconst (v := 3) rfl dX3_sayAsCut_5 (by decide) ?_
          refine r_icmp_ge (tgt := 113) rfl rfl dX3_sayAsCut_6 (fun _ => ?_) (fun zc => absurd zc (by decide))
          exact r_ret dX3_sayAsCut_113 (rt_v rfl) ⟨rfl, hS286, hF288, rfl⟩
        · refine r_aload_n rfl dX3_sayAsCut_80 rfl ?_
          refine r_getv 0 rfl dX3_sayAsCut_81 (show 2 ≤ 100 + 8 * i ∧ 100 + 8 * i < 434 by omega) f274 fl_X3_11 rfl ?_
          refine r_iload rfl dX3_sayAsCut_84 rfl ?_
          refine r_aald (jn := 2) (v := .ref (102 + 8 * i + 2 * 2)) rfl dX3_sayAsCut_86 (show 2 ≤ 101 + 8 * i ∧ 101 + 8 * i < 434 by omega).1 (show 2 ≤ 101 + 8 * i ∧ 101 + 8 * i < 434 by omega).2 (hS271.say (i := i) (by omega)) (by decide) (vp_in_nI (n := 2) (by omega) (by decide)) (nI_clamp (n := 2) (by omega)) (by show va_rf (if _ < _ then _ else _) = _; rw [if_pos (show 2 < 3 by omega)]; rfl) ?_
          refine r_aload rfl dX3_sayAsCut_87 rfl ?_
          obtain ⟨g292, hw293⟩ := hS271.ws (wsAt_ln (i := i) (w := 2) (by omega) (by omega))
          obtain ⟨g294, hw295⟩ := hS271.ws (wsAt_ln (i := m) (w := 2) (by omega) (by omega))
          refine cl_X3_72 rfl rfl dX3_sayAsCut_89 (show _ ∧ _ from ⟨((wsAt_ln (i := i) (w := 2) (by omega) (by omega))).2.2.1, Nat.lt_of_succ_lt ((wsAt_ln (i := i) (w := 2) (by omega) (by omega))).2.2.2⟩).1 (show _ ∧ _ from ⟨((wsAt_ln (i := i) (w := 2) (by omega) (by omega))).2.2.1, Nat.lt_of_succ_lt ((wsAt_ln (i := i) (w := 2) (by omega) (by omega))).2.2.2⟩).2 hw293.2.2.1 (Nat.le_of_ble_eq_true rfl) (s_X10_join hw293 hw295 (by omega)) ?_
          rintro _ h296 _ ⟨rfl, eh297, rfl⟩
          have hS298 := SH_p hS271 (wsAt_ln (i := i) (w := 2) (by omega) (by omega)) eh297
          have hk299 : KX [] h269 h296 := KX_p (wsAt_ln (i := i) (w := 2) (by omega) (by omega)) eh297
          have hF300 := KX_tr hF273 (KX_sb (l := []) (by first | decide | exact fun _ z => z | simp) hk299)
          have f301 : h296 (100 + 8 * i) = .inr (3, [.ref (101 + 8 * i), .int p, .int t, .int o, .int a, .int b, .int l]) := (hk299 _ (by simp <;> omega) (nSP_ln (i := i) (by omega))).trans f274
          have f302 : h296 (100 + 8 * j) = .inr (3, [.ref (101 + 8 * j), .int p1, .int t1, .int o1, .int a1, .int b1, .int l1]) := (hk299 _ (by simp <;> omega) (nSP_ln (i := j) (by omega))).trans f275
          have f303 : h296 (100 + 8 * m) = .inr (3, [.ref (101 + 8 * m), .int p2, .int t2, .int o2, .int a2, .int b2, .int l2]) := (hk299 _ (by simp <;> omega) (nSP_ln (i := m) (by omega))).trans f276
          refine r_goto (pc' := 107) rfl dX3_sayAsCut_92 ?_
          refine r_iinc (y := 3) (ls' := [some (.ref (100 + 8 * i)), some (.ref (100 + 8 * j)), some (.ref (100 + 8 * m)), some (.int c), some (.int 3), some (.ref (102 + 8 * j + 2 * 2)), some (.ref (102 + 8 * m + 2 * 2))]) rfl dX3_sayAsCut_107 rfl (by decide) (Nat.le_of_ble_eq_true rfl) rfl ?_
          refine r_goto (pc' := 3) rfl dX3_sayAsCut_110 ?_
          refine r_iload rfl dX3_sayAsCut_3 rfl ?_
          refine r_iconst (v := 3) rfl dX3_sayAsCut_5 (by decide) ?_
          refine r_icmp_ge (tgt := 113) rfl rfl dX3_sayAsCut_6 (fun _ => ?_) (fun zc => absurd zc (by decide))
          exact r_ret dX3_sayAsCut_113 (rt_v rfl) ⟨rfl, hS298, hF300, rfl⟩
      · refine r_aload_n rfl dX3_sayAsCut_38 rfl ?_
        refine r_getv 0 rfl dX3_sayAsCut_39 (show 2 ≤ 100 + 8 * i ∧ 100 + 8 * i < 434 by omega) f261 fl_X3_11 rfl ?_
        refine r_iload rfl dX3_sayAsCut_42 rfl ?_
        refine r_aald (jn := 2) (v := .ref (102 + 8 * i + 2 * 2)) rfl dX3_sayAsCut_44 (show 2 ≤ 101 + 8 * i ∧ 101 + 8 * i < 434 by omega).1 (show 2 ≤ 101 + 8 * i ∧ 101 + 8 * i < 434 by omega).2 (hS258.say (i := i) (by omega)) (by decide) (vp_in_nI (n := 2) (by omega) (by decide)) (nI_clamp (n := 2) (by omega)) (by show va_rf (if _ < _ then _ else _) = _; rw [if_pos (show 2 < 3 by omega)]; rfl) ?_
        refine r_aload_n rfl dX3_sayAsCut_45 rfl ?_
        refine r_getv 6 rfl dX3_sayAsCut_46 (show 2 ≤ 100 + 8 * i ∧ 100 + 8 * i < 434 by omega) f261 fl_X3_24 rfl ?_
        refine r_aload rfl dX3_sayAsCut_49 rfl ?_
        refine r_aload rfl dX3_sayAsCut_51 rfl ?_
        obtain ⟨g304, hw305⟩ := hS258.ws (wsAt_ln (i := i) (w := 2) (by omega) (by omega))
        obtain ⟨g306, hw307⟩ := hS258.ws (wsAt_ln (i := m) (w := 2) (by omega) (by omega))
        obtain ⟨g308, hw309⟩ := hS258.ws (wsAt_ln (i := j) (w := 2) (by omega) (by omega))
        refine cl_X3_60 rfl rfl dX3_sayAsCut_53 (show _ ∧ _ from ⟨((wsAt_ln (i := i) (w := 2) (by omega) (by omega))).2.2.1, Nat.lt_of_succ_lt ((wsAt_ln (i := i) (w := 2) (by omega) (by omega))).2.2.2⟩).1 (show _ ∧ _ from ⟨((wsAt_ln (i := i) (w := 2) (by omega) (by omega))).2.2.1, Nat.lt_of_succ_lt ((wsAt_ln (i := i) (w := 2) (by omega) (by omega))).2.2.2⟩).2 hw305.2.2.1 (Nat.le_of_ble_eq_true rfl) (s_X10_choose hw305 hw307 hw309 (by omega) (by omega)) ?_
        rintro _ h310 _ ⟨rfl, eh311, rfl⟩
        have hS312 := SH_p hS258 (wsAt_ln (i := i) (w := 2) (by omega) (by omega)) eh311
        have hk313 : KX [] h256 h310 := KX_p (wsAt_ln (i := i) (w := 2) (by omega) (by omega)) eh311
        have hF314 := KX_tr hF260 (KX_sb (l := []) (by first | decide | exact fun _ z => z | simp) hk313)
        have f315 : h310 (100 + 8 * i) = .inr (3, [.ref (101 + 8 * i), .int p, .int t, .int o, .int a, .int b, .int l]) := (hk313 _ (by simp <;> omega) (nSP_ln (i := i) (by omega))).trans f261
        have f316 : h310 (100 + 8 * j) = .inr (3, [.ref (101 + 8 * j), .int p1, .int t1, .int o1, .int a1, .int b1, .int l1]) := (hk313 _ (by simp <;> omega) (nSP_ln (i := j) (by omega))).trans f262
        have f317 : h310 (100 + 8 * m) = .inr (3, [.ref (101 + 8 * m), .int p2, .int t2, .int o2, .int a2, .int b2, .int l2]) := (hk313 _ (by simp <;> omega) (nSP_ln (i := m) (by omega))).trans f263
        refine r_goto (pc' := 107) rfl dX3_sayAsCut_56 ?_
        refine r_iinc (y := 3) (ls' := [some (.ref (100 + 8 * i)), some (.ref (100 + 8 * j)), some (.ref (100 + 8 * m)), some (.int c), some (.int 3), some (.ref (102 + 8 * j + 2 * 2)), some (.ref (102 + 8 * m + 2 * 2))]) rfl dX3_sayAsCut_107 rfl (by decide) (Nat.le_of_ble_eq_true rfl) rfl ?_
        refine r_goto (pc' := 3) rfl dX3_sayAsCut_110 ?_
        refine r_iload rfl dX3_sayAsCut_3 rfl ?_
        refine r_iconst (v := 3) rfl dX3_sayAsCut_5 (by decide) ?_
        refine r_icmp_ge (tgt := 113) rfl rfl dX3_sayAsCut_6 (fun _ => ?_) (fun zc => absurd zc (by decide))
        exact r_ret dX3_sayAsCut_113 (rt_v rfl) ⟨rfl, hS312, hF314, rfl⟩
    · refine r_aload_n rfl dX3_sayAsCut_80 rfl ?_
      refine r_getv 0 rfl dX3_sayAsCut_81 (show 2 ≤ 100 + 8 * i ∧ 100 + 8 * i < 434 by omega) f246 fl_X3_11 rfl ?_
      refine r_iload rfl dX3_sayAsCut_84 rfl ?_
      refine r_aald (jn := 1) (v := .ref (102 + 8 * i + 2 * 1)) rfl dX3_sayAsCut_86 (show 2 ≤ 101 + 8 * i ∧ 101 + 8 * i < 434 by omega).1 (show 2 ≤ 101 + 8 * i ∧ 101 + 8 * i < 434 by omega).2 (hS243.say (i := i) (by omega)) (by decide) (vp_in_nI (n := 1) (by omega) (by decide)) (nI_clamp (n := 1) (by omega)) (by show va_rf (if _ < _ then _ else _) = _; rw [if_pos (show 1 < 3 by omega)]; rfl) ?_
      refine r_aload rfl dX3_sayAsCut_87 rfl ?_
      obtain ⟨g318, hw319⟩ := hS243.ws (wsAt_ln (i := i) (w := 1) (by omega) (by omega))
      obtain ⟨g320, hw321⟩ := hS243.ws (wsAt_ln (i := m) (w := 1) (by omega) (by omega))
      refine cl_X3_72 rfl rfl dX3_sayAsCut_89 (show _ ∧ _ from ⟨((wsAt_ln (i := i) (w := 1) (by omega) (by omega))).2.2.1, Nat.lt_of_succ_lt ((wsAt_ln (i := i) (w := 1) (by omega) (by omega))).2.2.2⟩).1 (show _ ∧ _ from ⟨((wsAt_ln (i := i) (w := 1) (by omega) (by omega))).2.2.1, Nat.lt_of_succ_lt ((wsAt_ln (i := i) (w := 1) (by omega) (by omega))).2.2.2⟩).2 hw319.2.2.1 (Nat.le_of_ble_eq_true rfl) (s_X10_join hw319 hw321 (by omega)) ?_
      rintro _ h322 _ ⟨rfl, eh323, rfl⟩
      have hS324 := SH_p hS243 (wsAt_ln (i := i) (w := 1) (by omega) (by omega)) eh323
      have hk325 : KX [] h241 h322 := KX_p (wsAt_ln (i := i) (w := 1) (by omega) (by omega)) eh323
      have hF326 := KX_tr hF245 (KX_sb (l := []) (by first | decide | exact fun _ z => z | simp) hk325)
      have f327 : h322 (100 + 8 * i) = .inr (3, [.ref (101 + 8 * i), .int p, .int t, .int o, .int a, .int b, .int l]) := (hk325 _ (by simp <;> omega) (nSP_ln (i := i) (by omega))).trans f246
      have f328 : h322 (100 + 8 * j) = .inr (3, [.ref (101 + 8 * j), .int p1, .int t1, .int o1, .int a1, .int b1, .int l1]) := (hk325 _ (by simp <;> omega) (nSP_ln (i := j) (by omega))).trans f247
      have f329 : h322 (100 + 8 * m) = .inr (3, [.ref (101 + 8 * m), .int p2, .int t2, .int o2, .int a2, .int b2, .int l2]) := (hk325 _ (by simp <;> omega) (nSP_ln (i := m) (by omega))).trans f248
      refine r_goto (pc' := 107) rfl dX3_sayAsCut_92 ?_
      refine r_iinc (y := 2) (ls' := [some (.ref (100 + 8 * i)), some (.ref (100 + 8 * j)), some (.ref (100 + 8 * m)), some (.int c), some (.int 2), some (.ref (102 + 8 * j + 2 * 1)), some (.ref (102 + 8 * m + 2 * 1))]) rfl dX3_sayAsCut_107 rfl (by decide) (Nat.le_of_ble_eq_true rfl) rfl ?_
      refine r_goto (pc' := 3) rfl dX3_sayAsCut_110 ?_
      refine r_iload rfl dX3_sayAsCut_3 rfl ?_
      refine r_iconst (v := 3) rfl dX3_sayAsCut_5 (by decide) ?_
      refine r_icmp_ge (tgt := 113) rfl rfl dX3_sayAsCut_6 (fun zc => absurd zc (by decide)) (fun _ => ?_)
      refine r_aload_n rfl dX3_sayAsCut_9 rfl ?_
      refine r_getv 0 rfl dX3_sayAsCut_10 (show 2 ≤ 100 + 8 * j ∧ 100 + 8 * j < 434 by omega) f328 fl_X3_11 rfl ?_
      refine r_iload rfl dX3_sayAsCut_13 rfl ?_
      refine r_aald (jn := 2) (v := .ref (102 + 8 * j + 2 * 2)) rfl dX3_sayAsCut_15 (show 2 ≤ 101 + 8 * j ∧ 101 + 8 * j < 434 by omega).1 (show 2 ≤ 101 + 8 * j ∧ 101 + 8 * j < 434 by omega).2 (hS324.say (i := j) (by omega)) (by decide) (vp_in_nI (n := 2) (by omega) (by decide)) (nI_clamp (n := 2) (by omega)) (by show va_rf (if _ < _ then _ else _) = _; rw [if_pos (show 2 < 3 by omega)]; rfl) ?_
      refine r_astore (ls' := [some (.ref (100 + 8 * i)), some (.ref (100 + 8 * j)), some (.ref (100 + 8 * m)), some (.int c), some (.int 2), some (.ref (102 + 8 * j + 2 * 2)), some (.ref (102 + 8 * m + 2 * 1))]) rfl dX3_sayAsCut_16 (Nat.le_of_ble_eq_true rfl) rfl ?_
      refine r_aload_n rfl dX3_sayAsCut_18 rfl ?_
      refine r_getv 0 rfl dX3_sayAsCut_19 (show 2 ≤ 100 + 8 * m ∧ 100 + 8 * m < 434 by omega) f329 fl_X3_11 rfl ?_
      refine r_iload rfl dX3_sayAsCut_22 rfl ?_
      refine r_aald (jn := 2) (v := .ref (102 + 8 * m + 2 * 2)) rfl dX3_sayAsCut_24 (show 2 ≤ 101 + 8 * m ∧ 101 + 8 * m < 434 by omega).1 (show 2 ≤ 101 + 8 * m ∧ 101 + 8 * m < 434 by omega).2 (hS324.say (i := m) (by omega)) (by decide) (vp_in_nI (n := 2) (by omega) (by decide)) (nI_clamp (n := 2) (by omega)) (by show va_rf (if _ < _ then _ else _) = _; rw [if_pos (show 2 < 3 by omega)]; rfl) ?_
      refine r_astore (ls' := [some (.ref (100 + 8 * i)), some (.ref (100 + 8 * j)), some (.ref (100 + 8 * m)), some (.int c), some (.int 2), some (.ref (102 + 8 * j + 2 * 2)), some (.ref (102 + 8 * m + 2 * 2))]) rfl dX3_sayAsCut_25 (Nat.le_of_ble_eq_true rfl) rfl ?_
      refine r_iload rfl dX3_sayAsCut_27 rfl ?_
      refine r_iconst (v := 2) rfl dX3_sayAsCut_29 (by decide) ?_
      refine r_icmp_ne (tgt := 59) rfl rfl dX3_sayAsCut_30 (fun zc => absurd zc (by decide)) (fun _ => ?_)
      refine r_iload_n rfl dX3_sayAsCut_33 rfl ?_
      refine r_iconst (v := 3) rfl dX3_sayAsCut_34 (by decide) ?_
      refine r_icmp_ne (tgt := 59) rfl rfl dX3_sayAsCut_35 (fun c330 => ?_) (fun c330 => ?_)
      · refine r_aload_n rfl dX3_sayAsCut_59 rfl ?_
        refine r_getv 0 rfl dX3_sayAsCut_60 (show 2 ≤ 100 + 8 * i ∧ 100 + 8 * i < 434 by omega) f327 fl_X3_11 rfl ?_
        refine r_iload rfl dX3_sayAsCut_63 rfl ?_
        refine r_aald (jn := 2) (v := .ref (102 + 8 * i + 2 * 2)) rfl dX3_sayAsCut_65 (show 2 ≤ 101 + 8 * i ∧ 101 + 8 * i < 434 by omega).1 (show 2 ≤ 101 + 8 * i ∧ 101 + 8 * i < 434 by omega).2 (hS324.say (i := i) (by omega)) (by decide) (vp_in_nI (n := 2) (by omega) (by decide)) (nI_clamp (n := 2) (by omega)) (by show va_rf (if _ < _ then _ else _) = _; rw [if_pos (show 2 < 3 by omega)]; rfl) ?_
        refine r_aload rfl dX3_sayAsCut_66 rfl ?_
        obtain ⟨g331, hw332⟩ := hS324.ws (wsAt_ln (i := i) (w := 2) (by omega) (by omega))
        obtain ⟨g333, hw334⟩ := hS324.ws (wsAt_ln (i := j) (w := 2) (by omega) (by omega))
        refine cl_X3_64 rfl rfl dX3_sayAsCut_68 (show _ ∧ _ from ⟨((wsAt_ln (i := i) (w := 2) (by omega) (by omega))).2.2.1, Nat.lt_of_succ_lt ((wsAt_ln (i := i) (w := 2) (by omega) (by omega))).2.2.2⟩).1 (show _ ∧ _ from ⟨((wsAt_ln (i := i) (w := 2) (by omega) (by omega))).2.2.1, Nat.lt_of_succ_lt ((wsAt_ln (i := i) (w := 2) (by omega) (by omega))).2.2.2⟩).2 hw332.2.2.1 (Nat.le_of_ble_eq_true rfl) (s_X10_become hw332 hw334 (by omega)) ?_
        rintro _ h335 _ ⟨rfl, eh336, rfl⟩
        have hS337 := SH_p hS324 (wsAt_ln (i := i) (w := 2) (by omega) (by omega)) eh336
        have hk338 : KX [] h322 h335 := KX_p (wsAt_ln (i := i) (w := 2) (by omega) (by omega)) eh336
        have hF339 := KX_tr hF326 (KX_sb (l := []) (by first | decide | exact fun _ z => z | simp) hk338)
        have f340 : h335 (100 + 8 * i) = .inr (3, [.ref (101 + 8 * i), .int p, .int t, .int o, .int a, .int b, .int l]) := (hk338 _ (by simp <;> omega) (nSP_ln (i := i) (by omega))).trans f327
        have f341 : h335 (100 + 8 * j) = .inr (3, [.ref (101 + 8 * j), .int p1, .int t1, .int o1, .int a1, .int b1, .int l1]) := (hk338 _ (by simp <;> omega) (nSP_ln (i := j) (by omega))).trans f328
        have f342 : h335 (100 + 8 * m) = .inr (3, [.ref (101 + 8 * m), .int p2, .int t2, .int o2, .int a2, .int b2, .int l2]) := (hk338 _ (by simp <;> omega) (nSP_ln (i := m) (by omega))).trans f329
        refine r_iload rfl dX3_sayAsCut_71 rfl ?_
        refine r_iload_n rfl dX3_sayAsCut_73 rfl ?_
        refine cl_X3_68 rfl rfl dX3_sayAsCut_74 (Nat.le_of_ble_eq_true rfl) s_X3_joins ?_
        rintro _ h343 _ ⟨rfl, e344, rfl⟩
        replace e344 := e344.symm
        subst e344
        refine r_if_eq (tgt := 95) rfl rfl dX3_sayAsCut_77 (fun c345 => ?_) (fun c345 => ?_)
        · refine r_aload_n rfl dX3_sayAsCut_95 rfl ?_
          refine r_getv 0 rfl dX3_sayAsCut_96 (show 2 ≤ 100 + 8 * i ∧ 100 + 8 * i < 434 by omega) f340 fl_X3_11 rfl ?_
          refine r_iload rfl dX3_sayAsCut_99 rfl ?_
          refine r_aald (jn := 2) (v := .ref (102 + 8 * i + 2 * 2)) rfl dX3_sayAsCut_101 (show 2 ≤ 101 + 8 * i ∧ 101 + 8 * i < 434 by omega).1 (show 2 ≤ 101 + 8 * i ∧ 101 + 8 * i < 434 by omega).2 (hS337.say (i := i) (by omega)) (by decide) (vp_in_nI (n := 2) (by omega) (by decide)) (nI_clamp (n := 2) (by omega)) (by show va_rf (if _ < _ then _ else _) = _; rw [if_pos (show 2 < 3 by omega)]; rfl) ?_
          refine r_aload rfl dX3_sayAsCut_102 rfl ?_
          obtain ⟨g346, hw347⟩ := hS337.ws (wsAt_ln (i := i) (w := 2) (by omega) (by omega))
          obtain ⟨g348, hw349⟩ := hS337.ws (wsAt_ln (i := m) (w := 2) (by omega) (by omega))
          refine cl_X3_75 rfl rfl dX3_sayAsCut_104 (show _ ∧ _ from ⟨((wsAt_ln (i := i) (w := 2) (by omega) (by omega))).2.2.1, Nat.lt_of_succ_lt ((wsAt_ln (i := i) (w := 2) (by omega) (by omega))).2.2.2⟩).1 (show _ ∧ _ from ⟨((wsAt_ln (i := i) (w := 2) (by omega) (by omega))).2.2.1, Nat.lt_of_succ_lt ((wsAt_ln (i := i) (w := 2) (by omega) (by omega))).2.2.2⟩).2 hw347.2.2.1 (Nat.le_of_ble_eq_true rfl) (s_X10_meet hw347 hw349 (by omega)) ?_
          rintro _ h350 _ ⟨rfl, eh351, rfl⟩
          have hS352 := SH_p hS337 (wsAt_ln (i := i) (w := 2) (by omega) (by omega)) eh351
          have hk353 : KX [] h335 h350 := KX_p (wsAt_ln (i := i) (w := 2) (by omega) (by omega)) eh351
          have hF354 := KX_tr hF339 (KX_sb (l := []) (by first | decide | exact fun _ z => z | simp) hk353)
          have f355 : h350 (100 + 8 * i) = .inr (3, [.ref (101 + 8 * i), .int p, .int t, .int o, .int a, .int b, .int l]) := (hk353 _ (by simp <;> omega) (nSP_ln (i := i) (by omega))).trans f340
          have f356 : h350 (100 + 8 * j) = .inr (3, [.ref (101 + 8 * j), .int p1, .int t1, .int o1, .int a1, .int b1, .int l1]) := (hk353 _ (by simp <;> omega) (nSP_ln (i := j) (by omega))).trans f341
          have f357 : h350 (100 + 8 * m) = .inr (3, [.ref (101 + 8 * m), .int p2, .int t2, .int o2, .int a2, .int b2, .int l2]) := (hk353 _ (by simp <;> omega) (nSP_ln (i := m) (by omega))).trans f342
          refine r_iinc (y := 3) (ls' := [some (.ref (100 + 8 * i)), some (.ref (100 + 8 * j)), some (.ref (100 + 8 * m)), some (.int c), some (.int 3), some (.ref (102 + 8 * j + 2 * 2)), some (.ref (102 + 8 * m + 2 * 2))]) rfl dX3_sayAsCut_107 rfl (by decide) (Nat.le_of_ble_eq_true rfl) rfl ?_
          refine r_goto (pc' := 3) rfl dX3_sayAsCut_110 ?_
          refine r_iload rfl dX3_sayAsCut_3 rfl ?_
          refine r_iconst (v := 3) rfl dX3_sayAsCut_5 (by decide) ?_
          refine r_icmp_ge (tgt := 113) rfl rfl dX3_sayAsCut_6 (fun _ => ?_) (fun zc => absurd zc (by decide))
          exact r_ret dX3_sayAsCut_113 (rt_v rfl) ⟨rfl, hS352, hF354, rfl⟩
        · refine r_aload_n rfl dX3_sayAsCut_80 rfl ?_
          refine r_getv 0 rfl dX3_sayAsCut_81 (show 2 ≤ 100 + 8 * i ∧ 100 + 8 * i < 434 by omega) f340 fl_X3_11 rfl ?_
          refine r_iload rfl dX3_sayAsCut_84 rfl ?_
          refine r_aald (jn := 2) (v := .ref (102 + 8 * i + 2 * 2)) rfl dX3_sayAsCut_86 (show 2 ≤ 101 + 8 * i ∧ 101 + 8 * i < 434 by omega).1 (show 2 ≤ 101 + 8 * i ∧ 101 + 8 * i < 434 by omega).2 (hS337.say (i := i) (by omega)) (by decide) (vp_in_nI (n := 2) (by omega) (by decide)) (nI_clamp (n := 2) (by omega)) (by show va_rf (if _ < _ then _ else _) = _; rw [if_pos (show 2 < 3 by omega)]; rfl) ?_
          refine r_aload rfl dX3_sayAsCut_87 rfl ?_
          obtain ⟨g358, hw359⟩ := hS337.ws (wsAt_ln (i := i) (w := 2) (by omega) (by omega))
          obtain ⟨g360, hw361⟩ := hS337.ws (wsAt_ln (i := m) (w := 2) (by omega) (by omega))
          refine cl_X3_72 rfl rfl dX3_sayAsCut_89 (show _ ∧ _ from ⟨((wsAt_ln (i := i) (w := 2) (by omega) (by omega))).2.2.1, Nat.lt_of_succ_lt ((wsAt_ln (i := i) (w := 2) (by omega) (by omega))).2.2.2⟩).1 (show _ ∧ _ from ⟨((wsAt_ln (i := i) (w := 2) (by omega) (by omega))).2.2.1, Nat.lt_of_succ_lt ((wsAt_ln (i := i) (w := 2) (by omega) (by omega))).2.2.2⟩).2 hw359.2.2.1 (Nat.le_of_ble_eq_true rfl) (s_X10_join hw359 hw361 (by omega)) ?_
          rintro _ h362 _ ⟨rfl, eh363, rfl⟩
          have hS364 := SH_p hS337 (wsAt_ln (i := i) (w := 2) (by omega) (by omega)) eh363
          have hk365 : KX [] h335 h362 := KX_p (wsAt_ln (i := i) (w := 2) (by omega) (by omega)) eh363
          have hF366 := KX_tr hF339 (KX_sb (l := []) (by first | decide | exact fun _ z => z | simp) hk365)
          have f367 : h362 (100 + 8 * i) = .inr (3, [.ref (101 + 8 * i), .int p, .int t, .int o, .int a, .int b, .int l]) := (hk365 _ (by simp <;> omega) (nSP_ln (i := i) (by omega))).trans f340
          have f368 : h362 (100 + 8 * j) = .inr (3, [.ref (101 + 8 * j), .int p1, .int t1, .int o1, .int a1, .int b1, .int l1]) := (hk365 _ (by simp <;> omega) (nSP_ln (i := j) (by omega))).trans f341
          have f369 : h362 (100 + 8 * m) = .inr (3, [.ref (101 + 8 * m), .int p2, .int t2, .int o2, .int a2, .int b2, .int l2]) := (hk365 _ (by simp <;> omega) (nSP_ln (i := m) (by omega))).trans f342
          refine r_goto (pc' := 107) rfl dX3_sayAsCut_92 ?_
          refine r_iinc (y := 3) (ls' := [some (.ref (100 + 8 * i)), some (.ref (100 + 8 * j)), some (.ref (100 + 8 * m)), some (.int c), some (.int 3), some (.ref (102 + 8 * j + 2 * 2)), some (.ref (102 + 8 * m + 2 * 2))]) rfl dX3_sayAsCut_107 rfl (by decide) (Nat.le_of_ble_eq_true rfl) rfl ?_
          refine r_goto (pc' := 3) rfl dX3_sayAsCut_110 ?_
          refine r_iload rfl dX3_sayAsCut_3 rfl ?_
          refine r_iconst (v := 3) rfl dX3_sayAsCut_5 (by decide) ?_
          refine r_icmp_ge (tgt := 113) rfl rfl dX3_sayAsCut_6 (fun _ => ?_) (fun zc => absurd zc (by decide))
          exact r_ret dX3_sayAsCut_113 (rt_v rfl) ⟨rfl, hS364, hF366, rfl⟩
      · refine r_aload_n rfl dX3_sayAsCut_38 rfl ?_
        refine r_getv 0 rfl dX3_sayAsCut_39 (show 2 ≤ 100 + 8 * i ∧ 100 + 8 * i < 434 by omega) f327 fl_X3_11 rfl ?_
        refine r_iload rfl dX3_sayAsCut_42 rfl ?_
        refine r_aald (jn := 2) (v := .ref (102 + 8 * i + 2 * 2)) rfl dX3_sayAsCut_44 (show 2 ≤ 101 + 8 * i ∧ 101 + 8 * i < 434 by omega).1 (show 2 ≤ 101 + 8 * i ∧ 101 + 8 * i < 434 by omega).2 (hS324.say (i := i) (by omega)) (by decide) (vp_in_nI (n := 2) (by omega) (by decide)) (nI_clamp (n := 2) (by omega)) (by show va_rf (if _ < _ then _ else _) = _; rw [if_pos (show 2 < 3 by omega)]; rfl) ?_
        refine r_aload_n rfl dX3_sayAsCut_45 rfl ?_
        refine r_getv 6 rfl dX3_sayAsCut_46 (show 2 ≤ 100 + 8 * i ∧ 100 + 8 * i < 434 by omega) f327 fl_X3_24 rfl ?_
        refine r_aload rfl dX3_sayAsCut_49 rfl ?_
        refine r_aload rfl dX3_sayAsCut_51 rfl ?_
        obtain ⟨g370, hw371⟩ := hS324.ws (wsAt_ln (i := i) (w := 2) (by omega) (by omega))
        obtain ⟨g372, hw373⟩ := hS324.ws (wsAt_ln (i := m) (w := 2) (by omega) (by omega))
        obtain ⟨g374, hw375⟩ := hS324.ws (wsAt_ln (i := j) (w := 2) (by omega) (by omega))
        refine cl_X3_60 rfl rfl dX3_sayAsCut_53 (show _ ∧ _ from ⟨((wsAt_ln (i := i) (w := 2) (by omega) (by omega))).2.2.1, Nat.lt_of_succ_lt ((wsAt_ln (i := i) (w := 2) (by omega) (by omega))).2.2.2⟩).1 (show _ ∧ _ from ⟨((wsAt_ln (i := i) (w := 2) (by omega) (by omega))).2.2.1, Nat.lt_of_succ_lt ((wsAt_ln (i := i) (w := 2) (by omega) (by omega))).2.2.2⟩).2 hw371.2.2.1 (Nat.le_of_ble_eq_true rfl) (s_X10_choose hw371 hw373 hw375 (by omega) (by omega)) ?_
        rintro _ h376 _ ⟨rfl, eh377, rfl⟩
        have hS378 := SH_p hS324 (wsAt_ln (i := i) (w := 2) (by omega) (by omega)) eh377
        have hk379 : KX [] h322 h376 := KX_p (wsAt_ln (i := i) (w := 2) (by omega) (by omega)) eh377
        have hF380 := KX_tr hF326 (KX_sb (l := []) (by first | decide | exact fun _ z => z | simp) hk379)
        have f381 : h376 (100 + 8 * i) = .inr (3, [.ref (101 + 8 * i), .int p, .int t, .int o, .int a, .int b, .int l]) := (hk379 _ (by simp <;> omega) (nSP_ln (i := i) (by omega))).trans f327
        have f382 : h376 (100 + 8 * j) = .inr (3, [.ref (101 + 8 * j), .int p1, .int t1, .int o1, .int a1, .int b1, .int l1]) := (hk379 _ (by simp <;> omega) (nSP_ln (i := j) (by omega))).trans f328
        have f383 : h376 (100 + 8 * m) = .inr (3, [.ref (101 + 8 * m), .int p2, .int t2, .int o2, .int a2, .int b2, .int l2]) := (hk379 _ (by simp <;> omega) (nSP_ln (i := m) (by omega))).trans f329
        refine r_goto (pc' := 107) rfl dX3_sayAsCut_56 ?_
        refine r_iinc (y := 3) (ls' := [some (.ref (100 + 8 * i)), some (.ref (100 + 8 * j)), some (.ref (100 + 8 * m)), some (.int c), some (.int 3), some (.ref (102 + 8 * j + 2 * 2)), some (.ref (102 + 8 * m + 2 * 2))]) rfl dX3_sayAsCut_107 rfl (by decide) (Nat.le_of_ble_eq_true rfl) rfl ?_
        refine r_goto (pc' := 3) rfl dX3_sayAsCut_110 ?_
        refine r_iload rfl dX3_sayAsCut_3 rfl ?_
        refine r_iconst (v := 3) rfl dX3_sayAsCut_5 (by decide) ?_
        refine r_icmp_ge (tgt := 113) rfl rfl dX3_sayAsCut_6 (fun _ => ?_) (fun zc => absurd zc (by decide))
        exact r_ret dX3_sayAsCut_113 (rt_v rfl) ⟨rfl, hS378, hF380, rfl⟩
