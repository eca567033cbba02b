set_option maxRecDepth 20000 in
set_option maxHeartbeats 1000000 in
theorem z_X12_makes {xs : Nat → Int32} {L d : Nat} {h : ev_H} {th : Int32} {tr : Int64} {ty nx tk pl va fa ss wg : Int32} {c m : Nat} {s i j : Nat} {z : Int32} {E G : Nat → Int32} {H Y : Nat → Int64} (hS : SH h) (h5 : h 420 = .inr (12, [.int th, .long tr, .ref 421, .int ty, .int nx, .int tk, .int pl, .int va, .int fa, .int (nI c), .int (nI m), .int ss, .int wg, .ref 422, .ref 423, .ref 424, .ref 425, .ref 426, .ref 427, .ref 428, .ref 429, .ref 430, .ref 431, .ref 432, .ref 433])) (hc : c ≤ 16) (hm : m ≤ 24) (hs : s < 24) (hcm : c + m < 40) (hi : i < c + m) (hj : j < c + m) (h22 : h 422 = cI 240 G) (h24 : h 424 = cI 72 E) (h25 : h 425 = cL 160 H) (h26 : h 426 = cL 480 Y) (hE1 : E (3 * s) = nI i) (hE2 : E (3 * s + 1) = nI j) (hE3 : E (3 * s + 2) = z) : EV xs L (d + 2) 0 0 M_X12_makes 434 h 0 [some (.ref 420), some (.int (nI s)), none, none, none, none, none, none, none, none, none, none, none, none, none, none, none, none, none, none, none, none] [] (fun sz' h' r => sz' = 434 ∧ SH h' ∧ KM [420, 422, 425, 426] h h' ∧ (((cuK G i j z ∧ h' 420 = c420 th tr ty nx tk pl va fa (nI c) (nI (m + 1)) ss wg ∧ h' 422 = cI 240 (cuG G (c + m) i j z) ∧ h' 425 = cL 160 (hwR H (c + m) (soB ((cuG G (c + m) i j z) (6 * (c + m))) ((cuG G (c + m) i j z) (6 * (c + m) + 1))) 256) ∧ h' 426 = cL 480 (mkY (decide (¬ ltM (cuG G (c + m) i j z) 1 c &&& (1 <<< (z &&& 31)) = 0)) (decide (¬ ltM (cuG G (c + m) i j z) 2 c &&& (1 <<< (z &&& 31)) = 0)) (1 <<< (z &&& 31)) Y (c + m) i j) ∧ r = [.int 1]) ∨ (¬ cuK G i j z ∧ h' 420 = c420 th tr ty nx tk pl va fa (nI c) (nI m) ss wg ∧ h' 422 = cI 240 G ∧ h' 425 = cL 160 H ∧ h' 426 = cL 480 Y ∧ r = [.int 0])))) := by
  refine r_aload_n rfl dX12_makes_0 rfl ?_
  refine r_getv 15 rfl dX12_makes_1 (show 2 ≤ 420 ∧ 420 < 434 by decide) h5 fl_X12_23 rfl ?_
  refine r_iconst (v := 3) rfl dX12_makes_4 (by decide) ?_
  refine r_iload_n rfl dX12_makes_5 rfl ?_
  refine r_imul rfl dX12_makes_6 ?_
  refine r_eqi (y := nI (3 * s)) (show 3 * (nI s) = nI (3 * s) from pk_mul 3 s) ?_
  refine r_ialdv (jn := 3 * s) (v := nI i) rfl dX12_makes_7 (show 2 ≤ 424 ∧ 424 < 434 by decide) h24 (vp_in_nI (n := 3 * s) (by omega) (by decide)) (nI_clamp (n := 3 * s) (by omega)) hE1 ?_
  refine r_istore_n (ls' := [some (.ref 420), some (.int (nI s)), some (.int (nI i)), none, none, none, none, none, none, none, none, none, none, none, none, none, none, none, none, none, none, none]) rfl dX12_makes_8 (Nat.le_of_ble_eq_true rfl) rfl ?_
  refine r_aload_n rfl dX12_makes_9 rfl ?_
  refine r_getv 15 rfl dX12_makes_10 (show 2 ≤ 420 ∧ 420 < 434 by decide) h5 fl_X12_23 rfl ?_
  refine r_iconst (v := 3) rfl dX12_makes_13 (by decide) ?_
  refine r_iload_n rfl dX12_makes_14 rfl ?_
  refine r_imul rfl dX12_makes_15 ?_
  refine r_eqi (y := nI (3 * s)) (show 3 * (nI s) = nI (3 * s) from pk_mul 3 s) ?_
  refine r_iconst (v := 1) rfl dX12_makes_16 (by decide) ?_
  refine r_iadd rfl dX12_makes_17 ?_
  refine r_eqi (y := nI ((3 * s) + 1)) (show (nI (3 * s)) + 1 = nI ((3 * s) + 1) from nI_add (3 * s) 1) ?_
  refine r_ialdv (jn := (3 * s) + 1) (v := nI j) rfl dX12_makes_18 (show 2 ≤ 424 ∧ 424 < 434 by decide) h24 (vp_in_nI (n := (3 * s) + 1) (by omega) (by decide)) (nI_clamp (n := (3 * s) + 1) (by omega)) hE2 ?_
  refine r_istore_n (ls' := [some (.ref 420), some (.int (nI s)), some (.int (nI i)), some (.int (nI j)), none, none, none, none, none, none, none, none, none, none, none, none, none, none, none, none, none, none]) rfl dX12_makes_19 (Nat.le_of_ble_eq_true rfl) rfl ?_
  refine r_iconst (v := 1) rfl dX12_makes_20 (by decide) ?_
  refine r_aload_n rfl dX12_makes_21 rfl ?_
  refine r_getv 15 rfl dX12_makes_22 (show 2 ≤ 420 ∧ 420 < 434 by decide) h5 fl_X12_23 rfl ?_
  refine r_iconst (v := 3) rfl dX12_makes_25 (by decide) ?_
  refine r_iload_n rfl dX12_makes_26 rfl ?_
  refine r_imul rfl dX12_makes_27 ?_
  refine r_eqi (y := nI (3 * s)) (show 3 * (nI s) = nI (3 * s) from pk_mul 3 s) ?_
  refine r_iconst (v := 2) rfl dX12_makes_28 (by decide) ?_
  refine r_iadd rfl dX12_makes_29 ?_
  refine r_eqi (y := nI ((3 * s) + 2)) (show (nI (3 * s)) + 2 = nI ((3 * s) + 2) from nI_add (3 * s) 2) ?_
  refine r_ialdv (jn := (3 * s) + 2) (v := z) rfl dX12_makes_30 (show 2 ≤ 424 ∧ 424 < 434 by decide) h24 (vp_in_nI (n := (3 * s) + 2) (by omega) (by decide)) (nI_clamp (n := (3 * s) + 2) (by omega)) hE3 ?_
  refine r_ishl rfl dX12_makes_31 ?_
  refine r_topi (fun x51 e52 => ?_)
  refine r_istore (ls' := [some (.ref 420), some (.int (nI s)), some (.int (nI i)), some (.int (nI j)), some (.int x51), none, none, none, none, none, none, none, none, none, none, none, none, none, none, none, none, none]) rfl dX12_makes_32 (Nat.le_of_ble_eq_true rfl) rfl ?_
  refine r_aload_n rfl dX12_makes_34 rfl ?_
  refine r_getv 13 rfl dX12_makes_35 (show 2 ≤ 420 ∧ 420 < 434 by decide) h5 fl_X12_17 rfl ?_
  refine r_bipush (v := 6) rfl dX12_makes_38 (by decide) ?_
  refine r_iload_n rfl dX12_makes_40 rfl ?_
  refine r_imul rfl dX12_makes_41 ?_
  refine r_eqi (y := nI (6 * i)) (show 6 * (nI i) = nI (6 * i) from pk_mul 6 i) ?_
  refine r_ialdv (jn := 6 * i) (v := G (6 * i)) rfl dX12_makes_42 (show 2 ≤ 422 ∧ 422 < 434 by decide) h22 (vp_in_nI (n := 6 * i) (by omega) (by decide)) (nI_clamp (n := 6 * i) (by omega)) rfl ?_
  refine r_iload rfl dX12_makes_43 rfl ?_
  refine r_iconst (v := (-1)) rfl dX12_makes_45 (by decide) ?_
  refine r_ixor rfl dX12_makes_46 ?_
  refine r_iand rfl dX12_makes_47 ?_
  refine r_aload_n rfl dX12_makes_48 rfl ?_
  refine r_getv 13 rfl dX12_makes_49 (show 2 ≤ 420 ∧ 420 < 434 by decide) h5 fl_X12_17 rfl ?_
  refine r_bipush (v := 6) rfl dX12_makes_52 (by decide) ?_
  refine r_iload_n rfl dX12_makes_54 rfl ?_
  refine r_imul rfl dX12_makes_55 ?_
  refine r_eqi (y := nI (6 * j)) (show 6 * (nI j) = nI (6 * j) from pk_mul 6 j) ?_
  refine r_ialdv (jn := 6 * j) (v := G (6 * j)) rfl dX12_makes_56 (show 2 ≤ 422 ∧ 422 < 434 by decide) h22 (vp_in_nI (n := 6 * j) (by omega) (by decide)) (nI_clamp (n := 6 * j) (by omega)) rfl ?_
  refine r_ior rfl dX12_makes_57 ?_
  refine r_topi (fun x53 e54 => ?_)
  refine r_istore (ls' := [some (.ref 420), some (.int (nI s)), some (.int (nI i)), some (.int (nI j)), some (.int x51), some (.int x53), none, none, none, none, none, none, none, none, none, none, none, none, none, none, none, none]) rfl dX12_makes_58 (Nat.le_of_ble_eq_true rfl) rfl ?_
  refine r_aload_n rfl dX12_makes_60 rfl ?_
  refine r_getv 13 rfl dX12_makes_61 (show 2 ≤ 420 ∧ 420 < 434 by decide) h5 fl_X12_17 rfl ?_
  refine r_bipush (v := 6) rfl dX12_makes_64 (by decide) ?_
  refine r_iload_n rfl dX12_makes_66 rfl ?_
  refine r_imul rfl dX12_makes_67 ?_
  refine r_eqi (y := nI (6 * i)) (show 6 * (nI i) = nI (6 * i) from pk_mul 6 i) ?_
  refine r_iconst (v := 1) rfl dX12_makes_68 (by decide) ?_
  refine r_iadd rfl dX12_makes_69 ?_
  refine r_eqi (y := nI ((6 * i) + 1)) (show (nI (6 * i)) + 1 = nI ((6 * i) + 1) from nI_add (6 * i) 1) ?_
  refine r_ialdv (jn := (6 * i) + 1) (v := G ((6 * i) + 1)) rfl dX12_makes_70 (show 2 ≤ 422 ∧ 422 < 434 by decide) h22 (vp_in_nI (n := (6 * i) + 1) (by omega) (by decide)) (nI_clamp (n := (6 * i) + 1) (by omega)) rfl ?_
  refine r_aload_n rfl dX12_makes_71 rfl ?_
  refine r_getv 13 rfl dX12_makes_72 (show 2 ≤ 420 ∧ 420 < 434 by decide) h5 fl_X12_17 rfl ?_
  refine r_bipush (v := 6) rfl dX12_makes_75 (by decide) ?_
  refine r_iload_n rfl dX12_makes_77 rfl ?_
  refine r_imul rfl dX12_makes_78 ?_
  refine r_eqi (y := nI (6 * j)) (show 6 * (nI j) = nI (6 * j) from pk_mul 6 j) ?_
  refine r_iconst (v := 1) rfl dX12_makes_79 (by decide) ?_
  refine r_iadd rfl dX12_makes_80 ?_
  refine r_eqi (y := nI ((6 * j) + 1)) (show (nI (6 * j)) + 1 = nI ((6 * j) + 1) from nI_add (6 * j) 1) ?_
  refine r_ialdv (jn := (6 * j) + 1) (v := G ((6 * j) + 1)) rfl dX12_makes_81 (show 2 ≤ 422 ∧ 422 < 434 by decide) h22 (vp_in_nI (n := (6 * j) + 1) (by omega) (by decide)) (nI_clamp (n := (6 * j) + 1) (by omega)) rfl ?_
  refine r_iload rfl dX12_makes_82 rfl ?_
  refine r_iconst (v := (-1)) rfl dX12_makes_84 (by decide) ?_
  refine r_ixor rfl dX12_makes_85 ?_
  refine r_iand rfl dX12_makes_86 ?_
  refine r_ior rfl dX12_makes_87 ?_
  refine r_topi (fun x55 e56 => ?_)
  refine r_istore (ls' := [some (.ref 420), some (.int (nI s)), some (.int (nI i)), some (.int (nI j)), some (.int x51), some (.int x53), some (.int x55), none, none, none, none, none, none, none, none, none, none, none, none, none, none, none]) rfl dX12_makes_88 (Nat.le_of_ble_eq_true rfl) rfl ?_
  refine r_aload_n rfl dX12_makes_90 rfl ?_
  refine r_getv 13 rfl dX12_makes_91 (show 2 ≤ 420 ∧ 420 < 434 by decide) h5 fl_X12_17 rfl ?_
  refine r_bipush (v := 6) rfl dX12_makes_94 (by decide) ?_
  refine r_iload_n rfl dX12_makes_96 rfl ?_
  refine r_imul rfl dX12_makes_97 ?_
  refine r_eqi (y := nI (6 * i)) (show 6 * (nI i) = nI (6 * i) from pk_mul 6 i) ?_
  refine r_ialdv (jn := 6 * i) (v := G (6 * i)) rfl dX12_makes_98 (show 2 ≤ 422 ∧ 422 < 434 by decide) h22 (vp_in_nI (n := 6 * i) (by omega) (by decide)) (nI_clamp (n := 6 * i) (by omega)) rfl ?_
  refine r_iload rfl dX12_makes_99 rfl ?_
  refine r_iand rfl dX12_makes_101 ?_
  refine r_if_eq (tgt := 130) rfl rfl dX12_makes_102 (fun c57 => ?_) (fun c57 => ?_)
  · refine r_iconst (v := 0) rfl dX12_makes_130 (by decide) ?_
    subst e56
    subst e54
    subst e52
    exact r_ret dX12_makes_131 (rt_z rfl (Or.inl rfl)) ⟨rfl, hS, (KM_rf (Mod := [420, 422, 425, 426]) h), Or.inr ⟨fun q => q.1 c57, h5, h22, h25, h26, rfl⟩⟩
  · refine r_aload_n rfl dX12_makes_105 rfl ?_
    refine r_getv 13 rfl dX12_makes_106 (show 2 ≤ 420 ∧ 420 < 434 by decide) h5 fl_X12_17 rfl ?_
    refine r_bipush (v := 6) rfl dX12_makes_109 (by decide) ?_
    refine r_iload_n rfl dX12_makes_111 rfl ?_
    refine r_imul rfl dX12_makes_112 ?_
    refine r_eqi (y := nI (6 * j)) (show 6 * (nI j) = nI (6 * j) from pk_mul 6 j) ?_
    refine r_iconst (v := 1) rfl dX12_makes_113 (by decide) ?_
    refine r_iadd rfl dX12_makes_114 ?_
    refine r_eqi (y := nI ((6 * j) + 1)) (show (nI (6 * j)) + 1 = nI ((6 * j) + 1) from nI_add (6 * j) 1) ?_
    refine r_ialdv (jn := (6 * j) + 1) (v := G ((6 * j) + 1)) rfl dX12_makes_115 (show 2 ≤ 422 ∧ 422 < 434 by decide) h22 (vp_in_nI (n := (6 * j) + 1) (by omega) (by decide)) (nI_clamp (n := (6 * j) + 1) (by omega)) rfl ?_
    refine r_iload rfl dX12_makes_116 rfl ?_
    refine r_iand rfl dX12_makes_118 ?_
    refine r_if_eq (tgt := 130) rfl rfl dX12_makes_119 (fun c58 => ?_) (fun c58 => ?_)
    · refine r_iconst (v := 0) rfl dX12_makes_130 (by decide) ?_
      subst e56
      subst e54
      subst e52
      exact r_ret dX12_makes_131 (rt_z rfl (Or.inl rfl)) ⟨rfl, hS, (KM_rf (Mod := [420, 422, 425, 426]) h), Or.inr ⟨fun q => q.2.1 c58, h5, h22, h25, h26, rfl⟩⟩
    · refine r_iload rfl dX12_makes_122 rfl ?_
      refine r_iload rfl dX12_makes_124 rfl ?_
      refine r_iand rfl dX12_makes_126 ?_
      refine r_if_eq (tgt := 132) rfl rfl dX12_makes_127 (fun c59 => ?_) (fun c59 => ?_)
      · refine r_aload_n rfl dX12_makes_132 rfl ?_
        refine r_getv 9 rfl dX12_makes_133 (show 2 ≤ 420 ∧ 420 < 434 by decide) h5 fl_X12_112 rfl ?_
        refine r_aload_n rfl dX12_makes_136 rfl ?_
        refine r_getv 10 rfl dX12_makes_137 (show 2 ≤ 420 ∧ 420 < 434 by decide) h5 fl_X12_115 rfl ?_
        refine r_iadd rfl dX12_makes_140 ?_
        refine r_eqi (y := nI (c + m)) (show (nI c) + (nI m) = nI (c + m) from nI_add c m) ?_
        refine r_istore (ls' := [some (.ref 420), some (.int (nI s)), some (.int (nI i)), some (.int (nI j)), some (.int x51), some (.int x53), some (.int x55), some (.int (nI (c + m))), none, none, none, none, none, none, none, none, none, none, none, none, none, none]) rfl dX12_makes_141 (Nat.le_of_ble_eq_true rfl) rfl ?_
        refine r_aload_n rfl dX12_makes_143 rfl ?_
        refine r_getv 13 rfl dX12_makes_144 (show 2 ≤ 420 ∧ 420 < 434 by decide) h5 fl_X12_17 rfl ?_
        refine r_bipush (v := 6) rfl dX12_makes_147 (by decide) ?_
        refine r_iload rfl dX12_makes_149 rfl ?_
        refine r_imul rfl dX12_makes_151 ?_
        refine r_eqi (y := nI (6 * (c + m))) (show 6 * (nI (c + m)) = nI (6 * (c + m)) from pk_mul 6 (c + m)) ?_
        refine r_iload rfl dX12_makes_152 rfl ?_
        refine e_iast (jn := 6 * (c + m)) rfl dX12_makes_154 (show 2 ≤ 422 ∧ 422 < 434 by decide) hS (KM_rf (Mod := [420, 422, 425, 426]) h) (by decide) h22 (vp_in_nI (n := 6 * (c + m)) (by omega) (by decide)) (nI_clamp (n := 6 * (c + m)) (by omega)) (fun h60 hS61 hF62 hN63 f64 => ?_)
        have f65 : h60 420 = .inr (12, [.int th, .long tr, .ref 421, .int ty, .int nx, .int tk, .int pl, .int va, .int fa, .int (nI c), .int (nI m), .int ss, .int wg, .ref 422, .ref 423, .ref 424, .ref 425, .ref 426, .ref 427, .ref 428, .ref 429, .ref 430, .ref 431, .ref 432, .ref 433]) := (hN63 420 (by decide)).trans h5
        have f66 : h60 424 = .inl (0, 72, .inl E) := (hN63 424 (by decide)).trans h24
        have f67 : h60 425 = .inl (1, 160, .inr (.inl H)) := (hN63 425 (by decide)).trans h25
        have f68 : h60 426 = .inl (1, 480, .inr (.inl Y)) := (hN63 426 (by decide)).trans h26
        refine r_aload_n rfl dX12_makes_155 rfl ?_
        refine r_getv 13 rfl dX12_makes_156 (show 2 ≤ 420 ∧ 420 < 434 by decide) f65 fl_X12_17 rfl ?_
        refine r_bipush (v := 6) rfl dX12_makes_159 (by decide) ?_
        refine r_iload rfl dX12_makes_161 rfl ?_
        refine r_imul rfl dX12_makes_163 ?_
        refine r_eqi (y := nI (6 * (c + m))) (show 6 * (nI (c + m)) = nI (6 * (c + m)) from pk_mul 6 (c + m)) ?_
        refine r_iconst (v := 1) rfl dX12_makes_164 (by decide) ?_
        refine r_iadd rfl dX12_makes_165 ?_
        refine r_eqi (y := nI ((6 * (c + m)) + 1)) (show (nI (6 * (c + m))) + 1 = nI ((6 * (c + m)) + 1) from nI_add (6 * (c + m)) 1) ?_
        refine r_iload rfl dX12_makes_166 rfl ?_
        refine e_iast (jn := (6 * (c + m)) + 1) rfl dX12_makes_168 (show 2 ≤ 422 ∧ 422 < 434 by decide) hS61 hF62 (by decide) f64 (vp_in_nI (n := (6 * (c + m)) + 1) (by omega) (by decide)) (nI_clamp (n := (6 * (c + m)) + 1) (by omega)) (fun h69 hS70 hF71 hN72 f73 => ?_)
        have f74 : h69 420 = .inr (12, [.int th, .long tr, .ref 421, .int ty, .int nx, .int tk, .int pl, .int va, .int fa, .int (nI c), .int (nI m), .int ss, .int wg, .ref 422, .ref 423, .ref 424, .ref 425, .ref 426, .ref 427, .ref 428, .ref 429, .ref 430, .ref 431, .ref 432, .ref 433]) := (hN72 420 (by decide)).trans f65
        have f75 : h69 424 = .inl (0, 72, .inl E) := (hN72 424 (by decide)).trans f66
        have f76 : h69 425 = .inl (1, 160, .inr (.inl H)) := (hN72 425 (by decide)).trans f67
        have f77 : h69 426 = .inl (1, 480, .inr (.inl Y)) := (hN72 426 (by decide)).trans f68
        refine r_aload_n rfl dX12_makes_169 rfl ?_
        refine r_getv 13 rfl dX12_makes_170 (show 2 ≤ 420 ∧ 420 < 434 by decide) f74 fl_X12_17 rfl ?_
        refine r_bipush (v := 6) rfl dX12_makes_173 (by decide) ?_
        refine r_iload rfl dX12_makes_175 rfl ?_
        refine r_imul rfl dX12_makes_177 ?_
        refine r_eqi (y := nI (6 * (c + m))) (show 6 * (nI (c + m)) = nI (6 * (c + m)) from pk_mul 6 (c + m)) ?_
        refine r_iconst (v := 2) rfl dX12_makes_178 (by decide) ?_
        refine r_iadd rfl dX12_makes_179 ?_
        refine r_eqi (y := nI ((6 * (c + m)) + 2)) (show (nI (6 * (c + m))) + 2 = nI ((6 * (c + m)) + 2) from nI_add (6 * (c + m)) 2) ?_
        refine r_iconst (v := 0) rfl dX12_makes_180 (by decide) ?_
        refine e_iast (jn := (6 * (c + m)) + 2) rfl dX12_makes_181 (show 2 ≤ 422 ∧ 422 < 434 by decide) hS70 hF71 (by decide) f73 (vp_in_nI (n := (6 * (c + m)) + 2) (by omega) (by decide)) (nI_clamp (n := (6 * (c + m)) + 2) (by omega)) (fun h78 hS79 hF80 hN81 f82 => ?_)
        have f83 : h78 420 = .inr (12, [.int th, .long tr, .ref 421, .int ty, .int nx, .int tk, .int pl, .int va, .int fa, .int (nI c), .int (nI m), .int ss, .int wg, .ref 422, .ref 423, .ref 424, .ref 425, .ref 426, .ref 427, .ref 428, .ref 429, .ref 430, .ref 431, .ref 432, .ref 433]) := (hN81 420 (by decide)).trans f74
        have f84 : h78 424 = .inl (0, 72, .inl E) := (hN81 424 (by decide)).trans f75
        have f85 : h78 425 = .inl (1, 160, .inr (.inl H)) := (hN81 425 (by decide)).trans f76
        have f86 : h78 426 = .inl (1, 480, .inr (.inl Y)) := (hN81 426 (by decide)).trans f77
        refine r_aload_n rfl dX12_makes_182 rfl ?_
        refine r_getv 13 rfl dX12_makes_183 (show 2 ≤ 420 ∧ 420 < 434 by decide) f83 fl_X12_17 rfl ?_
        refine r_bipush (v := 6) rfl dX12_makes_186 (by decide) ?_
        refine r_iload rfl dX12_makes_188 rfl ?_
        refine r_imul rfl dX12_makes_190 ?_
        refine r_eqi (y := nI (6 * (c + m))) (show 6 * (nI (c + m)) = nI (6 * (c + m)) from pk_mul 6 (c + m)) ?_
        refine r_iconst (v := 3) rfl dX12_makes_191 (by decide) ?_
        refine r_iadd rfl dX12_makes_192 ?_
        refine r_eqi (y := nI ((6 * (c + m)) + 3)) (show (nI (6 * (c + m))) + 3 = nI ((6 * (c + m)) + 3) from nI_add (6 * (c + m)) 3) ?_
        refine r_iload_n rfl dX12_makes_193 rfl ?_
        refine e_iast (jn := (6 * (c + m)) + 3) rfl dX12_makes_194 (show 2 ≤ 422 ∧ 422 < 434 by decide) hS79 hF80 (by decide) f82 (vp_in_nI (n := (6 * (c + m)) + 3) (by omega) (by decide)) (nI_clamp (n := (6 * (c + m)) + 3) (by omega)) (fun h87 hS88 hF89 hN90 f91 => ?_)
        have f92 : h87 420 = .inr (12, [.int th, .long tr, .ref 421, .int ty, .int nx, .int tk, .int pl, .int va, .int fa, .int (nI c), .int (nI m), .int ss, .int wg, .ref 422, .ref 423, .ref 424, .ref 425, .ref 426, .ref 427, .ref 428, .ref 429, .ref 430, .ref 431, .ref 432, .ref 433]) := (hN90 420 (by decide)).trans f83
        have f93 : h87 424 = .inl (0, 72, .inl E) := (hN90 424 (by decide)).trans f84
        have f94 : h87 425 = .inl (1, 160, .inr (.inl H)) := (hN90 425 (by decide)).trans f85
        have f95 : h87 426 = .inl (1, 480, .inr (.inl Y)) := (hN90 426 (by decide)).trans f86
        refine r_aload_n rfl dX12_makes_195 rfl ?_
        refine r_getv 13 rfl dX12_makes_196 (show 2 ≤ 420 ∧ 420 < 434 by decide) f92 fl_X12_17 rfl ?_
        refine r_bipush (v := 6) rfl dX12_makes_199 (by decide) ?_
        refine r_iload rfl dX12_makes_201 rfl ?_
        refine r_imul rfl dX12_makes_203 ?_
        refine r_eqi (y := nI (6 * (c + m))) (show 6 * (nI (c + m)) = nI (6 * (c + m)) from pk_mul 6 (c + m)) ?_
        refine r_iconst (v := 4) rfl dX12_makes_204 (by decide) ?_
        refine r_iadd rfl dX12_makes_205 ?_
        refine r_eqi (y := nI ((6 * (c + m)) + 4)) (show (nI (6 * (c + m))) + 4 = nI ((6 * (c + m)) + 4) from nI_add (6 * (c + m)) 4) ?_
        refine r_iload_n rfl dX12_makes_206 rfl ?_
        refine e_iast (jn := (6 * (c + m)) + 4) rfl dX12_makes_207 (show 2 ≤ 422 ∧ 422 < 434 by decide) hS88 hF89 (by decide) f91 (vp_in_nI (n := (6 * (c + m)) + 4) (by omega) (by decide)) (nI_clamp (n := (6 * (c + m)) + 4) (by omega)) (fun h96 hS97 hF98 hN99 f100 => ?_)
        have f101 : h96 420 = .inr (12, [.int th, .long tr, .ref 421, .int ty, .int nx, .int tk, .int pl, .int va, .int fa, .int (nI c), .int (nI m), .int ss, .int wg, .ref 422, .ref 423, .ref 424, .ref 425, .ref 426, .ref 427, .ref 428, .ref 429, .ref 430, .ref 431, .ref 432, .ref 433]) := (hN99 420 (by decide)).trans f92
        have f102 : h96 424 = .inl (0, 72, .inl E) := (hN99 424 (by decide)).trans f93
        have f103 : h96 425 = .inl (1, 160, .inr (.inl H)) := (hN99 425 (by decide)).trans f94
        have f104 : h96 426 = .inl (1, 480, .inr (.inl Y)) := (hN99 426 (by decide)).trans f95
        refine r_aload_n rfl dX12_makes_208 rfl ?_
        refine r_getv 13 rfl dX12_makes_209 (show 2 ≤ 420 ∧ 420 < 434 by decide) f101 fl_X12_17 rfl ?_
        refine r_bipush (v := 6) rfl dX12_makes_212 (by decide) ?_
        refine r_iload rfl dX12_makes_214 rfl ?_
        refine r_imul rfl dX12_makes_216 ?_
        refine r_eqi (y := nI (6 * (c + m))) (show 6 * (nI (c + m)) = nI (6 * (c + m)) from pk_mul 6 (c + m)) ?_
        refine r_iconst (v := 5) rfl dX12_makes_217 (by decide) ?_
        refine r_iadd rfl dX12_makes_218 ?_
        refine r_eqi (y := nI ((6 * (c + m)) + 5)) (show (nI (6 * (c + m))) + 5 = nI ((6 * (c + m)) + 5) from nI_add (6 * (c + m)) 5) ?_
        refine r_aload_n rfl dX12_makes_219 rfl ?_
        refine r_getv 15 rfl dX12_makes_220 (show 2 ≤ 420 ∧ 420 < 434 by decide) f101 fl_X12_23 rfl ?_
        refine r_iconst (v := 3) rfl dX12_makes_223 (by decide) ?_
        refine r_iload_n rfl dX12_makes_224 rfl ?_
        refine r_imul rfl dX12_makes_225 ?_
        refine r_eqi (y := nI (3 * s)) (show 3 * (nI s) = nI (3 * s) from pk_mul 3 s) ?_
        refine r_iconst (v := 2) rfl dX12_makes_226 (by decide) ?_
        refine r_iadd rfl dX12_makes_227 ?_
        refine r_eqi (y := nI ((3 * s) + 2)) (show (nI (3 * s)) + 2 = nI ((3 * s) + 2) from nI_add (3 * s) 2) ?_
        refine r_ialdv (jn := (3 * s) + 2) (v := z) rfl dX12_makes_228 (show 2 ≤ 424 ∧ 424 < 434 by decide) f102 (vp_in_nI (n := (3 * s) + 2) (by omega) (by decide)) (nI_clamp (n := (3 * s) + 2) (by omega)) hE3 ?_
        refine e_iast (jn := (6 * (c + m)) + 5) rfl dX12_makes_229 (show 2 ≤ 422 ∧ 422 < 434 by decide) hS97 hF98 (by decide) f100 (vp_in_nI (n := (6 * (c + m)) + 5) (by omega) (by decide)) (nI_clamp (n := (6 * (c + m)) + 5) (by omega)) (fun h105 hS106 hF107 hN108 f109 => ?_)
        have f110 : h105 420 = .inr (12, [.int th, .long tr, .ref 421, .int ty, .int nx, .int tk, .int pl, .int va, .int fa, .int (nI c), .int (nI m), .int ss, .int wg, .ref 422, .ref 423, .ref 424, .ref 425, .ref 426, .ref 427, .ref 428, .ref 429, .ref 430, .ref 431, .ref 432, .ref 433]) := (hN108 420 (by decide)).trans f101
        have f111 : h105 424 = .inl (0, 72, .inl E) := (hN108 424 (by decide)).trans f102
        have f112 : h105 425 = .inl (1, 160, .inr (.inl H)) := (hN108 425 (by decide)).trans f103
        have f113 : h105 426 = .inl (1, 480, .inr (.inl Y)) := (hN108 426 (by decide)).trans f104
        subst e56
        subst e54
        subst e52
        refine EV.post ?_ (z_makes_tail hS106 f110 hc hm hcm hi hj f109 f112 f113)
        rintro a1 a2 a3 ⟨b1, b2, b3, b4, b5, b6, b7⟩
        exact ⟨b1, b2, KM_tr hF107 (KM_sb (by decide) b3), Or.inl ⟨⟨c57, c58, c59⟩, b4, (b3 422 (by decide)).trans f109, b5, b6, b7⟩⟩
      · refine r_iconst (v := 0) rfl dX12_makes_130 (by decide) ?_
        subst e56
        subst e54
        subst e52
        exact r_ret dX12_makes_131 (rt_z rfl (Or.inl rfl)) ⟨rfl, hS, (KM_rf (Mod := [420, 422, 425, 426]) h), Or.inr ⟨fun q => c59 q.2.2, h5, h22, h25, h26, rfl⟩⟩
theorem ltM_cg {G G' : Nat → Int32} (x : Int32) : ∀ c, (∀ q, q < 6 * c → G q = G' q) → ltM G x c = ltM G' x c
  | 0, _ => rfl
  | k + 1, h => by rw [ltM, ltM, h (6 * k) (by omega), h (6 * k + 1) (by omega), h (6 * k + 2) (by omega), ltM_cg x k (fun q hq => h q (by omega))]
theorem shM_cg {G G' : Nat → Int32} {c : Nat} (h : ∀ q, q < 6 * c → G q = G' q) : shM G c = shM G' c := by unfold shM; rw [ltM_cg 1 c h, ltM_cg 2 c h]
/-- held worlds of LINES 0 .. k - 1 -/
def HV (k : Nat) (G : Nat → Int32) (H : Nat → Int64) : Prop := ∀ i, i < k → ∀ p, p < 4 → H (4 * i + p) = wO (soB (G (6 * i)) (G (6 * i + 1))) p
theorem HV_cg {k : Nat} {G G' : Nat → Int32} {H : Nat → Int64} (he : ∀ x, x < 6 * k → G x = G' x) (h : HV k G H) : HV k G' H := fun i hi p hp => by rw [← he _ (by omega), ← he _ (by omega)]; exact h i hi p hp
theorem HV_s {k : Nat} {G G' : Nat → Int32} {H : Nat → Int64} (he : ∀ x, x < 6 * k → G' x = G x) (h : HV k G H) : HV (k + 1) G' (hwR H k (soB (G' (6 * k)) (G' (6 * k + 1))) 256) := fun i hi p hp => by
  by_cases e : i = k
  · subst e; rw [hwR_in hp]
  · rw [hwR_lo (by omega), he _ (by omega), he _ (by omega)]; exact h i (by omega) p hp
/-- what a CLAUSE says -/
def bgW (G : Nat → Int32) (c i way p : Nat) : Int64 := if G (6 * i + 2) = 1 then (if way = 0 then wO (soB (G (6 * i) &&& shM G c) (G (6 * i + 1) &&& shM G c)) p else 0) else (if way = 1 then wO (soB (G (6 * i) &&& shM G c) (G (6 * i + 1) &&& shM G c)) p ^^^ (-1) else (-1))
def lbt (G : Nat → Int32) (i : Nat) : Int32 := 1 <<< (G (6 * i + 5) &&& 31)
/-- what LINE i says, the LINES ahead of it saying Y -/
def syW (G : Nat → Int32) (c : Nat) (Y : Nat → Int64) (i way p : Nat) : Int64 := if i < c then bgW G c i way p else mkV (decide (¬ ltM G 1 c &&& lbt G i = 0)) (decide (¬ ltM G 2 c &&& lbt G i = 0)) way (lbt G i) Y (G (6 * i + 3)).toNatClampNeg (G (6 * i + 4)).toNatClampNeg p
def SV (c k : Nat) (G : Nat → Int32) (Y : Nat → Int64) : Prop := ∀ i, i < k → ∀ way, way < 3 → ∀ p, p < 4 → Y (160 * way + 4 * i + p) = syW G c Y i way p
theorem mkV_cg {o t : Bool} {way : Nat} {b : Int32} {Y Y' : Nat → Int64} {i j p : Nat} (h1 : Y (160 * way + 4 * i + p) = Y' (160 * way + 4 * i + p)) (h2 : Y (160 * way + 4 * j + p) = Y' (160 * way + 4 * j + p)) : mkV o t way b Y i j p = mkV o t way b Y' i j p := by unfold mkV; rw [h1, h2]
theorem bgW_cg {G G' : Nat → Int32} {c i way p : Nat} (hi : i < c) (he : ∀ x, x < 6 * c → G x = G' x) : bgW G c i way p = bgW G' c i way p := by unfold bgW; rw [shM_cg he, he _ (by omega), he _ (by omega), he _ (by omega)]
theorem mkY_lo {o t : Bool} {b : Int32} {Y : Nat → Int64} {n i j k way p : Nat} (hk : k < 40) (hn : n < 40) (hw : way < 3) (hp : p < 4) (h : k ≠ n) : mkY o t b Y n i j (160 * way + 4 * k + p) = Y (160 * way + 4 * k + p) := by
  unfold mkY mkY2 mkY1
  rw [bkR_lo (by omega), bkR_lo (by omega), bkR_lo (by omega)]
theorem mkY1_lo {o t : Bool} {b : Int32} {Y : Nat → Int64} {n i j k way p : Nat} (hk : k < 40) (hn : n < 40) (hw : way < 3) (hp : p < 4) (h : k ≠ n) : mkY1 o t b Y n i j (160 * way + 4 * k + p) = Y (160 * way + 4 * k + p) := by
  unfold mkY1
  rw [bkR_lo (by omega)]
theorem mkY2_lo {o t : Bool} {b : Int32} {Y : Nat → Int64} {n i j k way p : Nat} (hk : k < 40) (hn : n < 40) (hw : way < 3) (hp : p < 4) (h : k ≠ n) : mkY2 o t b Y n i j (160 * way + 4 * k + p) = Y (160 * way + 4 * k + p) := by
  unfold mkY2
  rw [bkR_lo (by omega), mkY1_lo hk hn hw hp h]
theorem mkY_in {o t : Bool} {b : Int32} {Y : Nat → Int64} {n i j way p : Nat} (hn : n < 40) (hi : i < n) (hj : j < n) (hw : way < 3) (hp : p < 4) : mkY o t b Y n i j (160 * way + 4 * n + p) = mkV o t way b Y i j p := by
  match way, hw with
  | 0, _ =>
    unfold mkY mkY2
    rw [bkR_lo (by omega), bkR_lo (by omega), mkY1, show 160 * 0 + 4 * n + p = 4 * n + p by omega, bkR_in hp]
  | 1, _ =>
    unfold mkY
    rw [bkR_lo (by omega), mkY2, show 160 * 1 + 4 * n + p = 4 * (40 + n) + p by omega, bkR_in hp]
    exact mkV_cg (mkY1_lo (by omega) hn (by omega) hp (by omega)) (mkY1_lo (by omega) hn (by omega) hp (by omega))
  | 2, _ =>
    rw [mkY, show 160 * 2 + 4 * n + p = 4 * (80 + n) + p by omega, bkR_in hp]
    exact mkV_cg (mkY2_lo (by omega) hn (by omega) hp (by omega)) (mkY2_lo (by omega) hn (by omega) hp (by omega))
theorem lbt_cg {G G' : Nat → Int32} {i : Nat} (h : G (6 * i + 5) = G' (6 * i + 5)) : lbt G i = lbt G' i := by unfold lbt; rw [h]
/-- what LINE i says rests on the LINES' numbers ahead and on what lines ahead say -/
theorem syW_cg {G G' : Nat → Int32} {c k i way p : Nat} {Y Y' : Nat → Int64} (hck : c ≤ k) (hi : i < k) (he : ∀ x, x < 6 * k → G x = G' x) (hv : ∀ i, c ≤ i → i < k → (∃ a : Nat, a < i ∧ G (6 * i + 3) = nI a) ∧ (∃ b : Nat, b < i ∧ G (6 * i + 4) = nI b)) (hk : k ≤ 40) (hY : ∀ j, j < i → Y (160 * way + 4 * j + p) = Y' (160 * way + 4 * j + p)) : syW G c Y i way p = syW G' c Y' i way p := by
  unfold syW
  by_cases hc : i < c
  · rw [if_pos hc, if_pos hc]; exact bgW_cg hc (fun x hx => he x (by omega))
  · rw [if_neg hc, if_neg hc]
    obtain ⟨⟨a, ha, ea⟩, b, hb, eb⟩ := hv i (by omega) hi
    rw [← lbt_cg (he (6 * i + 5) (by omega)), ← ltM_cg 1 c (fun q hq => he q (by omega)), ← ltM_cg 2 c (fun q hq => he q (by omega)), ← he (6 * i + 3) (by omega), ← he (6 * i + 4) (by omega), ea, eb, nI_clamp (by omega), nI_clamp (by omega)]
    exact mkV_cg (hY a ha) (hY b hb)
theorem SV_cg {G G' : Nat → Int32} {c k : Nat} {Y : Nat → Int64} (hck : c ≤ k) (hk : k ≤ 40) (he : ∀ x, x < 6 * k → G x = G' x) (hv : ∀ i, c ≤ i → i < k → (∃ a : Nat, a < i ∧ G (6 * i + 3) = nI a) ∧ (∃ b : Nat, b < i ∧ G (6 * i + 4) = nI b)) (h : SV c k G Y) : SV c k G' Y := fun i hi way hw p hp => (h i hi way hw p hp).trans (syW_cg hck hi he hv hk (fun _ _ => rfl))
theorem SV_mk {c s i j z : Nat} {G : Nat → Int32} {Y : Nat → Int64} (hc : c ≤ 16) (hs : c + s < 40) (hi : i < c + s) (hj : j < c + s) (hz : z < 8) (hG : GV c s G) (h : SV c (c + s) G Y) : SV c (c + (s + 1)) (cuG G (c + s) i j (nI z)) (mkY (decide (¬ ltM (cuG G (c + s) i j (nI z)) 1 c &&& (1 <<< (nI z &&& 31)) = 0)) (decide (¬ ltM (cuG G (c + s) i j (nI z)) 2 c &&& (1 <<< (nI z &&& 31)) = 0)) (1 <<< (nI z &&& 31)) Y (c + s) i j) := fun k hk way hw p hp => by
  have hv : ∀ i, c ≤ i → i < c + s → (∃ a : Nat, a < i ∧ G (6 * i + 3) = nI a) ∧ (∃ b : Nat, b < i ∧ G (6 * i + 4) = nI b) := fun q h1 h2 => ⟨(hG.2.2 q h1 h2).1, (hG.2.2 q h1 h2).2.1⟩
  by_cases e : k = c + s
  · subst e
    rw [mkY_in hs hi hj hw hp, syW, if_neg (by omega), lbt, cuG_5, cuG_3, cuG_4, nI_clamp (by omega), nI_clamp (by omega)]
    exact mkV_cg (mkY_lo (by omega) hs hw hp (by omega)).symm (mkY_lo (by omega) hs hw hp (by omega)).symm
  · rw [mkY_lo (by omega) hs hw hp e, h k (by omega) way hw p hp]
    exact syW_cg (k := c + s) (by omega) (by omega) (fun x hx => (cuG_lo hx).symm) hv (by omega) (fun q hq => (mkY_lo (by omega) hs hw hp (by omega)).symm)
