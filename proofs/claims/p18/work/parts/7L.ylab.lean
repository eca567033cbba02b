set_option maxRecDepth 20000 in
set_option maxHeartbeats 1000000 in
theorem y_X12_end {xs : Nat → Int32} {L d : Nat} {h : ev_H} {th : Int32} {tr : Int64} {ty nx tk pl va fa ss wg : Int32} {c m : Nat} {G : Nat → Int32} (hS : SH h) (h5 : h 420 = c420 th tr ty nx tk pl va fa (nI c) (nI m) ss wg) (hc : c ≤ 16) (hm : m ≤ 24) (h22 : h 422 = cI 240 G) : EV xs L (d + 1) 0 0 M_X12_end 434 h 0 [some (.ref 420)] [] (fun sz' h' r => sz' = 434 ∧ SH h' ∧ KM [420, 431, 432, 433] h h' ∧ (r = [.int (enM G (c + m) 0)]) ∧ h' 420 = c420 0 tr ty nx tk pl va fa (nI c) (nI m) ss wg) := by
  refine r_aload_n rfl dX12_end_0 rfl ?_
  refine r_iconst (v := 0) rfl dX12_end_1 (by decide) ?_
  refine m_put 0 (fs' := [.int 0, .long tr, .ref 421, .int ty, .int nx, .int tk, .int pl, .int va, .int fa, .int (nI c), .int (nI m), .int ss, .int wg, .ref 422, .ref 423, .ref 424, .ref 425, .ref 426, .ref 427, .ref 428, .ref 429, .ref 430, .ref 431, .ref 432, .ref 433]) rfl dX12_end_2 hS (KM_rf (Mod := [420, 431, 432, 433]) h) (by decide) h5 (fp_X12_57 rfl _) (Nat.le_of_ble_eq_true rfl) rfl (fun h51 hS52 hF53 f54 => ?_)
  refine r_aload_n rfl dX12_end_5 rfl ?_
  refine cl_X12_154 rfl rfl dX12_end_6 (show 2 ≤ 420 ∧ 420 < 434 by decide).1 (show 2 ≤ 420 ∧ 420 < 434 by decide).2 f54 (Nat.le_of_ble_eq_true rfl) (y_X12_ending hS52 f54 hc hm ((hF53 422 (by decide)).trans h22)) ?_
  rintro _ h55 _ ⟨rfl, e56, rfl⟩
  replace e56 := e56.symm
  subst e56
  exact r_ret dX12_end_9 (rt_i rfl) ⟨rfl, hS52, hF53, rfl, f54⟩
def lnM (G : Nat → Int32) (k : Nat) (x y : Int32) : Int32 := if inR x 0 (nI k - 1) = 0 then -1 else if inR y 0 5 = 0 then -1 else G (6 * x.toNatClampNeg + y.toNatClampNeg)
set_option maxRecDepth 20000 in
set_option maxHeartbeats 1000000 in
theorem y_X12_line {xs : Nat → Int32} {L d : Nat} {h : ev_H} {th : Int32} {tr : Int64} {ty nx tk pl va fa ss wg : Int32} {c m : Nat} {G : Nat → Int32} {x y : Int32} (hS : SH h) (h5 : h 420 = c420 th tr ty nx tk pl va fa (nI c) (nI m) ss wg) (hc : c ≤ 16) (hm : m ≤ 24) (h22 : h 422 = cI 240 G) : EV xs L (d + 2) 0 0 M_X12_line 434 h 0 [some (.ref 420), some (.int x), some (.int y)] [] (fun sz' h' r => sz' = 434 ∧ SH h' ∧ KM [420, 431, 432, 433] h h' ∧ (r = [.int (lnM G (c + m) x y)]) ∧ h' 420 = c420 0 tr ty nx tk pl va fa (nI c) (nI m) ss wg) := by
  refine r_aload_n rfl dX12_line_0 rfl ?_
  refine r_iconst (v := 0) rfl dX12_line_1 (by decide) ?_
  refine m_put 0 (fs' := [.int 0, .long tr, .ref 421, .int ty, .int nx, .int tk, .int pl, .int va, .int fa, .int (nI c), .int (nI m), .int ss, .int wg, .ref 422, .ref 423, .ref 424, .ref 425, .ref 426, .ref 427, .ref 428, .ref 429, .ref 430, .ref 431, .ref 432, .ref 433]) rfl dX12_line_2 hS (KM_rf (Mod := [420, 431, 432, 433]) h) (by decide) h5 (fp_X12_57 rfl _) (Nat.le_of_ble_eq_true rfl) rfl (fun h51 hS52 hF53 f54 => ?_)
  refine r_aload_n rfl dX12_line_5 rfl ?_
  refine r_iload_n rfl dX12_line_6 rfl ?_
  refine cl_X12_157 rfl rfl dX12_line_7 (show 2 ≤ 420 ∧ 420 < 434 by decide).1 (show 2 ≤ 420 ∧ 420 < 434 by decide).2 f54 (Nat.le_of_ble_eq_true rfl) (s_X12_isLine hS52 f54 hc hm) ?_
  rintro _ h55 _ ⟨rfl, e56, rfl⟩
  replace e56 := e56.symm
  subst e56
  refine r_if_eq (tgt := 36) rfl rfl dX12_line_10 (fun c57 => ?_) (fun c57 => ?_)
  · refine r_iconst (v := (-1)) rfl dX12_line_36 (by decide) ?_
    exact r_ret dX12_line_37 (rt_i rfl) ⟨rfl, hS52, hF53, (by rw [lnM, if_pos c57]; rfl), f54⟩
  · obtain ⟨j58, q59, e60⟩ := isLn (n := c + m) (by omega) c57
    subst e60
    refine r_iload_n rfl dX12_line_13 rfl ?_
    refine r_iconst (v := 0) rfl dX12_line_14 (by decide) ?_
    refine r_iconst (v := 5) rfl dX12_line_15 (by decide) ?_
    refine cl_X12_60 rfl rfl dX12_line_16 (Nat.le_of_ble_eq_true rfl) s_X12_in ?_
    rintro _ h61 _ ⟨rfl, e62, rfl⟩
    replace e62 := e62.symm
    subst e62
    refine r_if_eq (tgt := 36) rfl rfl dX12_line_19 (fun c63 => ?_) (fun c63 => ?_)
    · refine r_iconst (v := (-1)) rfl dX12_line_36 (by decide) ?_
      exact r_ret dX12_line_37 (rt_i rfl) ⟨rfl, hS52, hF53, (by rw [lnM, if_neg c57, if_pos c63]; rfl), f54⟩
    · obtain ⟨j64, q65, q66, e67⟩ := inR_nat (a := 0) (b := 5) (by omega) c63
      subst e67
      refine r_aload_n rfl dX12_line_22 rfl ?_
      refine r_getv 13 rfl dX12_line_23 (show 2 ≤ 420 ∧ 420 < 434 by decide) f54 fl_X12_17 rfl ?_
      refine r_bipush (v := 6) rfl dX12_line_26 (by decide) ?_
      refine r_iload_n rfl dX12_line_28 rfl ?_
      refine r_imul rfl dX12_line_29 ?_
      refine r_eqi (y := nI (6 * j58)) (show 6 * (nI j58) = nI (6 * j58) from pk_mul 6 j58) ?_
      refine r_iload_n rfl dX12_line_30 rfl ?_
      refine r_iadd rfl dX12_line_31 ?_
      refine r_eqi (y := nI ((6 * j58) + j64)) (show (nI (6 * j58)) + (nI j64) = nI ((6 * j58) + j64) from nI_add (6 * j58) j64) ?_
      refine r_ialdv (jn := (6 * j58) + j64) (v := G ((6 * j58) + j64)) rfl dX12_line_32 (show 2 ≤ 422 ∧ 422 < 434 by decide) ((hF53 422 (by decide)).trans h22) (vp_in_nI (n := (6 * j58) + j64) (by omega) (by omega)) (nI_clamp (n := (6 * j58) + j64) (by omega)) rfl ?_
      refine r_goto (pc' := 37) rfl dX12_line_33 ?_
      exact r_ret dX12_line_37 (rt_i rfl) ⟨rfl, hS52, hF53, (by rw [lnM, if_neg c57, if_neg c63, nI_clamp (by omega), nI_clamp (by omega)]; rfl), f54⟩
set_option maxRecDepth 20000 in
set_option maxHeartbeats 1000000 in
theorem lp_X12_labour_55y {xs : Nat → Int32} {L d : Nat} {Q : ev_Q} {tr : Int64} {ty nx tk pl va fa ss wg : Int32} {c m : Nat} {j58 : Nat} {j65 : Nat} {xf3 : Int32} {h0 : ev_H} (h5 : h0 420 = c420 0 tr ty nx tk pl va fa (nI c) (nI m) ss wg) (hc : c ≤ 16) (hm : m ≤ 24) (hb_j58 : j58 < 3 + 1) (hb_j65 : j65 < c + m) : ∀ (n k : Nat), k + n = 4 → ∀ (h : ev_H) (hS : SH h) (hF : KM [431, 432, 433] h0 h)  (hK : ∀ (h : ev_H) (hS : SH h) (hF : KM [431, 432, 433] h0 h) (kx : Int32) , EV xs L (d + 2) 0 0 M_X12_labour 434 h 85 [some (.ref 420), some (.int (nI j58)), some (.int (nI j65)), some (.int xf3), some (.int kx)] [] Q), EV xs L (d + 2) 0 0 M_X12_labour 434 h 55 [some (.ref 420), some (.int (nI j58)), some (.int (nI j65)), some (.int xf3), some (.int (nI k))] [] Q := by
  intro n
  induction n with
  | zero =>
    intro k hk h hS hF  hK
    refine r_iload rfl dX12_labour_55 rfl ?_
    refine r_iconst (v := 4) rfl dX12_labour_57 (by decide) ?_
    refine r_icmp_ge (tgt := 85) rfl rfl dX12_labour_58 (fun _ => ?_) (fun zc => absurd (show 4 ≤ nI k from nI_le (a := 4) (b := k) (by omega) (by omega)) zc)
    exact hK h hS hF (nI k) 
  | succ n ih =>
    intro k hk h hS hF  hK
    refine r_iload rfl dX12_labour_55 rfl ?_
    refine r_iconst (v := 4) rfl dX12_labour_57 (by decide) ?_
    refine r_icmp_ge (tgt := 85) rfl rfl dX12_labour_58 (fun zc => absurd zc (show ¬ 4 ≤ nI k from nI_ge (a := k) (b := 4) (by omega) (by omega))) (fun _ => ?_)
    refine r_aload_n rfl dX12_labour_61 rfl ?_
    refine r_getv 23 rfl dX12_labour_62 (show 2 ≤ 420 ∧ 420 < 434 by decide) ((hF 420 (by decide)).trans h5) fl_X12_48 rfl ?_
    refine r_iload rfl dX12_labour_65 rfl ?_
    refine r_aload_n rfl dX12_labour_67 rfl ?_
    refine r_getv 17 rfl dX12_labour_68 (show 2 ≤ 420 ∧ 420 < 434 by decide) ((hF 420 (by decide)).trans h5) fl_X12_30 rfl ?_
    refine r_iconst (v := 4) rfl dX12_labour_71 (by decide) ?_
    refine r_iload_n rfl dX12_labour_72 rfl ?_
    refine r_imul rfl dX12_labour_73 ?_
    refine r_eqi (y := nI (4 * j65)) (show 4 * (nI j65) = nI (4 * j65) from pk_mul 4 j65) ?_
    refine r_iload rfl dX12_labour_74 rfl ?_
    refine r_iadd rfl dX12_labour_76 ?_
    refine r_eqi (y := nI ((4 * j65) + k)) (show (nI (4 * j65)) + (nI k) = nI ((4 * j65) + k) from nI_add (4 * j65) k) ?_
    obtain ⟨g180, f181⟩ := hS.la LA_426
    refine r_laldv (jn := (4 * j65) + k) (v := g180 ((4 * j65) + k)) rfl dX12_labour_77 (show 2 ≤ 426 ∧ 426 < 434 by decide) f181 (vp_in_nI (n := (4 * j65) + k) (by omega) (by omega)) (nI_clamp (n := (4 * j65) + k) (by omega)) rfl ?_
    obtain ⟨g182, f183⟩ := hS.la LA_432
    refine m_last rfl dX12_labour_78 (show 2 ≤ 432 ∧ 432 < 434 by decide) hS hF (by decide) f183 (vp_in_nI (n := k) (by omega) (by omega)) (fun h184 hS185 hF186 hN187 => ?_)
    refine r_iinc (y := nI (k + 1)) (ls' := [some (.ref 420), some (.int (nI j58)), some (.int (nI j65)), some (.int xf3), some (.int (nI (k + 1)))]) rfl dX12_labour_79 rfl (nI_1 k) (Nat.le_of_ble_eq_true rfl) rfl ?_
    refine r_goto (pc' := 55) rfl dX12_labour_82 ?_
    exact ih (k + 1) (by omega) h184 hS185 hF186  hK
set_option maxRecDepth 20000 in
set_option maxHeartbeats 1000000 in
theorem y_X12_labour {xs : Nat → Int32} {L d : Nat} {h : ev_H} {th : Int32} {tr : Int64} {ty nx tk pl va fa ss wg : Int32} {c m : Nat} {x y : Int32} (hS : SH h) (h5 : h 420 = c420 th tr ty nx tk pl va fa (nI c) (nI m) ss wg) (hc : c ≤ 16) (hm : m ≤ 24) : EV xs L (d + 2) 0 0 M_X12_labour 434 h 0 [some (.ref 420), some (.int x), some (.int y), none, none] [] (fun sz' h' r => sz' = 434 ∧ SH h' ∧ KM [420, 431, 432, 433] h h' ∧ (∃ x : Int32, r = [.int x]) ∧ h' 420 = c420 0 (lbT x y (c + m) tr) ty nx tk pl va fa (nI c) (nI m) ss wg) := by
  refine r_aload_n rfl dX12_labour_0 rfl ?_
  refine r_iconst (v := 0) rfl dX12_labour_1 (by decide) ?_
  refine m_put 0 (fs' := [.int 0, .long tr, .ref 421, .int ty, .int nx, .int tk, .int pl, .int va, .int fa, .int (nI c), .int (nI m), .int ss, .int wg, .ref 422, .ref 423, .ref 424, .ref 425, .ref 426, .ref 427, .ref 428, .ref 429, .ref 430, .ref 431, .ref 432, .ref 433]) rfl dX12_labour_2 hS (KM_rf (Mod := [420, 431, 432, 433]) h) (by decide) h5 (fp_X12_57 rfl _) (Nat.le_of_ble_eq_true rfl) rfl (fun h51 hS52 hF53 f54 => ?_)
  refine r_iload_n rfl dX12_labour_5 rfl ?_
  refine r_iconst (v := 0) rfl dX12_labour_6 (by decide) ?_
  refine r_iconst (v := 3) rfl dX12_labour_7 (by decide) ?_
  refine cl_X12_60 rfl rfl dX12_labour_8 (Nat.le_of_ble_eq_true rfl) s_X12_in ?_
  rintro _ h55 _ ⟨rfl, e56, rfl⟩
  replace e56 := e56.symm
  subst e56
  refine r_if_eq (tgt := 22) rfl rfl dX12_labour_11 (fun c57 => ?_) (fun c57 => ?_)
  · refine r_iconst (v := (-1)) rfl dX12_labour_22 (by decide) ?_
    exact r_ret dX12_labour_23 (rt_i rfl) ⟨rfl, hS52, hF53, ⟨_, rfl⟩, (by rw [lbT, if_pos c57]; exact f54)⟩
  · obtain ⟨j58, q59, q60, e61⟩ := inR_nat (a := 0) (b := 3) (by omega) c57
    subst e61
    refine r_aload_n rfl dX12_labour_14 rfl ?_
    refine r_iload_n rfl dX12_labour_15 rfl ?_
    refine cl_X12_157 rfl rfl dX12_labour_16 (show 2 ≤ 420 ∧ 420 < 434 by decide).1 (show 2 ≤ 420 ∧ 420 < 434 by decide).2 f54 (Nat.le_of_ble_eq_true rfl) (s_X12_isLine hS52 f54 hc hm) ?_
    rintro _ h62 _ ⟨rfl, e63, rfl⟩
    replace e63 := e63.symm
    subst e63
    refine r_if_ne (tgt := 24) rfl rfl dX12_labour_19 (fun c64 => ?_) (fun c64 => ?_)
    · obtain ⟨j65, q66, e67⟩ := isLn (n := c + m) (by omega) c64
      subst e67
      refine r_aload_n rfl dX12_labour_24 rfl ?_
      refine r_getv 13 rfl dX12_labour_25 (show 2 ≤ 420 ∧ 420 < 434 by decide) f54 fl_X12_17 rfl ?_
      refine r_bipush (v := 6) rfl dX12_labour_28 (by decide) ?_
      refine r_iload_n rfl dX12_labour_30 rfl ?_
      refine r_imul rfl dX12_labour_31 ?_
      refine r_eqi (y := nI (6 * j65)) (show 6 * (nI j65) = nI (6 * j65) from pk_mul 6 j65) ?_
      obtain ⟨g68, f69⟩ := hS52.li LI_422
      refine r_ialdv (jn := 6 * j65) (v := g68 (6 * j65)) rfl dX12_labour_32 (show 2 ≤ 422 ∧ 422 < 434 by decide) f69 (vp_in_nI (n := 6 * j65) (by omega) (by omega)) (nI_clamp (n := 6 * j65) (by omega)) rfl ?_
      refine cl_X12_177 rfl rfl dX12_labour_33 (Nat.le_of_ble_eq_true rfl) (s_X12_ones hS52) ?_
      rintro _ h70 _ ⟨rfl, e71, x72, rfl⟩
      replace e71 := e71.symm
      subst e71
      refine r_aload_n rfl dX12_labour_36 rfl ?_
      refine r_getv 13 rfl dX12_labour_37 (show 2 ≤ 420 ∧ 420 < 434 by decide) f54 fl_X12_17 rfl ?_
      refine r_bipush (v := 6) rfl dX12_labour_40 (by decide) ?_
      refine r_iload_n rfl dX12_labour_42 rfl ?_
      refine r_imul rfl dX12_labour_43 ?_
      refine r_eqi (y := nI (6 * j65)) (show 6 * (nI j65) = nI (6 * j65) from pk_mul 6 j65) ?_
      refine r_iconst (v := 1) rfl dX12_labour_44 (by decide) ?_
      refine r_iadd rfl dX12_labour_45 ?_
      refine r_eqi (y := nI ((6 * j65) + 1)) (show (nI (6 * j65)) + 1 = nI ((6 * j65) + 1) from nI_add (6 * j65) 1) ?_
      obtain ⟨g73, f74⟩ := hS52.li LI_422
      refine r_ialdv (jn := (6 * j65) + 1) (v := g73 ((6 * j65) + 1)) rfl dX12_labour_46 (show 2 ≤ 422 ∧ 422 < 434 by decide) f74 (vp_in_nI (n := (6 * j65) + 1) (by omega) (by omega)) (nI_clamp (n := (6 * j65) + 1) (by omega)) rfl ?_
      refine cl_X12_177 rfl rfl dX12_labour_47 (Nat.le_of_ble_eq_true rfl) (s_X12_ones hS52) ?_
      rintro _ h75 _ ⟨rfl, e76, x77, rfl⟩
      replace e76 := e76.symm
      subst e76
      refine r_iadd rfl dX12_labour_50 ?_
      refine r_topi (fun x78 e79 => ?_)
      refine r_istore_n (ls' := [some (.ref 420), some (.int (nI j58)), some (.int (nI j65)), some (.int x78), none]) rfl dX12_labour_51 (Nat.le_of_ble_eq_true rfl) rfl ?_
      refine r_iconst (v := 0) rfl dX12_labour_52 (by decide) ?_
      refine r_istore (ls' := [some (.ref 420), some (.int (nI j58)), some (.int (nI j65)), some (.int x78), some (.int 0)]) rfl dX12_labour_53 (Nat.le_of_ble_eq_true rfl) rfl ?_
      refine lp_X12_labour_55y f54 hc hm (by omega) (by omega) (4 - 0) 0 (by omega) h51 hS52 (KM_rf _)  ?_
      intro h81 hS82 hK83 kx80 
      have hF84 := KM_tr hF53 (KM_sb (by decide) hK83)
      have f85 : h81 420 = c420 0 tr ty nx tk pl va fa (nI c) (nI m) ss wg := (hK83 420 (by decide)).trans f54
      refine r_iload_n rfl dX12_labour_85 rfl ?_
      refine r_aload_n rfl dX12_labour_86 rfl ?_
      refine r_getv 23 rfl dX12_labour_87 (show 2 ≤ 420 ∧ 420 < 434 by decide) f85 fl_X12_48 rfl ?_
      refine cl_X12_160 rfl rfl dX12_labour_90 (Nat.le_of_ble_eq_true rfl) (s_X12_many hS82 LA_432) ?_
      rintro _ h86 _ ⟨rfl, e87, x88, rfl⟩
      replace e87 := e87.symm
      subst e87
      refine r_iadd rfl dX12_labour_93 ?_
      refine r_topi (fun x89 e90 => ?_)
      refine r_istore (ls' := [some (.ref 420), some (.int (nI j58)), some (.int (nI j65)), some (.int x78), some (.int x89)]) rfl dX12_labour_94 (Nat.le_of_ble_eq_true rfl) rfl ?_
      refine r_aload_n rfl dX12_labour_96 rfl ?_
      refine r_dup rfl dX12_labour_97 rfl ?_
      refine r_getv 1 rfl dX12_labour_98 (show 2 ≤ 420 ∧ 420 < 434 by decide) f85 fl_X12_183 rfl ?_
      refine r_iload_n rfl dX12_labour_101 rfl ?_
      refine r_if_ne (tgt := 109) rfl rfl dX12_labour_102 (fun c91 => ?_) (fun c91 => ?_)
      · have q92 : ¬ j58 = 0 := (not_congr (nI_eq (a := j58) (b := 0)  (by omega) (by omega))).mp c91
        refine r_iload_n rfl dX12_labour_109 rfl ?_
        refine r_iconst (v := 1) rfl dX12_labour_110 (by decide) ?_
        refine r_icmp_ne (tgt := 120) rfl rfl dX12_labour_111 (fun c93 => ?_) (fun c93 => ?_)
        · have q94 : ¬ j58 = 1 := (not_congr (nI_eq (a := j58) (b := 1)  (by omega) (by omega))).mp c93
          refine r_iload_n rfl dX12_labour_120 rfl ?_
          refine r_iconst (v := 2) rfl dX12_labour_121 (by decide) ?_
          refine r_icmp_ne (tgt := 131) rfl rfl dX12_labour_122 (fun c95 => ?_) (fun c95 => ?_)
          · have q96 : ¬ j58 = 2 := (not_congr (nI_eq (a := j58) (b := 2)  (by omega) (by omega))).mp c95
            refine r_ldc2 (v := 1011) rfl dX12_labour_131 lc_X12_191 ?_
            refine r_ladd rfl dX12_labour_134 ?_
            refine m_put 1 (fs' := [.int 0, .long (tr + 1011), .ref 421, .int ty, .int nx, .int tk, .int pl, .int va, .int fa, .int (nI c), .int (nI m), .int ss, .int wg, .ref 422, .ref 423, .ref 424, .ref 425, .ref 426, .ref 427, .ref 428, .ref 429, .ref 430, .ref 431, .ref 432, .ref 433]) rfl dX12_labour_135 hS82 hF84 (by decide) f85 (fp_X12_183 rfl _) (Nat.le_of_ble_eq_true rfl) rfl (fun h97 hS98 hF99 f100 => ?_)
            refine r_iload_n rfl dX12_labour_138 rfl ?_
            refine r_if_ne (tgt := 146) rfl rfl dX12_labour_139 (fun c101 => ?_) (fun c101 => ?_)
            · have q102 : ¬ j58 = 0 := (not_congr (nI_eq (a := j58) (b := 0)  (by omega) (by omega))).mp c101
              refine r_iload_n rfl dX12_labour_146 rfl ?_
              refine r_iconst (v := 1) rfl dX12_labour_147 (by decide) ?_
              refine r_icmp_ne (tgt := 156) rfl rfl dX12_labour_148 (fun c103 => ?_) (fun c103 => ?_)
              · have q104 : ¬ j58 = 1 := (not_congr (nI_eq (a := j58) (b := 1)  (by omega) (by omega))).mp c103
                refine r_iload_n rfl dX12_labour_156 rfl ?_
                refine r_iconst (v := 2) rfl dX12_labour_157 (by decide) ?_
                refine r_icmp_ne (tgt := 169) rfl rfl dX12_labour_158 (fun c105 => ?_) (fun c105 => ?_)
                · have q106 : ¬ j58 = 2 := (not_congr (nI_eq (a := j58) (b := 2)  (by omega) (by omega))).mp c105
                  refine r_iload rfl dX12_labour_169 rfl ?_
                  refine r_iconst (v := 2) rfl dX12_labour_171 (by decide) ?_
                  refine r_idiv rfl dX12_labour_172 (by decide) ?_
                  exact r_ret dX12_labour_173 (rt_i rfl) ⟨rfl, hS98, hF99, ⟨_, rfl⟩, (by rw [lbT, if_neg c57, if_neg c64, if_neg c91, if_neg c93, if_neg c95]; exact f100)⟩
                · have q107 : j58 = 2 := (nI_eq (a := j58) (b := 2) (by omega) (by omega)).mp c105
                  refine r_iconst (v := 2) rfl dX12_labour_161 (by decide) ?_
                  refine r_iload_n rfl dX12_labour_162 rfl ?_
                  refine r_imul rfl dX12_labour_163 ?_
                  refine r_iconst (v := 1) rfl dX12_labour_164 (by decide) ?_
                  refine r_iadd rfl dX12_labour_165 ?_
                  refine r_goto (pc' := 173) rfl dX12_labour_166 ?_
                  exact r_ret dX12_labour_173 (rt_i rfl) ⟨rfl, hS98, hF99, ⟨_, rfl⟩, (by rw [lbT, if_neg c57, if_neg c64, if_neg c91, if_neg c93, if_neg c95]; exact f100)⟩
              · have q108 : j58 = 1 := (nI_eq (a := j58) (b := 1) (by omega) (by omega)).mp c103
                refine r_iload rfl dX12_labour_151 rfl ?_
                refine r_goto (pc' := 173) rfl dX12_labour_153 ?_
                exact r_ret dX12_labour_173 (rt_i rfl) ⟨rfl, hS98, hF99, ⟨_, rfl⟩, (by rw [lbT, if_neg c57, if_neg c64, if_neg c91, if_neg c93, if_neg c95]; exact f100)⟩
            · have q109 : j58 = 0 := (nI_eq (a := j58) (b := 0) (by omega) (by omega)).mp c101
              refine r_iload_n rfl dX12_labour_142 rfl ?_
              refine r_goto (pc' := 173) rfl dX12_labour_143 ?_
              exact r_ret dX12_labour_173 (rt_i rfl) ⟨rfl, hS98, hF99, ⟨_, rfl⟩, (by rw [lbT, if_neg c57, if_neg c64, if_neg c91, if_neg c93, if_neg c95]; exact f100)⟩
          · have q110 : j58 = 2 := (nI_eq (a := j58) (b := 2) (by omega) (by omega)).mp c95
            refine r_ldc2 (v := 101) rfl dX12_labour_125 lc_X12_189 ?_
            refine r_goto (pc' := 134) rfl dX12_labour_128 ?_
            refine r_ladd rfl dX12_labour_134 ?_
            refine m_put 1 (fs' := [.int 0, .long (tr + 101), .ref 421, .int ty, .int nx, .int tk, .int pl, .int va, .int fa, .int (nI c), .int (nI m), .int ss, .int wg, .ref 422, .ref 423, .ref 424, .ref 425, .ref 426, .ref 427, .ref 428, .ref 429, .ref 430, .ref 431, .ref 432, .ref 433]) rfl dX12_labour_135 hS82 hF84 (by decide) f85 (fp_X12_183 rfl _) (Nat.le_of_ble_eq_true rfl) rfl (fun h111 hS112 hF113 f114 => ?_)
            refine r_iload_n rfl dX12_labour_138 rfl ?_
            refine r_if_ne (tgt := 146) rfl rfl dX12_labour_139 (fun c115 => ?_) (fun c115 => ?_)
            · have q116 : ¬ j58 = 0 := (not_congr (nI_eq (a := j58) (b := 0)  (by omega) (by omega))).mp c115
              refine r_iload_n rfl dX12_labour_146 rfl ?_
              refine r_iconst (v := 1) rfl dX12_labour_147 (by decide) ?_
              refine r_icmp_ne (tgt := 156) rfl rfl dX12_labour_148 (fun c117 => ?_) (fun c117 => ?_)
              · have q118 : ¬ j58 = 1 := (not_congr (nI_eq (a := j58) (b := 1)  (by omega) (by omega))).mp c117
                refine r_iload_n rfl dX12_labour_156 rfl ?_
                refine r_iconst (v := 2) rfl dX12_labour_157 (by decide) ?_
                refine r_icmp_ne (tgt := 169) rfl rfl dX12_labour_158 (fun c119 => ?_) (fun c119 => ?_)
                · have q120 : ¬ j58 = 2 := (not_congr (nI_eq (a := j58) (b := 2)  (by omega) (by omega))).mp c119
                  refine r_iload rfl dX12_labour_169 rfl ?_
                  refine r_iconst (v := 2) rfl dX12_labour_171 (by decide) ?_
                  refine r_idiv rfl dX12_labour_172 (by decide) ?_
                  exact r_ret dX12_labour_173 (rt_i rfl) ⟨rfl, hS112, hF113, ⟨_, rfl⟩, (by rw [lbT, if_neg c57, if_neg c64, if_neg c91, if_neg c93, if_pos c95]; exact f114)⟩
                · have q121 : j58 = 2 := (nI_eq (a := j58) (b := 2) (by omega) (by omega)).mp c119
                  refine r_iconst (v := 2) rfl dX12_labour_161 (by decide) ?_
                  refine r_iload_n rfl dX12_labour_162 rfl ?_
                  refine r_imul rfl dX12_labour_163 ?_
                  refine r_iconst (v := 1) rfl dX12_labour_164 (by decide) ?_
                  refine r_iadd rfl dX12_labour_165 ?_
                  refine r_goto (pc' := 173) rfl dX12_labour_166 ?_
                  exact r_ret dX12_labour_173 (rt_i rfl) ⟨rfl, hS112, hF113, ⟨_, rfl⟩, (by rw [lbT, if_neg c57, if_neg c64, if_neg c91, if_neg c93, if_pos c95]; exact f114)⟩
              · have q122 : j58 = 1 := (nI_eq (a := j58) (b := 1) (by omega) (by omega)).mp c117
                refine r_iload rfl dX12_labour_151 rfl ?_
                refine r_goto (pc' := 173) rfl dX12_labour_153 ?_
                exact r_ret dX12_labour_173 (rt_i rfl) ⟨rfl, hS112, hF113, ⟨_, rfl⟩, (by rw [lbT, if_neg c57, if_neg c64, if_neg c91, if_neg c93, if_pos c95]; exact f114)⟩
            · have q123 : j58 = 0 := (nI_eq (a := j58) (b := 0) (by omega) (by omega)).mp c115
              refine r_iload_n rfl dX12_labour_142 rfl ?_
              refine r_goto (pc' := 173) rfl dX12_labour_143 ?_
              exact r_ret dX12_labour_173 (rt_i rfl) ⟨rfl, hS112, hF113, ⟨_, rfl⟩, (by rw [lbT, if_neg c57, if_neg c64, if_neg c91, if_neg c93, if_pos c95]; exact f114)⟩
        · have q124 : j58 = 1 := (nI_eq (a := j58) (b := 1) (by omega) (by omega)).mp c93
          refine r_ldc2 (v := 11) rfl dX12_labour_114 lc_X12_187 ?_
          refine r_goto (pc' := 134) rfl dX12_labour_117 ?_
          refine r_ladd rfl dX12_labour_134 ?_
          refine m_put 1 (fs' := [.int 0, .long (tr + 11), .ref 421, .int ty, .int nx, .int tk, .int pl, .int va, .int fa, .int (nI c), .int (nI m), .int ss, .int wg, .ref 422, .ref 423, .ref 424, .ref 425, .ref 426, .ref 427, .ref 428, .ref 429, .ref 430, .ref 431, .ref 432, .ref 433]) rfl dX12_labour_135 hS82 hF84 (by decide) f85 (fp_X12_183 rfl _) (Nat.le_of_ble_eq_true rfl) rfl (fun h125 hS126 hF127 f128 => ?_)
          refine r_iload_n rfl dX12_labour_138 rfl ?_
          refine r_if_ne (tgt := 146) rfl rfl dX12_labour_139 (fun c129 => ?_) (fun c129 => ?_)
          · have q130 : ¬ j58 = 0 := (not_congr (nI_eq (a := j58) (b := 0)  (by omega) (by omega))).mp c129
            refine r_iload_n rfl dX12_labour_146 rfl ?_
            refine r_iconst (v := 1) rfl dX12_labour_147 (by decide) ?_
            refine r_icmp_ne (tgt := 156) rfl rfl dX12_labour_148 (fun c131 => ?_) (fun c131 => ?_)
            · have q132 : ¬ j58 = 1 := (not_congr (nI_eq (a := j58) (b := 1)  (by omega) (by omega))).mp c131
              refine r_iload_n rfl dX12_labour_156 rfl ?_
              refine r_iconst (v := 2) rfl dX12_labour_157 (by decide) ?_
              refine r_icmp_ne (tgt := 169) rfl rfl dX12_labour_158 (fun c133 => ?_) (fun c133 => ?_)
              · have q134 : ¬ j58 = 2 := (not_congr (nI_eq (a := j58) (b := 2)  (by omega) (by omega))).mp c133
                refine r_iload rfl dX12_labour_169 rfl ?_
                refine r_iconst (v := 2) rfl dX12_labour_171 (by decide) ?_
                refine r_idiv rfl dX12_labour_172 (by decide) ?_
                exact r_ret dX12_labour_173 (rt_i rfl) ⟨rfl, hS126, hF127, ⟨_, rfl⟩, (by rw [lbT, if_neg c57, if_neg c64, if_neg c91, if_pos c93]; exact f128)⟩
              · have q135 : j58 = 2 := (nI_eq (a := j58) (b := 2) (by omega) (by omega)).mp c133
                refine r_iconst (v := 2) rfl dX12_labour_161 (by decide) ?_
                refine r_iload_n rfl dX12_labour_162 rfl ?_
                refine r_imul rfl dX12_labour_163 ?_
                refine r_iconst (v := 1) rfl dX12_labour_164 (by decide) ?_
                refine r_iadd rfl dX12_labour_165 ?_
                refine r_goto (pc' := 173) rfl dX12_labour_166 ?_
                exact r_ret dX12_labour_173 (rt_i rfl) ⟨rfl, hS126, hF127, ⟨_, rfl⟩, (by rw [lbT, if_neg c57, if_neg c64, if_neg c91, if_pos c93]; exact f128)⟩
            · have q136 : j58 = 1 := (nI_eq (a := j58) (b := 1) (by omega) (by omega)).mp c131
              refine r_iload rfl dX12_labour_151 rfl ?_
              refine r_goto (pc' := 173) rfl dX12_labour_153 ?_
              exact r_ret dX12_labour_173 (rt_i rfl) ⟨rfl, hS126, hF127, ⟨_, rfl⟩, (by rw [lbT, if_neg c57, if_neg c64, if_neg c91, if_pos c93]; exact f128)⟩
          · have q137 : j58 = 0 := (nI_eq (a := j58) (b := 0) (by omega) (by omega)).mp c129
            refine r_iload_n rfl dX12_labour_142 rfl ?_
            refine r_goto (pc' := 173) rfl dX12_labour_143 ?_
            exact r_ret dX12_labour_173 (rt_i rfl) ⟨rfl, hS126, hF127, ⟨_, rfl⟩, (by rw [lbT, if_neg c57, if_neg c64, if_neg c91, if_pos c93]; exact f128)⟩
      · have q138 : j58 = 0 := (nI_eq (a := j58) (b := 0) (by omega) (by omega)).mp c91
        refine r_lconst (v := 1) rfl dX12_labour_105 (by decide) ?_
        refine r_goto (pc' := 134) rfl dX12_labour_106 ?_
        refine r_ladd rfl dX12_labour_134 ?_
        refine m_put 1 (fs' := [.int 0, .long (tr + 1), .ref 421, .int ty, .int nx, .int tk, .int pl, .int va, .int fa, .int (nI c), .int (nI m), .int ss, .int wg, .ref 422, .ref 423, .ref 424, .ref 425, .ref 426, .ref 427, .ref 428, .ref 429, .ref 430, .ref 431, .ref 432, .ref 433]) rfl dX12_labour_135 hS82 hF84 (by decide) f85 (fp_X12_183 rfl _) (Nat.le_of_ble_eq_true rfl) rfl (fun h139 hS140 hF141 f142 => ?_)
        refine r_iload_n rfl dX12_labour_138 rfl ?_
        refine r_if_ne (tgt := 146) rfl rfl dX12_labour_139 (fun c143 => ?_) (fun c143 => ?_)
        · have q144 : ¬ j58 = 0 := (not_congr (nI_eq (a := j58) (b := 0)  (by omega) (by omega))).mp c143
          refine r_iload_n rfl dX12_labour_146 rfl ?_
          refine r_iconst (v := 1) rfl dX12_labour_147 (by decide) ?_
          refine r_icmp_ne (tgt := 156) rfl rfl dX12_labour_148 (fun c145 => ?_) (fun c145 => ?_)
          · have q146 : ¬ j58 = 1 := (not_congr (nI_eq (a := j58) (b := 1)  (by omega) (by omega))).mp c145
            refine r_iload_n rfl dX12_labour_156 rfl ?_
            refine r_iconst (v := 2) rfl dX12_labour_157 (by decide) ?_
            refine r_icmp_ne (tgt := 169) rfl rfl dX12_labour_158 (fun c147 => ?_) (fun c147 => ?_)
            · have q148 : ¬ j58 = 2 := (not_congr (nI_eq (a := j58) (b := 2)  (by omega) (by omega))).mp c147
              refine r_iload rfl dX12_labour_169 rfl ?_
              refine r_iconst (v := 2) rfl dX12_labour_171 (by decide) ?_
              refine r_idiv rfl dX12_labour_172 (by decide) ?_
              exact r_ret dX12_labour_173 (rt_i rfl) ⟨rfl, hS140, hF141, ⟨_, rfl⟩, (by rw [lbT, if_neg c57, if_neg c64, if_pos c91]; exact f142)⟩
            · have q149 : j58 = 2 := (nI_eq (a := j58) (b := 2) (by omega) (by omega)).mp c147
              refine r_iconst (v := 2) rfl dX12_labour_161 (by decide) ?_
              refine r_iload_n rfl dX12_labour_162 rfl ?_
              refine r_imul rfl dX12_labour_163 ?_
              refine r_iconst (v := 1) rfl dX12_labour_164 (by decide) ?_
              refine r_iadd rfl dX12_labour_165 ?_
              refine r_goto (pc' := 173) rfl dX12_labour_166 ?_
              exact r_ret dX12_labour_173 (rt_i rfl) ⟨rfl, hS140, hF141, ⟨_, rfl⟩, (by rw [lbT, if_neg c57, if_neg c64, if_pos c91]; exact f142)⟩
          · have q150 : j58 = 1 := (nI_eq (a := j58) (b := 1) (by omega) (by omega)).mp c145
            refine r_iload rfl dX12_labour_151 rfl ?_
            refine r_goto (pc' := 173) rfl dX12_labour_153 ?_
            exact r_ret dX12_labour_173 (rt_i rfl) ⟨rfl, hS140, hF141, ⟨_, rfl⟩, (by rw [lbT, if_neg c57, if_neg c64, if_pos c91]; exact f142)⟩
        · have q151 : j58 = 0 := (nI_eq (a := j58) (b := 0) (by omega) (by omega)).mp c143
          refine r_iload_n rfl dX12_labour_142 rfl ?_
          refine r_goto (pc' := 173) rfl dX12_labour_143 ?_
          exact r_ret dX12_labour_173 (rt_i rfl) ⟨rfl, hS140, hF141, ⟨_, rfl⟩, (by rw [lbT, if_neg c57, if_neg c64, if_pos c91]; exact f142)⟩
    · refine r_iconst (v := (-1)) rfl dX12_labour_22 (by decide) ?_
      exact r_ret dX12_labour_23 (rt_i rfl) ⟨rfl, hS52, hF53, ⟨_, rfl⟩, (by rw [lbT, if_neg c57, if_pos c64]; exact f54)⟩
