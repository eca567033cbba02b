set_option maxRecDepth 20000 in
set_option maxHeartbeats 1000000 in
theorem y_X12_wrong {xs : Nat → Int32} {L d : Nat} {h : ev_H} {th : Int32} {tr : Int64} {ty nx tk pl va fa ss wg : Int32} {c m : Nat} (hS : SH h) (h5 : h 420 = c420 th tr ty nx tk pl va fa (nI c) (nI m) ss wg) (hc : c ≤ 16) (hm : m ≤ 24) : EV xs L (d + 0) 0 0 M_X12_wrong 434 h 0 [some (.ref 420)] [] (fun sz' h' r => sz' = 434 ∧ SH h' ∧ KM [420, 431, 432, 433] h h' ∧ (r = [.int wg]) ∧ h' 420 = c420 0 tr ty nx tk pl va fa (nI c) (nI m) ss wg) := by
  refine r_aload_n rfl dX12_wrong_0 rfl ?_
  refine r_iconst (v := 0) rfl dX12_wrong_1 (by decide) ?_
  refine m_put 0 (fs' := [.int 0, .long tr, .ref 421, .int ty, .int nx, .int tk, .int pl, .int va, .int fa, .int (nI c), .int (nI m), .int ss, .int wg, .ref 422, .ref 423, .ref 424, .ref 425, .ref 426, .ref 427, .ref 428, .ref 429, .ref 430, .ref 431, .ref 432, .ref 433]) rfl dX12_wrong_2 hS (KM_rf (Mod := [420, 431, 432, 433]) h) (by decide) h5 (fp_X12_57 rfl _) (Nat.le_of_ble_eq_true rfl) rfl (fun h51 hS52 hF53 f54 => ?_)
  refine r_aload_n rfl dX12_wrong_5 rfl ?_
  refine r_getv 12 rfl dX12_wrong_6 (show 2 ≤ 420 ∧ 420 < 434 by decide) f54 fl_X12_13 rfl ?_
  exact r_ret dX12_wrong_9 (rt_i rfl) ⟨rfl, hS52, hF53, rfl, f54⟩
set_option maxRecDepth 20000 in
set_option maxHeartbeats 1000000 in
theorem y_X12_trace {xs : Nat → Int32} {L d : Nat} {h : ev_H} {th : Int32} {tr : Int64} {ty nx tk pl va fa ss wg : Int32} {c m : Nat} (hS : SH h) (h5 : h 420 = c420 th tr ty nx tk pl va fa (nI c) (nI m) ss wg) (hc : c ≤ 16) (hm : m ≤ 24) : EV xs L (d + 0) 0 0 M_X12_trace 434 h 0 [some (.ref 420)] [] (fun sz' h' r => sz' = 434 ∧ SH h' ∧ KM [420, 431, 432, 433] h h' ∧ (r = [.long tr]) ∧ h' 420 = c420 0 tr ty nx tk pl va fa (nI c) (nI m) ss wg) := by
  refine r_aload_n rfl dX12_trace_0 rfl ?_
  refine r_iconst (v := 0) rfl dX12_trace_1 (by decide) ?_
  refine m_put 0 (fs' := [.int 0, .long tr, .ref 421, .int ty, .int nx, .int tk, .int pl, .int va, .int fa, .int (nI c), .int (nI m), .int ss, .int wg, .ref 422, .ref 423, .ref 424, .ref 425, .ref 426, .ref 427, .ref 428, .ref 429, .ref 430, .ref 431, .ref 432, .ref 433]) rfl dX12_trace_2 hS (KM_rf (Mod := [420, 431, 432, 433]) h) (by decide) h5 (fp_X12_57 rfl _) (Nat.le_of_ble_eq_true rfl) rfl (fun h51 hS52 hF53 f54 => ?_)
  refine r_aload_n rfl dX12_trace_5 rfl ?_
  refine r_getv 1 rfl dX12_trace_6 (show 2 ≤ 420 ∧ 420 < 434 by decide) f54 fl_X12_183 rfl ?_
  exact r_ret dX12_trace_9 (rt_l rfl) ⟨rfl, hS52, hF53, rfl, f54⟩
set_option maxRecDepth 20000 in
set_option maxHeartbeats 1000000 in
theorem y_X12_side {xs : Nat → Int32} {L d : Nat} {h : ev_H} {th : Int32} {tr : Int64} {ty nx tk pl va fa ss wg : Int32} {c m : Nat} {x : Int32} (hS : SH h) (h5 : h 420 = c420 th tr ty nx tk pl va fa (nI c) (nI m) ss wg) (hc : c ≤ 16) (hm : m ≤ 24) : EV xs L (d + 1) 0 0 M_X12_side 434 h 0 [some (.ref 420), some (.int x)] [] (fun sz' h' r => sz' = 434 ∧ SH h' ∧ KM [420, 431, 432, 433] h h' ∧ (∃ x : Int32, r = [.int x]) ∧ h' 420 = c420 0 tr ty nx tk pl va fa (nI c) (nI m) ss wg) := by
  refine r_aload_n rfl dX12_side_0 rfl ?_
  refine r_iconst (v := 0) rfl dX12_side_1 (by decide) ?_
  refine m_put 0 (fs' := [.int 0, .long tr, .ref 421, .int ty, .int nx, .int tk, .int pl, .int va, .int fa, .int (nI c), .int (nI m), .int ss, .int wg, .ref 422, .ref 423, .ref 424, .ref 425, .ref 426, .ref 427, .ref 428, .ref 429, .ref 430, .ref 431, .ref 432, .ref 433]) rfl dX12_side_2 hS (KM_rf (Mod := [420, 431, 432, 433]) h) (by decide) h5 (fp_X12_57 rfl _) (Nat.le_of_ble_eq_true rfl) rfl (fun h51 hS52 hF53 f54 => ?_)
  refine r_iload_n rfl dX12_side_5 rfl ?_
  refine r_iconst (v := 0) rfl dX12_side_6 (by decide) ?_
  refine r_bipush (v := 7) rfl dX12_side_7 (by decide) ?_
  refine cl_X12_60 rfl rfl dX12_side_9 (Nat.le_of_ble_eq_true rfl) s_X12_in ?_
  rintro _ h55 _ ⟨rfl, e56, rfl⟩
  replace e56 := e56.symm
  subst e56
  refine r_if_eq (tgt := 39) rfl rfl dX12_side_12 (fun c57 => ?_) (fun c57 => ?_)
  · refine r_iconst (v := (-1)) rfl dX12_side_39 (by decide) ?_
    exact r_ret dX12_side_40 (rt_i rfl) ⟨rfl, hS52, hF53, ⟨_, rfl⟩, f54⟩
  · obtain ⟨j58, q59, q60, e61⟩ := inR_nat (a := 0) (b := 7) (by omega) c57
    subst e61
    refine r_aload_n rfl dX12_side_15 rfl ?_
    refine r_iconst (v := 1) rfl dX12_side_16 (by decide) ?_
    refine cl_X12_130 rfl rfl dX12_side_17 (show 2 ≤ 420 ∧ 420 < 434 by decide).1 (show 2 ≤ 420 ∧ 420 < 434 by decide).2 f54 (Nat.le_of_ble_eq_true rfl) (s_X12_lettersOf hS52 f54 hc hm) ?_
    rintro _ h62 _ ⟨rfl, e63, x64, rfl⟩
    replace e63 := e63.symm
    subst e63
    refine r_iload_n rfl dX12_side_20 rfl ?_
    refine r_ishr rfl dX12_side_21 ?_
    refine r_iconst (v := 1) rfl dX12_side_22 (by decide) ?_
    refine r_iand rfl dX12_side_23 ?_
    refine r_iconst (v := 2) rfl dX12_side_24 (by decide) ?_
    refine r_aload_n rfl dX12_side_25 rfl ?_
    refine r_iconst (v := 2) rfl dX12_side_26 (by decide) ?_
    refine cl_X12_130 rfl rfl dX12_side_27 (show 2 ≤ 420 ∧ 420 < 434 by decide).1 (show 2 ≤ 420 ∧ 420 < 434 by decide).2 f54 (Nat.le_of_ble_eq_true rfl) (s_X12_lettersOf hS52 f54 hc hm) ?_
    rintro _ h65 _ ⟨rfl, e66, x67, rfl⟩
    replace e66 := e66.symm
    subst e66
    refine r_iload_n rfl dX12_side_30 rfl ?_
    refine r_ishr rfl dX12_side_31 ?_
    refine r_iconst (v := 1) rfl dX12_side_32 (by decide) ?_
    refine r_iand rfl dX12_side_33 ?_
    refine r_imul rfl dX12_side_34 ?_
    refine r_iadd rfl dX12_side_35 ?_
    refine r_goto (pc' := 40) rfl dX12_side_36 ?_
    exact r_ret dX12_side_40 (rt_i rfl) ⟨rfl, hS52, hF53, ⟨_, rfl⟩, f54⟩
set_option maxRecDepth 20000 in
set_option maxHeartbeats 1000000 in
theorem y_X12_holds {xs : Nat → Int32} {L d : Nat} {h : ev_H} {th : Int32} {tr : Int64} {ty nx tk pl va fa ss wg : Int32} {c m : Nat} {x y : Int32} (hS : SH h) (h5 : h 420 = c420 th tr ty nx tk pl va fa (nI c) (nI m) ss wg) (hc : c ≤ 16) (hm : m ≤ 24) : EV xs L (d + 2) 0 0 M_X12_holds 434 h 0 [some (.ref 420), some (.int x), some (.int y)] [] (fun sz' h' r => sz' = 434 ∧ SH h' ∧ KM [420, 431, 432, 433] h h' ∧ (∃ x : Int32, r = [.int x]) ∧ h' 420 = c420 0 tr ty nx tk pl va fa (nI c) (nI m) ss wg) := by
  refine r_aload_n rfl dX12_holds_0 rfl ?_
  refine r_iconst (v := 0) rfl dX12_holds_1 (by decide) ?_
  refine m_put 0 (fs' := [.int 0, .long tr, .ref 421, .int ty, .int nx, .int tk, .int pl, .int va, .int fa, .int (nI c), .int (nI m), .int ss, .int wg, .ref 422, .ref 423, .ref 424, .ref 425, .ref 426, .ref 427, .ref 428, .ref 429, .ref 430, .ref 431, .ref 432, .ref 433]) rfl dX12_holds_2 hS (KM_rf (Mod := [420, 431, 432, 433]) h) (by decide) h5 (fp_X12_57 rfl _) (Nat.le_of_ble_eq_true rfl) rfl (fun h51 hS52 hF53 f54 => ?_)
  refine r_aload_n rfl dX12_holds_5 rfl ?_
  refine r_iload_n rfl dX12_holds_6 rfl ?_
  refine cl_X12_157 rfl rfl dX12_holds_7 (show 2 ≤ 420 ∧ 420 < 434 by decide).1 (show 2 ≤ 420 ∧ 420 < 434 by decide).2 f54 (Nat.le_of_ble_eq_true rfl) (s_X12_isLine hS52 f54 hc hm) ?_
  rintro _ h55 _ ⟨rfl, e56, rfl⟩
  replace e56 := e56.symm
  subst e56
  refine r_if_eq (tgt := 24) rfl rfl dX12_holds_10 (fun c57 => ?_) (fun c57 => ?_)
  · refine r_iconst (v := (-1)) rfl dX12_holds_24 (by decide) ?_
    refine r_goto (pc' := 47) rfl dX12_holds_25 ?_
    exact r_ret dX12_holds_47 (rt_i rfl) ⟨rfl, hS52, hF53, ⟨_, rfl⟩, f54⟩
  · obtain ⟨j58, q59, e60⟩ := isLn (n := c + m) (by omega) c57
    subst e60
    refine r_iload_n rfl dX12_holds_13 rfl ?_
    refine r_iconst (v := 0) rfl dX12_holds_14 (by decide) ?_
    refine r_sipush (v := 255) rfl dX12_holds_15 (by decide) ?_
    refine cl_X12_60 rfl rfl dX12_holds_18 (Nat.le_of_ble_eq_true rfl) s_X12_in ?_
    rintro _ h61 _ ⟨rfl, e62, rfl⟩
    replace e62 := e62.symm
    subst e62
    refine r_if_ne (tgt := 28) rfl rfl dX12_holds_21 (fun c63 => ?_) (fun c63 => ?_)
    · obtain ⟨j64, q65, q66, e67⟩ := inR_nat (a := 0) (b := 255) (by omega) c63
      subst e67
      refine r_aload_n rfl dX12_holds_28 rfl ?_
      refine r_getv 16 rfl dX12_holds_29 (show 2 ≤ 420 ∧ 420 < 434 by decide) f54 fl_X12_26 rfl ?_
      refine r_iconst (v := 4) rfl dX12_holds_32 (by decide) ?_
      refine r_iload_n rfl dX12_holds_33 rfl ?_
      refine r_imul rfl dX12_holds_34 ?_
      refine r_eqi (y := nI (4 * j58)) (show 4 * (nI j58) = nI (4 * j58) from pk_mul 4 j58) ?_
      refine r_iload_n rfl dX12_holds_35 rfl ?_
      refine cl_X12_143 rfl rfl dX12_holds_36 (Nat.le_of_ble_eq_true rfl) (s_X12_has hS52 LA_425 (by omega) (q := 4 * j58) (w := j64) (by omega) (by omega)) ?_
      rintro _ h68 _ ⟨rfl, e69, x70, z71, rfl⟩
      replace e69 := e69.symm
      subst e69
      refine r_if_eq (tgt := 46) rfl rfl dX12_holds_39 (fun c72 => ?_) (fun c72 => ?_)
      · refine r_iconst (v := 0) rfl dX12_holds_46 (by decide) ?_
        exact r_ret dX12_holds_47 (rt_i rfl) ⟨rfl, hS52, hF53, ⟨_, rfl⟩, f54⟩
      · refine r_iconst (v := 1) rfl dX12_holds_42 (by decide) ?_
        refine r_goto (pc' := 47) rfl dX12_holds_43 ?_
        exact r_ret dX12_holds_47 (rt_i rfl) ⟨rfl, hS52, hF53, ⟨_, rfl⟩, f54⟩
    · refine r_iconst (v := (-1)) rfl dX12_holds_24 (by decide) ?_
      refine r_goto (pc' := 47) rfl dX12_holds_25 ?_
      exact r_ret dX12_holds_47 (rt_i rfl) ⟨rfl, hS52, hF53, ⟨_, rfl⟩, f54⟩
set_option maxRecDepth 20000 in
set_option maxHeartbeats 1000000 in
theorem lp_X12_worlds_7y {xs : Nat → Int32} {L d : Nat} {Q : ev_Q} {tr : Int64} {ty nx tk pl va fa ss wg : Int32} {c m : Nat} {x : Int32} {h0 : ev_H} (h5 : h0 420 = c420 0 tr ty nx tk pl va fa (nI c) (nI m) ss wg) (hc : c ≤ 16) (hm : m ≤ 24) : ∀ (n k : Nat), k + n = 4 → ∀ (h : ev_H) (hS : SH h) (hF : KM [431, 432, 433] h0 h)  (hK : ∀ (h : ev_H) (hS : SH h) (hF : KM [431, 432, 433] h0 h) (kx : Int32) , EV xs L (d + 2) 0 0 M_X12_worlds 434 h 37 [some (.ref 420), some (.int x), some (.int kx)] [] Q), EV xs L (d + 2) 0 0 M_X12_worlds 434 h 7 [some (.ref 420), some (.int x), some (.int (nI k))] [] Q := by
  intro n
  induction n with
  | zero =>
    intro k hk h hS hF  hK
    refine r_iload_n rfl dX12_worlds_7 rfl ?_
    refine r_iconst (v := 4) rfl dX12_worlds_8 (by decide) ?_
    refine r_icmp_ge (tgt := 37) rfl rfl dX12_worlds_9 (fun _ => ?_) (fun zc => absurd (show 4 ≤ nI k from nI_le (a := 4) (b := k) (by omega) (by omega)) zc)
    exact hK h hS hF (nI k) 
  | succ n ih =>
    intro k hk h hS hF  hK
    refine r_iload_n rfl dX12_worlds_7 rfl ?_
    refine r_iconst (v := 4) rfl dX12_worlds_8 (by decide) ?_
    refine r_icmp_ge (tgt := 37) rfl rfl dX12_worlds_9 (fun zc => absurd zc (show ¬ 4 ≤ nI k from nI_ge (a := k) (b := 4) (by omega) (by omega))) (fun _ => ?_)
    refine r_aload_n rfl dX12_worlds_12 rfl ?_
    refine r_getv 23 rfl dX12_worlds_13 (show 2 ≤ 420 ∧ 420 < 434 by decide) ((hF 420 (by decide)).trans h5) fl_X12_48 rfl ?_
    refine r_iload_n rfl dX12_worlds_16 rfl ?_
    refine r_aload_n rfl dX12_worlds_17 rfl ?_
    refine r_getv 18 rfl dX12_worlds_18 (show 2 ≤ 420 ∧ 420 < 434 by decide) ((hF 420 (by decide)).trans h5) fl_X12_33 rfl ?_
    refine r_iload_n rfl dX12_worlds_21 rfl ?_
    obtain ⟨g155, f156⟩ := hS.la LA_427
    refine r_laldv (jn := k) (v := g155 k) rfl dX12_worlds_22 (show 2 ≤ 427 ∧ 427 < 434 by decide) f156 (vp_in_nI (n := k) (by omega) (by omega)) (nI_clamp (n := k) (by omega)) rfl ?_
    refine r_aload_n rfl dX12_worlds_23 rfl ?_
    refine r_getv 19 rfl dX12_worlds_24 (show 2 ≤ 420 ∧ 420 < 434 by decide) ((hF 420 (by decide)).trans h5) fl_X12_36 rfl ?_
    refine r_iload_n rfl dX12_worlds_27 rfl ?_
    obtain ⟨g157, f158⟩ := hS.la LA_428
    refine r_laldv (jn := k) (v := g157 k) rfl dX12_worlds_28 (show 2 ≤ 428 ∧ 428 < 434 by decide) f158 (vp_in_nI (n := k) (by omega) (by omega)) (nI_clamp (n := k) (by omega)) rfl ?_
    refine r_land rfl dX12_worlds_29 ?_
    obtain ⟨g159, f160⟩ := hS.la LA_432
    refine m_last rfl dX12_worlds_30 (show 2 ≤ 432 ∧ 432 < 434 by decide) hS hF (by decide) f160 (vp_in_nI (n := k) (by omega) (by omega)) (fun h161 hS162 hF163 hN164 => ?_)
    refine r_iinc (y := nI (k + 1)) (ls' := [some (.ref 420), some (.int x), some (.int (nI (k + 1)))]) rfl dX12_worlds_31 rfl (nI_1 k) (Nat.le_of_ble_eq_true rfl) rfl ?_
    refine r_goto (pc' := 7) rfl dX12_worlds_34 ?_
    exact ih (k + 1) (by omega) h161 hS162 hF163  hK
set_option maxRecDepth 20000 in
set_option maxHeartbeats 1000000 in
theorem y_X12_worlds {xs : Nat → Int32} {L d : Nat} {h : ev_H} {th : Int32} {tr : Int64} {ty nx tk pl va fa ss wg : Int32} {c m : Nat} {x : Int32} (hS : SH h) (h5 : h 420 = c420 th tr ty nx tk pl va fa (nI c) (nI m) ss wg) (hc : c ≤ 16) (hm : m ≤ 24) : EV xs L (d + 2) 0 0 M_X12_worlds 434 h 0 [some (.ref 420), some (.int x), none] [] (fun sz' h' r => sz' = 434 ∧ SH h' ∧ KM [420, 431, 432, 433] h h' ∧ (∃ x : Int32, r = [.int x]) ∧ h' 420 = c420 0 tr ty nx tk pl va fa (nI c) (nI m) ss wg) := by
  refine r_aload_n rfl dX12_worlds_0 rfl ?_
  refine r_iconst (v := 0) rfl dX12_worlds_1 (by decide) ?_
  refine m_put 0 (fs' := [.int 0, .long tr, .ref 421, .int ty, .int nx, .int tk, .int pl, .int va, .int fa, .int (nI c), .int (nI m), .int ss, .int wg, .ref 422, .ref 423, .ref 424, .ref 425, .ref 426, .ref 427, .ref 428, .ref 429, .ref 430, .ref 431, .ref 432, .ref 433]) rfl dX12_worlds_2 hS (KM_rf (Mod := [420, 431, 432, 433]) h) (by decide) h5 (fp_X12_57 rfl _) (Nat.le_of_ble_eq_true rfl) rfl (fun h51 hS52 hF53 f54 => ?_)
  refine r_iconst (v := 0) rfl dX12_worlds_5 (by decide) ?_
  refine r_istore_n (ls' := [some (.ref 420), some (.int x), some (.int 0)]) rfl dX12_worlds_6 (Nat.le_of_ble_eq_true rfl) rfl ?_
  refine lp_X12_worlds_7y f54 hc hm (4 - 0) 0 (by omega) h51 hS52 (KM_rf _)  ?_
  intro h56 hS57 hK58 kx55 
  have hF59 := KM_tr hF53 (KM_sb (by decide) hK58)
  have f60 : h56 420 = c420 0 tr ty nx tk pl va fa (nI c) (nI m) ss wg := (hK58 420 (by decide)).trans f54
  refine r_iload_n rfl dX12_worlds_37 rfl ?_
  refine r_if_ne (tgt := 51) rfl rfl dX12_worlds_38 (fun c61 => ?_) (fun c61 => ?_)
  · refine r_iload_n rfl dX12_worlds_51 rfl ?_
    refine r_iconst (v := 1) rfl dX12_worlds_52 (by decide) ?_
    refine r_icmp_ne (tgt := 66) rfl rfl dX12_worlds_53 (fun c62 => ?_) (fun c62 => ?_)
    · refine r_iload_n rfl dX12_worlds_66 rfl ?_
      refine r_iconst (v := 2) rfl dX12_worlds_67 (by decide) ?_
      refine r_icmp_ne (tgt := 81) rfl rfl dX12_worlds_68 (fun c63 => ?_) (fun c63 => ?_)
      · refine r_iconst (v := (-1)) rfl dX12_worlds_81 (by decide) ?_
        exact r_ret dX12_worlds_82 (rt_i rfl) ⟨rfl, hS57, hF59, ⟨_, rfl⟩, f60⟩
      · refine r_aload_n rfl dX12_worlds_71 rfl ?_
        refine r_getv 23 rfl dX12_worlds_72 (show 2 ≤ 420 ∧ 420 < 434 by decide) f60 fl_X12_48 rfl ?_
        refine cl_X12_160 rfl rfl dX12_worlds_75 (Nat.le_of_ble_eq_true rfl) (s_X12_many hS57 LA_432) ?_
        rintro _ h64 _ ⟨rfl, e65, x66, rfl⟩
        replace e65 := e65.symm
        subst e65
        refine r_goto (pc' := 82) rfl dX12_worlds_78 ?_
        exact r_ret dX12_worlds_82 (rt_i rfl) ⟨rfl, hS57, hF59, ⟨_, rfl⟩, f60⟩
    · refine r_aload_n rfl dX12_worlds_56 rfl ?_
      refine r_getv 19 rfl dX12_worlds_57 (show 2 ≤ 420 ∧ 420 < 434 by decide) f60 fl_X12_36 rfl ?_
      refine cl_X12_160 rfl rfl dX12_worlds_60 (Nat.le_of_ble_eq_true rfl) (s_X12_many hS57 LA_428) ?_
      rintro _ h67 _ ⟨rfl, e68, x69, rfl⟩
      replace e68 := e68.symm
      subst e68
      refine r_goto (pc' := 82) rfl dX12_worlds_63 ?_
      exact r_ret dX12_worlds_82 (rt_i rfl) ⟨rfl, hS57, hF59, ⟨_, rfl⟩, f60⟩
  · refine r_aload_n rfl dX12_worlds_41 rfl ?_
    refine r_getv 18 rfl dX12_worlds_42 (show 2 ≤ 420 ∧ 420 < 434 by decide) f60 fl_X12_33 rfl ?_
    refine cl_X12_160 rfl rfl dX12_worlds_45 (Nat.le_of_ble_eq_true rfl) (s_X12_many hS57 LA_427) ?_
    rintro _ h70 _ ⟨rfl, e71, x72, rfl⟩
    replace e71 := e71.symm
    subst e71
    refine r_goto (pc' := 82) rfl dX12_worlds_48 ?_
    exact r_ret dX12_worlds_82 (rt_i rfl) ⟨rfl, hS57, hF59, ⟨_, rfl⟩, f60⟩
set_option maxRecDepth 20000 in
set_option maxHeartbeats 1000000 in
theorem y_X12_says {xs : Nat → Int32} {L d : Nat} {h : ev_H} {th : Int32} {tr : Int64} {ty nx tk pl va fa ss wg : Int32} {c m : Nat} {x y z : Int32} (hS : SH h) (h5 : h 420 = c420 th tr ty nx tk pl va fa (nI c) (nI m) ss wg) (hc : c ≤ 16) (hm : m ≤ 24) : EV xs L (d + 2) 0 0 M_X12_says 434 h 0 [some (.ref 420), some (.int x), some (.int y), some (.int z)] [] (fun sz' h' r => sz' = 434 ∧ SH h' ∧ KM [420, 431, 432, 433] h h' ∧ (∃ x : Int32, r = [.int x]) ∧ h' 420 = c420 0 tr ty nx tk pl va fa (nI c) (nI m) ss wg) := by
  refine r_aload_n rfl dX12_says_0 rfl ?_
  refine r_iconst (v := 0) rfl dX12_says_1 (by decide) ?_
  refine m_put 0 (fs' := [.int 0, .long tr, .ref 421, .int ty, .int nx, .int tk, .int pl, .int va, .int fa, .int (nI c), .int (nI m), .int ss, .int wg, .ref 422, .ref 423, .ref 424, .ref 425, .ref 426, .ref 427, .ref 428, .ref 429, .ref 430, .ref 431, .ref 432, .ref 433]) rfl dX12_says_2 hS (KM_rf (Mod := [420, 431, 432, 433]) h) (by decide) h5 (fp_X12_57 rfl _) (Nat.le_of_ble_eq_true rfl) rfl (fun h51 hS52 hF53 f54 => ?_)
  refine r_iload_n rfl dX12_says_5 rfl ?_
  refine cl_X12_164 rfl rfl dX12_says_6 (Nat.le_of_ble_eq_true rfl) (s_X12_isWay hS52) ?_
  rintro _ h55 _ ⟨rfl, e56, rfl⟩
  replace e56 := e56.symm
  subst e56
  refine r_if_eq (tgt := 31) rfl rfl dX12_says_9 (fun c57 => ?_) (fun c57 => ?_)
  · refine r_iconst (v := (-1)) rfl dX12_says_31 (by decide) ?_
    refine r_goto (pc' := 60) rfl dX12_says_32 ?_
    exact r_ret dX12_says_60 (rt_i rfl) ⟨rfl, hS52, hF53, ⟨_, rfl⟩, f54⟩
  · obtain ⟨j58, q59, q60, e61⟩ := inR_nat (a := 0) (b := 2) (by omega) c57
    subst e61
    refine r_aload_n rfl dX12_says_12 rfl ?_
    refine r_iload_n rfl dX12_says_13 rfl ?_
    refine cl_X12_157 rfl rfl dX12_says_14 (show 2 ≤ 420 ∧ 420 < 434 by decide).1 (show 2 ≤ 420 ∧ 420 < 434 by decide).2 f54 (Nat.le_of_ble_eq_true rfl) (s_X12_isLine hS52 f54 hc hm) ?_
    rintro _ h62 _ ⟨rfl, e63, rfl⟩
    replace e63 := e63.symm
    subst e63
    refine r_if_eq (tgt := 31) rfl rfl dX12_says_17 (fun c64 => ?_) (fun c64 => ?_)
    · refine r_iconst (v := (-1)) rfl dX12_says_31 (by decide) ?_
      refine r_goto (pc' := 60) rfl dX12_says_32 ?_
      exact r_ret dX12_says_60 (rt_i rfl) ⟨rfl, hS52, hF53, ⟨_, rfl⟩, f54⟩
    · obtain ⟨j65, q66, e67⟩ := isLn (n := c + m) (by omega) c64
      subst e67
      refine r_iload_n rfl dX12_says_20 rfl ?_
      refine r_iconst (v := 0) rfl dX12_says_21 (by decide) ?_
      refine r_sipush (v := 255) rfl dX12_says_22 (by decide) ?_
      refine cl_X12_60 rfl rfl dX12_says_25 (Nat.le_of_ble_eq_true rfl) s_X12_in ?_
      rintro _ h68 _ ⟨rfl, e69, rfl⟩
      replace e69 := e69.symm
      subst e69
      refine r_if_ne (tgt := 35) rfl rfl dX12_says_28 (fun c70 => ?_) (fun c70 => ?_)
      · obtain ⟨j71, q72, q73, e74⟩ := inR_nat (a := 0) (b := 255) (by omega) c70
        subst e74
        refine r_aload_n rfl dX12_says_35 rfl ?_
        refine r_getv 17 rfl dX12_says_36 (show 2 ≤ 420 ∧ 420 < 434 by decide) f54 fl_X12_30 rfl ?_
        refine r_sipush (v := 160) rfl dX12_says_39 (by decide) ?_
        refine r_iload_n rfl dX12_says_42 rfl ?_
        refine r_imul rfl dX12_says_43 ?_
        refine r_eqi (y := nI (160 * j58)) (show 160 * (nI j58) = nI (160 * j58) from pk_mul 160 j58) ?_
        refine r_iconst (v := 4) rfl dX12_says_44 (by decide) ?_
        refine r_iload_n rfl dX12_says_45 rfl ?_
        refine r_imul rfl dX12_says_46 ?_
        refine r_eqi (y := nI (4 * j65)) (show 4 * (nI j65) = nI (4 * j65) from pk_mul 4 j65) ?_
        refine r_iadd rfl dX12_says_47 ?_
        refine r_eqi (y := nI ((160 * j58) + (4 * j65))) (show (nI (160 * j58)) + (nI (4 * j65)) = nI ((160 * j58) + (4 * j65)) from nI_add (160 * j58) (4 * j65)) ?_
        refine r_iload_n rfl dX12_says_48 rfl ?_
        refine cl_X12_143 rfl rfl dX12_says_49 (Nat.le_of_ble_eq_true rfl) (s_X12_has hS52 LA_426 (by omega) (q := (160 * j58) + (4 * j65)) (w := j71) (by omega) (by omega)) ?_
        rintro _ h75 _ ⟨rfl, e76, x77, z78, rfl⟩
        replace e76 := e76.symm
        subst e76
        refine r_if_eq (tgt := 59) rfl rfl dX12_says_52 (fun c79 => ?_) (fun c79 => ?_)
        · refine r_iconst (v := 0) rfl dX12_says_59 (by decide) ?_
          exact r_ret dX12_says_60 (rt_i rfl) ⟨rfl, hS52, hF53, ⟨_, rfl⟩, f54⟩
        · refine r_iconst (v := 1) rfl dX12_says_55 (by decide) ?_
          refine r_goto (pc' := 60) rfl dX12_says_56 ?_
          exact r_ret dX12_says_60 (rt_i rfl) ⟨rfl, hS52, hF53, ⟨_, rfl⟩, f54⟩
      · refine r_iconst (v := (-1)) rfl dX12_says_31 (by decide) ?_
        refine r_goto (pc' := 60) rfl dX12_says_32 ?_
        exact r_ret dX12_says_60 (rt_i rfl) ⟨rfl, hS52, hF53, ⟨_, rfl⟩, f54⟩
set_option maxRecDepth 20000 in
set_option maxHeartbeats 1000000 in
theorem y_X12_saying {xs : Nat → Int32} {L d : Nat} {h : ev_H} {th : Int32} {tr : Int64} {ty nx tk pl va fa ss wg : Int32} {c m : Nat} {x y : Int32} (hS : SH h) (h5 : h 420 = c420 th tr ty nx tk pl va fa (nI c) (nI m) ss wg) (hc : c ≤ 16) (hm : m ≤ 24) : EV xs L (d + 2) 0 0 M_X12_saying 434 h 0 [some (.ref 420), some (.int x), some (.int y), none] [] (fun sz' h' r => sz' = 434 ∧ SH h' ∧ KM [420, 431, 432, 433] h h' ∧ (∃ x : Int64, r = [.long x]) ∧ h' 420 = c420 0 tr ty nx tk pl va fa (nI c) (nI m) ss wg) := by
  refine r_aload_n rfl dX12_saying_0 rfl ?_
  refine r_iconst (v := 0) rfl dX12_saying_1 (by decide) ?_
  refine m_put 0 (fs' := [.int 0, .long tr, .ref 421, .int ty, .int nx, .int tk, .int pl, .int va, .int fa, .int (nI c), .int (nI m), .int ss, .int wg, .ref 422, .ref 423, .ref 424, .ref 425, .ref 426, .ref 427, .ref 428, .ref 429, .ref 430, .ref 431, .ref 432, .ref 433]) rfl dX12_saying_2 hS (KM_rf (Mod := [420, 431, 432, 433]) h) (by decide) h5 (fp_X12_57 rfl _) (Nat.le_of_ble_eq_true rfl) rfl (fun h51 hS52 hF53 f54 => ?_)
  refine r_aload_n rfl dX12_saying_5 rfl ?_
  refine cl_X12_154 rfl rfl dX12_saying_6 (show 2 ≤ 420 ∧ 420 < 434 by decide).1 (show 2 ≤ 420 ∧ 420 < 434 by decide).2 f54 (Nat.le_of_ble_eq_true rfl) (s_X12_ending hS52 f54 hc hm) ?_
  rintro _ h55 _ ⟨rfl, e56, H57⟩
  replace e56 := e56.symm
  subst e56
  rcases H57 with rfl | ⟨j58, q59, rfl⟩
  · refine r_istore_n (ls' := [some (.ref 420), some (.int x), some (.int y), some (.int (-9))]) rfl dX12_saying_9 (Nat.le_of_ble_eq_true rfl) rfl ?_
    refine r_iload_n rfl dX12_saying_10 rfl ?_
    refine cl_X12_164 rfl rfl dX12_saying_11 (Nat.le_of_ble_eq_true rfl) (s_X12_isWay hS52) ?_
    rintro _ h60 _ ⟨rfl, e61, rfl⟩
    replace e61 := e61.symm
    subst e61
    have J62 : ∀ v63 : Int64, EV xs L (d + 2) 0 0 M_X12_saying 434 h51 52 [some (.ref 420), some (.int x), some (.int y), some (.int (-9))] (.long v63 :: []) (fun sz' h' r => sz' = 434 ∧ SH h' ∧ KM [420, 431, 432, 433] h h' ∧ (∃ x : Int64, r = [.long x]) ∧ h' 420 = c420 0 tr ty nx tk pl va fa (nI c) (nI m) ss wg) := by
      intro v63
      exact r_ret dX12_saying_52 (rt_l rfl) ⟨rfl, hS52, hF53, ⟨_, rfl⟩, f54⟩
    refine r_if_eq (tgt := 51) rfl rfl dX12_saying_14 (fun c64 => ?_) (fun c64 => ?_)
    · refine r_lconst (v := 0) rfl dX12_saying_51 (by decide) ?_
      exact J62 _
    · obtain ⟨j65, q66, q67, e68⟩ := inR_nat (a := 0) (b := 2) (by omega) c64
      subst e68
      refine r_iload_n rfl dX12_saying_17 rfl ?_
      refine r_iconst (v := 0) rfl dX12_saying_18 (by decide) ?_
      refine r_iconst (v := 3) rfl dX12_saying_19 (by decide) ?_
      refine cl_X12_60 rfl rfl dX12_saying_20 (Nat.le_of_ble_eq_true rfl) s_X12_in ?_
      rintro _ h69 _ ⟨rfl, e70, rfl⟩
      replace e70 := e70.symm
      subst e70
      refine r_if_eq (tgt := 51) rfl rfl dX12_saying_23 (fun c71 => ?_) (fun c71 => ?_)
      · refine r_lconst (v := 0) rfl dX12_saying_51 (by decide) ?_
        exact J62 _
      · obtain ⟨j72, q73, q74, e75⟩ := inR_nat (a := 0) (b := 3) (by omega) c71
        subst e75
        refine r_iload_n rfl dX12_saying_26 rfl ?_
        refine r_bipush (v := (-9)) rfl dX12_saying_27 (by decide) ?_
        refine r_icmp_eq (tgt := 51) rfl rfl dX12_saying_29 (fun _ => ?_) (fun zc => absurd zc (by decide))
        refine r_lconst (v := 0) rfl dX12_saying_51 (by decide) ?_
        exact J62 _
  · refine r_istore_n (ls' := [some (.ref 420), some (.int x), some (.int y), some (.int (nI j58))]) rfl dX12_saying_9 (Nat.le_of_ble_eq_true rfl) rfl ?_
    refine r_iload_n rfl dX12_saying_10 rfl ?_
    refine cl_X12_164 rfl rfl dX12_saying_11 (Nat.le_of_ble_eq_true rfl) (s_X12_isWay hS52) ?_
    rintro _ h76 _ ⟨rfl, e77, rfl⟩
    replace e77 := e77.symm
    subst e77
    have J78 : ∀ v79 : Int64, EV xs L (d + 2) 0 0 M_X12_saying 434 h51 52 [some (.ref 420), some (.int x), some (.int y), some (.int (nI j58))] (.long v79 :: []) (fun sz' h' r => sz' = 434 ∧ SH h' ∧ KM [420, 431, 432, 433] h h' ∧ (∃ x : Int64, r = [.long x]) ∧ h' 420 = c420 0 tr ty nx tk pl va fa (nI c) (nI m) ss wg) := by
      intro v79
      exact r_ret dX12_saying_52 (rt_l rfl) ⟨rfl, hS52, hF53, ⟨_, rfl⟩, f54⟩
    refine r_if_eq (tgt := 51) rfl rfl dX12_saying_14 (fun c80 => ?_) (fun c80 => ?_)
    · refine r_lconst (v := 0) rfl dX12_saying_51 (by decide) ?_
      exact J78 _
    · obtain ⟨j81, q82, q83, e84⟩ := inR_nat (a := 0) (b := 2) (by omega) c80
      subst e84
      refine r_iload_n rfl dX12_saying_17 rfl ?_
      refine r_iconst (v := 0) rfl dX12_saying_18 (by decide) ?_
      refine r_iconst (v := 3) rfl dX12_saying_19 (by decide) ?_
      refine cl_X12_60 rfl rfl dX12_saying_20 (Nat.le_of_ble_eq_true rfl) s_X12_in ?_
      rintro _ h85 _ ⟨rfl, e86, rfl⟩
      replace e86 := e86.symm
      subst e86
      refine r_if_eq (tgt := 51) rfl rfl dX12_saying_23 (fun c87 => ?_) (fun c87 => ?_)
      · refine r_lconst (v := 0) rfl dX12_saying_51 (by decide) ?_
        exact J78 _
      · obtain ⟨j88, q89, q90, e91⟩ := inR_nat (a := 0) (b := 3) (by omega) c87
        subst e91
        refine r_iload_n rfl dX12_saying_26 rfl ?_
        refine r_bipush (v := (-9)) rfl dX12_saying_27 (by decide) ?_
        refine r_icmp_eq (tgt := 51) rfl rfl dX12_saying_29 (fun c92 => ?_) (fun c92 => ?_)
        · refine r_lconst (v := 0) rfl dX12_saying_51 (by decide) ?_
          exact J78 _
        · refine r_aload_n rfl dX12_saying_32 rfl ?_
          refine r_getv 17 rfl dX12_saying_33 (show 2 ≤ 420 ∧ 420 < 434 by decide) f54 fl_X12_30 rfl ?_
          refine r_sipush (v := 160) rfl dX12_saying_36 (by decide) ?_
          refine r_iload_n rfl dX12_saying_39 rfl ?_
          refine r_imul rfl dX12_saying_40 ?_
          refine r_eqi (y := nI (160 * j81)) (show 160 * (nI j81) = nI (160 * j81) from pk_mul 160 j81) ?_
          refine r_iconst (v := 4) rfl dX12_saying_41 (by decide) ?_
          refine r_iload_n rfl dX12_saying_42 rfl ?_
          refine r_imul rfl dX12_saying_43 ?_
          refine r_eqi (y := nI (4 * j58)) (show 4 * (nI j58) = nI (4 * j58) from pk_mul 4 j58) ?_
          refine r_iadd rfl dX12_saying_44 ?_
          refine r_eqi (y := nI ((160 * j81) + (4 * j58))) (show (nI (160 * j81)) + (nI (4 * j58)) = nI ((160 * j81) + (4 * j58)) from nI_add (160 * j81) (4 * j58)) ?_
          refine r_iload_n rfl dX12_saying_45 rfl ?_
          refine r_iadd rfl dX12_saying_46 ?_
          refine r_eqi (y := nI (((160 * j81) + (4 * j58)) + j88)) (show (nI ((160 * j81) + (4 * j58))) + (nI j88) = nI (((160 * j81) + (4 * j58)) + j88) from nI_add ((160 * j81) + (4 * j58)) j88) ?_
          obtain ⟨g93, f94⟩ := hS52.la LA_426
          refine r_laldv (jn := ((160 * j81) + (4 * j58)) + j88) (v := g93 (((160 * j81) + (4 * j58)) + j88)) rfl dX12_saying_47 (show 2 ≤ 426 ∧ 426 < 434 by decide) f94 (vp_in_nI (n := ((160 * j81) + (4 * j58)) + j88) (by omega) (by omega)) (nI_clamp (n := ((160 * j81) + (4 * j58)) + j88) (by omega)) rfl ?_
          refine r_goto (pc' := 52) rfl dX12_saying_48 ?_
          exact J78 _
set_option maxRecDepth 20000 in
set_option maxHeartbeats 1000000 in
theorem y_X12_between {xs : Nat → Int32} {L d : Nat} {h : ev_H} {th : Int32} {tr : Int64} {ty nx tk pl va fa ss wg : Int32} {c m : Nat} {x : Int32} (hS : SH h) (h5 : h 420 = c420 th tr ty nx tk pl va fa (nI c) (nI m) ss wg) (hc : c ≤ 16) (hm : m ≤ 24) : EV xs L (d + 3) 0 0 M_X12_between 434 h 0 [some (.ref 420), some (.int x)] [] (fun sz' h' r => sz' = 434 ∧ SH h' ∧ KM [420, 431, 432, 433] h h' ∧ (∃ x : Int32, r = [.int x]) ∧ h' 420 = c420 0 tr ty nx tk pl va fa (nI c) (nI m) ss wg) := by
  refine r_aload_n rfl dX12_between_0 rfl ?_
  refine r_iconst (v := 0) rfl dX12_between_1 (by decide) ?_
  refine m_put 0 (fs' := [.int 0, .long tr, .ref 421, .int ty, .int nx, .int tk, .int pl, .int va, .int fa, .int (nI c), .int (nI m), .int ss, .int wg, .ref 422, .ref 423, .ref 424, .ref 425, .ref 426, .ref 427, .ref 428, .ref 429, .ref 430, .ref 431, .ref 432, .ref 433]) rfl dX12_between_2 hS (KM_rf (Mod := [420, 431, 432, 433]) h) (by decide) h5 (fp_X12_57 rfl _) (Nat.le_of_ble_eq_true rfl) rfl (fun h51 hS52 hF53 f54 => ?_)
  refine r_iload_n rfl dX12_between_5 rfl ?_
  refine cl_X12_164 rfl rfl dX12_between_6 (Nat.le_of_ble_eq_true rfl) (s_X12_isWay hS52) ?_
  rintro _ h55 _ ⟨rfl, e56, rfl⟩
  replace e56 := e56.symm
  subst e56
  refine r_if_ne (tgt := 16) rfl rfl dX12_between_9 (fun c57 => ?_) (fun c57 => ?_)
  · obtain ⟨j58, q59, q60, e61⟩ := inR_nat (a := 0) (b := 2) (by omega) c57
    subst e61
    refine r_aload_n rfl dX12_between_16 rfl ?_
    refine r_iload_n rfl dX12_between_17 rfl ?_
    refine r_aload_n rfl dX12_between_18 rfl ?_
    refine r_getv 23 rfl dX12_between_19 (show 2 ≤ 420 ∧ 420 < 434 by decide) f54 fl_X12_48 rfl ?_
    refine cl_X12_170 rfl rfl dX12_between_22 (show 2 ≤ 420 ∧ 420 < 434 by decide).1 (show 2 ≤ 420 ∧ 420 < 434 by decide).2 f54 (Nat.le_of_ble_eq_true rfl) (s_X12_takes (q := j58) hS52 f54 hc hm (by omega) LA_432 (by decide)) ?_
    rintro _ h62 _ ⟨rfl, hS63, hK64, x65, z66, rfl⟩
    have hF67 := KM_tr hF53 (KM_sb (by decide) hK64)
    have f68 : h62 420 = c420 0 tr ty nx tk pl va fa (nI c) (nI m) ss wg := (hK64 420 (by decide)).trans f54
    refine r_if_eq (tgt := 39) rfl rfl dX12_between_25 (fun c69 => ?_) (fun c69 => ?_)
    · refine r_bipush (v := (-2)) rfl dX12_between_39 (by decide) ?_
      exact r_ret dX12_between_41 (rt_i rfl) ⟨rfl, hS63, hF67, ⟨_, rfl⟩, f68⟩
    · refine r_aload_n rfl dX12_between_28 rfl ?_
      refine r_aload_n rfl dX12_between_29 rfl ?_
      refine r_getv 23 rfl dX12_between_30 (show 2 ≤ 420 ∧ 420 < 434 by decide) f68 fl_X12_48 rfl ?_
      refine cl_X12_174 rfl rfl dX12_between_33 (show 2 ≤ 420 ∧ 420 < 434 by decide).1 (show 2 ≤ 420 ∧ 420 < 434 by decide).2 f68 (Nat.le_of_ble_eq_true rfl) (s_X12_checks hS63 f68 hc hm LA_432) ?_
      rintro _ h70 _ ⟨rfl, e71, x72, rfl⟩
      replace e71 := e71.symm
      subst e71
      refine r_goto (pc' := 41) rfl dX12_between_36 ?_
      exact r_ret dX12_between_41 (rt_i rfl) ⟨rfl, hS63, hF67, ⟨_, rfl⟩, f68⟩
  · refine r_iconst (v := (-1)) rfl dX12_between_12 (by decide) ?_
    refine r_goto (pc' := 41) rfl dX12_between_13 ?_
    exact r_ret dX12_between_41 (rt_i rfl) ⟨rfl, hS52, hF53, ⟨_, rfl⟩, f54⟩
set_option maxRecDepth 20000 in
set_option maxHeartbeats 1000000 in
theorem y_X12_looks {xs : Nat → Int32} {L d : Nat} {h : ev_H} {th : Int32} {tr : Int64} {ty nx tk pl va fa ss wg : Int32} {c m : Nat} {x : Int32} (hS : SH h) (h5 : h 420 = c420 th tr ty nx tk pl va fa (nI c) (nI m) ss wg) (hc : c ≤ 16) (hm : m ≤ 24) : EV xs L (d + 2) 0 0 M_X12_looks 434 h 0 [some (.ref 420), some (.int x)] [] (fun sz' h' r => sz' = 434 ∧ SH h' ∧ KM [420, 431, 432, 433] h h' ∧ (∃ x : Int32, r = [.int x]) ∧ h' 420 = c420 0 tr ty nx tk pl va fa (nI c) (nI m) ss wg) := by
  refine r_aload_n rfl dX12_looks_0 rfl ?_
  refine r_iconst (v := 0) rfl dX12_looks_1 (by decide) ?_
  refine m_put 0 (fs' := [.int 0, .long tr, .ref 421, .int ty, .int nx, .int tk, .int pl, .int va, .int fa, .int (nI c), .int (nI m), .int ss, .int wg, .ref 422, .ref 423, .ref 424, .ref 425, .ref 426, .ref 427, .ref 428, .ref 429, .ref 430, .ref 431, .ref 432, .ref 433]) rfl dX12_looks_2 hS (KM_rf (Mod := [420, 431, 432, 433]) h) (by decide) h5 (fp_X12_57 rfl _) (Nat.le_of_ble_eq_true rfl) rfl (fun h51 hS52 hF53 f54 => ?_)
  refine r_iload_n rfl dX12_looks_5 rfl ?_
  refine r_iconst (v := 0) rfl dX12_looks_6 (by decide) ?_
  refine r_iconst (v := 5) rfl dX12_looks_7 (by decide) ?_
  refine cl_X12_60 rfl rfl dX12_looks_8 (Nat.le_of_ble_eq_true rfl) s_X12_in ?_
  rintro _ h55 _ ⟨rfl, e56, rfl⟩
  replace e56 := e56.symm
  subst e56
  refine r_if_ne (tgt := 18) rfl rfl dX12_looks_11 (fun c57 => ?_) (fun c57 => ?_)
  · obtain ⟨j58, q59, q60, e61⟩ := inR_nat (a := 0) (b := 5) (by omega) c57
    subst e61
    refine r_aload_n rfl dX12_looks_18 rfl ?_
    refine r_iload_n rfl dX12_looks_19 rfl ?_
    refine r_aload_n rfl dX12_looks_20 rfl ?_
    refine r_getv 23 rfl dX12_looks_21 (show 2 ≤ 420 ∧ 420 < 434 by decide) f54 fl_X12_48 rfl ?_
    refine cl_X12_170 rfl rfl dX12_looks_24 (show 2 ≤ 420 ∧ 420 < 434 by decide).1 (show 2 ≤ 420 ∧ 420 < 434 by decide).2 f54 (Nat.le_of_ble_eq_true rfl) (s_X12_takes (q := j58) hS52 f54 hc hm (by omega) LA_432 (by decide)) ?_
    rintro _ h62 _ ⟨rfl, hS63, hK64, x65, z66, rfl⟩
    have hF67 := KM_tr hF53 (KM_sb (by decide) hK64)
    have f68 : h62 420 = c420 0 tr ty nx tk pl va fa (nI c) (nI m) ss wg := (hK64 420 (by decide)).trans f54
    refine r_if_eq (tgt := 40) rfl rfl dX12_looks_27 (fun c69 => ?_) (fun c69 => ?_)
    · refine r_bipush (v := (-2)) rfl dX12_looks_40 (by decide) ?_
      exact r_ret dX12_looks_42 (rt_i rfl) ⟨rfl, hS63, hF67, ⟨_, rfl⟩, f68⟩
    · refine r_aload_n rfl dX12_looks_30 rfl ?_
      refine r_getv 23 rfl dX12_looks_31 (show 2 ≤ 420 ∧ 420 < 434 by decide) f68 fl_X12_48 rfl ?_
      refine cl_X12_167 rfl rfl dX12_looks_34 (Nat.le_of_ble_eq_true rfl) (s_X12_looksOf hS63 LA_432) ?_
      rintro _ h70 _ ⟨rfl, e71, x72, rfl⟩
      replace e71 := e71.symm
      subst e71
      refine r_goto (pc' := 42) rfl dX12_looks_37 ?_
      exact r_ret dX12_looks_42 (rt_i rfl) ⟨rfl, hS63, hF67, ⟨_, rfl⟩, f68⟩
  · refine r_iconst (v := (-1)) rfl dX12_looks_14 (by decide) ?_
    refine r_goto (pc' := 42) rfl dX12_looks_15 ?_
    exact r_ret dX12_looks_42 (rt_i rfl) ⟨rfl, hS52, hF53, ⟨_, rfl⟩, f54⟩
set_option maxRecDepth 20000 in
set_option maxHeartbeats 1000000 in
theorem lp_X12_compare_60y {xs : Nat → Int32} {L d : Nat} {Q : ev_Q} {tr : Int64} {ty nx tk pl va fa ss wg : Int32} {c m : Nat} {j58 : Nat} {j65 : Nat} {h0 : ev_H} (h5 : h0 420 = c420 0 tr ty nx tk pl va fa (nI c) (nI m) ss wg) (hc : c ≤ 16) (hm : m ≤ 24) (hb_j58 : j58 < 5 + 1) (hb_j65 : j65 < 5 + 1) : ∀ (n k : Nat), k + n = 4 → ∀ (h : ev_H) (hS : SH h) (hF : KM [431, 432, 433] h0 h) (y3 : Int32) (y4 : Int32) (hK : ∀ (h : ev_H) (hS : SH h) (hF : KM [431, 432, 433] h0 h) (kx : Int32) (y3 : Int32) (y4 : Int32), EV xs L (d + 2) 0 0 M_X12_compare 434 h 142 [some (.ref 420), some (.int (nI j58)), some (.int (nI j65)), some (.int y3), some (.int y4), some (.int kx)] [] Q), EV xs L (d + 2) 0 0 M_X12_compare 434 h 60 [some (.ref 420), some (.int (nI j58)), some (.int (nI j65)), some (.int y3), some (.int y4), some (.int (nI k))] [] Q := by
  intro n
  induction n with
  | zero =>
    intro k hk h hS hF y3 y4 hK
    refine r_iload rfl dX12_compare_60 rfl ?_
    refine r_iconst (v := 4) rfl dX12_compare_62 (by decide) ?_
    refine r_icmp_ge (tgt := 142) rfl rfl dX12_compare_63 (fun _ => ?_) (fun zc => absurd (show 4 ≤ nI k from nI_le (a := 4) (b := k) (by omega) (by omega)) zc)
    exact hK h hS hF (nI k) y3 y4
  | succ n ih =>
    intro k hk h hS hF y3 y4 hK
    refine r_iload rfl dX12_compare_60 rfl ?_
    refine r_iconst (v := 4) rfl dX12_compare_62 (by decide) ?_
    refine r_icmp_ge (tgt := 142) rfl rfl dX12_compare_63 (fun zc => absurd zc (show ¬ 4 ≤ nI k from nI_ge (a := k) (b := 4) (by omega) (by omega))) (fun _ => ?_)
    refine r_iload_n rfl dX12_compare_66 rfl ?_
    have J185 : ∀ v186 : Int32, EV xs L (d + 2) 0 0 M_X12_compare 434 h 99 [some (.ref 420), some (.int (nI j58)), some (.int (nI j65)), some (.int y3), some (.int y4), some (.int (nI k))] (.int v186 :: []) Q := by
      intro v186
      refine r_istore_n (ls' := [some (.ref 420), some (.int (nI j58)), some (.int (nI j65)), some (.int v186), some (.int y4), some (.int (nI k))]) rfl dX12_compare_99 (Nat.le_of_ble_eq_true rfl) rfl ?_
      refine r_iload rfl dX12_compare_100 rfl ?_
      have J187 : ∀ v188 : Int32, EV xs L (d + 2) 0 0 M_X12_compare 434 h 134 [some (.ref 420), some (.int (nI j58)), some (.int (nI j65)), some (.int v186), some (.int y4), some (.int (nI k))] (.int v188 :: []) Q := by
        intro v188
        refine r_istore (ls' := [some (.ref 420), some (.int (nI j58)), some (.int (nI j65)), some (.int v186), some (.int v188), some (.int (nI k))]) rfl dX12_compare_134 (Nat.le_of_ble_eq_true rfl) rfl ?_
        refine r_iinc (y := nI (k + 1)) (ls' := [some (.ref 420), some (.int (nI j58)), some (.int (nI j65)), some (.int v186), some (.int v188), some (.int (nI (k + 1)))]) rfl dX12_compare_136 rfl (nI_1 k) (Nat.le_of_ble_eq_true rfl) rfl ?_
        refine r_goto (pc' := 60) rfl dX12_compare_139 ?_
        exact ih (k + 1) (by omega) h hS hF v186 v188 hK
      refine r_if_eq (tgt := 133) rfl rfl dX12_compare_102 (fun c189 => ?_) (fun c189 => ?_)
      · refine r_iconst (v := 0) rfl dX12_compare_133 (by decide) ?_
        exact J187 _
      · refine r_aload_n rfl dX12_compare_105 rfl ?_
        refine r_getv 24 rfl dX12_compare_106 (show 2 ≤ 420 ∧ 420 < 434 by decide) ((hF 420 (by decide)).trans h5) fl_X12_51 rfl ?_
        refine r_iload rfl dX12_compare_109 rfl ?_
        obtain ⟨g190, f191⟩ := hS.la LA_433
        refine r_laldv (jn := k) (v := g190 k) rfl dX12_compare_111 (show 2 ≤ 433 ∧ 433 < 434 by decide) f191 (vp_in_nI (n := k) (by omega) (by omega)) (nI_clamp (n := k) (by omega)) rfl ?_
        refine r_aload_n rfl dX12_compare_112 rfl ?_
        refine r_getv 23 rfl dX12_compare_113 (show 2 ≤ 420 ∧ 420 < 434 by decide) ((hF 420 (by decide)).trans h5) fl_X12_48 rfl ?_
        refine r_iload rfl dX12_compare_116 rfl ?_
        obtain ⟨g192, f193⟩ := hS.la LA_432
        refine r_laldv (jn := k) (v := g192 k) rfl dX12_compare_118 (show 2 ≤ 432 ∧ 432 < 434 by decide) f193 (vp_in_nI (n := k) (by omega) (by omega)) (nI_clamp (n := k) (by omega)) rfl ?_
        refine r_ldc2 (v := (-1)) rfl dX12_compare_119 lc_X12_137 ?_
        refine r_lxor rfl dX12_compare_122 ?_
        refine r_land rfl dX12_compare_123 ?_
        refine r_lconst (v := 0) rfl dX12_compare_124 (by decide) ?_
        refine r_lcmp rfl dX12_compare_125 ?_
        refine r_if_ne (tgt := 133) rfl rfl dX12_compare_126 (fun c194 => ?_) (fun c194 => ?_)
        · refine r_iconst (v := 0) rfl dX12_compare_133 (by decide) ?_
          exact J187 _
        · refine r_iconst (v := 1) rfl dX12_compare_129 (by decide) ?_
          refine r_goto (pc' := 134) rfl dX12_compare_130 ?_
          exact J187 _
    refine r_if_eq (tgt := 98) rfl rfl dX12_compare_67 (fun c195 => ?_) (fun c195 => ?_)
    · refine r_iconst (v := 0) rfl dX12_compare_98 (by decide) ?_
      exact J185 _
    · refine r_aload_n rfl dX12_compare_70 rfl ?_
      refine r_getv 23 rfl dX12_compare_71 (show 2 ≤ 420 ∧ 420 < 434 by decide) ((hF 420 (by decide)).trans h5) fl_X12_48 rfl ?_
      refine r_iload rfl dX12_compare_74 rfl ?_
      obtain ⟨g196, f197⟩ := hS.la LA_432
      refine r_laldv (jn := k) (v := g196 k) rfl dX12_compare_76 (show 2 ≤ 432 ∧ 432 < 434 by decide) f197 (vp_in_nI (n := k) (by omega) (by omega)) (nI_clamp (n := k) (by omega)) rfl ?_
      refine r_aload_n rfl dX12_compare_77 rfl ?_
      refine r_getv 24 rfl dX12_compare_78 (show 2 ≤ 420 ∧ 420 < 434 by decide) ((hF 420 (by decide)).trans h5) fl_X12_51 rfl ?_
      refine r_iload rfl dX12_compare_81 rfl ?_
      obtain ⟨g198, f199⟩ := hS.la LA_433
      refine r_laldv (jn := k) (v := g198 k) rfl dX12_compare_83 (show 2 ≤ 433 ∧ 433 < 434 by decide) f199 (vp_in_nI (n := k) (by omega) (by omega)) (nI_clamp (n := k) (by omega)) rfl ?_
      refine r_ldc2 (v := (-1)) rfl dX12_compare_84 lc_X12_137 ?_
      refine r_lxor rfl dX12_compare_87 ?_
      refine r_land rfl dX12_compare_88 ?_
      refine r_lconst (v := 0) rfl dX12_compare_89 (by decide) ?_
      refine r_lcmp rfl dX12_compare_90 ?_
      refine r_if_ne (tgt := 98) rfl rfl dX12_compare_91 (fun c200 => ?_) (fun c200 => ?_)
      · refine r_iconst (v := 0) rfl dX12_compare_98 (by decide) ?_
        exact J185 _
      · refine r_iconst (v := 1) rfl dX12_compare_94 (by decide) ?_
        refine r_goto (pc' := 99) rfl dX12_compare_95 ?_
        exact J185 _
set_option maxRecDepth 20000 in
set_option maxHeartbeats 1000000 in
theorem y_X12_compare {xs : Nat → Int32} {L d : Nat} {h : ev_H} {th : Int32} {tr : Int64} {ty nx tk pl va fa ss wg : Int32} {c m : Nat} {x y : Int32} (hS : SH h) (h5 : h 420 = c420 th tr ty nx tk pl va fa (nI c) (nI m) ss wg) (hc : c ≤ 16) (hm : m ≤ 24) : EV xs L (d + 2) 0 0 M_X12_compare 434 h 0 [some (.ref 420), some (.int x), some (.int y), none, none, none] [] (fun sz' h' r => sz' = 434 ∧ SH h' ∧ KM [420, 431, 432, 433] h h' ∧ (∃ x : Int32, r = [.int x]) ∧ h' 420 = c420 0 tr ty nx tk pl va fa (nI c) (nI m) ss wg) := by
  refine r_aload_n rfl dX12_compare_0 rfl ?_
  refine r_iconst (v := 0) rfl dX12_compare_1 (by decide) ?_
  refine m_put 0 (fs' := [.int 0, .long tr, .ref 421, .int ty, .int nx, .int tk, .int pl, .int va, .int fa, .int (nI c), .int (nI m), .int ss, .int wg, .ref 422, .ref 423, .ref 424, .ref 425, .ref 426, .ref 427, .ref 428, .ref 429, .ref 430, .ref 431, .ref 432, .ref 433]) rfl dX12_compare_2 hS (KM_rf (Mod := [420, 431, 432, 433]) h) (by decide) h5 (fp_X12_57 rfl _) (Nat.le_of_ble_eq_true rfl) rfl (fun h51 hS52 hF53 f54 => ?_)
  refine r_iload_n rfl dX12_compare_5 rfl ?_
  refine r_iconst (v := 0) rfl dX12_compare_6 (by decide) ?_
  refine r_iconst (v := 5) rfl dX12_compare_7 (by decide) ?_
  refine cl_X12_60 rfl rfl dX12_compare_8 (Nat.le_of_ble_eq_true rfl) s_X12_in ?_
  rintro _ h55 _ ⟨rfl, e56, rfl⟩
  replace e56 := e56.symm
  subst e56
  refine r_if_eq (tgt := 23) rfl rfl dX12_compare_11 (fun c57 => ?_) (fun c57 => ?_)
  · refine r_iconst (v := (-1)) rfl dX12_compare_23 (by decide) ?_
    exact r_ret dX12_compare_24 (rt_i rfl) ⟨rfl, hS52, hF53, ⟨_, rfl⟩, f54⟩
  · obtain ⟨j58, q59, q60, e61⟩ := inR_nat (a := 0) (b := 5) (by omega) c57
    subst e61
    refine r_iload_n rfl dX12_compare_14 rfl ?_
    refine r_iconst (v := 0) rfl dX12_compare_15 (by decide) ?_
    refine r_iconst (v := 5) rfl dX12_compare_16 (by decide) ?_
    refine cl_X12_60 rfl rfl dX12_compare_17 (Nat.le_of_ble_eq_true rfl) s_X12_in ?_
    rintro _ h62 _ ⟨rfl, e63, rfl⟩
    replace e63 := e63.symm
    subst e63
    refine r_if_ne (tgt := 25) rfl rfl dX12_compare_20 (fun c64 => ?_) (fun c64 => ?_)
    · obtain ⟨j65, q66, q67, e68⟩ := inR_nat (a := 0) (b := 5) (by omega) c64
      subst e68
      refine r_aload_n rfl dX12_compare_25 rfl ?_
      refine r_iload_n rfl dX12_compare_26 rfl ?_
      refine r_aload_n rfl dX12_compare_27 rfl ?_
      refine r_getv 23 rfl dX12_compare_28 (show 2 ≤ 420 ∧ 420 < 434 by decide) f54 fl_X12_48 rfl ?_
      refine cl_X12_170 rfl rfl dX12_compare_31 (show 2 ≤ 420 ∧ 420 < 434 by decide).1 (show 2 ≤ 420 ∧ 420 < 434 by decide).2 f54 (Nat.le_of_ble_eq_true rfl) (s_X12_takes (q := j58) hS52 f54 hc hm (by omega) LA_432 (by decide)) ?_
      rintro _ h69 _ ⟨rfl, hS70, hK71, x72, z73, rfl⟩
      have hF74 := KM_tr hF53 (KM_sb (by decide) hK71)
      have f75 : h69 420 = c420 0 tr ty nx tk pl va fa (nI c) (nI m) ss wg := (hK71 420 (by decide)).trans f54
      refine r_if_eq (tgt := 49) rfl rfl dX12_compare_34 (fun c76 => ?_) (fun c76 => ?_)
      · refine r_bipush (v := (-2)) rfl dX12_compare_49 (by decide) ?_
        exact r_ret dX12_compare_51 (rt_i rfl) ⟨rfl, hS70, hF74, ⟨_, rfl⟩, f75⟩
      · refine r_aload_n rfl dX12_compare_37 rfl ?_
        refine r_iload_n rfl dX12_compare_38 rfl ?_
        refine r_aload_n rfl dX12_compare_39 rfl ?_
        refine r_getv 24 rfl dX12_compare_40 (show 2 ≤ 420 ∧ 420 < 434 by decide) f75 fl_X12_51 rfl ?_
        refine cl_X12_170 rfl rfl dX12_compare_43 (show 2 ≤ 420 ∧ 420 < 434 by decide).1 (show 2 ≤ 420 ∧ 420 < 434 by decide).2 f75 (Nat.le_of_ble_eq_true rfl) (s_X12_takes (q := j65) hS70 f75 hc hm (by omega) LA_433 (by decide)) ?_
        rintro _ h77 _ ⟨rfl, hS78, hK79, x80, z81, rfl⟩
        have hF82 := KM_tr hF74 (KM_sb (by decide) hK79)
        have f83 : h77 420 = c420 0 tr ty nx tk pl va fa (nI c) (nI m) ss wg := (hK79 420 (by decide)).trans f75
        refine r_if_ne (tgt := 52) rfl rfl dX12_compare_46 (fun c84 => ?_) (fun c84 => ?_)
        · refine r_iconst (v := 1) rfl dX12_compare_52 (by decide) ?_
          refine r_istore_n (ls' := [some (.ref 420), some (.int (nI j58)), some (.int (nI j65)), some (.int 1), none, none]) rfl dX12_compare_53 (Nat.le_of_ble_eq_true rfl) rfl ?_
          refine r_iconst (v := 1) rfl dX12_compare_54 (by decide) ?_
          refine r_istore (ls' := [some (.ref 420), some (.int (nI j58)), some (.int (nI j65)), some (.int 1), some (.int 1), none]) rfl dX12_compare_55 (Nat.le_of_ble_eq_true rfl) rfl ?_
          refine r_iconst (v := 0) rfl dX12_compare_57 (by decide) ?_
          refine r_istore (ls' := [some (.ref 420), some (.int (nI j58)), some (.int (nI j65)), some (.int 1), some (.int 1), some (.int 0)]) rfl dX12_compare_58 (Nat.le_of_ble_eq_true rfl) rfl ?_
          refine lp_X12_compare_60y f83 hc hm (by omega) (by omega) (4 - 0) 0 (by omega) h77 hS78 (KM_rf _) 1 1 ?_
          intro h88 hS89 hK90 kx85 w86 w87
          have hF91 := KM_tr hF82 (KM_sb (by decide) hK90)
          have f92 : h88 420 = c420 0 tr ty nx tk pl va fa (nI c) (nI m) ss wg := (hK90 420 (by decide)).trans f83
          refine r_iload_n rfl dX12_compare_142 rfl ?_
          refine r_if_eq (tgt := 155) rfl rfl dX12_compare_143 (fun c93 => ?_) (fun c93 => ?_)
          · refine r_iload_n rfl dX12_compare_155 rfl ?_
            refine r_if_eq (tgt := 163) rfl rfl dX12_compare_156 (fun c94 => ?_) (fun c94 => ?_)
            · refine r_iload rfl dX12_compare_163 rfl ?_
              refine r_if_eq (tgt := 172) rfl rfl dX12_compare_165 (fun c95 => ?_) (fun c95 => ?_)
              · refine r_iconst (v := 3) rfl dX12_compare_172 (by decide) ?_
                exact r_ret dX12_compare_173 (rt_i rfl) ⟨rfl, hS89, hF91, ⟨_, rfl⟩, f92⟩
              · refine r_iconst (v := 2) rfl dX12_compare_168 (by decide) ?_
                refine r_goto (pc' := 173) rfl dX12_compare_169 ?_
                exact r_ret dX12_compare_173 (rt_i rfl) ⟨rfl, hS89, hF91, ⟨_, rfl⟩, f92⟩
            · refine r_iconst (v := 1) rfl dX12_compare_159 (by decide) ?_
              refine r_goto (pc' := 173) rfl dX12_compare_160 ?_
              exact r_ret dX12_compare_173 (rt_i rfl) ⟨rfl, hS89, hF91, ⟨_, rfl⟩, f92⟩
          · refine r_iload rfl dX12_compare_146 rfl ?_
            refine r_if_eq (tgt := 155) rfl rfl dX12_compare_148 (fun c96 => ?_) (fun c96 => ?_)
            · refine r_iload_n rfl dX12_compare_155 rfl ?_
              refine r_if_eq (tgt := 163) rfl rfl dX12_compare_156 (fun c97 => ?_) (fun c97 => ?_)
              · refine r_iload rfl dX12_compare_163 rfl ?_
                refine r_if_eq (tgt := 172) rfl rfl dX12_compare_165 (fun c98 => ?_) (fun c98 => ?_)
                · refine r_iconst (v := 3) rfl dX12_compare_172 (by decide) ?_
                  exact r_ret dX12_compare_173 (rt_i rfl) ⟨rfl, hS89, hF91, ⟨_, rfl⟩, f92⟩
                · refine r_iconst (v := 2) rfl dX12_compare_168 (by decide) ?_
                  refine r_goto (pc' := 173) rfl dX12_compare_169 ?_
                  exact r_ret dX12_compare_173 (rt_i rfl) ⟨rfl, hS89, hF91, ⟨_, rfl⟩, f92⟩
              · refine r_iconst (v := 1) rfl dX12_compare_159 (by decide) ?_
                refine r_goto (pc' := 173) rfl dX12_compare_160 ?_
                exact r_ret dX12_compare_173 (rt_i rfl) ⟨rfl, hS89, hF91, ⟨_, rfl⟩, f92⟩
            · refine r_iconst (v := 0) rfl dX12_compare_151 (by decide) ?_
              refine r_goto (pc' := 173) rfl dX12_compare_152 ?_
              exact r_ret dX12_compare_173 (rt_i rfl) ⟨rfl, hS89, hF91, ⟨_, rfl⟩, f92⟩
        · refine r_bipush (v := (-2)) rfl dX12_compare_49 (by decide) ?_
          exact r_ret dX12_compare_51 (rt_i rfl) ⟨rfl, hS78, hF82, ⟨_, rfl⟩, f83⟩
    · refine r_iconst (v := (-1)) rfl dX12_compare_23 (by decide) ?_
      exact r_ret dX12_compare_24 (rt_i rfl) ⟨rfl, hS52, hF53, ⟨_, rfl⟩, f54⟩
set_option maxRecDepth 20000 in
set_option maxHeartbeats 1000000 in
theorem lp_X12_bounds__7y {xs : Nat → Int32} {L d : Nat} {Q : ev_Q} {tr : Int64} {ty nx tk pl va fa ss wg : Int32} {c m : Nat} {x : Int32} {h0 : ev_H} (h5 : h0 420 = c420 0 tr ty nx tk pl va fa (nI c) (nI m) ss wg) (hc : c ≤ 16) (hm : m ≤ 24) : ∀ (n k : Nat), k + n = 4 → ∀ (h : ev_H) (hS : SH h) (hF : KM [431, 432, 433] h0 h)  (hK : ∀ (h : ev_H) (hS : SH h) (hF : KM [431, 432, 433] h0 h) (kx : Int32) , EV xs L (d + 2) 0 0 M_X12_bounds_ 434 h 41 [some (.ref 420), some (.int x), some (.int kx)] [] Q), EV xs L (d + 2) 0 0 M_X12_bounds_ 434 h 7 [some (.ref 420), some (.int x), some (.int (nI k))] [] Q := by
  intro n
  induction n with
  | zero =>
    intro k hk h hS hF  hK
    refine r_iload_n rfl dX12_bounds__7 rfl ?_
    refine r_iconst (v := 4) rfl dX12_bounds__8 (by decide) ?_
    refine r_icmp_ge (tgt := 41) rfl rfl dX12_bounds__9 (fun _ => ?_) (fun zc => absurd (show 4 ≤ nI k from nI_le (a := 4) (b := k) (by omega) (by omega)) zc)
    exact hK h hS hF (nI k) 
  | succ n ih =>
    intro k hk h hS hF  hK
    refine r_iload_n rfl dX12_bounds__7 rfl ?_
    refine r_iconst (v := 4) rfl dX12_bounds__8 (by decide) ?_
    refine r_icmp_ge (tgt := 41) rfl rfl dX12_bounds__9 (fun zc => absurd zc (show ¬ 4 ≤ nI k from nI_ge (a := k) (b := 4) (by omega) (by omega))) (fun _ => ?_)
    refine r_aload_n rfl dX12_bounds__12 rfl ?_
    refine r_getv 23 rfl dX12_bounds__13 (show 2 ≤ 420 ∧ 420 < 434 by decide) ((hF 420 (by decide)).trans h5) fl_X12_48 rfl ?_
    refine r_iload_n rfl dX12_bounds__16 rfl ?_
    refine r_aload_n rfl dX12_bounds__17 rfl ?_
    refine r_getv 21 rfl dX12_bounds__18 (show 2 ≤ 420 ∧ 420 < 434 by decide) ((hF 420 (by decide)).trans h5) fl_X12_42 rfl ?_
    refine r_iload_n rfl dX12_bounds__21 rfl ?_
    obtain ⟨g155, f156⟩ := hS.la LA_430
    refine r_laldv (jn := k) (v := g155 k) rfl dX12_bounds__22 (show 2 ≤ 430 ∧ 430 < 434 by decide) f156 (vp_in_nI (n := k) (by omega) (by omega)) (nI_clamp (n := k) (by omega)) rfl ?_
    refine r_aload_n rfl dX12_bounds__23 rfl ?_
    refine r_getv 20 rfl dX12_bounds__24 (show 2 ≤ 420 ∧ 420 < 434 by decide) ((hF 420 (by decide)).trans h5) fl_X12_39 rfl ?_
    refine r_iload_n rfl dX12_bounds__27 rfl ?_
    obtain ⟨g157, f158⟩ := hS.la LA_429
    refine r_laldv (jn := k) (v := g157 k) rfl dX12_bounds__28 (show 2 ≤ 429 ∧ 429 < 434 by decide) f158 (vp_in_nI (n := k) (by omega) (by omega)) (nI_clamp (n := k) (by omega)) rfl ?_
    refine r_ldc2 (v := (-1)) rfl dX12_bounds__29 lc_X12_137 ?_
    refine r_lxor rfl dX12_bounds__32 ?_
    refine r_land rfl dX12_bounds__33 ?_
    obtain ⟨g159, f160⟩ := hS.la LA_432
    refine m_last rfl dX12_bounds__34 (show 2 ≤ 432 ∧ 432 < 434 by decide) hS hF (by decide) f160 (vp_in_nI (n := k) (by omega) (by omega)) (fun h161 hS162 hF163 hN164 => ?_)
    refine r_iinc (y := nI (k + 1)) (ls' := [some (.ref 420), some (.int x), some (.int (nI (k + 1)))]) rfl dX12_bounds__35 rfl (nI_1 k) (Nat.le_of_ble_eq_true rfl) rfl ?_
    refine r_goto (pc' := 7) rfl dX12_bounds__38 ?_
    exact ih (k + 1) (by omega) h161 hS162 hF163  hK
set_option maxRecDepth 20000 in
set_option maxHeartbeats 1000000 in
theorem y_X12_bounds_ {xs : Nat → Int32} {L d : Nat} {h : ev_H} {th : Int32} {tr : Int64} {ty nx tk pl va fa ss wg : Int32} {c m : Nat} {x : Int32} (hS : SH h) (h5 : h 420 = c420 th tr ty nx tk pl va fa (nI c) (nI m) ss wg) (hc : c ≤ 16) (hm : m ≤ 24) : EV xs L (d + 2) 0 0 M_X12_bounds_ 434 h 0 [some (.ref 420), some (.int x), none] [] (fun sz' h' r => sz' = 434 ∧ SH h' ∧ KM [420, 431, 432, 433] h h' ∧ (∃ x : Int32, r = [.int x]) ∧ h' 420 = c420 0 tr ty nx tk pl va fa (nI c) (nI m) ss wg) := by
  refine r_aload_n rfl dX12_bounds__0 rfl ?_
  refine r_iconst (v := 0) rfl dX12_bounds__1 (by decide) ?_
  refine m_put 0 (fs' := [.int 0, .long tr, .ref 421, .int ty, .int nx, .int tk, .int pl, .int va, .int fa, .int (nI c), .int (nI m), .int ss, .int wg, .ref 422, .ref 423, .ref 424, .ref 425, .ref 426, .ref 427, .ref 428, .ref 429, .ref 430, .ref 431, .ref 432, .ref 433]) rfl dX12_bounds__2 hS (KM_rf (Mod := [420, 431, 432, 433]) h) (by decide) h5 (fp_X12_57 rfl _) (Nat.le_of_ble_eq_true rfl) rfl (fun h51 hS52 hF53 f54 => ?_)
  refine r_iconst (v := 0) rfl dX12_bounds__5 (by decide) ?_
  refine r_istore_n (ls' := [some (.ref 420), some (.int x), some (.int 0)]) rfl dX12_bounds__6 (Nat.le_of_ble_eq_true rfl) rfl ?_
  refine lp_X12_bounds__7y f54 hc hm (4 - 0) 0 (by omega) h51 hS52 (KM_rf _)  ?_
  intro h56 hS57 hK58 kx55 
  have hF59 := KM_tr hF53 (KM_sb (by decide) hK58)
  have f60 : h56 420 = c420 0 tr ty nx tk pl va fa (nI c) (nI m) ss wg := (hK58 420 (by decide)).trans f54
  refine r_iload_n rfl dX12_bounds__41 rfl ?_
  refine r_if_ne (tgt := 55) rfl rfl dX12_bounds__42 (fun c61 => ?_) (fun c61 => ?_)
  · refine r_iload_n rfl dX12_bounds__55 rfl ?_
    refine r_iconst (v := 1) rfl dX12_bounds__56 (by decide) ?_
    refine r_icmp_ne (tgt := 70) rfl rfl dX12_bounds__57 (fun c62 => ?_) (fun c62 => ?_)
    · refine r_iload_n rfl dX12_bounds__70 rfl ?_
      refine r_iconst (v := 2) rfl dX12_bounds__71 (by decide) ?_
      refine r_icmp_ne (tgt := 96) rfl rfl dX12_bounds__72 (fun c63 => ?_) (fun c63 => ?_)
      · refine r_iconst (v := (-1)) rfl dX12_bounds__96 (by decide) ?_
        exact r_ret dX12_bounds__97 (rt_i rfl) ⟨rfl, hS57, hF59, ⟨_, rfl⟩, f60⟩
      · refine r_aload_n rfl dX12_bounds__75 rfl ?_
        refine r_getv 23 rfl dX12_bounds__76 (show 2 ≤ 420 ∧ 420 < 434 by decide) f60 fl_X12_48 rfl ?_
        refine cl_X12_160 rfl rfl dX12_bounds__79 (Nat.le_of_ble_eq_true rfl) (s_X12_many hS57 LA_432) ?_
        rintro _ h64 _ ⟨rfl, e65, x66, rfl⟩
        replace e65 := e65.symm
        subst e65
        refine r_bipush (v := 8) rfl dX12_bounds__82 (by decide) ?_
        refine r_aload_n rfl dX12_bounds__84 rfl ?_
        refine cl_X12_133 rfl rfl dX12_bounds__85 (show 2 ≤ 420 ∧ 420 < 434 by decide).1 (show 2 ≤ 420 ∧ 420 < 434 by decide).2 f60 (Nat.le_of_ble_eq_true rfl) (s_X12_shared hS57 f60 hc hm) ?_
        rintro _ h67 _ ⟨rfl, e68, x69, rfl⟩
        replace e68 := e68.symm
        subst e68
        refine cl_X12_177 rfl rfl dX12_bounds__88 (Nat.le_of_ble_eq_true rfl) (s_X12_ones hS57) ?_
        rintro _ h70 _ ⟨rfl, e71, x72, rfl⟩
        replace e71 := e71.symm
        subst e71
        refine r_isub rfl dX12_bounds__91 ?_
        refine r_ishr rfl dX12_bounds__92 ?_
        refine r_goto (pc' := 97) rfl dX12_bounds__93 ?_
        exact r_ret dX12_bounds__97 (rt_i rfl) ⟨rfl, hS57, hF59, ⟨_, rfl⟩, f60⟩
    · refine r_aload_n rfl dX12_bounds__60 rfl ?_
      refine r_getv 21 rfl dX12_bounds__61 (show 2 ≤ 420 ∧ 420 < 434 by decide) f60 fl_X12_42 rfl ?_
      refine cl_X12_160 rfl rfl dX12_bounds__64 (Nat.le_of_ble_eq_true rfl) (s_X12_many hS57 LA_430) ?_
      rintro _ h73 _ ⟨rfl, e74, x75, rfl⟩
      replace e74 := e74.symm
      subst e74
      refine r_goto (pc' := 97) rfl dX12_bounds__67 ?_
      exact r_ret dX12_bounds__97 (rt_i rfl) ⟨rfl, hS57, hF59, ⟨_, rfl⟩, f60⟩
  · refine r_aload_n rfl dX12_bounds__45 rfl ?_
    refine r_getv 20 rfl dX12_bounds__46 (show 2 ≤ 420 ∧ 420 < 434 by decide) f60 fl_X12_39 rfl ?_
    refine cl_X12_160 rfl rfl dX12_bounds__49 (Nat.le_of_ble_eq_true rfl) (s_X12_many hS57 LA_429) ?_
    rintro _ h76 _ ⟨rfl, e77, x78, rfl⟩
    replace e77 := e77.symm
    subst e77
    refine r_goto (pc' := 97) rfl dX12_bounds__52 ?_
    exact r_ret dX12_bounds__97 (rt_i rfl) ⟨rfl, hS57, hF59, ⟨_, rfl⟩, f60⟩
set_option maxRecDepth 20000 in
set_option maxHeartbeats 1000000 in
theorem y_X12_tell {xs : Nat → Int32} {L d : Nat} {h : ev_H} {th : Int32} {tr : Int64} {ty nx tk pl va fa ss wg : Int32} {c m : Nat} {x y : Int32} (hS : SH h) (h5 : h 420 = c420 th tr ty nx tk pl va fa (nI c) (nI m) ss wg) (hc : c ≤ 16) (hm : m ≤ 24) : EV xs L (d + 1) 0 0 M_X12_tell 434 h 0 [some (.ref 420), some (.int x), some (.int y), none, none, none] [] (fun sz' h' r => sz' = 434 ∧ SH h' ∧ KM [420, 431, 432, 433] h h' ∧ (∃ x : Int32, r = [.int x]) ∧ h' 420 = c420 0 tr ty nx tk pl va fa (nI c) (nI m) ss wg) := by
  refine r_aload_n rfl dX12_tell_0 rfl ?_
  refine r_iconst (v := 0) rfl dX12_tell_1 (by decide) ?_
  refine m_put 0 (fs' := [.int 0, .long tr, .ref 421, .int ty, .int nx, .int tk, .int pl, .int va, .int fa, .int (nI c), .int (nI m), .int ss, .int wg, .ref 422, .ref 423, .ref 424, .ref 425, .ref 426, .ref 427, .ref 428, .ref 429, .ref 430, .ref 431, .ref 432, .ref 433]) rfl dX12_tell_2 hS (KM_rf (Mod := [420, 431, 432, 433]) h) (by decide) h5 (fp_X12_57 rfl _) (Nat.le_of_ble_eq_true rfl) rfl (fun h51 hS52 hF53 f54 => ?_)
  refine r_iload_n rfl dX12_tell_5 rfl ?_
  refine r_iconst (v := 0) rfl dX12_tell_6 (by decide) ?_
  refine r_sipush (v := 255) rfl dX12_tell_7 (by decide) ?_
  refine cl_X12_60 rfl rfl dX12_tell_10 (Nat.le_of_ble_eq_true rfl) s_X12_in ?_
  rintro _ h55 _ ⟨rfl, e56, rfl⟩
  replace e56 := e56.symm
  subst e56
  refine r_if_eq (tgt := 25) rfl rfl dX12_tell_13 (fun c57 => ?_) (fun c57 => ?_)
  · refine r_iconst (v := (-1)) rfl dX12_tell_25 (by decide) ?_
    exact r_ret dX12_tell_26 (rt_i rfl) ⟨rfl, hS52, hF53, ⟨_, rfl⟩, f54⟩
  · obtain ⟨j58, q59, q60, e61⟩ := inR_nat (a := 0) (b := 255) (by omega) c57
    subst e61
    refine r_iload_n rfl dX12_tell_16 rfl ?_
    refine r_iconst (v := 0) rfl dX12_tell_17 (by decide) ?_
    refine r_iconst (v := 1) rfl dX12_tell_18 (by decide) ?_
    refine cl_X12_60 rfl rfl dX12_tell_19 (Nat.le_of_ble_eq_true rfl) s_X12_in ?_
    rintro _ h62 _ ⟨rfl, e63, rfl⟩
    replace e63 := e63.symm
    subst e63
    refine r_if_ne (tgt := 27) rfl rfl dX12_tell_22 (fun c64 => ?_) (fun c64 => ?_)
    · obtain ⟨j65, q66, q67, e68⟩ := inR_nat (a := 0) (b := 1) (by omega) c64
      subst e68
      refine r_aload_n rfl dX12_tell_27 rfl ?_
      refine r_getv 22 rfl dX12_tell_28 (show 2 ≤ 420 ∧ 420 < 434 by decide) f54 fl_X12_45 rfl ?_
      refine r_iconst (v := 0) rfl dX12_tell_31 (by decide) ?_
      refine r_iload_n rfl dX12_tell_32 rfl ?_
      refine cl_X12_143 rfl rfl dX12_tell_33 (Nat.le_of_ble_eq_true rfl) (s_X12_has hS52 LA_431 (by omega) (q := 0) (w := j58) (by omega) (by omega)) ?_
      rintro _ h69 _ ⟨rfl, e70, x71, z72, rfl⟩
      replace e70 := e70.symm
      subst e70
      have J73 : ∀ v74 : Int32, EV xs L (d + 1) 0 0 M_X12_tell 434 h51 44 [some (.ref 420), some (.int (nI j58)), some (.int (nI j65)), none, none, none] (.int v74 :: []) (fun sz' h' r => sz' = 434 ∧ SH h' ∧ KM [420, 431, 432, 433] h h' ∧ (∃ x : Int32, r = [.int x]) ∧ h' 420 = c420 0 tr ty nx tk pl va fa (nI c) (nI m) ss wg) := by
        intro v74
        refine r_istore_n (ls' := [some (.ref 420), some (.int (nI j58)), some (.int (nI j65)), some (.int v74), none, none]) rfl dX12_tell_44 (Nat.le_of_ble_eq_true rfl) rfl ?_
        refine r_lconst (v := 1) rfl dX12_tell_45 (by decide) ?_
        refine r_iload_n rfl dX12_tell_46 rfl ?_
        refine r_bipush (v := 63) rfl dX12_tell_47 (by decide) ?_
        refine r_iand rfl dX12_tell_49 ?_
        refine r_eqi (y := nI (j58 % 64)) (show (nI j58) &&& 63 = nI (j58 % 64) from pk_andN (n := j58) (by omega) (m := 63) 6 (by decide)) ?_
        refine r_lshl rfl dX12_tell_50 ?_
        refine r_topl (fun x75 e76 => ?_)
        refine r_lstore (ls' := [some (.ref 420), some (.int (nI j58)), some (.int (nI j65)), some (.int v74), some (.long x75), none]) rfl dX12_tell_51 (Nat.le_of_ble_eq_true rfl) rfl ?_
        refine r_aload_n rfl dX12_tell_53 rfl ?_
        refine r_getv 22 rfl dX12_tell_54 (show 2 ≤ 420 ∧ 420 < 434 by decide) f54 fl_X12_45 rfl ?_
        refine r_iload_n rfl dX12_tell_57 rfl ?_
        refine r_bipush (v := 6) rfl dX12_tell_58 (by decide) ?_
        refine r_ishr rfl dX12_tell_60 ?_
        refine r_eqi (y := nI (j58 / 64)) (show (nI j58) >>> (6 &&& 31) = nI (j58 / 64) from pk_shrN (n := j58) (by omega) ((6 : Int32) &&& 31) 6 (by decide)) ?_
        refine r_iload_n rfl dX12_tell_61 rfl ?_
        refine r_iconst (v := 1) rfl dX12_tell_62 (by decide) ?_
        have J77 : ∀ v78 : Int64, EV xs L (d + 1) 0 0 M_X12_tell 434 h51 97 [some (.ref 420), some (.int (nI j58)), some (.int (nI j65)), some (.int v74), some (.long x75), none] (.long v78 :: .int (nI (j58 / 64)) :: .ref 431 :: []) (fun sz' h' r => sz' = 434 ∧ SH h' ∧ KM [420, 431, 432, 433] h h' ∧ (∃ x : Int32, r = [.int x]) ∧ h' 420 = c420 0 tr ty nx tk pl va fa (nI c) (nI m) ss wg) := by
          intro v78
          obtain ⟨g79, f80⟩ := hS52.la LA_431
          refine m_last rfl dX12_tell_97 (show 2 ≤ 431 ∧ 431 < 434 by decide) hS52 hF53 (by decide) f80 (vp_in_nI (n := j58 / 64) (by omega) (by omega)) (fun h81 hS82 hF83 hN84 => ?_)
          have f85 : h81 420 = c420 0 tr ty nx tk pl va fa (nI c) (nI m) ss wg := (hN84 420 (by decide)).trans f54
          refine r_iload_n rfl dX12_tell_98 rfl ?_
          exact r_ret dX12_tell_99 (rt_i rfl) ⟨rfl, hS82, hF83, ⟨_, rfl⟩, f85⟩
        refine r_icmp_ne (tgt := 81) rfl rfl dX12_tell_63 (fun c86 => ?_) (fun c86 => ?_)
        · have q87 : ¬ j65 = 1 := (not_congr (nI_eq (a := j65) (b := 1)  (by omega) (by omega))).mp c86
          refine r_aload_n rfl dX12_tell_81 rfl ?_
          refine r_getv 22 rfl dX12_tell_82 (show 2 ≤ 420 ∧ 420 < 434 by decide) f54 fl_X12_45 rfl ?_
          refine r_iload_n rfl dX12_tell_85 rfl ?_
          refine r_bipush (v := 6) rfl dX12_tell_86 (by decide) ?_
          refine r_ishr rfl dX12_tell_88 ?_
          refine r_eqi (y := nI (j58 / 64)) (show (nI j58) >>> (6 &&& 31) = nI (j58 / 64) from pk_shrN (n := j58) (by omega) ((6 : Int32) &&& 31) 6 (by decide)) ?_
          obtain ⟨g88, f89⟩ := hS52.la LA_431
          refine r_laldv (jn := j58 / 64) (v := g88 (j58 / 64)) rfl dX12_tell_89 (show 2 ≤ 431 ∧ 431 < 434 by decide) f89 (vp_in_nI (n := j58 / 64) (by omega) (by omega)) (nI_clamp (n := j58 / 64) (by omega)) rfl ?_
          refine r_lload rfl dX12_tell_90 rfl ?_
          refine r_ldc2 (v := (-1)) rfl dX12_tell_92 lc_X12_137 ?_
          refine r_lxor rfl dX12_tell_95 ?_
          refine r_land rfl dX12_tell_96 ?_
          exact J77 _
        · have q90 : j65 = 1 := (nI_eq (a := j65) (b := 1) (by omega) (by omega)).mp c86
          refine r_aload_n rfl dX12_tell_66 rfl ?_
          refine r_getv 22 rfl dX12_tell_67 (show 2 ≤ 420 ∧ 420 < 434 by decide) f54 fl_X12_45 rfl ?_
          refine r_iload_n rfl dX12_tell_70 rfl ?_
          refine r_bipush (v := 6) rfl dX12_tell_71 (by decide) ?_
          refine r_ishr rfl dX12_tell_73 ?_
          refine r_eqi (y := nI (j58 / 64)) (show (nI j58) >>> (6 &&& 31) = nI (j58 / 64) from pk_shrN (n := j58) (by omega) ((6 : Int32) &&& 31) 6 (by decide)) ?_
          obtain ⟨g91, f92⟩ := hS52.la LA_431
          refine r_laldv (jn := j58 / 64) (v := g91 (j58 / 64)) rfl dX12_tell_74 (show 2 ≤ 431 ∧ 431 < 434 by decide) f92 (vp_in_nI (n := j58 / 64) (by omega) (by omega)) (nI_clamp (n := j58 / 64) (by omega)) rfl ?_
          refine r_lload rfl dX12_tell_75 rfl ?_
          refine r_lor rfl dX12_tell_77 ?_
          refine r_goto (pc' := 97) rfl dX12_tell_78 ?_
          exact J77 _
      refine r_if_eq (tgt := 43) rfl rfl dX12_tell_36 (fun c93 => ?_) (fun c93 => ?_)
      · refine r_iconst (v := 0) rfl dX12_tell_43 (by decide) ?_
        exact J73 _
      · refine r_iconst (v := 1) rfl dX12_tell_39 (by decide) ?_
        refine r_goto (pc' := 44) rfl dX12_tell_40 ?_
        exact J73 _
    · refine r_iconst (v := (-1)) rfl dX12_tell_25 (by decide) ?_
      exact r_ret dX12_tell_26 (rt_i rfl) ⟨rfl, hS52, hF53, ⟨_, rfl⟩, f54⟩
set_option maxRecDepth 20000 in
set_option maxHeartbeats 1000000 in
theorem y_X12_check {xs : Nat → Int32} {L d : Nat} {h : ev_H} {th : Int32} {tr : Int64} {ty nx tk pl va fa ss wg : Int32} {c m : Nat} (hS : SH h) (h5 : h 420 = c420 th tr ty nx tk pl va fa (nI c) (nI m) ss wg) (hc : c ≤ 16) (hm : m ≤ 24) : EV xs L (d + 3) 0 0 M_X12_check 434 h 0 [some (.ref 420)] [] (fun sz' h' r => sz' = 434 ∧ SH h' ∧ KM [420, 431, 432, 433] h h' ∧ (∃ x : Int32, r = [.int x]) ∧ h' 420 = c420 0 tr ty nx tk pl va fa (nI c) (nI m) ss wg) := by
  refine r_aload_n rfl dX12_check_0 rfl ?_
  refine r_iconst (v := 0) rfl dX12_check_1 (by decide) ?_
  refine m_put 0 (fs' := [.int 0, .long tr, .ref 421, .int ty, .int nx, .int tk, .int pl, .int va, .int fa, .int (nI c), .int (nI m), .int ss, .int wg, .ref 422, .ref 423, .ref 424, .ref 425, .ref 426, .ref 427, .ref 428, .ref 429, .ref 430, .ref 431, .ref 432, .ref 433]) rfl dX12_check_2 hS (KM_rf (Mod := [420, 431, 432, 433]) h) (by decide) h5 (fp_X12_57 rfl _) (Nat.le_of_ble_eq_true rfl) rfl (fun h51 hS52 hF53 f54 => ?_)
  refine r_aload_n rfl dX12_check_5 rfl ?_
  refine r_aload_n rfl dX12_check_6 rfl ?_
  refine r_getv 22 rfl dX12_check_7 (show 2 ≤ 420 ∧ 420 < 434 by decide) f54 fl_X12_45 rfl ?_
  refine cl_X12_174 rfl rfl dX12_check_10 (show 2 ≤ 420 ∧ 420 < 434 by decide).1 (show 2 ≤ 420 ∧ 420 < 434 by decide).2 f54 (Nat.le_of_ble_eq_true rfl) (s_X12_checks hS52 f54 hc hm LA_431) ?_
  rintro _ h55 _ ⟨rfl, e56, x57, rfl⟩
  replace e56 := e56.symm
  subst e56
  exact r_ret dX12_check_13 (rt_i rfl) ⟨rfl, hS52, hF53, ⟨_, rfl⟩, f54⟩
set_option maxRecDepth 20000 in
set_option maxHeartbeats 1000000 in
theorem y_X12_count {xs : Nat → Int32} {L d : Nat} {h : ev_H} {th : Int32} {tr : Int64} {ty nx tk pl va fa ss wg : Int32} {c m : Nat} {x : Int32} (hS : SH h) (h5 : h 420 = c420 th tr ty nx tk pl va fa (nI c) (nI m) ss wg) (hc : c ≤ 16) (hm : m ≤ 24) : EV xs L (d + 2) 0 0 M_X12_count 434 h 0 [some (.ref 420), some (.int x)] [] (fun sz' h' r => sz' = 434 ∧ SH h' ∧ KM [420, 431, 432, 433] h h' ∧ (∃ x : Int32, r = [.int x]) ∧ h' 420 = c420 0 tr ty nx tk pl va fa (nI c) (nI m) ss wg) := by
  refine r_aload_n rfl dX12_count_0 rfl ?_
  refine r_iconst (v := 0) rfl dX12_count_1 (by decide) ?_
  refine m_put 0 (fs' := [.int 0, .long tr, .ref 421, .int ty, .int nx, .int tk, .int pl, .int va, .int fa, .int (nI c), .int (nI m), .int ss, .int wg, .ref 422, .ref 423, .ref 424, .ref 425, .ref 426, .ref 427, .ref 428, .ref 429, .ref 430, .ref 431, .ref 432, .ref 433]) rfl dX12_count_2 hS (KM_rf (Mod := [420, 431, 432, 433]) h) (by decide) h5 (fp_X12_57 rfl _) (Nat.le_of_ble_eq_true rfl) rfl (fun h51 hS52 hF53 f54 => ?_)
  refine r_iload_n rfl dX12_count_5 rfl ?_
  refine r_if_ne (tgt := 16) rfl rfl dX12_count_6 (fun c55 => ?_) (fun c55 => ?_)
  · refine r_iload_n rfl dX12_count_16 rfl ?_
    refine r_iconst (v := 1) rfl dX12_count_17 (by decide) ?_
    refine r_icmp_ne (tgt := 28) rfl rfl dX12_count_18 (fun c56 => ?_) (fun c56 => ?_)
    · refine r_iload_n rfl dX12_count_28 rfl ?_
      refine r_iconst (v := 2) rfl dX12_count_29 (by decide) ?_
      refine r_icmp_ne (tgt := 40) rfl rfl dX12_count_30 (fun c57 => ?_) (fun c57 => ?_)
      · refine r_iload_n rfl dX12_count_40 rfl ?_
        refine r_iconst (v := 3) rfl dX12_count_41 (by decide) ?_
        refine r_icmp_ne (tgt := 55) rfl rfl dX12_count_42 (fun c58 => ?_) (fun c58 => ?_)
        · refine r_iload_n rfl dX12_count_55 rfl ?_
          refine r_iconst (v := 4) rfl dX12_count_56 (by decide) ?_
          refine r_icmp_ne (tgt := 67) rfl rfl dX12_count_57 (fun c59 => ?_) (fun c59 => ?_)
          · refine r_iload_n rfl dX12_count_67 rfl ?_
            refine r_iconst (v := 5) rfl dX12_count_68 (by decide) ?_
            refine r_icmp_ne (tgt := 82) rfl rfl dX12_count_69 (fun c60 => ?_) (fun c60 => ?_)
            · refine r_iconst (v := (-1)) rfl dX12_count_82 (by decide) ?_
              exact r_ret dX12_count_83 (rt_i rfl) ⟨rfl, hS52, hF53, ⟨_, rfl⟩, f54⟩
            · refine r_aload_n rfl dX12_count_72 rfl ?_
              refine r_getv 22 rfl dX12_count_73 (show 2 ≤ 420 ∧ 420 < 434 by decide) f54 fl_X12_45 rfl ?_
              refine cl_X12_160 rfl rfl dX12_count_76 (Nat.le_of_ble_eq_true rfl) (s_X12_many hS52 LA_431) ?_
              rintro _ h61 _ ⟨rfl, e62, x63, rfl⟩
              replace e62 := e62.symm
              subst e62
              refine r_goto (pc' := 83) rfl dX12_count_79 ?_
              exact r_ret dX12_count_83 (rt_i rfl) ⟨rfl, hS52, hF53, ⟨_, rfl⟩, f54⟩
          · refine r_aload_n rfl dX12_count_60 rfl ?_
            refine r_getv 3 rfl dX12_count_61 (show 2 ≤ 420 ∧ 420 < 434 by decide) f54 fl_X12_64 rfl ?_
            refine r_goto (pc' := 83) rfl dX12_count_64 ?_
            exact r_ret dX12_count_83 (rt_i rfl) ⟨rfl, hS52, hF53, ⟨_, rfl⟩, f54⟩
        · refine r_aload_n rfl dX12_count_45 rfl ?_
          refine cl_X12_133 rfl rfl dX12_count_46 (show 2 ≤ 420 ∧ 420 < 434 by decide).1 (show 2 ≤ 420 ∧ 420 < 434 by decide).2 f54 (Nat.le_of_ble_eq_true rfl) (s_X12_shared hS52 f54 hc hm) ?_
          rintro _ h64 _ ⟨rfl, e65, x66, rfl⟩
          replace e65 := e65.symm
          subst e65
          refine cl_X12_177 rfl rfl dX12_count_49 (Nat.le_of_ble_eq_true rfl) (s_X12_ones hS52) ?_
          rintro _ h67 _ ⟨rfl, e68, x69, rfl⟩
          replace e68 := e68.symm
          subst e68
          refine r_goto (pc' := 83) rfl dX12_count_52 ?_
          exact r_ret dX12_count_83 (rt_i rfl) ⟨rfl, hS52, hF53, ⟨_, rfl⟩, f54⟩
      · refine r_aload_n rfl dX12_count_33 rfl ?_
        refine r_getv 11 rfl dX12_count_34 (show 2 ≤ 420 ∧ 420 < 434 by decide) f54 fl_X12_118 rfl ?_
        refine r_goto (pc' := 83) rfl dX12_count_37 ?_
        exact r_ret dX12_count_83 (rt_i rfl) ⟨rfl, hS52, hF53, ⟨_, rfl⟩, f54⟩
    · refine r_aload_n rfl dX12_count_21 rfl ?_
      refine r_getv 10 rfl dX12_count_22 (show 2 ≤ 420 ∧ 420 < 434 by decide) f54 fl_X12_115 rfl ?_
      refine r_goto (pc' := 83) rfl dX12_count_25 ?_
      exact r_ret dX12_count_83 (rt_i rfl) ⟨rfl, hS52, hF53, ⟨_, rfl⟩, f54⟩
  · refine r_aload_n rfl dX12_count_9 rfl ?_
    refine r_getv 9 rfl dX12_count_10 (show 2 ≤ 420 ∧ 420 < 434 by decide) f54 fl_X12_112 rfl ?_
    refine r_goto (pc' := 83) rfl dX12_count_13 ?_
    exact r_ret dX12_count_83 (rt_i rfl) ⟨rfl, hS52, hF53, ⟨_, rfl⟩, f54⟩
set_option maxRecDepth 20000 in
set_option maxHeartbeats 1000000 in
theorem lp_X12_copy_59y {xs : Nat → Int32} {L d : Nat} {Q : ev_Q} {tr : Int64} {ty nx tk pl va fa ss wg : Int32} {c m : Nat} {j58 : Nat} {j65 : Nat} {j72 : Nat} {h0 : ev_H} (h5 : h0 420 = c420 0 tr ty nx tk pl va fa (nI c) (nI m) ss wg) (hc : c ≤ 16) (hm : m ≤ 24) (hb_j58 : j58 < 4 + 1) (hb_j65 : j65 < 255 + 1) (hb_j72 : j72 < 255 + 1) : ∀ (n k : Nat), k + n = (j72 + 1) → ∀ (h : ev_H) (hS : SH h) (hF : KM [431, 432, 433] h0 h) (y4 : Int32) (u6 : Option Value) (u6b : Option Value) (hK : ∀ (h : ev_H) (hS : SH h) (hF : KM [431, 432, 433] h0 h) (kx : Int32) (y4 : Int32) (u6 : Option Value) (u6b : Option Value), EV xs L (d + 2) 0 0 M_X12_copy 434 h 154 [some (.ref 420), some (.int (nI j58)), some (.int (nI j65)), some (.int (nI j72)), some (.int y4), some (.int kx), u6, u6b] [] Q), EV xs L (d + 2) 0 0 M_X12_copy 434 h 59 [some (.ref 420), some (.int (nI j58)), some (.int (nI j65)), some (.int (nI j72)), some (.int y4), some (.int (nI k)), u6, u6b] [] Q := by
  intro n
  induction n with
  | zero =>
    intro k hk h hS hF y4 u6 u6b hK
    refine r_iload rfl dX12_copy_59 rfl ?_
    refine r_iload_n rfl dX12_copy_61 rfl ?_
    refine r_icmp_gt (tgt := 154) rfl rfl dX12_copy_62 (fun _ => ?_) (fun zc => absurd (show (nI j72) < nI k from nI_lt (a := j72) (b := k) (by omega) (by omega)) zc)
    exact hK h hS hF (nI k) y4 u6 u6b
  | succ n ih =>
    intro k hk h hS hF y4 u6 u6b hK
    refine r_iload rfl dX12_copy_59 rfl ?_
    refine r_iload_n rfl dX12_copy_61 rfl ?_
    refine r_icmp_gt (tgt := 154) rfl rfl dX12_copy_62 (fun zc => absurd zc (show ¬ (nI j72) < nI k from nI_nlt (a := j72) (b := k) (by omega) (by omega))) (fun _ => ?_)
    refine r_lconst (v := 1) rfl dX12_copy_65 (by decide) ?_
    refine r_iload rfl dX12_copy_66 rfl ?_
    refine r_bipush (v := 63) rfl dX12_copy_68 (by decide) ?_
    refine r_iand rfl dX12_copy_70 ?_
    refine r_eqi (y := nI (k % 64)) (show (nI k) &&& 63 = nI (k % 64) from pk_andN (n := k) (by omega) (m := 63) 6 (by decide)) ?_
    refine r_lshl rfl dX12_copy_71 ?_
    refine r_topl (fun x184 e185 => ?_)
    refine r_lstore (ls' := [some (.ref 420), some (.int (nI j58)), some (.int (nI j65)), some (.int (nI j72)), some (.int y4), some (.int (nI k)), some (.long x184), none]) rfl dX12_copy_72 (Nat.le_of_ble_eq_true rfl) rfl ?_
    refine r_iload rfl dX12_copy_74 rfl ?_
    refine r_aload_n rfl dX12_copy_76 rfl ?_
    refine r_getv 22 rfl dX12_copy_77 (show 2 ≤ 420 ∧ 420 < 434 by decide) ((hF 420 (by decide)).trans h5) fl_X12_45 rfl ?_
    refine r_iconst (v := 0) rfl dX12_copy_80 (by decide) ?_
    refine r_iload rfl dX12_copy_81 rfl ?_
    refine cl_X12_143 rfl rfl dX12_copy_83 (Nat.le_of_ble_eq_true rfl) (s_X12_has hS LA_431 (by omega) (q := 0) (w := k) (by omega) (by omega)) ?_
    rintro _ h186 _ ⟨rfl, e187, x188, z189, rfl⟩
    replace e187 := e187.symm
    subst e187
    refine r_aload_n rfl dX12_copy_86 rfl ?_
    refine r_getv 23 rfl dX12_copy_87 (show 2 ≤ 420 ∧ 420 < 434 by decide) ((hF 420 (by decide)).trans h5) fl_X12_48 rfl ?_
    refine r_iconst (v := 0) rfl dX12_copy_90 (by decide) ?_
    refine r_iload rfl dX12_copy_91 rfl ?_
    refine cl_X12_143 rfl rfl dX12_copy_93 (Nat.le_of_ble_eq_true rfl) (s_X12_has hS LA_432 (by omega) (q := 0) (w := k) (by omega) (by omega)) ?_
    rintro _ h190 _ ⟨rfl, e191, x192, z193, rfl⟩
    replace e191 := e191.symm
    subst e191
    have J194 : ∀ v195 : Int32, EV xs L (d + 2) 0 0 M_X12_copy 434 h 104 [some (.ref 420), some (.int (nI j58)), some (.int (nI j65)), some (.int (nI j72)), some (.int y4), some (.int (nI k)), some (.long x184), none] (.int v195 :: .int y4 :: []) Q := by
      intro v195
      refine r_iadd rfl dX12_copy_104 ?_
      refine r_topi (fun x196 e197 => ?_)
      refine r_istore (ls' := [some (.ref 420), some (.int (nI j58)), some (.int (nI j65)), some (.int (nI j72)), some (.int x196), some (.int (nI k)), some (.long x184), none]) rfl dX12_copy_105 (Nat.le_of_ble_eq_true rfl) rfl ?_
      refine r_aload_n rfl dX12_copy_107 rfl ?_
      refine r_getv 22 rfl dX12_copy_108 (show 2 ≤ 420 ∧ 420 < 434 by decide) ((hF 420 (by decide)).trans h5) fl_X12_45 rfl ?_
      refine r_iload rfl dX12_copy_111 rfl ?_
      refine r_bipush (v := 6) rfl dX12_copy_113 (by decide) ?_
      refine r_ishr rfl dX12_copy_115 ?_
      refine r_eqi (y := nI (k / 64)) (show (nI k) >>> (6 &&& 31) = nI (k / 64) from pk_shrN (n := k) (by omega) ((6 : Int32) &&& 31) 6 (by decide)) ?_
      refine r_aload_n rfl dX12_copy_116 rfl ?_
      refine r_getv 22 rfl dX12_copy_117 (show 2 ≤ 420 ∧ 420 < 434 by decide) ((hF 420 (by decide)).trans h5) fl_X12_45 rfl ?_
      refine r_iload rfl dX12_copy_120 rfl ?_
      refine r_bipush (v := 6) rfl dX12_copy_122 (by decide) ?_
      refine r_ishr rfl dX12_copy_124 ?_
      refine r_eqi (y := nI (k / 64)) (show (nI k) >>> (6 &&& 31) = nI (k / 64) from pk_shrN (n := k) (by omega) ((6 : Int32) &&& 31) 6 (by decide)) ?_
      obtain ⟨g198, f199⟩ := hS.la LA_431
      refine r_laldv (jn := k / 64) (v := g198 (k / 64)) rfl dX12_copy_125 (show 2 ≤ 431 ∧ 431 < 434 by decide) f199 (vp_in_nI (n := k / 64) (by omega) (by omega)) (nI_clamp (n := k / 64) (by omega)) rfl ?_
      refine r_lload rfl dX12_copy_126 rfl ?_
      refine r_ldc2 (v := (-1)) rfl dX12_copy_128 lc_X12_137 ?_
      refine r_lxor rfl dX12_copy_131 ?_
      refine r_land rfl dX12_copy_132 ?_
      refine r_aload_n rfl dX12_copy_133 rfl ?_
      refine r_getv 23 rfl dX12_copy_134 (show 2 ≤ 420 ∧ 420 < 434 by decide) ((hF 420 (by decide)).trans h5) fl_X12_48 rfl ?_
      refine r_iload rfl dX12_copy_137 rfl ?_
      refine r_bipush (v := 6) rfl dX12_copy_139 (by decide) ?_
      refine r_ishr rfl dX12_copy_141 ?_
      refine r_eqi (y := nI (k / 64)) (show (nI k) >>> (6 &&& 31) = nI (k / 64) from pk_shrN (n := k) (by omega) ((6 : Int32) &&& 31) 6 (by decide)) ?_
      obtain ⟨g200, f201⟩ := hS.la LA_432
      refine r_laldv (jn := k / 64) (v := g200 (k / 64)) rfl dX12_copy_142 (show 2 ≤ 432 ∧ 432 < 434 by decide) f201 (vp_in_nI (n := k / 64) (by omega) (by omega)) (nI_clamp (n := k / 64) (by omega)) rfl ?_
      refine r_lload rfl dX12_copy_143 rfl ?_
      refine r_land rfl dX12_copy_145 ?_
      refine r_lor rfl dX12_copy_146 ?_
      obtain ⟨g202, f203⟩ := hS.la LA_431
      refine m_last rfl dX12_copy_147 (show 2 ≤ 431 ∧ 431 < 434 by decide) hS hF (by decide) f203 (vp_in_nI (n := k / 64) (by omega) (by omega)) (fun h204 hS205 hF206 hN207 => ?_)
      refine r_iinc (y := nI (k + 1)) (ls' := [some (.ref 420), some (.int (nI j58)), some (.int (nI j65)), some (.int (nI j72)), some (.int x196), some (.int (nI (k + 1))), some (.long x184), none]) rfl dX12_copy_148 rfl (nI_1 k) (Nat.le_of_ble_eq_true rfl) rfl ?_
      refine r_goto (pc' := 59) rfl dX12_copy_151 ?_
      exact ih (k + 1) (by omega) h204 hS205 hF206 x196 (some (.long x184)) none hK
    refine r_icmp_eq (tgt := 103) rfl rfl dX12_copy_96 (fun c208 => ?_) (fun c208 => ?_)
    · refine r_iconst (v := 0) rfl dX12_copy_103 (by decide) ?_
      exact J194 _
    · refine r_iconst (v := 1) rfl dX12_copy_99 (by decide) ?_
      refine r_goto (pc' := 104) rfl dX12_copy_100 ?_
      exact J194 _
set_option maxRecDepth 20000 in
set_option maxHeartbeats 1000000 in
theorem y_X12_copy {xs : Nat → Int32} {L d : Nat} {h : ev_H} {th : Int32} {tr : Int64} {ty nx tk pl va fa ss wg : Int32} {c m : Nat} {x y z : Int32} (hS : SH h) (h5 : h 420 = c420 th tr ty nx tk pl va fa (nI c) (nI m) ss wg) (hc : c ≤ 16) (hm : m ≤ 24) : EV xs L (d + 2) 0 0 M_X12_copy 434 h 0 [some (.ref 420), some (.int x), some (.int y), some (.int z), none, none, none, none] [] (fun sz' h' r => sz' = 434 ∧ SH h' ∧ KM [420, 431, 432, 433] h h' ∧ (∃ x : Int32, r = [.int x]) ∧ h' 420 = c420 0 tr ty nx tk pl va fa (nI c) (nI m) ss wg) := by
  refine r_aload_n rfl dX12_copy_0 rfl ?_
  refine r_iconst (v := 0) rfl dX12_copy_1 (by decide) ?_
  refine m_put 0 (fs' := [.int 0, .long tr, .ref 421, .int ty, .int nx, .int tk, .int pl, .int va, .int fa, .int (nI c), .int (nI m), .int ss, .int wg, .ref 422, .ref 423, .ref 424, .ref 425, .ref 426, .ref 427, .ref 428, .ref 429, .ref 430, .ref 431, .ref 432, .ref 433]) rfl dX12_copy_2 hS (KM_rf (Mod := [420, 431, 432, 433]) h) (by decide) h5 (fp_X12_57 rfl _) (Nat.le_of_ble_eq_true rfl) rfl (fun h51 hS52 hF53 f54 => ?_)
  refine r_iload_n rfl dX12_copy_5 rfl ?_
  refine r_iconst (v := 0) rfl dX12_copy_6 (by decide) ?_
  refine r_iconst (v := 4) rfl dX12_copy_7 (by decide) ?_
  refine cl_X12_60 rfl rfl dX12_copy_8 (Nat.le_of_ble_eq_true rfl) s_X12_in ?_
  rintro _ h55 _ ⟨rfl, e56, rfl⟩
  replace e56 := e56.symm
  subst e56
  refine r_if_eq (tgt := 36) rfl rfl dX12_copy_11 (fun c57 => ?_) (fun c57 => ?_)
  · refine r_iconst (v := (-1)) rfl dX12_copy_36 (by decide) ?_
    exact r_ret dX12_copy_37 (rt_i rfl) ⟨rfl, hS52, hF53, ⟨_, rfl⟩, f54⟩
  · obtain ⟨j58, q59, q60, e61⟩ := inR_nat (a := 0) (b := 4) (by omega) c57
    subst e61
    refine r_iload_n rfl dX12_copy_14 rfl ?_
    refine r_iconst (v := 0) rfl dX12_copy_15 (by decide) ?_
    refine r_sipush (v := 255) rfl dX12_copy_16 (by decide) ?_
    refine cl_X12_60 rfl rfl dX12_copy_19 (Nat.le_of_ble_eq_true rfl) s_X12_in ?_
    rintro _ h62 _ ⟨rfl, e63, rfl⟩
    replace e63 := e63.symm
    subst e63
    refine r_if_eq (tgt := 36) rfl rfl dX12_copy_22 (fun c64 => ?_) (fun c64 => ?_)
    · refine r_iconst (v := (-1)) rfl dX12_copy_36 (by decide) ?_
      exact r_ret dX12_copy_37 (rt_i rfl) ⟨rfl, hS52, hF53, ⟨_, rfl⟩, f54⟩
    · obtain ⟨j65, q66, q67, e68⟩ := inR_nat (a := 0) (b := 255) (by omega) c64
      subst e68
      refine r_iload_n rfl dX12_copy_25 rfl ?_
      refine r_iload_n rfl dX12_copy_26 rfl ?_
      refine r_sipush (v := 255) rfl dX12_copy_27 (by decide) ?_
      refine cl_X12_60 rfl rfl dX12_copy_30 (Nat.le_of_ble_eq_true rfl) s_X12_in ?_
      rintro _ h69 _ ⟨rfl, e70, rfl⟩
      replace e70 := e70.symm
      subst e70
      refine r_if_ne (tgt := 38) rfl rfl dX12_copy_33 (fun c71 => ?_) (fun c71 => ?_)
      · obtain ⟨j72, q73, q74, e75⟩ := inR_nat (a := j65) (b := 255) (by omega) c71
        subst e75
        refine r_aload_n rfl dX12_copy_38 rfl ?_
        refine r_iload_n rfl dX12_copy_39 rfl ?_
        refine r_aload_n rfl dX12_copy_40 rfl ?_
        refine r_getv 23 rfl dX12_copy_41 (show 2 ≤ 420 ∧ 420 < 434 by decide) f54 fl_X12_48 rfl ?_
        refine cl_X12_170 rfl rfl dX12_copy_44 (show 2 ≤ 420 ∧ 420 < 434 by decide).1 (show 2 ≤ 420 ∧ 420 < 434 by decide).2 f54 (Nat.le_of_ble_eq_true rfl) (s_X12_takes (q := j58) hS52 f54 hc hm (by omega) LA_432 (by decide)) ?_
        rintro _ h76 _ ⟨rfl, hS77, hK78, x79, z80, rfl⟩
        have hF81 := KM_tr hF53 (KM_sb (by decide) hK78)
        have f82 : h76 420 = c420 0 tr ty nx tk pl va fa (nI c) (nI m) ss wg := (hK78 420 (by decide)).trans f54
        refine r_if_ne (tgt := 53) rfl rfl dX12_copy_47 (fun c83 => ?_) (fun c83 => ?_)
        · refine r_iconst (v := 0) rfl dX12_copy_53 (by decide) ?_
          refine r_istore (ls' := [some (.ref 420), some (.int (nI j58)), some (.int (nI j65)), some (.int (nI j72)), some (.int 0), none, none, none]) rfl dX12_copy_54 (Nat.le_of_ble_eq_true rfl) rfl ?_
          refine r_iload_n rfl dX12_copy_56 rfl ?_
          refine r_istore (ls' := [some (.ref 420), some (.int (nI j58)), some (.int (nI j65)), some (.int (nI j72)), some (.int 0), some (.int (nI j65)), none, none]) rfl dX12_copy_57 (Nat.le_of_ble_eq_true rfl) rfl ?_
          refine lp_X12_copy_59y f82 hc hm (by omega) (by omega) (by omega) (j72 + 1 - j65) j65 (by omega) h76 hS77 (KM_rf _) 0 none none ?_
          intro h88 hS89 hK90 kx84 w85 w86 w87
          have hF91 := KM_tr hF81 (KM_sb (by decide) hK90)
          have f92 : h88 420 = c420 0 tr ty nx tk pl va fa (nI c) (nI m) ss wg := (hK90 420 (by decide)).trans f82
          refine r_iload rfl dX12_copy_154 rfl ?_
          exact r_ret dX12_copy_156 (rt_i rfl) ⟨rfl, hS89, hF91, ⟨_, rfl⟩, f92⟩
        · refine r_bipush (v := (-2)) rfl dX12_copy_50 (by decide) ?_
          exact r_ret dX12_copy_52 (rt_i rfl) ⟨rfl, hS77, hF81, ⟨_, rfl⟩, f82⟩
      · refine r_iconst (v := (-1)) rfl dX12_copy_36 (by decide) ?_
        exact r_ret dX12_copy_37 (rt_i rfl) ⟨rfl, hS52, hF53, ⟨_, rfl⟩, f54⟩
set_option maxRecDepth 20000 in
set_option maxHeartbeats 1000000 in
theorem lp_X12_fewest_81y {xs : Nat → Int32} {L d : Nat} {Q : ev_Q} {tr : Int64} {ty nx tk pl va fa ss wg : Int32} {c m : Nat} {j58 : Nat} {xf2 : Int32} {xf3 : Int32} {k : Nat} {h0 : ev_H} (h5 : h0 420 = c420 0 tr ty nx tk pl va fa (nI c) (nI m) ss wg) (hc : c ≤ 16) (hm : m ≤ 24) (hb_j58 : j58 < 1 + 1) (hb_k : k < 256) : ∀ (n ka : Nat), ka + n = 4 → ∀ (h : ev_H) (hS : SH h) (hF : KM [431, 432, 433] h0 h) (y5 : Int32) (hK : ∀ (h : ev_H) (hS : SH h) (hF : KM [431, 432, 433] h0 h) (kx : Int32) (y5 : Int32), EV xs L (d + 2) 0 0 M_X12_fewest 434 h 125 [some (.ref 420), some (.int (nI j58)), some (.int xf2), some (.int xf3), some (.int (nI k)), some (.int y5), some (.int kx)] [] Q), EV xs L (d + 2) 0 0 M_X12_fewest 434 h 81 [some (.ref 420), some (.int (nI j58)), some (.int xf2), some (.int xf3), some (.int (nI k)), some (.int y5), some (.int (nI ka))] [] Q := by
  intro n
  induction n with
  | zero =>
    intro ka hk h hS hF y5 hK
    refine r_iload rfl dX12_fewest_81 rfl ?_
    refine r_iconst (v := 4) rfl dX12_fewest_83 (by decide) ?_
    refine r_icmp_ge (tgt := 125) rfl rfl dX12_fewest_84 (fun _ => ?_) (fun zc => absurd (show 4 ≤ nI ka from nI_le (a := 4) (b := ka) (by omega) (by omega)) zc)
    exact hK h hS hF (nI ka) y5
  | succ n ih =>
    intro ka hk h hS hF y5 hK
    refine r_iload rfl dX12_fewest_81 rfl ?_
    refine r_iconst (v := 4) rfl dX12_fewest_83 (by decide) ?_
    refine r_icmp_ge (tgt := 125) rfl rfl dX12_fewest_84 (fun zc => absurd zc (show ¬ 4 ≤ nI ka from nI_ge (a := ka) (b := 4) (by omega) (by omega))) (fun _ => ?_)
    refine r_iload rfl dX12_fewest_87 rfl ?_
    have J271 : ∀ v272 : Int32, EV xs L (d + 2) 0 0 M_X12_fewest 434 h 117 [some (.ref 420), some (.int (nI j58)), some (.int xf2), some (.int xf3), some (.int (nI k)), some (.int y5), some (.int (nI ka))] (.int v272 :: []) Q := by
      intro v272
      refine r_istore (ls' := [some (.ref 420), some (.int (nI j58)), some (.int xf2), some (.int xf3), some (.int (nI k)), some (.int v272), some (.int (nI ka))]) rfl dX12_fewest_117 (Nat.le_of_ble_eq_true rfl) rfl ?_
      refine r_iinc (y := nI (ka + 1)) (ls' := [some (.ref 420), some (.int (nI j58)), some (.int xf2), some (.int xf3), some (.int (nI k)), some (.int v272), some (.int (nI (ka + 1)))]) rfl dX12_fewest_119 rfl (nI_1 ka) (Nat.le_of_ble_eq_true rfl) rfl ?_
      refine r_goto (pc' := 81) rfl dX12_fewest_122 ?_
      exact ih (ka + 1) (by omega) h hS hF v272 hK
    refine r_if_eq (tgt := 116) rfl rfl dX12_fewest_89 (fun c273 => ?_) (fun c273 => ?_)
    · refine r_iconst (v := 0) rfl dX12_fewest_116 (by decide) ?_
      exact J271 _
    · refine r_aload_n rfl dX12_fewest_92 rfl ?_
      refine r_getv 23 rfl dX12_fewest_93 (show 2 ≤ 420 ∧ 420 < 434 by decide) ((hF 420 (by decide)).trans h5) fl_X12_48 rfl ?_
      refine r_iload rfl dX12_fewest_96 rfl ?_
      obtain ⟨g274, f275⟩ := hS.la LA_432
      refine r_laldv (jn := ka) (v := g274 ka) rfl dX12_fewest_98 (show 2 ≤ 432 ∧ 432 < 434 by decide) f275 (vp_in_nI (n := ka) (by omega) (by omega)) (nI_clamp (n := ka) (by omega)) rfl ?_
      refine r_aload_n rfl dX12_fewest_99 rfl ?_
      refine r_getv 19 rfl dX12_fewest_100 (show 2 ≤ 420 ∧ 420 < 434 by decide) ((hF 420 (by decide)).trans h5) fl_X12_36 rfl ?_
      refine r_iload rfl dX12_fewest_103 rfl ?_
      obtain ⟨g276, f277⟩ := hS.la LA_428
      refine r_laldv (jn := ka) (v := g276 ka) rfl dX12_fewest_105 (show 2 ≤ 428 ∧ 428 < 434 by decide) f277 (vp_in_nI (n := ka) (by omega) (by omega)) (nI_clamp (n := ka) (by omega)) rfl ?_
      refine r_land rfl dX12_fewest_106 ?_
      refine r_lconst (v := 0) rfl dX12_fewest_107 (by decide) ?_
      refine r_lcmp rfl dX12_fewest_108 ?_
      refine r_if_ne (tgt := 116) rfl rfl dX12_fewest_109 (fun c278 => ?_) (fun c278 => ?_)
      · refine r_iconst (v := 0) rfl dX12_fewest_116 (by decide) ?_
        exact J271 _
      · refine r_iconst (v := 1) rfl dX12_fewest_112 (by decide) ?_
        refine r_goto (pc' := 117) rfl dX12_fewest_113 ?_
        exact J271 _
set_option maxRecDepth 20000 in
set_option maxHeartbeats 1000000 in
theorem lp_X12_fewest_81yb {xs : Nat → Int32} {L d : Nat} {Q : ev_Q} {tr : Int64} {ty nx tk pl va fa ss wg : Int32} {c m : Nat} {j58 : Nat} {xf2 : Int32} {xf3 : Int32} {k : Nat} {h0 : ev_H} (h5 : h0 420 = c420 0 tr ty nx tk pl va fa (nI c) (nI m) ss wg) (hc : c ≤ 16) (hm : m ≤ 24) (hb_j58 : j58 < 1 + 1) (hb_k : k < 256) : ∀ (n ka : Nat), ka + n = 4 → ∀ (h : ev_H) (hS : SH h) (hF : KM [431, 432, 433] h0 h) (y5 : Int32) (hK : ∀ (h : ev_H) (hS : SH h) (hF : KM [431, 432, 433] h0 h) (kx : Int32) (y5 : Int32), EV xs L (d + 2) 0 0 M_X12_fewest 434 h 125 [some (.ref 420), some (.int (nI j58)), some (.int xf2), some (.int xf3), some (.int (nI k)), some (.int y5), some (.int kx)] [] Q), EV xs L (d + 2) 0 0 M_X12_fewest 434 h 81 [some (.ref 420), some (.int (nI j58)), some (.int xf2), some (.int xf3), some (.int (nI k)), some (.int y5), some (.int (nI ka))] [] Q := by
  intro n
  induction n with
  | zero =>
    intro ka hk h hS hF y5 hK
    refine r_iload rfl dX12_fewest_81 rfl ?_
    refine r_iconst (v := 4) rfl dX12_fewest_83 (by decide) ?_
    refine r_icmp_ge (tgt := 125) rfl rfl dX12_fewest_84 (fun _ => ?_) (fun zc => absurd (show 4 ≤ nI ka from nI_le (a := 4) (b := ka) (by omega) (by omega)) zc)
    exact hK h hS hF (nI ka) y5
  | succ n ih =>
    intro ka hk h hS hF y5 hK
    refine r_iload rfl dX12_fewest_81 rfl ?_
    refine r_iconst (v := 4) rfl dX12_fewest_83 (by decide) ?_
    refine r_icmp_ge (tgt := 125) rfl rfl dX12_fewest_84 (fun zc => absurd zc (show ¬ 4 ≤ nI ka from nI_ge (a := ka) (b := 4) (by omega) (by omega))) (fun _ => ?_)
    refine r_iload rfl dX12_fewest_87 rfl ?_
    have J291 : ∀ v292 : Int32, EV xs L (d + 2) 0 0 M_X12_fewest 434 h 117 [some (.ref 420), some (.int (nI j58)), some (.int xf2), some (.int xf3), some (.int (nI k)), some (.int y5), some (.int (nI ka))] (.int v292 :: []) Q := by
      intro v292
      refine r_istore (ls' := [some (.ref 420), some (.int (nI j58)), some (.int xf2), some (.int xf3), some (.int (nI k)), some (.int v292), some (.int (nI ka))]) rfl dX12_fewest_117 (Nat.le_of_ble_eq_true rfl) rfl ?_
      refine r_iinc (y := nI (ka + 1)) (ls' := [some (.ref 420), some (.int (nI j58)), some (.int xf2), some (.int xf3), some (.int (nI k)), some (.int v292), some (.int (nI (ka + 1)))]) rfl dX12_fewest_119 rfl (nI_1 ka) (Nat.le_of_ble_eq_true rfl) rfl ?_
      refine r_goto (pc' := 81) rfl dX12_fewest_122 ?_
      exact ih (ka + 1) (by omega) h hS hF v292 hK
    refine r_if_eq (tgt := 116) rfl rfl dX12_fewest_89 (fun c293 => ?_) (fun c293 => ?_)
    · refine r_iconst (v := 0) rfl dX12_fewest_116 (by decide) ?_
      exact J291 _
    · refine r_aload_n rfl dX12_fewest_92 rfl ?_
      refine r_getv 23 rfl dX12_fewest_93 (show 2 ≤ 420 ∧ 420 < 434 by decide) ((hF 420 (by decide)).trans h5) fl_X12_48 rfl ?_
      refine r_iload rfl dX12_fewest_96 rfl ?_
      obtain ⟨g294, f295⟩ := hS.la LA_432
      refine r_laldv (jn := ka) (v := g294 ka) rfl dX12_fewest_98 (show 2 ≤ 432 ∧ 432 < 434 by decide) f295 (vp_in_nI (n := ka) (by omega) (by omega)) (nI_clamp (n := ka) (by omega)) rfl ?_
      refine r_aload_n rfl dX12_fewest_99 rfl ?_
      refine r_getv 19 rfl dX12_fewest_100 (show 2 ≤ 420 ∧ 420 < 434 by decide) ((hF 420 (by decide)).trans h5) fl_X12_36 rfl ?_
      refine r_iload rfl dX12_fewest_103 rfl ?_
      obtain ⟨g296, f297⟩ := hS.la LA_428
      refine r_laldv (jn := ka) (v := g296 ka) rfl dX12_fewest_105 (show 2 ≤ 428 ∧ 428 < 434 by decide) f297 (vp_in_nI (n := ka) (by omega) (by omega)) (nI_clamp (n := ka) (by omega)) rfl ?_
      refine r_land rfl dX12_fewest_106 ?_
      refine r_lconst (v := 0) rfl dX12_fewest_107 (by decide) ?_
      refine r_lcmp rfl dX12_fewest_108 ?_
      refine r_if_ne (tgt := 116) rfl rfl dX12_fewest_109 (fun c298 => ?_) (fun c298 => ?_)
      · refine r_iconst (v := 0) rfl dX12_fewest_116 (by decide) ?_
        exact J291 _
      · refine r_iconst (v := 1) rfl dX12_fewest_112 (by decide) ?_
        refine r_goto (pc' := 117) rfl dX12_fewest_113 ?_
        exact J291 _
set_option maxRecDepth 20000 in
set_option maxHeartbeats 1000000 in
theorem lp_X12_fewest_27y {xs : Nat → Int32} {L d : Nat} {Q : ev_Q} {tr : Int64} {ty nx tk pl va fa ss wg : Int32} {c m : Nat} {j58 : Nat} {xf2 : Int32} {h0 : ev_H} (h5 : h0 420 = c420 0 tr ty nx tk pl va fa (nI c) (nI m) ss wg) (hc : c ≤ 16) (hm : m ≤ 24) (hb_j58 : j58 < 1 + 1) : ∀ (n k : Nat), k + n = 256 → ∀ (h : ev_H) (hS : SH h) (hF : KM [431, 432, 433] h0 h) (y3 : Int32) (u5 : Option Value) (u6 : Option Value) (hK : ∀ (h : ev_H) (hS : SH h) (hF : KM [431, 432, 433] h0 h) (kx : Int32) (y3 : Int32) (u5 : Option Value) (u6 : Option Value), EV xs L (d + 2) 0 0 M_X12_fewest 434 h 143 [some (.ref 420), some (.int (nI j58)), some (.int xf2), some (.int y3), some (.int kx), u5, u6] [] Q), EV xs L (d + 2) 0 0 M_X12_fewest 434 h 27 [some (.ref 420), some (.int (nI j58)), some (.int xf2), some (.int y3), some (.int (nI k)), u5, u6] [] Q := by
  intro n
  induction n with
  | zero =>
    intro k hk h hS hF y3 u5 u6 hK
    refine r_iload rfl dX12_fewest_27 rfl ?_
    refine r_sipush (v := 256) rfl dX12_fewest_29 (by decide) ?_
    refine r_icmp_ge (tgt := 143) rfl rfl dX12_fewest_32 (fun _ => ?_) (fun zc => absurd (show 256 ≤ nI k from nI_le (a := 256) (b := k) (by omega) (by omega)) zc)
    exact hK h hS hF (nI k) y3 u5 u6
  | succ n ih =>
    intro k hk h hS hF y3 u5 u6 hK
    refine r_iload rfl dX12_fewest_27 rfl ?_
    refine r_sipush (v := 256) rfl dX12_fewest_29 (by decide) ?_
    refine r_icmp_ge (tgt := 143) rfl rfl dX12_fewest_32 (fun zc => absurd zc (show ¬ 256 ≤ nI k from nI_ge (a := k) (b := 256) (by omega) (by omega))) (fun _ => ?_)
    refine r_iload rfl dX12_fewest_35 rfl ?_
    refine r_iload_n rfl dX12_fewest_37 rfl ?_
    refine r_iconst (v := (-1)) rfl dX12_fewest_38 (by decide) ?_
    refine r_ixor rfl dX12_fewest_39 ?_
    refine r_iand rfl dX12_fewest_40 ?_
    refine r_if_ne (tgt := 137) rfl rfl dX12_fewest_41 (fun c165 => ?_) (fun c165 => ?_)
    · refine r_iinc (y := nI (k + 1)) (ls' := [some (.ref 420), some (.int (nI j58)), some (.int xf2), some (.int y3), some (.int (nI (k + 1))), u5, u6]) rfl dX12_fewest_137 rfl (nI_1 k) (Nat.le_of_ble_eq_true rfl) rfl ?_
      refine r_goto (pc' := 27) rfl dX12_fewest_140 ?_
      exact ih (k + 1) (by omega) h hS hF y3 u5 u6 hK
    · refine r_iload_n rfl dX12_fewest_44 rfl ?_
      refine r_bipush (v := (-9)) rfl dX12_fewest_45 (by decide) ?_
      refine r_icmp_eq (tgt := 62) rfl rfl dX12_fewest_47 (fun c166 => ?_) (fun c166 => ?_)
      · refine r_aload_n rfl dX12_fewest_62 rfl ?_
        refine r_getv 18 rfl dX12_fewest_63 (show 2 ≤ 420 ∧ 420 < 434 by decide) ((hF 420 (by decide)).trans h5) fl_X12_33 rfl ?_
        refine r_aload_n rfl dX12_fewest_66 rfl ?_
        refine r_getv 23 rfl dX12_fewest_67 (show 2 ≤ 420 ∧ 420 < 434 by decide) ((hF 420 (by decide)).trans h5) fl_X12_48 rfl ?_
        refine r_iload rfl dX12_fewest_70 rfl ?_
        refine cl_X12_139 rfl rfl dX12_fewest_72 (Nat.le_of_ble_eq_true rfl) (s_X12_spreads hS LA_427 LA_432) ?_
        rintro _ h167 _ ⟨rfl, hS168, hK169, rfl⟩
        have hF170 := KM_tr hF (KM_sb (by decide) hK169)
        refine r_iconst (v := 1) rfl dX12_fewest_75 (by decide) ?_
        refine r_istore (ls' := [some (.ref 420), some (.int (nI j58)), some (.int xf2), some (.int y3), some (.int (nI k)), some (.int 1), u6]) rfl dX12_fewest_76 (Nat.le_of_ble_eq_true rfl) rfl ?_
        refine r_iconst (v := 0) rfl dX12_fewest_78 (by decide) ?_
        refine r_istore (ls' := [some (.ref 420), some (.int (nI j58)), some (.int xf2), some (.int y3), some (.int (nI k)), some (.int 1), some (.int 0)]) rfl dX12_fewest_79 (Nat.le_of_ble_eq_true rfl) rfl ?_
        refine lp_X12_fewest_81y ((hF170 420 (by decide)).trans h5) hc hm hb_j58 (by omega) (4 - 0) 0 (by omega) h167 hS168 (KM_rf _) 1 ?_
        intro h173 hS174 hK175 kx171 w172
        have hF176 := KM_tr hF170 (KM_sb (by decide) hK175)
        refine r_iload rfl dX12_fewest_125 rfl ?_
        have J177 : ∀ v178 : Int32, EV xs L (d + 2) 0 0 M_X12_fewest 434 h173 136 [some (.ref 420), some (.int (nI j58)), some (.int xf2), some (.int y3), some (.int (nI k)), some (.int w172), some (.int kx171)] (.int v178 :: []) Q := by
          intro v178
          refine r_istore_n (ls' := [some (.ref 420), some (.int (nI j58)), some (.int xf2), some (.int v178), some (.int (nI k)), some (.int w172), some (.int kx171)]) rfl dX12_fewest_136 (Nat.le_of_ble_eq_true rfl) rfl ?_
          refine r_iinc (y := nI (k + 1)) (ls' := [some (.ref 420), some (.int (nI j58)), some (.int xf2), some (.int v178), some (.int (nI (k + 1))), some (.int w172), some (.int kx171)]) rfl dX12_fewest_137 rfl (nI_1 k) (Nat.le_of_ble_eq_true rfl) rfl ?_
          refine r_goto (pc' := 27) rfl dX12_fewest_140 ?_
          exact ih (k + 1) (by omega) h173 hS174 hF176 v178 (some (.int w172)) (some (.int kx171)) hK
        refine r_if_eq (tgt := 135) rfl rfl dX12_fewest_127 (fun c179 => ?_) (fun c179 => ?_)
        · refine r_iload_n rfl dX12_fewest_135 rfl ?_
          exact J177 _
        · refine r_iload rfl dX12_fewest_130 rfl ?_
          refine r_goto (pc' := 136) rfl dX12_fewest_132 ?_
          exact J177 _
      · refine r_iload rfl dX12_fewest_50 rfl ?_
        refine cl_X12_177 rfl rfl dX12_fewest_52 (Nat.le_of_ble_eq_true rfl) (s_X12_ones hS) ?_
        rintro _ h180 _ ⟨rfl, e181, x182, rfl⟩
        replace e181 := e181.symm
        subst e181
        refine r_iload_n rfl dX12_fewest_55 rfl ?_
        refine cl_X12_177 rfl rfl dX12_fewest_56 (Nat.le_of_ble_eq_true rfl) (s_X12_ones hS) ?_
        rintro _ h183 _ ⟨rfl, e184, x185, rfl⟩
        replace e184 := e184.symm
        subst e184
        refine r_icmp_ge (tgt := 137) rfl rfl dX12_fewest_59 (fun c186 => ?_) (fun c186 => ?_)
        · refine r_iinc (y := nI (k + 1)) (ls' := [some (.ref 420), some (.int (nI j58)), some (.int xf2), some (.int y3), some (.int (nI (k + 1))), u5, u6]) rfl dX12_fewest_137 rfl (nI_1 k) (Nat.le_of_ble_eq_true rfl) rfl ?_
          refine r_goto (pc' := 27) rfl dX12_fewest_140 ?_
          exact ih (k + 1) (by omega) h hS hF y3 u5 u6 hK
        · refine r_aload_n rfl dX12_fewest_62 rfl ?_
          refine r_getv 18 rfl dX12_fewest_63 (show 2 ≤ 420 ∧ 420 < 434 by decide) ((hF 420 (by decide)).trans h5) fl_X12_33 rfl ?_
          refine r_aload_n rfl dX12_fewest_66 rfl ?_
          refine r_getv 23 rfl dX12_fewest_67 (show 2 ≤ 420 ∧ 420 < 434 by decide) ((hF 420 (by decide)).trans h5) fl_X12_48 rfl ?_
          refine r_iload rfl dX12_fewest_70 rfl ?_
          refine cl_X12_139 rfl rfl dX12_fewest_72 (Nat.le_of_ble_eq_true rfl) (s_X12_spreads hS LA_427 LA_432) ?_
          rintro _ h187 _ ⟨rfl, hS188, hK189, rfl⟩
          have hF190 := KM_tr hF (KM_sb (by decide) hK189)
          refine r_iconst (v := 1) rfl dX12_fewest_75 (by decide) ?_
          refine r_istore (ls' := [some (.ref 420), some (.int (nI j58)), some (.int xf2), some (.int y3), some (.int (nI k)), some (.int 1), u6]) rfl dX12_fewest_76 (Nat.le_of_ble_eq_true rfl) rfl ?_
          refine r_iconst (v := 0) rfl dX12_fewest_78 (by decide) ?_
          refine r_istore (ls' := [some (.ref 420), some (.int (nI j58)), some (.int xf2), some (.int y3), some (.int (nI k)), some (.int 1), some (.int 0)]) rfl dX12_fewest_79 (Nat.le_of_ble_eq_true rfl) rfl ?_
          refine lp_X12_fewest_81yb ((hF190 420 (by decide)).trans h5) hc hm hb_j58 (by omega) (4 - 0) 0 (by omega) h187 hS188 (KM_rf _) 1 ?_
          intro h193 hS194 hK195 kx191 w192
          have hF196 := KM_tr hF190 (KM_sb (by decide) hK195)
          refine r_iload rfl dX12_fewest_125 rfl ?_
          have J197 : ∀ v198 : Int32, EV xs L (d + 2) 0 0 M_X12_fewest 434 h193 136 [some (.ref 420), some (.int (nI j58)), some (.int xf2), some (.int y3), some (.int (nI k)), some (.int w192), some (.int kx191)] (.int v198 :: []) Q := by
            intro v198
            refine r_istore_n (ls' := [some (.ref 420), some (.int (nI j58)), some (.int xf2), some (.int v198), some (.int (nI k)), some (.int w192), some (.int kx191)]) rfl dX12_fewest_136 (Nat.le_of_ble_eq_true rfl) rfl ?_
            refine r_iinc (y := nI (k + 1)) (ls' := [some (.ref 420), some (.int (nI j58)), some (.int xf2), some (.int v198), some (.int (nI (k + 1))), some (.int w192), some (.int kx191)]) rfl dX12_fewest_137 rfl (nI_1 k) (Nat.le_of_ble_eq_true rfl) rfl ?_
            refine r_goto (pc' := 27) rfl dX12_fewest_140 ?_
            exact ih (k + 1) (by omega) h193 hS194 hF196 v198 (some (.int w192)) (some (.int kx191)) hK
          refine r_if_eq (tgt := 135) rfl rfl dX12_fewest_127 (fun c199 => ?_) (fun c199 => ?_)
          · refine r_iload_n rfl dX12_fewest_135 rfl ?_
            exact J197 _
          · refine r_iload rfl dX12_fewest_130 rfl ?_
            refine r_goto (pc' := 136) rfl dX12_fewest_132 ?_
            exact J197 _
set_option maxRecDepth 20000 in
set_option maxHeartbeats 1000000 in
theorem y_X12_fewest {xs : Nat → Int32} {L d : Nat} {h : ev_H} {th : Int32} {tr : Int64} {ty nx tk pl va fa ss wg : Int32} {c m : Nat} {x : Int32} (hS : SH h) (h5 : h 420 = c420 th tr ty nx tk pl va fa (nI c) (nI m) ss wg) (hc : c ≤ 16) (hm : m ≤ 24) : EV xs L (d + 2) 0 0 M_X12_fewest 434 h 0 [some (.ref 420), some (.int x), none, none, none, none, none] [] (fun sz' h' r => sz' = 434 ∧ SH h' ∧ KM [420, 431, 432, 433] h h' ∧ (∃ x : Int32, r = [.int x]) ∧ h' 420 = c420 0 tr ty nx tk pl va fa (nI c) (nI m) ss wg) := by
  refine r_aload_n rfl dX12_fewest_0 rfl ?_
  refine r_iconst (v := 0) rfl dX12_fewest_1 (by decide) ?_
  refine m_put 0 (fs' := [.int 0, .long tr, .ref 421, .int ty, .int nx, .int tk, .int pl, .int va, .int fa, .int (nI c), .int (nI m), .int ss, .int wg, .ref 422, .ref 423, .ref 424, .ref 425, .ref 426, .ref 427, .ref 428, .ref 429, .ref 430, .ref 431, .ref 432, .ref 433]) rfl dX12_fewest_2 hS (KM_rf (Mod := [420, 431, 432, 433]) h) (by decide) h5 (fp_X12_57 rfl _) (Nat.le_of_ble_eq_true rfl) rfl (fun h51 hS52 hF53 f54 => ?_)
  refine r_iload_n rfl dX12_fewest_5 rfl ?_
  refine r_iconst (v := 0) rfl dX12_fewest_6 (by decide) ?_
  refine r_iconst (v := 1) rfl dX12_fewest_7 (by decide) ?_
  refine cl_X12_60 rfl rfl dX12_fewest_8 (Nat.le_of_ble_eq_true rfl) s_X12_in ?_
  rintro _ h55 _ ⟨rfl, e56, rfl⟩
  replace e56 := e56.symm
  subst e56
  refine r_if_ne (tgt := 16) rfl rfl dX12_fewest_11 (fun c57 => ?_) (fun c57 => ?_)
  · obtain ⟨j58, q59, q60, e61⟩ := inR_nat (a := 0) (b := 1) (by omega) c57
    subst e61
    refine r_aload_n rfl dX12_fewest_16 rfl ?_
    refine cl_X12_133 rfl rfl dX12_fewest_17 (show 2 ≤ 420 ∧ 420 < 434 by decide).1 (show 2 ≤ 420 ∧ 420 < 434 by decide).2 f54 (Nat.le_of_ble_eq_true rfl) (s_X12_shared hS52 f54 hc hm) ?_
    rintro _ h62 _ ⟨rfl, e63, x64, rfl⟩
    replace e63 := e63.symm
    subst e63
    refine r_istore_n (ls' := [some (.ref 420), some (.int (nI j58)), some (.int x64), none, none, none, none]) rfl dX12_fewest_20 (Nat.le_of_ble_eq_true rfl) rfl ?_
    refine r_bipush (v := (-9)) rfl dX12_fewest_21 (by decide) ?_
    refine r_istore_n (ls' := [some (.ref 420), some (.int (nI j58)), some (.int x64), some (.int (-9)), none, none, none]) rfl dX12_fewest_23 (Nat.le_of_ble_eq_true rfl) rfl ?_
    refine r_iconst (v := 0) rfl dX12_fewest_24 (by decide) ?_
    refine r_istore (ls' := [some (.ref 420), some (.int (nI j58)), some (.int x64), some (.int (-9)), some (.int 0), none, none]) rfl dX12_fewest_25 (Nat.le_of_ble_eq_true rfl) rfl ?_
    refine lp_X12_fewest_27y f54 hc hm (by omega) (256 - 0) 0 (by omega) h51 hS52 (KM_rf _) (-9) none none ?_
    intro h69 hS70 hK71 kx65 w66 w67 w68
    have hF72 := KM_tr hF53 (KM_sb (by decide) hK71)
    have f73 : h69 420 = c420 0 tr ty nx tk pl va fa (nI c) (nI m) ss wg := (hK71 420 (by decide)).trans f54
    refine r_iload_n rfl dX12_fewest_143 rfl ?_
    refine r_bipush (v := (-9)) rfl dX12_fewest_144 (by decide) ?_
    refine r_icmp_eq (tgt := 154) rfl rfl dX12_fewest_146 (fun c74 => ?_) (fun c74 => ?_)
    · refine r_iload_n rfl dX12_fewest_154 rfl ?_
      refine r_goto (pc' := 162) rfl dX12_fewest_155 ?_
      exact r_ret dX12_fewest_162 (rt_i rfl) ⟨rfl, hS70, hF72, ⟨_, rfl⟩, f73⟩
    · refine r_iload_n rfl dX12_fewest_149 rfl ?_
      refine r_iconst (v := 1) rfl dX12_fewest_150 (by decide) ?_
      refine r_icmp_ne (tgt := 158) rfl rfl dX12_fewest_151 (fun c75 => ?_) (fun c75 => ?_)
      · have q76 : ¬ j58 = 1 := (not_congr (nI_eq (a := j58) (b := 1)  (by omega) (by omega))).mp c75
        refine r_iload_n rfl dX12_fewest_158 rfl ?_
        refine cl_X12_177 rfl rfl dX12_fewest_159 (Nat.le_of_ble_eq_true rfl) (s_X12_ones hS70) ?_
        rintro _ h77 _ ⟨rfl, e78, x79, rfl⟩
        replace e78 := e78.symm
        subst e78
        exact r_ret dX12_fewest_162 (rt_i rfl) ⟨rfl, hS70, hF72, ⟨_, rfl⟩, f73⟩
      · have q80 : j58 = 1 := (nI_eq (a := j58) (b := 1) (by omega) (by omega)).mp c75
        refine r_iload_n rfl dX12_fewest_154 rfl ?_
        refine r_goto (pc' := 162) rfl dX12_fewest_155 ?_
        exact r_ret dX12_fewest_162 (rt_i rfl) ⟨rfl, hS70, hF72, ⟨_, rfl⟩, f73⟩
  · refine r_iconst (v := (-1)) rfl dX12_fewest_14 (by decide) ?_
    exact r_ret dX12_fewest_15 (rt_i rfl) ⟨rfl, hS52, hF53, ⟨_, rfl⟩, f54⟩
set_option maxRecDepth 20000 in
set_option maxHeartbeats 1000000 in
theorem lp_X12_used_26y {xs : Nat → Int32} {L d : Nat} {Q : ev_Q} {tr : Int64} {ty nx tk pl va fa ss wg : Int32} {c m : Nat} {j58 : Nat} {h0 : ev_H} (h5 : h0 420 = c420 0 tr ty nx tk pl va fa (nI c) (nI m) ss wg) (hc : c ≤ 16) (hm : m ≤ 24) (hb_j58 : j58 < c + m) : ∀ (n : Nat) (kx : Int32), kx = nI (0 + n) - 1 → 0 + n ≤ 40 → ∀ (h : ev_H) (hS : SH h) (hF : KM [431, 432, 433] h0 h) (y2 : Int64) (hK : ∀ (h : ev_H) (hS : SH h) (hF : KM [431, 432, 433] h0 h) (kx : Int32) (y2 : Int64), EV xs L (d + 1) 0 0 M_X12_used 434 h 88 [some (.ref 420), some (.int (nI j58)), some (.long y2), none, some (.int kx)] [] Q), EV xs L (d + 1) 0 0 M_X12_used 434 h 26 [some (.ref 420), some (.int (nI j58)), some (.long y2), none, some (.int kx)] [] Q := by
  intro n
  induction n with
  | zero =>
    intro kx hk hub h hS hF y2 hK
    replace hk : kx = nI 0 - 1 := hk
    refine r_iload rfl dX12_used_26 rfl ?_
    refine r_aload_n rfl dX12_used_28 rfl ?_
    refine r_getv 9 rfl dX12_used_29 (show 2 ≤ 420 ∧ 420 < 434 by decide) ((hF 420 (by decide)).trans h5) fl_X12_112 rfl ?_
    refine r_icmp_lt (tgt := 88) rfl rfl dX12_used_32 (fun _ => ?_) (fun zc => absurd (show kx < (nI c) from by rw [hk]; exact nI_m1 (by omega)) zc)
    exact hK h hS hF kx y2
  | succ n ih =>
    intro kx hk hub h hS hF y2 hK
    obtain rfl : kx = nI (0 + n) := by rw [hk, show 0 + (n + 1) = 0 + n + 1 by omega]; exact nI_pred (0 + n)
    refine r_iload rfl dX12_used_26 rfl ?_
    refine r_aload_n rfl dX12_used_28 rfl ?_
    refine r_getv 9 rfl dX12_used_29 (show 2 ≤ 420 ∧ 420 < 434 by decide) ((hF 420 (by decide)).trans h5) fl_X12_112 rfl ?_
    refine r_icmp_lt (tgt := 88) rfl rfl dX12_used_32 (fun c163 => ?_) (fun c163 => ?_)
    · have q164 : (0 + n) < c := (nI_ltI (a := 0 + n) (b := c) (by omega) (by omega)).mp c163
      exact hK h hS hF (nI (0 + n)) y2
    · have q165 : ¬ (0 + n) < c := fun z => c163 ((nI_ltI (a := 0 + n) (b := c) (by omega) (by omega)).mpr z)
      refine r_lload_n rfl dX12_used_35 rfl ?_
      refine r_lload_n rfl dX12_used_36 rfl ?_
      refine r_iload rfl dX12_used_37 rfl ?_
      refine r_lshr rfl dX12_used_39 ?_
      refine r_lconst (v := 1) rfl dX12_used_40 (by decide) ?_
      refine r_land rfl dX12_used_41 ?_
      refine r_lconst (v := 1) rfl dX12_used_42 (by decide) ?_
      refine r_lcmp rfl dX12_used_43 ?_
      have J166 : ∀ v167 : Int64, EV xs L (d + 1) 0 0 M_X12_used 434 h 80 [some (.ref 420), some (.int (nI j58)), some (.long y2), none, some (.int (nI (0 + n)))] (.long v167 :: .long y2 :: []) Q := by
        intro v167
        refine r_lor rfl dX12_used_80 ?_
        refine r_topl (fun x168 e169 => ?_)
        refine r_lstore_n (ls' := [some (.ref 420), some (.int (nI j58)), some (.long x168), none, some (.int (nI (0 + n)))]) rfl dX12_used_81 (Nat.le_of_ble_eq_true rfl) rfl ?_
        obtain ⟨x170, e171⟩ : ∃ z : Int32, z = (nI (0 + n)) + Int32.ofInt (-1) := ⟨_, rfl⟩
        refine r_iinc (y := x170) (ls' := [some (.ref 420), some (.int (nI j58)), some (.long x168), none, some (.int x170)]) rfl dX12_used_82 rfl e171.symm (Nat.le_of_ble_eq_true rfl) rfl ?_
        refine r_goto (pc' := 26) rfl dX12_used_85 ?_
        exact ih x170 (by rw [e171, Int32.sub_eq_add_neg]; rfl) (by omega) h hS hF x168 hK
      refine r_if_ne (tgt := 79) rfl rfl dX12_used_44 (fun c172 => ?_) (fun c172 => ?_)
      · refine r_lconst (v := 0) rfl dX12_used_79 (by decide) ?_
        exact J166 _
      · refine r_lconst (v := 1) rfl dX12_used_47 (by decide) ?_
        refine r_aload_n rfl dX12_used_48 rfl ?_
        refine r_getv 13 rfl dX12_used_49 (show 2 ≤ 420 ∧ 420 < 434 by decide) ((hF 420 (by decide)).trans h5) fl_X12_17 rfl ?_
        refine r_bipush (v := 6) rfl dX12_used_52 (by decide) ?_
        refine r_iload rfl dX12_used_54 rfl ?_
        refine r_imul rfl dX12_used_56 ?_
        refine r_eqi (y := nI (6 * (0 + n))) (show 6 * (nI (0 + n)) = nI (6 * (0 + n)) from pk_mul 6 (0 + n)) ?_
        refine r_iconst (v := 3) rfl dX12_used_57 (by decide) ?_
        refine r_iadd rfl dX12_used_58 ?_
        refine r_eqi (y := nI ((6 * (0 + n)) + 3)) (show (nI (6 * (0 + n))) + 3 = nI ((6 * (0 + n)) + 3) from nI_add (6 * (0 + n)) 3) ?_
        obtain ⟨g173, f174⟩ := hS.li LI_422
        refine r_ialdv (jn := (6 * (0 + n)) + 3) (v := g173 ((6 * (0 + n)) + 3)) rfl dX12_used_59 (show 2 ≤ 422 ∧ 422 < 434 by decide) f174 (vp_in_nI (n := (6 * (0 + n)) + 3) (by omega) (by omega)) (nI_clamp (n := (6 * (0 + n)) + 3) (by omega)) rfl ?_
        refine r_lshl rfl dX12_used_60 ?_
        refine r_lconst (v := 1) rfl dX12_used_61 (by decide) ?_
        refine r_aload_n rfl dX12_used_62 rfl ?_
        refine r_getv 13 rfl dX12_used_63 (show 2 ≤ 420 ∧ 420 < 434 by decide) ((hF 420 (by decide)).trans h5) fl_X12_17 rfl ?_
        refine r_bipush (v := 6) rfl dX12_used_66 (by decide) ?_
        refine r_iload rfl dX12_used_68 rfl ?_
        refine r_imul rfl dX12_used_70 ?_
        refine r_eqi (y := nI (6 * (0 + n))) (show 6 * (nI (0 + n)) = nI (6 * (0 + n)) from pk_mul 6 (0 + n)) ?_
        refine r_iconst (v := 4) rfl dX12_used_71 (by decide) ?_
        refine r_iadd rfl dX12_used_72 ?_
        refine r_eqi (y := nI ((6 * (0 + n)) + 4)) (show (nI (6 * (0 + n))) + 4 = nI ((6 * (0 + n)) + 4) from nI_add (6 * (0 + n)) 4) ?_
        obtain ⟨g175, f176⟩ := hS.li LI_422
        refine r_ialdv (jn := (6 * (0 + n)) + 4) (v := g175 ((6 * (0 + n)) + 4)) rfl dX12_used_73 (show 2 ≤ 422 ∧ 422 < 434 by decide) f176 (vp_in_nI (n := (6 * (0 + n)) + 4) (by omega) (by omega)) (nI_clamp (n := (6 * (0 + n)) + 4) (by omega)) rfl ?_
        refine r_lshl rfl dX12_used_74 ?_
        refine r_lor rfl dX12_used_75 ?_
        refine r_goto (pc' := 80) rfl dX12_used_76 ?_
        exact J166 _
set_option maxRecDepth 20000 in
set_option maxHeartbeats 1000000 in
theorem y_X12_used {xs : Nat → Int32} {L d : Nat} {h : ev_H} {th : Int32} {tr : Int64} {ty nx tk pl va fa ss wg : Int32} {c m : Nat} (hS : SH h) (h5 : h 420 = c420 th tr ty nx tk pl va fa (nI c) (nI m) ss wg) (hc : c ≤ 16) (hm : m ≤ 24) : EV xs L (d + 1) 0 0 M_X12_used 434 h 0 [some (.ref 420), none, none, none, none] [] (fun sz' h' r => sz' = 434 ∧ SH h' ∧ KM [420, 431, 432, 433] h h' ∧ (∃ x : Int32, r = [.int x]) ∧ h' 420 = c420 0 tr ty nx tk pl va fa (nI c) (nI m) ss wg) := by
  refine r_aload_n rfl dX12_used_0 rfl ?_
  refine r_iconst (v := 0) rfl dX12_used_1 (by decide) ?_
  refine m_put 0 (fs' := [.int 0, .long tr, .ref 421, .int ty, .int nx, .int tk, .int pl, .int va, .int fa, .int (nI c), .int (nI m), .int ss, .int wg, .ref 422, .ref 423, .ref 424, .ref 425, .ref 426, .ref 427, .ref 428, .ref 429, .ref 430, .ref 431, .ref 432, .ref 433]) rfl dX12_used_2 hS (KM_rf (Mod := [420, 431, 432, 433]) h) (by decide) h5 (fp_X12_57 rfl _) (Nat.le_of_ble_eq_true rfl) rfl (fun h51 hS52 hF53 f54 => ?_)
  refine r_aload_n rfl dX12_used_5 rfl ?_
  refine cl_X12_154 rfl rfl dX12_used_6 (show 2 ≤ 420 ∧ 420 < 434 by decide).1 (show 2 ≤ 420 ∧ 420 < 434 by decide).2 f54 (Nat.le_of_ble_eq_true rfl) (s_X12_ending hS52 f54 hc hm) ?_
  rintro _ h55 _ ⟨rfl, e56, H57⟩
  replace e56 := e56.symm
  subst e56
  rcases H57 with rfl | ⟨j58, q59, rfl⟩
  · refine r_istore_n (ls' := [some (.ref 420), some (.int (-9)), none, none, none]) rfl dX12_used_9 (Nat.le_of_ble_eq_true rfl) rfl ?_
    refine r_iload_n rfl dX12_used_10 rfl ?_
    refine r_bipush (v := (-9)) rfl dX12_used_11 (by decide) ?_
    refine r_icmp_ne (tgt := 19) rfl rfl dX12_used_13 (fun zc => absurd zc (by decide)) (fun _ => ?_)
    refine r_bipush (v := (-2)) rfl dX12_used_16 (by decide) ?_
    exact r_ret dX12_used_18 (rt_i rfl) ⟨rfl, hS52, hF53, ⟨_, rfl⟩, f54⟩
  · refine r_istore_n (ls' := [some (.ref 420), some (.int (nI j58)), none, none, none]) rfl dX12_used_9 (Nat.le_of_ble_eq_true rfl) rfl ?_
    refine r_iload_n rfl dX12_used_10 rfl ?_
    refine r_bipush (v := (-9)) rfl dX12_used_11 (by decide) ?_
    refine r_icmp_ne (tgt := 19) rfl rfl dX12_used_13 (fun c60 => ?_) (fun c60 => ?_)
    · refine r_lconst (v := 1) rfl dX12_used_19 (by decide) ?_
      refine r_iload_n rfl dX12_used_20 rfl ?_
      refine r_lshl rfl dX12_used_21 ?_
      refine r_topl (fun x61 e62 => ?_)
      refine r_lstore_n (ls' := [some (.ref 420), some (.int (nI j58)), some (.long x61), none, none]) rfl dX12_used_22 (Nat.le_of_ble_eq_true rfl) rfl ?_
      refine r_iload_n rfl dX12_used_23 rfl ?_
      refine r_istore (ls' := [some (.ref 420), some (.int (nI j58)), some (.long x61), none, some (.int (nI j58))]) rfl dX12_used_24 (Nat.le_of_ble_eq_true rfl) rfl ?_
      refine lp_X12_used_26y f54 hc hm (by omega) (j58 + 1 - 0) (nI j58) (by rw [show 0 + (j58 + 1 - 0) = j58 + 1 by omega]; exact (nI_pred j58).symm) (by omega) h51 hS52 (KM_rf _) x61 ?_
      intro h65 hS66 hK67 kx63 w64
      have hF68 := KM_tr hF53 (KM_sb (by decide) hK67)
      have f69 : h65 420 = c420 0 tr ty nx tk pl va fa (nI c) (nI m) ss wg := (hK67 420 (by decide)).trans f54
      refine r_lload_n rfl dX12_used_88 rfl ?_
      refine r_lconst (v := 1) rfl dX12_used_89 (by decide) ?_
      refine r_aload_n rfl dX12_used_90 rfl ?_
      refine r_getv 9 rfl dX12_used_91 (show 2 ≤ 420 ∧ 420 < 434 by decide) f69 fl_X12_112 rfl ?_
      refine r_lshl rfl dX12_used_94 ?_
      refine r_lconst (v := 1) rfl dX12_used_95 (by decide) ?_
      refine r_lsub rfl dX12_used_96 ?_
      refine r_land rfl dX12_used_97 ?_
      refine r_l2i rfl dX12_used_98 ?_
      exact r_ret dX12_used_99 (rt_i rfl) ⟨rfl, hS66, hF68, ⟨_, rfl⟩, f69⟩
    · refine r_bipush (v := (-2)) rfl dX12_used_16 (by decide) ?_
      exact r_ret dX12_used_18 (rt_i rfl) ⟨rfl, hS52, hF53, ⟨_, rfl⟩, f54⟩
set_option maxRecDepth 20000 in
set_option maxHeartbeats 1000000 in
theorem lp_X12_needed_36y {xs : Nat → Int32} {L d : Nat} {Q : ev_Q} {tr : Int64} {ty nx tk pl va fa ss wg : Int32} {c m : Nat} {j58 : Nat} {h0 : ev_H} (h5 : h0 420 = c420 0 tr ty nx tk pl va fa (nI c) (nI m) ss wg) (hc : c ≤ 16) (hm : m ≤ 24) (hsh : sh1 c ≤ 65536) (hb_j58 : j58 < 1 + 1) : ∀ (n k : Nat), k + n = (sh1 c) → ∀ (h : ev_H) (hS : SH h) (hF : KM [431, 432, 433] h0 h) (y2 : Int32) (hK : ∀ (h : ev_H) (hS : SH h) (hF : KM [431, 432, 433] h0 h) (kx : Int32) (y2 : Int32), EV xs L (d + 1) 0 0 M_X12_needed 434 h 79 [some (.ref 420), some (.int (nI j58)), some (.int y2), some (.int kx)] [] Q), EV xs L (d + 1) 0 0 M_X12_needed 434 h 36 [some (.ref 420), some (.int (nI j58)), some (.int y2), some (.int (nI k))] [] Q := by
  intro n
  induction n with
  | zero =>
    intro k hk h hS hF y2 hK
    refine r_iload_n rfl dX12_needed_36 rfl ?_
    refine r_iconst (v := 1) rfl dX12_needed_37 (by decide) ?_
    refine r_aload_n rfl dX12_needed_38 rfl ?_
    refine r_getv 9 rfl dX12_needed_39 (show 2 ≤ 420 ∧ 420 < 434 by decide) ((hF 420 (by decide)).trans h5) fl_X12_112 rfl ?_
    refine r_ishl rfl dX12_needed_42 ?_
    refine r_eqi (y := nI (sh1 c)) (show 1 <<< ((nI c) &&& 31) = nI (sh1 c) from sh1_e (c := c) (by omega)) ?_
    refine r_icmp_ge (tgt := 79) rfl rfl dX12_needed_43 (fun _ => ?_) (fun zc => absurd (show (nI (sh1 c)) ≤ nI k from nI_le (a := sh1 c) (b := k) (by omega) (by omega)) zc)
    exact hK h hS hF (nI k) y2
  | succ n ih =>
    intro k hk h hS hF y2 hK
    refine r_iload_n rfl dX12_needed_36 rfl ?_
    refine r_iconst (v := 1) rfl dX12_needed_37 (by decide) ?_
    refine r_aload_n rfl dX12_needed_38 rfl ?_
    refine r_getv 9 rfl dX12_needed_39 (show 2 ≤ 420 ∧ 420 < 434 by decide) ((hF 420 (by decide)).trans h5) fl_X12_112 rfl ?_
    refine r_ishl rfl dX12_needed_42 ?_
    refine r_eqi (y := nI (sh1 c)) (show 1 <<< ((nI c) &&& 31) = nI (sh1 c) from sh1_e (c := c) (by omega)) ?_
    refine r_icmp_ge (tgt := 79) rfl rfl dX12_needed_43 (fun zc => absurd zc (show ¬ (nI (sh1 c)) ≤ nI k from nI_ge (a := k) (b := sh1 c) (by omega) (by omega))) (fun _ => ?_)
    refine r_iload_n rfl dX12_needed_46 rfl ?_
    refine r_bipush (v := (-9)) rfl dX12_needed_47 (by decide) ?_
    refine r_icmp_eq (tgt := 63) rfl rfl dX12_needed_49 (fun c167 => ?_) (fun c167 => ?_)
    · refine r_aload_n rfl dX12_needed_63 rfl ?_
      refine r_iload_n rfl dX12_needed_64 rfl ?_
      refine cl_X12_180 rfl rfl dX12_needed_65 (show 2 ≤ 420 ∧ 420 < 434 by decide).1 (show 2 ≤ 420 ∧ 420 < 434 by decide).2 ((hF 420 (by decide)).trans h5) (Nat.le_of_ble_eq_true rfl) (s_X12_clash hS ((hF 420 (by decide)).trans h5) hc hm) ?_
      rintro _ h168 _ ⟨rfl, e169, x170, z171, rfl⟩
      replace e169 := e169.symm
      subst e169
      refine r_if_eq (tgt := 73) rfl rfl dX12_needed_68 (fun c172 => ?_) (fun c172 => ?_)
      · refine r_iinc (y := nI (k + 1)) (ls' := [some (.ref 420), some (.int (nI j58)), some (.int y2), some (.int (nI (k + 1)))]) rfl dX12_needed_73 rfl (nI_1 k) (Nat.le_of_ble_eq_true rfl) rfl ?_
        refine r_goto (pc' := 36) rfl dX12_needed_76 ?_
        exact ih (k + 1) (by omega) h hS hF y2 hK
      · refine r_iload_n rfl dX12_needed_71 rfl ?_
        refine r_istore_n (ls' := [some (.ref 420), some (.int (nI j58)), some (.int (nI k)), some (.int (nI k))]) rfl dX12_needed_72 (Nat.le_of_ble_eq_true rfl) rfl ?_
        refine r_iinc (y := nI (k + 1)) (ls' := [some (.ref 420), some (.int (nI j58)), some (.int (nI k)), some (.int (nI (k + 1)))]) rfl dX12_needed_73 rfl (nI_1 k) (Nat.le_of_ble_eq_true rfl) rfl ?_
        refine r_goto (pc' := 36) rfl dX12_needed_76 ?_
        exact ih (k + 1) (by omega) h hS hF (nI k) hK
    · refine r_iload_n rfl dX12_needed_52 rfl ?_
      refine cl_X12_177 rfl rfl dX12_needed_53 (Nat.le_of_ble_eq_true rfl) (s_X12_ones hS) ?_
      rintro _ h173 _ ⟨rfl, e174, x175, rfl⟩
      replace e174 := e174.symm
      subst e174
      refine r_iload_n rfl dX12_needed_56 rfl ?_
      refine cl_X12_177 rfl rfl dX12_needed_57 (Nat.le_of_ble_eq_true rfl) (s_X12_ones hS) ?_
      rintro _ h176 _ ⟨rfl, e177, x178, rfl⟩
      replace e177 := e177.symm
      subst e177
      refine r_icmp_ge (tgt := 73) rfl rfl dX12_needed_60 (fun c179 => ?_) (fun c179 => ?_)
      · refine r_iinc (y := nI (k + 1)) (ls' := [some (.ref 420), some (.int (nI j58)), some (.int y2), some (.int (nI (k + 1)))]) rfl dX12_needed_73 rfl (nI_1 k) (Nat.le_of_ble_eq_true rfl) rfl ?_
        refine r_goto (pc' := 36) rfl dX12_needed_76 ?_
        exact ih (k + 1) (by omega) h hS hF y2 hK
      · refine r_aload_n rfl dX12_needed_63 rfl ?_
        refine r_iload_n rfl dX12_needed_64 rfl ?_
        refine cl_X12_180 rfl rfl dX12_needed_65 (show 2 ≤ 420 ∧ 420 < 434 by decide).1 (show 2 ≤ 420 ∧ 420 < 434 by decide).2 ((hF 420 (by decide)).trans h5) (Nat.le_of_ble_eq_true rfl) (s_X12_clash hS ((hF 420 (by decide)).trans h5) hc hm) ?_
        rintro _ h180 _ ⟨rfl, e181, x182, z183, rfl⟩
        replace e181 := e181.symm
        subst e181
        refine r_if_eq (tgt := 73) rfl rfl dX12_needed_68 (fun c184 => ?_) (fun c184 => ?_)
        · refine r_iinc (y := nI (k + 1)) (ls' := [some (.ref 420), some (.int (nI j58)), some (.int y2), some (.int (nI (k + 1)))]) rfl dX12_needed_73 rfl (nI_1 k) (Nat.le_of_ble_eq_true rfl) rfl ?_
          refine r_goto (pc' := 36) rfl dX12_needed_76 ?_
          exact ih (k + 1) (by omega) h hS hF y2 hK
        · refine r_iload_n rfl dX12_needed_71 rfl ?_
          refine r_istore_n (ls' := [some (.ref 420), some (.int (nI j58)), some (.int (nI k)), some (.int (nI k))]) rfl dX12_needed_72 (Nat.le_of_ble_eq_true rfl) rfl ?_
          refine r_iinc (y := nI (k + 1)) (ls' := [some (.ref 420), some (.int (nI j58)), some (.int (nI k)), some (.int (nI (k + 1)))]) rfl dX12_needed_73 rfl (nI_1 k) (Nat.le_of_ble_eq_true rfl) rfl ?_
          refine r_goto (pc' := 36) rfl dX12_needed_76 ?_
          exact ih (k + 1) (by omega) h hS hF (nI k) hK
set_option maxRecDepth 20000 in
set_option maxHeartbeats 1000000 in
theorem y_X12_needed {xs : Nat → Int32} {L d : Nat} {h : ev_H} {th : Int32} {tr : Int64} {ty nx tk pl va fa ss wg : Int32} {c m : Nat} {x : Int32} (hS : SH h) (h5 : h 420 = c420 th tr ty nx tk pl va fa (nI c) (nI m) ss wg) (hc : c ≤ 16) (hm : m ≤ 24) (hsh : sh1 c ≤ 65536) : EV xs L (d + 1) 0 0 M_X12_needed 434 h 0 [some (.ref 420), some (.int x), none, none] [] (fun sz' h' r => sz' = 434 ∧ SH h' ∧ KM [420, 431, 432, 433] h h' ∧ (∃ x : Int32, r = [.int x]) ∧ h' 420 = c420 0 tr ty nx tk pl va fa (nI c) (nI m) ss wg) := by
  refine r_aload_n rfl dX12_needed_0 rfl ?_
  refine r_iconst (v := 0) rfl dX12_needed_1 (by decide) ?_
  refine m_put 0 (fs' := [.int 0, .long tr, .ref 421, .int ty, .int nx, .int tk, .int pl, .int va, .int fa, .int (nI c), .int (nI m), .int ss, .int wg, .ref 422, .ref 423, .ref 424, .ref 425, .ref 426, .ref 427, .ref 428, .ref 429, .ref 430, .ref 431, .ref 432, .ref 433]) rfl dX12_needed_2 hS (KM_rf (Mod := [420, 431, 432, 433]) h) (by decide) h5 (fp_X12_57 rfl _) (Nat.le_of_ble_eq_true rfl) rfl (fun h51 hS52 hF53 f54 => ?_)
  refine r_iload_n rfl dX12_needed_5 rfl ?_
  refine r_iconst (v := 0) rfl dX12_needed_6 (by decide) ?_
  refine r_iconst (v := 1) rfl dX12_needed_7 (by decide) ?_
  refine cl_X12_60 rfl rfl dX12_needed_8 (Nat.le_of_ble_eq_true rfl) s_X12_in ?_
  rintro _ h55 _ ⟨rfl, e56, rfl⟩
  replace e56 := e56.symm
  subst e56
  refine r_if_ne (tgt := 16) rfl rfl dX12_needed_11 (fun c57 => ?_) (fun c57 => ?_)
  · obtain ⟨j58, q59, q60, e61⟩ := inR_nat (a := 0) (b := 1) (by omega) c57
    subst e61
    refine r_bipush (v := (-9)) rfl dX12_needed_16 (by decide) ?_
    refine r_istore_n (ls' := [some (.ref 420), some (.int (nI j58)), some (.int (-9)), none]) rfl dX12_needed_18 (Nat.le_of_ble_eq_true rfl) rfl ?_
    refine r_aload_n rfl dX12_needed_19 rfl ?_
    refine r_iconst (v := 1) rfl dX12_needed_20 (by decide) ?_
    refine r_aload_n rfl dX12_needed_21 rfl ?_
    refine r_getv 9 rfl dX12_needed_22 (show 2 ≤ 420 ∧ 420 < 434 by decide) f54 fl_X12_112 rfl ?_
    refine r_ishl rfl dX12_needed_25 ?_
    refine r_eqi (y := nI (sh1 c)) (show 1 <<< ((nI c) &&& 31) = nI (sh1 c) from sh1_e (c := c) (by omega)) ?_
    refine r_iconst (v := 1) rfl dX12_needed_26 (by decide) ?_
    refine r_isub rfl dX12_needed_27 ?_
    refine cl_X12_180 rfl rfl dX12_needed_28 (show 2 ≤ 420 ∧ 420 < 434 by decide).1 (show 2 ≤ 420 ∧ 420 < 434 by decide).2 f54 (Nat.le_of_ble_eq_true rfl) (s_X12_clash hS52 f54 hc hm) ?_
    rintro _ h62 _ ⟨rfl, e63, x64, z65, rfl⟩
    replace e63 := e63.symm
    subst e63
    refine r_if_eq (tgt := 79) rfl rfl dX12_needed_31 (fun c66 => ?_) (fun c66 => ?_)
    · refine r_iload_n rfl dX12_needed_79 rfl ?_
      refine r_bipush (v := (-9)) rfl dX12_needed_80 (by decide) ?_
      refine r_icmp_eq (tgt := 90) rfl rfl dX12_needed_82 (fun _ => ?_) (fun zc => absurd zc (by decide))
      refine r_iload_n rfl dX12_needed_90 rfl ?_
      refine r_goto (pc' := 98) rfl dX12_needed_91 ?_
      exact r_ret dX12_needed_98 (rt_i rfl) ⟨rfl, hS52, hF53, ⟨_, rfl⟩, f54⟩
    · refine r_iconst (v := 0) rfl dX12_needed_34 (by decide) ?_
      refine r_istore_n (ls' := [some (.ref 420), some (.int (nI j58)), some (.int (-9)), some (.int 0)]) rfl dX12_needed_35 (Nat.le_of_ble_eq_true rfl) rfl ?_
      refine lp_X12_needed_36y f54 hc hm hsh (by omega) (sh1 c - 0) 0 (by omega) h51 hS52 (KM_rf _) (-9) ?_
      intro h69 hS70 hK71 kx67 w68
      have hF72 := KM_tr hF53 (KM_sb (by decide) hK71)
      have f73 : h69 420 = c420 0 tr ty nx tk pl va fa (nI c) (nI m) ss wg := (hK71 420 (by decide)).trans f54
      refine r_iload_n rfl dX12_needed_79 rfl ?_
      refine r_bipush (v := (-9)) rfl dX12_needed_80 (by decide) ?_
      refine r_icmp_eq (tgt := 90) rfl rfl dX12_needed_82 (fun c74 => ?_) (fun c74 => ?_)
      · refine r_iload_n rfl dX12_needed_90 rfl ?_
        refine r_goto (pc' := 98) rfl dX12_needed_91 ?_
        exact r_ret dX12_needed_98 (rt_i rfl) ⟨rfl, hS70, hF72, ⟨_, rfl⟩, f73⟩
      · refine r_iload_n rfl dX12_needed_85 rfl ?_
        refine r_iconst (v := 1) rfl dX12_needed_86 (by decide) ?_
        refine r_icmp_ne (tgt := 94) rfl rfl dX12_needed_87 (fun c75 => ?_) (fun c75 => ?_)
        · have q76 : ¬ j58 = 1 := (not_congr (nI_eq (a := j58) (b := 1)  (by omega) (by omega))).mp c75
          refine r_iload_n rfl dX12_needed_94 rfl ?_
          refine cl_X12_177 rfl rfl dX12_needed_95 (Nat.le_of_ble_eq_true rfl) (s_X12_ones hS70) ?_
          rintro _ h77 _ ⟨rfl, e78, x79, rfl⟩
          replace e78 := e78.symm
          subst e78
          exact r_ret dX12_needed_98 (rt_i rfl) ⟨rfl, hS70, hF72, ⟨_, rfl⟩, f73⟩
        · have q80 : j58 = 1 := (nI_eq (a := j58) (b := 1) (by omega) (by omega)).mp c75
          refine r_iload_n rfl dX12_needed_90 rfl ?_
          refine r_goto (pc' := 98) rfl dX12_needed_91 ?_
          exact r_ret dX12_needed_98 (rt_i rfl) ⟨rfl, hS70, hF72, ⟨_, rfl⟩, f73⟩
  · refine r_iconst (v := (-1)) rfl dX12_needed_14 (by decide) ?_
    exact r_ret dX12_needed_15 (rt_i rfl) ⟨rfl, hS52, hF53, ⟨_, rfl⟩, f54⟩
