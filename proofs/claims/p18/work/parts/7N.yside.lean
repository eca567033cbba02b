/-- LETTERS of a side, as the reference gathers them -/
def ltM (G : Nat → Int32) (x : Int32) : Nat → Int32
  | 0 => 0
  | k + 1 => if G (6 * k + 2) = x then ltM G x k ||| (G (6 * k) ||| G (6 * k + 1)) else ltM G x k ||| 0
set_option maxRecDepth 20000 in
set_option maxHeartbeats 1000000 in
theorem y_lo_z {xs : Nat → Int32} {L d : Nat} {h : ev_H} {th : Int32} {tr : Int64} {ty nx tk pl va fa ss wg : Int32} {c m : Nat} {i : Nat} {x : Int32} {G : Nat → Int32} (hS : SH h) (h5 : h 420 = c420 th tr ty nx tk pl va fa (nI c) (nI m) ss wg) (hc : c ≤ 16) (hm : m ≤ 24) (h22 : h 422 = cI 240 G) (hi : i = c) : EV xs L (d + 0) 0 0 M_X12_lettersOf 434 h 4 [some (.ref 420), some (.int x), some (.int (ltM G x i)), some (.int (nI i))] [] (fun sz' h' r => sz' = 434 ∧ h' = h ∧ r = [.int (ltM G x c)]) := by
  refine r_iload_n rfl dX12_lettersOf_4 rfl ?_
  refine r_aload_n rfl dX12_lettersOf_5 rfl ?_
  refine r_getv 9 rfl dX12_lettersOf_6 (show 2 ≤ 420 ∧ 420 < 434 by decide) h5 fl_X12_112 rfl ?_
  refine r_icmp_ge (tgt := 61) rfl rfl dX12_lettersOf_9 (fun _ => ?_) (fun zc => absurd (show nI c ≤ nI i from nI_le (a := c) (b := i) (by omega) (by omega)) zc)
  refine r_iload_n rfl dX12_lettersOf_61 rfl ?_
  subst hi
  exact r_ret dX12_lettersOf_62 (rt_i rfl) ⟨rfl, rfl, rfl⟩
set_option maxRecDepth 20000 in
set_option maxHeartbeats 1000000 in
theorem y_lo_s {xs : Nat → Int32} {L d : Nat} {h : ev_H} {th : Int32} {tr : Int64} {ty nx tk pl va fa ss wg : Int32} {c m : Nat} {i : Nat} {x : Int32} {G : Nat → Int32} (hS : SH h) (h5 : h 420 = c420 th tr ty nx tk pl va fa (nI c) (nI m) ss wg) (hc : c ≤ 16) (hm : m ≤ 24) (h22 : h 422 = cI 240 G) (hi : i < c) (ih : EV xs L (d + 0) 0 0 M_X12_lettersOf 434 h 4 [some (.ref 420), some (.int x), some (.int (ltM G x (i + 1))), some (.int (nI (i + 1)))] [] (fun sz' h' r => sz' = 434 ∧ h' = h ∧ r = [.int (ltM G x c)])) : EV xs L (d + 0) 0 0 M_X12_lettersOf 434 h 4 [some (.ref 420), some (.int x), some (.int (ltM G x i)), some (.int (nI i))] [] (fun sz' h' r => sz' = 434 ∧ h' = h ∧ r = [.int (ltM G x c)]) := by
  refine r_iload_n rfl dX12_lettersOf_4 rfl ?_
  refine r_aload_n rfl dX12_lettersOf_5 rfl ?_
  refine r_getv 9 rfl dX12_lettersOf_6 (show 2 ≤ 420 ∧ 420 < 434 by decide) h5 fl_X12_112 rfl ?_
  refine r_icmp_ge (tgt := 61) rfl rfl dX12_lettersOf_9 (fun zc => absurd zc (show ¬ nI c ≤ nI i from nI_ge (a := i) (b := c) (by omega) (by omega))) (fun _ => ?_)
  refine r_iload_n rfl dX12_lettersOf_12 rfl ?_
  refine r_aload_n rfl dX12_lettersOf_13 rfl ?_
  refine r_getv 13 rfl dX12_lettersOf_14 (show 2 ≤ 420 ∧ 420 < 434 by decide) h5 fl_X12_17 rfl ?_
  refine r_bipush (v := 6) rfl dX12_lettersOf_17 (by decide) ?_
  refine r_iload_n rfl dX12_lettersOf_19 rfl ?_
  refine r_imul rfl dX12_lettersOf_20 ?_
  refine r_eqi (y := nI (6 * i)) (show 6 * (nI i) = nI (6 * i) from pk_mul 6 i) ?_
  refine r_iconst (v := 2) rfl dX12_lettersOf_21 (by decide) ?_
  refine r_iadd rfl dX12_lettersOf_22 ?_
  refine r_eqi (y := nI ((6 * i) + 2)) (show (nI (6 * i)) + 2 = nI ((6 * i) + 2) from nI_add (6 * i) 2) ?_
  refine r_ialdv (jn := (6 * i) + 2) (v := G ((6 * i) + 2)) rfl dX12_lettersOf_23 (show 2 ≤ 422 ∧ 422 < 434 by decide) h22 (vp_in_nI (n := (6 * i) + 2) (by omega) (by decide)) (nI_clamp (n := (6 * i) + 2) (by omega)) rfl ?_
  refine r_iload_n rfl dX12_lettersOf_24 rfl ?_
  refine r_icmp_ne (tgt := 52) rfl rfl dX12_lettersOf_25 (fun c51 => ?_) (fun c51 => ?_)
  · refine r_iconst (v := 0) rfl dX12_lettersOf_52 (by decide) ?_
    refine r_ior rfl dX12_lettersOf_53 ?_
    refine r_topi (fun x52 e53 => ?_)
    refine r_istore_n (ls' := [some (.ref 420), some (.int x), some (.int x52), some (.int (nI i))]) rfl dX12_lettersOf_54 (Nat.le_of_ble_eq_true rfl) rfl ?_
    refine r_iinc (y := nI (i + 1)) (ls' := [some (.ref 420), some (.int x), some (.int x52), some (.int (nI (i + 1)))]) rfl dX12_lettersOf_55 rfl (nI_1 i) (Nat.le_of_ble_eq_true rfl) rfl ?_
    refine r_goto (pc' := 4) rfl dX12_lettersOf_58 ?_
    subst e53
    rw [ltM, if_neg c51] at ih
    exact ih
  · refine r_aload_n rfl dX12_lettersOf_28 rfl ?_
    refine r_getv 13 rfl dX12_lettersOf_29 (show 2 ≤ 420 ∧ 420 < 434 by decide) h5 fl_X12_17 rfl ?_
    refine r_bipush (v := 6) rfl dX12_lettersOf_32 (by decide) ?_
    refine r_iload_n rfl dX12_lettersOf_34 rfl ?_
    refine r_imul rfl dX12_lettersOf_35 ?_
    refine r_eqi (y := nI (6 * i)) (show 6 * (nI i) = nI (6 * i) from pk_mul 6 i) ?_
    refine r_ialdv (jn := 6 * i) (v := G (6 * i)) rfl dX12_lettersOf_36 (show 2 ≤ 422 ∧ 422 < 434 by decide) h22 (vp_in_nI (n := 6 * i) (by omega) (by decide)) (nI_clamp (n := 6 * i) (by omega)) rfl ?_
    refine r_aload_n rfl dX12_lettersOf_37 rfl ?_
    refine r_getv 13 rfl dX12_lettersOf_38 (show 2 ≤ 420 ∧ 420 < 434 by decide) h5 fl_X12_17 rfl ?_
    refine r_bipush (v := 6) rfl dX12_lettersOf_41 (by decide) ?_
    refine r_iload_n rfl dX12_lettersOf_43 rfl ?_
    refine r_imul rfl dX12_lettersOf_44 ?_
    refine r_eqi (y := nI (6 * i)) (show 6 * (nI i) = nI (6 * i) from pk_mul 6 i) ?_
    refine r_iconst (v := 1) rfl dX12_lettersOf_45 (by decide) ?_
    refine r_iadd rfl dX12_lettersOf_46 ?_
    refine r_eqi (y := nI ((6 * i) + 1)) (show (nI (6 * i)) + 1 = nI ((6 * i) + 1) from nI_add (6 * i) 1) ?_
    refine r_ialdv (jn := (6 * i) + 1) (v := G ((6 * i) + 1)) rfl dX12_lettersOf_47 (show 2 ≤ 422 ∧ 422 < 434 by decide) h22 (vp_in_nI (n := (6 * i) + 1) (by omega) (by decide)) (nI_clamp (n := (6 * i) + 1) (by omega)) rfl ?_
    refine r_ior rfl dX12_lettersOf_48 ?_
    refine r_goto (pc' := 53) rfl dX12_lettersOf_49 ?_
    refine r_ior rfl dX12_lettersOf_53 ?_
    refine r_topi (fun x54 e55 => ?_)
    refine r_istore_n (ls' := [some (.ref 420), some (.int x), some (.int x54), some (.int (nI i))]) rfl dX12_lettersOf_54 (Nat.le_of_ble_eq_true rfl) rfl ?_
    refine r_iinc (y := nI (i + 1)) (ls' := [some (.ref 420), some (.int x), some (.int x54), some (.int (nI (i + 1)))]) rfl dX12_lettersOf_55 rfl (nI_1 i) (Nat.le_of_ble_eq_true rfl) rfl ?_
    refine r_goto (pc' := 4) rfl dX12_lettersOf_58 ?_
    subst e55
    rw [ltM, if_pos c51] at ih
    exact ih
theorem y_lo {xs : Nat → Int32} {L d : Nat} {h : ev_H} {th : Int32} {tr : Int64} {ty nx tk pl va fa ss wg : Int32} {c m : Nat} {x : Int32} {G : Nat → Int32} (hS : SH h) (h5 : h 420 = c420 th tr ty nx tk pl va fa (nI c) (nI m) ss wg) (hc : c ≤ 16) (hm : m ≤ 24) (h22 : h 422 = cI 240 G) : ∀ (n i : Nat), i + n = c → EV xs L (d + 0) 0 0 M_X12_lettersOf 434 h 4 [some (.ref 420), some (.int x), some (.int (ltM G x i)), some (.int (nI i))] [] (fun sz' h' r => sz' = 434 ∧ h' = h ∧ r = [.int (ltM G x c)]) := by
  intro n
  induction n with
  | zero => intro i hi; exact y_lo_z hS h5 hc hm h22 (by omega)
  | succ n ih => intro i hi; exact y_lo_s hS h5 hc hm h22 (by omega) (ih (i + 1) (by omega))
set_option maxRecDepth 20000 in
set_option maxHeartbeats 1000000 in
theorem y_X12_lettersOf {xs : Nat → Int32} {L d : Nat} {h : ev_H} {th : Int32} {tr : Int64} {ty nx tk pl va fa ss wg : Int32} {c m : Nat} {x : Int32} {G : Nat → Int32} (hS : SH h) (h5 : h 420 = c420 th tr ty nx tk pl va fa (nI c) (nI m) ss wg) (hc : c ≤ 16) (hm : m ≤ 24) (h22 : h 422 = cI 240 G) : EV xs L (d + 0) 0 0 M_X12_lettersOf 434 h 0 [some (.ref 420), some (.int x), none, none] [] (fun sz' h' r => sz' = 434 ∧ h' = h ∧ r = [.int (ltM G x c)]) := by
  refine r_iconst (v := 0) rfl dX12_lettersOf_0 (by decide) ?_
  refine r_istore_n (ls' := [some (.ref 420), some (.int x), some (.int 0), none]) rfl dX12_lettersOf_1 (Nat.le_of_ble_eq_true rfl) rfl ?_
  refine r_iconst (v := 0) rfl dX12_lettersOf_2 (by decide) ?_
  refine r_istore_n (ls' := [some (.ref 420), some (.int x), some (.int 0), some (.int 0)]) rfl dX12_lettersOf_3 (Nat.le_of_ble_eq_true rfl) rfl ?_
  exact y_lo hS h5 hc hm h22 c 0 (by omega)
def sdM (G : Nat → Int32) (c : Nat) (x : Int32) : Int32 := if inR x 0 7 = 0 then -1 else ((ltM G 1 c >>> (x &&& 31)) &&& 1) + 2 * ((ltM G 2 c >>> (x &&& 31)) &&& 1)
set_option maxRecDepth 20000 in
set_option maxHeartbeats 1000000 in
theorem v_X12_side {xs : Nat → Int32} {L d : Nat} {h : ev_H} {th : Int32} {tr : Int64} {ty nx tk pl va fa ss wg : Int32} {c m : Nat} {x : Int32} {G : Nat → Int32} (hS : SH h) (h5 : h 420 = c420 th tr ty nx tk pl va fa (nI c) (nI m) ss wg) (hc : c ≤ 16) (hm : m ≤ 24) (h22 : h 422 = cI 240 G) : EV xs L (d + 1) 0 0 M_X12_side 434 h 0 [some (.ref 420), some (.int x)] [] (fun sz' h' r => sz' = 434 ∧ SH h' ∧ KM [420, 431, 432, 433] h h' ∧ (r = [.int (sdM G c x)]) ∧ h' 420 = c420 0 tr ty nx tk pl va fa (nI c) (nI m) ss wg) := by
  refine r_aload_n rfl dX12_side_0 rfl ?_
  refine r_iconst (v := 0) rfl dX12_side_1 (by decide) ?_
  refine m_put 0 (fs' := [.int 0, .long tr, .ref 421, .int ty, .int nx, .int tk, .int pl, .int va, .int fa, .int (nI c), .int (nI m), .int ss, .int wg, .ref 422, .ref 423, .ref 424, .ref 425, .ref 426, .ref 427, .ref 428, .ref 429, .ref 430, .ref 431, .ref 432, .ref 433]) rfl dX12_side_2 hS (KM_rf (Mod := [420, 431, 432, 433]) h) (by decide) h5 (fp_X12_57 rfl _) (Nat.le_of_ble_eq_true rfl) rfl (fun h51 hS52 hF53 f54 => ?_)
  refine r_iload_n rfl dX12_side_5 rfl ?_
  refine r_iconst (v := 0) rfl dX12_side_6 (by decide) ?_
  refine r_bipush (v := 7) rfl dX12_side_7 (by decide) ?_
  refine cl_X12_60 rfl rfl dX12_side_9 (Nat.le_of_ble_eq_true rfl) s_X12_in ?_
  rintro _ h55 _ ⟨rfl, e56, rfl⟩
  replace e56 := e56.symm
  subst e56
  refine r_if_eq (tgt := 39) rfl rfl dX12_side_12 (fun c57 => ?_) (fun c57 => ?_)
  · refine r_iconst (v := (-1)) rfl dX12_side_39 (by decide) ?_
    exact r_ret dX12_side_40 (rt_i rfl) ⟨rfl, hS52, hF53, by rw [sdM, if_pos c57] <;> rfl, f54⟩
  · obtain ⟨j58, q59, q60, e61⟩ := inR_nat (a := 0) (b := 7) (by omega) c57
    subst e61
    refine r_aload_n rfl dX12_side_15 rfl ?_
    refine r_iconst (v := 1) rfl dX12_side_16 (by decide) ?_
    refine cl_X12_130 rfl rfl dX12_side_17 (show 2 ≤ 420 ∧ 420 < 434 by decide).1 (show 2 ≤ 420 ∧ 420 < 434 by decide).2 f54 (Nat.le_of_ble_eq_true rfl) (y_X12_lettersOf hS52 f54 hc hm ((hF53 422 (by decide)).trans h22)) ?_
    rintro _ h62 _ ⟨rfl, e63, rfl⟩
    replace e63 := e63.symm
    subst e63
    refine r_iload_n rfl dX12_side_20 rfl ?_
    refine r_ishr rfl dX12_side_21 ?_
    refine r_iconst (v := 1) rfl dX12_side_22 (by decide) ?_
    refine r_iand rfl dX12_side_23 ?_
    refine r_iconst (v := 2) rfl dX12_side_24 (by decide) ?_
    refine r_aload_n rfl dX12_side_25 rfl ?_
    refine r_iconst (v := 2) rfl dX12_side_26 (by decide) ?_
    refine cl_X12_130 rfl rfl dX12_side_27 (show 2 ≤ 420 ∧ 420 < 434 by decide).1 (show 2 ≤ 420 ∧ 420 < 434 by decide).2 f54 (Nat.le_of_ble_eq_true rfl) (y_X12_lettersOf hS52 f54 hc hm ((hF53 422 (by decide)).trans h22)) ?_
    rintro _ h64 _ ⟨rfl, e65, rfl⟩
    replace e65 := e65.symm
    subst e65
    refine r_iload_n rfl dX12_side_30 rfl ?_
    refine r_ishr rfl dX12_side_31 ?_
    refine r_iconst (v := 1) rfl dX12_side_32 (by decide) ?_
    refine r_iand rfl dX12_side_33 ?_
    refine r_imul rfl dX12_side_34 ?_
    refine r_iadd rfl dX12_side_35 ?_
    refine r_goto (pc' := 40) rfl dX12_side_36 ?_
    exact r_ret dX12_side_40 (rt_i rfl) ⟨rfl, hS52, hF53, by rw [sdM, if_neg c57] <;> rfl, f54⟩
