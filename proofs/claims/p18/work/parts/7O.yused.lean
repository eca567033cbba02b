/-- what a LINE rests on, as the reference gathers it -/
def usM (G : Nat → Int32) (c : Nat) : Nat → Int64 → Int64
  | 0, S => S
  | n + 1, S => if n < c then S else usM G c n (if lg_cmp ((S >>> ((nI n : Int32).toInt64 &&& 63)) &&& 1) 1 = 0 then S ||| ((1 <<< ((G (6 * n + 3) : Int32).toInt64 &&& 63)) ||| (1 <<< ((G (6 * n + 4) : Int32).toInt64 &&& 63))) else S ||| 0)
def usB (G : Nat → Int32) (c e : Nat) : Int32 := (usM G c (e + 1) (1 <<< ((nI e : Int32).toInt64 &&& 63)) &&& ((1 <<< ((nI c : Int32).toInt64 &&& 63)) - 1)).toInt32
set_option maxRecDepth 20000 in
set_option maxHeartbeats 1000000 in
theorem y_um_z {xs : Nat → Int32} {L d : Nat} {h : ev_H} {th : Int32} {tr : Int64} {ty nx tk pl va fa ss wg : Int32} {c m : Nat} {x : Int32} {q : Int64} {G : Nat → Int32} {kx : Int32} (hS : SH h) (h5 : h 420 = c420 th tr ty nx tk pl va fa (nI c) (nI m) ss wg) (hc : c ≤ 16) (hm : m ≤ 24) (h22 : h 422 = cI 240 G) (hz : kx < 0) : EV xs L (d + 1) 0 0 M_X12_used 434 h 26 [some (.ref 420), some (.int x), some (.long q), none, some (.int kx)] [] (fun sz' h' r => sz' = 434 ∧ h' = h ∧ r = [.int ((usM G c (0) q &&& ((1 <<< ((nI c : Int32).toInt64 &&& 63)) - 1)).toInt32)]) := by
  refine r_iload rfl dX12_used_26 rfl ?_
  refine r_aload_n rfl dX12_used_28 rfl ?_
  refine r_getv 9 rfl dX12_used_29 (show 2 ≤ 420 ∧ 420 < 434 by decide) h5 fl_X12_112 rfl ?_
  refine r_icmp_lt (tgt := 88) rfl rfl dX12_used_32 (fun _ => ?_) (fun zc => absurd (neg_lt hz (by omega)) zc)
  refine r_lload_n rfl dX12_used_88 rfl ?_
  refine r_lconst (v := 1) rfl dX12_used_89 (by decide) ?_
  refine r_aload_n rfl dX12_used_90 rfl ?_
  refine r_getv 9 rfl dX12_used_91 (show 2 ≤ 420 ∧ 420 < 434 by decide) h5 fl_X12_112 rfl ?_
  refine r_lshl rfl dX12_used_94 ?_
  refine r_lconst (v := 1) rfl dX12_used_95 (by decide) ?_
  refine r_lsub rfl dX12_used_96 ?_
  refine r_land rfl dX12_used_97 ?_
  refine r_l2i rfl dX12_used_98 ?_
  exact r_ret dX12_used_99 (rt_i rfl) ⟨rfl, rfl, rfl⟩
set_option maxRecDepth 20000 in
set_option maxHeartbeats 1000000 in
theorem y_um_s {xs : Nat → Int32} {L d : Nat} {h : ev_H} {th : Int32} {tr : Int64} {ty nx tk pl va fa ss wg : Int32} {c m : Nat} {x : Int32} {q : Int64} {G : Nat → Int32} {j : Nat} (hS : SH h) (h5 : h 420 = c420 th tr ty nx tk pl va fa (nI c) (nI m) ss wg) (hc : c ≤ 16) (hm : m ≤ 24) (h22 : h 422 = cI 240 G) (hj : j < 40) (ih : ∀ (q' : Int64) (kx : Int32), kx = nI j - 1 → EV xs L (d + 1) 0 0 M_X12_used 434 h 26 [some (.ref 420), some (.int x), some (.long q'), none, some (.int kx)] [] (fun sz' h' r => sz' = 434 ∧ h' = h ∧ r = [.int ((usM G c (j) q' &&& ((1 <<< ((nI c : Int32).toInt64 &&& 63)) - 1)).toInt32)])) : EV xs L (d + 1) 0 0 M_X12_used 434 h 26 [some (.ref 420), some (.int x), some (.long q), none, some (.int (nI j))] [] (fun sz' h' r => sz' = 434 ∧ h' = h ∧ r = [.int ((usM G c (j + 1) q &&& ((1 <<< ((nI c : Int32).toInt64 &&& 63)) - 1)).toInt32)]) := by
  refine r_iload rfl dX12_used_26 rfl ?_
  refine r_aload_n rfl dX12_used_28 rfl ?_
  refine r_getv 9 rfl dX12_used_29 (show 2 ≤ 420 ∧ 420 < 434 by decide) h5 fl_X12_112 rfl ?_
  refine r_icmp_lt (tgt := 88) rfl rfl dX12_used_32 (fun c51 => ?_) (fun c51 => ?_)
  · have q52 : j < c := (nI_ltI (a := j) (b := c) (by omega) (by omega)).mp c51
    refine r_lload_n rfl dX12_used_88 rfl ?_
    refine r_lconst (v := 1) rfl dX12_used_89 (by decide) ?_
    refine r_aload_n rfl dX12_used_90 rfl ?_
    refine r_getv 9 rfl dX12_used_91 (show 2 ≤ 420 ∧ 420 < 434 by decide) h5 fl_X12_112 rfl ?_
    refine r_lshl rfl dX12_used_94 ?_
    refine r_lconst (v := 1) rfl dX12_used_95 (by decide) ?_
    refine r_lsub rfl dX12_used_96 ?_
    refine r_land rfl dX12_used_97 ?_
    refine r_l2i rfl dX12_used_98 ?_
    exact r_ret dX12_used_99 (rt_i rfl) ⟨rfl, rfl, by rw [usM, if_pos (show j < c by omega)]⟩
  · have q53 : ¬ j < c := fun z => c51 ((nI_ltI (a := j) (b := c) (by omega) (by omega)).mpr z)
    refine r_lload_n rfl dX12_used_35 rfl ?_
    refine r_lload_n rfl dX12_used_36 rfl ?_
    refine r_iload rfl dX12_used_37 rfl ?_
    refine r_lshr rfl dX12_used_39 ?_
    refine r_lconst (v := 1) rfl dX12_used_40 (by decide) ?_
    refine r_land rfl dX12_used_41 ?_
    refine r_lconst (v := 1) rfl dX12_used_42 (by decide) ?_
    refine r_lcmp rfl dX12_used_43 ?_
    refine r_if_ne (tgt := 79) rfl rfl dX12_used_44 (fun c54 => ?_) (fun c54 => ?_)
    · refine r_lconst (v := 0) rfl dX12_used_79 (by decide) ?_
      refine r_lor rfl dX12_used_80 ?_
      refine r_topl (fun x55 e56 => ?_)
      refine r_lstore_n (ls' := [some (.ref 420), some (.int x), some (.long x55), none, some (.int (nI j))]) rfl dX12_used_81 (Nat.le_of_ble_eq_true rfl) rfl ?_
      obtain ⟨x57, e58⟩ : ∃ z : Int32, z = (nI j) + Int32.ofInt (-1) := ⟨_, rfl⟩
      refine r_iinc (y := x57) (ls' := [some (.ref 420), some (.int x), some (.long x55), none, some (.int x57)]) rfl dX12_used_82 rfl e58.symm (Nat.le_of_ble_eq_true rfl) rfl ?_
      refine r_goto (pc' := 26) rfl dX12_used_85 ?_
      subst e56
      rw [usM, if_neg (show ¬ j < c by omega), if_neg c54]
      exact ih _ x57 (by rw [e58, Int32.sub_eq_add_neg]; rfl)
    · refine r_lconst (v := 1) rfl dX12_used_47 (by decide) ?_
      refine r_aload_n rfl dX12_used_48 rfl ?_
      refine r_getv 13 rfl dX12_used_49 (show 2 ≤ 420 ∧ 420 < 434 by decide) h5 fl_X12_17 rfl ?_
      refine r_bipush (v := 6) rfl dX12_used_52 (by decide) ?_
      refine r_iload rfl dX12_used_54 rfl ?_
      refine r_imul rfl dX12_used_56 ?_
      refine r_eqi (y := nI (6 * j)) (show 6 * (nI j) = nI (6 * j) from pk_mul 6 j) ?_
      refine r_iconst (v := 3) rfl dX12_used_57 (by decide) ?_
      refine r_iadd rfl dX12_used_58 ?_
      refine r_eqi (y := nI ((6 * j) + 3)) (show (nI (6 * j)) + 3 = nI ((6 * j) + 3) from nI_add (6 * j) 3) ?_
      refine r_ialdv (jn := (6 * j) + 3) (v := G ((6 * j) + 3)) rfl dX12_used_59 (show 2 ≤ 422 ∧ 422 < 434 by decide) h22 (vp_in_nI (n := (6 * j) + 3) (by omega) (by decide)) (nI_clamp (n := (6 * j) + 3) (by omega)) rfl ?_
      refine r_lshl rfl dX12_used_60 ?_
      refine r_lconst (v := 1) rfl dX12_used_61 (by decide) ?_
      refine r_aload_n rfl dX12_used_62 rfl ?_
      refine r_getv 13 rfl dX12_used_63 (show 2 ≤ 420 ∧ 420 < 434 by decide) h5 fl_X12_17 rfl ?_
      refine r_bipush (v := 6) rfl dX12_used_66 (by decide) ?_
      refine r_iload rfl dX12_used_68 rfl ?_
      refine r_imul rfl dX12_used_70 ?_
      refine r_eqi (y := nI (6 * j)) (show 6 * (nI j) = nI (6 * j) from pk_mul 6 j) ?_
      refine r_iconst (v := 4) rfl dX12_used_71 (by decide) ?_
      refine r_iadd rfl dX12_used_72 ?_
      refine r_eqi (y := nI ((6 * j) + 4)) (show (nI (6 * j)) + 4 = nI ((6 * j) + 4) from nI_add (6 * j) 4) ?_
      refine r_ialdv (jn := (6 * j) + 4) (v := G ((6 * j) + 4)) rfl dX12_used_73 (show 2 ≤ 422 ∧ 422 < 434 by decide) h22 (vp_in_nI (n := (6 * j) + 4) (by omega) (by decide)) (nI_clamp (n := (6 * j) + 4) (by omega)) rfl ?_
      refine r_lshl rfl dX12_used_74 ?_
      refine r_lor rfl dX12_used_75 ?_
      refine r_goto (pc' := 80) rfl dX12_used_76 ?_
      refine r_lor rfl dX12_used_80 ?_
      refine r_topl (fun x59 e60 => ?_)
      refine r_lstore_n (ls' := [some (.ref 420), some (.int x), some (.long x59), none, some (.int (nI j))]) rfl dX12_used_81 (Nat.le_of_ble_eq_true rfl) rfl ?_
      obtain ⟨x61, e62⟩ : ∃ z : Int32, z = (nI j) + Int32.ofInt (-1) := ⟨_, rfl⟩
      refine r_iinc (y := x61) (ls' := [some (.ref 420), some (.int x), some (.long x59), none, some (.int x61)]) rfl dX12_used_82 rfl e62.symm (Nat.le_of_ble_eq_true rfl) rfl ?_
      refine r_goto (pc' := 26) rfl dX12_used_85 ?_
      subst e60
      rw [usM, if_neg (show ¬ j < c by omega), if_pos c54]
      exact ih _ x61 (by rw [e62, Int32.sub_eq_add_neg]; rfl)
theorem y_um {xs : Nat → Int32} {L d : Nat} {h : ev_H} {th : Int32} {tr : Int64} {ty nx tk pl va fa ss wg : Int32} {c m : Nat} {x : Int32} {G : Nat → Int32} (hS : SH h) (h5 : h 420 = c420 th tr ty nx tk pl va fa (nI c) (nI m) ss wg) (hc : c ≤ 16) (hm : m ≤ 24) (h22 : h 422 = cI 240 G) : ∀ (n : Nat) (q : Int64) (kx : Int32), n ≤ 40 → kx = nI n - 1 → EV xs L (d + 1) 0 0 M_X12_used 434 h 26 [some (.ref 420), some (.int x), some (.long q), none, some (.int kx)] [] (fun sz' h' r => sz' = 434 ∧ h' = h ∧ r = [.int ((usM G c (n) q &&& ((1 <<< ((nI c : Int32).toInt64 &&& 63)) - 1)).toInt32)]) := by
  intro n
  induction n with
  | zero => intro q kx hn e; exact y_um_z hS h5 hc hm h22 (by rw [e]; decide)
  | succ n ih => intro q kx hn e; obtain rfl : kx = nI n := (by rw [e]; exact nI_pred n); exact y_um_s hS h5 hc hm h22 (by omega) (fun q' kx z => ih q' kx (by omega) z)
set_option maxRecDepth 20000 in
set_option maxHeartbeats 1000000 in
theorem v_us_s {xs : Nat → Int32} {L d : Nat} {h : ev_H} {th : Int32} {tr : Int64} {ty nx tk pl va fa ss wg : Int32} {c m : Nat} {G : Nat → Int32} {e : Nat} (hS : SH h) (h5 : h 420 = c420 th tr ty nx tk pl va fa (nI c) (nI m) ss wg) (hc : c ≤ 16) (hm : m ≤ 24) (hek : e < 40) (h22 : h 422 = cI 240 G) (he : enM G (c + m) 0 = nI e) : EV xs L (d + 1) 0 0 M_X12_used 434 h 0 [some (.ref 420), none, none, none, none] [] (fun sz' h' r => sz' = 434 ∧ SH h' ∧ KM [420, 431, 432, 433] h h' ∧ (r = [.int (usB G c e)]) ∧ h' 420 = c420 0 tr ty nx tk pl va fa (nI c) (nI m) ss wg) := by
  refine r_aload_n rfl dX12_used_0 rfl ?_
  refine r_iconst (v := 0) rfl dX12_used_1 (by decide) ?_
  refine m_put 0 (fs' := [.int 0, .long tr, .ref 421, .int ty, .int nx, .int tk, .int pl, .int va, .int fa, .int (nI c), .int (nI m), .int ss, .int wg, .ref 422, .ref 423, .ref 424, .ref 425, .ref 426, .ref 427, .ref 428, .ref 429, .ref 430, .ref 431, .ref 432, .ref 433]) rfl dX12_used_2 hS (KM_rf (Mod := [420, 431, 432, 433]) h) (by decide) h5 (fp_X12_57 rfl _) (Nat.le_of_ble_eq_true rfl) rfl (fun h51 hS52 hF53 f54 => ?_)
  refine r_aload_n rfl dX12_used_5 rfl ?_
  refine cl_X12_154 rfl rfl dX12_used_6 (show 2 ≤ 420 ∧ 420 < 434 by decide).1 (show 2 ≤ 420 ∧ 420 < 434 by decide).2 f54 (Nat.le_of_ble_eq_true rfl) (y_X12_ending hS52 f54 hc hm ((hF53 422 (by decide)).trans h22)) ?_
  rintro _ h55 _ ⟨rfl, e56, rfl⟩
  replace e56 := e56.symm
  subst e56
  refine r_eqi (y := nI e) he ?_
  refine r_istore_n (ls' := [some (.ref 420), some (.int (nI e)), none, none, none]) rfl dX12_used_9 (Nat.le_of_ble_eq_true rfl) rfl ?_
  refine r_iload_n rfl dX12_used_10 rfl ?_
  refine r_bipush (v := (-9)) rfl dX12_used_11 (by decide) ?_
  refine r_icmp_ne (tgt := 19) rfl rfl dX12_used_13 (fun _ => ?_) (fun zc => absurd zc (nI_nm9 (by omega)))
  refine r_lconst (v := 1) rfl dX12_used_19 (by decide) ?_
  refine r_iload_n rfl dX12_used_20 rfl ?_
  refine r_lshl rfl dX12_used_21 ?_
  refine r_topl (fun x57 e58 => ?_)
  refine r_lstore_n (ls' := [some (.ref 420), some (.int (nI e)), some (.long x57), none, none]) rfl dX12_used_22 (Nat.le_of_ble_eq_true rfl) rfl ?_
  refine r_iload_n rfl dX12_used_23 rfl ?_
  refine r_istore (ls' := [some (.ref 420), some (.int (nI e)), some (.long x57), none, some (.int (nI e))]) rfl dX12_used_24 (Nat.le_of_ble_eq_true rfl) rfl ?_
  subst e58
  refine EV.post ?_ (y_um hS52 f54 hc hm ((hF53 422 (by decide)).trans h22) (e + 1) _ (nI e) (by omega) (nI_pred e).symm)
  rintro a1 a2 a3 ⟨rfl, rfl, rfl⟩
  exact ⟨rfl, hS52, hF53, rfl, f54⟩
set_option maxRecDepth 20000 in
set_option maxHeartbeats 1000000 in
theorem v_us_z {xs : Nat → Int32} {L d : Nat} {h : ev_H} {th : Int32} {tr : Int64} {ty nx tk pl va fa ss wg : Int32} {c m : Nat} {G : Nat → Int32} (hS : SH h) (h5 : h 420 = c420 th tr ty nx tk pl va fa (nI c) (nI m) ss wg) (hc : c ≤ 16) (hm : m ≤ 24) (h22 : h 422 = cI 240 G) (he : enM G (c + m) 0 = (-9)) : EV xs L (d + 1) 0 0 M_X12_used 434 h 0 [some (.ref 420), none, none, none, none] [] (fun sz' h' r => sz' = 434 ∧ SH h' ∧ KM [420, 431, 432, 433] h h' ∧ (r = [.int (-2)]) ∧ h' 420 = c420 0 tr ty nx tk pl va fa (nI c) (nI m) ss wg) := by
  refine r_aload_n rfl dX12_used_0 rfl ?_
  refine r_iconst (v := 0) rfl dX12_used_1 (by decide) ?_
  refine m_put 0 (fs' := [.int 0, .long tr, .ref 421, .int ty, .int nx, .int tk, .int pl, .int va, .int fa, .int (nI c), .int (nI m), .int ss, .int wg, .ref 422, .ref 423, .ref 424, .ref 425, .ref 426, .ref 427, .ref 428, .ref 429, .ref 430, .ref 431, .ref 432, .ref 433]) rfl dX12_used_2 hS (KM_rf (Mod := [420, 431, 432, 433]) h) (by decide) h5 (fp_X12_57 rfl _) (Nat.le_of_ble_eq_true rfl) rfl (fun h51 hS52 hF53 f54 => ?_)
  refine r_aload_n rfl dX12_used_5 rfl ?_
  refine cl_X12_154 rfl rfl dX12_used_6 (show 2 ≤ 420 ∧ 420 < 434 by decide).1 (show 2 ≤ 420 ∧ 420 < 434 by decide).2 f54 (Nat.le_of_ble_eq_true rfl) (y_X12_ending hS52 f54 hc hm ((hF53 422 (by decide)).trans h22)) ?_
  rintro _ h55 _ ⟨rfl, e56, rfl⟩
  replace e56 := e56.symm
  subst e56
  refine r_eqi (y := (-9)) he ?_
  refine r_istore_n (ls' := [some (.ref 420), some (.int (-9)), none, none, none]) rfl dX12_used_9 (Nat.le_of_ble_eq_true rfl) rfl ?_
  refine r_iload_n rfl dX12_used_10 rfl ?_
  refine r_bipush (v := (-9)) rfl dX12_used_11 (by decide) ?_
  refine r_icmp_ne (tgt := 19) rfl rfl dX12_used_13 (fun zc => absurd zc (by decide)) (fun _ => ?_)
  refine r_bipush (v := (-2)) rfl dX12_used_16 (by decide) ?_
  exact r_ret dX12_used_18 (rt_i rfl) ⟨rfl, hS52, hF53, rfl, f54⟩
