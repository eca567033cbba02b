set_option maxRecDepth 20000 in
set_option maxHeartbeats 1000000 in
theorem z_ck_z {xs : Nat → Int32} {L d : Nat} {h : ev_H} {th : Int32} {tr : Int64} {ty nx tk pl va fa ss wg : Int32} {c m : Nat} {G : Nat → Int32} {O1 T1 Z : Nat → Int64} {v kx : Int32} (hS : SH h) (h5 : h 420 = .inr (12, [.int th, .long tr, .ref 421, .int ty, .int nx, .int tk, .int pl, .int va, .int fa, .int (nI c), .int (nI m), .int ss, .int wg, .ref 422, .ref 423, .ref 424, .ref 425, .ref 426, .ref 427, .ref 428, .ref 429, .ref 430, .ref 431, .ref 432, .ref 433])) (hc : c ≤ 16) (hm : m ≤ 24) (h22 : h 422 = cI 240 G) (h27 : h 427 = cL 4 O1) (h28 : h 428 = cL 4 T1) (h32 : h 432 = cL 4 Z) (hz : kx < 0) : EV xs L (d + 2) 0 0 M_X12_checks 434 h 20 [some (.ref 420), some (.ref 432), some (.int v), some (.int kx)] [] (fun sz' h' r => sz' = 434 ∧ h' = h ∧ r = [.int (ckL O1 T1 Z 0 v)]) := by
  refine r_iload_n rfl dX12_checks_20 rfl ?_
  refine r_if_lt (tgt := 81) rfl rfl dX12_checks_21 (fun _ => ?_) (fun zc => absurd hz zc)
  refine r_iload_n rfl dX12_checks_81 rfl ?_
  exact r_ret dX12_checks_82 (rt_i rfl) ⟨rfl, rfl, rfl⟩
set_option maxRecDepth 20000 in
set_option maxHeartbeats 1000000 in
theorem z_ck_s {xs : Nat → Int32} {L d : Nat} {h : ev_H} {th : Int32} {tr : Int64} {ty nx tk pl va fa ss wg : Int32} {c m : Nat} {G : Nat → Int32} {O1 T1 Z : Nat → Int64} {v : Int32} {j : Nat} (hS : SH h) (h5 : h 420 = .inr (12, [.int th, .long tr, .ref 421, .int ty, .int nx, .int tk, .int pl, .int va, .int fa, .int (nI c), .int (nI m), .int ss, .int wg, .ref 422, .ref 423, .ref 424, .ref 425, .ref 426, .ref 427, .ref 428, .ref 429, .ref 430, .ref 431, .ref 432, .ref 433])) (hc : c ≤ 16) (hm : m ≤ 24) (h22 : h 422 = cI 240 G) (h27 : h 427 = cL 4 O1) (h28 : h 428 = cL 4 T1) (h32 : h 432 = cL 4 Z) (hj : j < 4) (ih : ∀ (v' kx : Int32), kx = nI j - 1 → EV xs L (d + 2) 0 0 M_X12_checks 434 h 20 [some (.ref 420), some (.ref 432), some (.int v'), some (.int kx)] [] (fun sz' h' r => sz' = 434 ∧ h' = h ∧ r = [.int (ckL O1 T1 Z j v')])) : EV xs L (d + 2) 0 0 M_X12_checks 434 h 20 [some (.ref 420), some (.ref 432), some (.int v), some (.int (nI j))] [] (fun sz' h' r => sz' = 434 ∧ h' = h ∧ r = [.int (ckL O1 T1 Z (j + 1) v)]) := by
  refine r_iload_n rfl dX12_checks_20 rfl ?_
  refine r_if_lt (tgt := 81) rfl rfl dX12_checks_21 (fun zc => absurd zc (show ¬ nI j < (0 : Int32) from nI_nlt (a := j) (b := 0) (by omega) (by omega))) (fun _ => ?_)
  refine r_aload_n rfl dX12_checks_24 rfl ?_
  refine r_iload_n rfl dX12_checks_25 rfl ?_
  refine r_laldv (jn := j) (v := Z j) rfl dX12_checks_26 (show 2 ≤ 432 ∧ 432 < 434 by decide) h32 (vp_in_nI (n := j) (by omega) (by decide)) (nI_clamp (n := j) (by omega)) rfl ?_
  refine r_aload_n rfl dX12_checks_27 rfl ?_
  refine r_getv 19 rfl dX12_checks_28 (show 2 ≤ 420 ∧ 420 < 434 by decide) h5 fl_X12_36 rfl ?_
  refine r_iload_n rfl dX12_checks_31 rfl ?_
  refine r_laldv (jn := j) (v := T1 j) rfl dX12_checks_32 (show 2 ≤ 428 ∧ 428 < 434 by decide) h28 (vp_in_nI (n := j) (by omega) (by decide)) (nI_clamp (n := j) (by omega)) rfl ?_
  refine r_land rfl dX12_checks_33 ?_
  refine r_lconst (v := 0) rfl dX12_checks_34 (by decide) ?_
  refine r_lcmp rfl dX12_checks_35 ?_
  refine r_if_eq (tgt := 48) rfl rfl dX12_checks_36 (fun c51 => ?_) (fun c51 => ?_)
  · refine r_iload_n rfl dX12_checks_48 rfl ?_
    refine r_istore_n (ls' := [some (.ref 420), some (.ref 432), some (.int v), some (.int (nI j))]) rfl dX12_checks_49 (Nat.le_of_ble_eq_true rfl) rfl ?_
    refine r_aload_n rfl dX12_checks_50 rfl ?_
    refine r_getv 18 rfl dX12_checks_51 (show 2 ≤ 420 ∧ 420 < 434 by decide) h5 fl_X12_33 rfl ?_
    refine r_iload_n rfl dX12_checks_54 rfl ?_
    refine r_laldv (jn := j) (v := O1 j) rfl dX12_checks_55 (show 2 ≤ 427 ∧ 427 < 434 by decide) h27 (vp_in_nI (n := j) (by omega) (by decide)) (nI_clamp (n := j) (by omega)) rfl ?_
    refine r_aload_n rfl dX12_checks_56 rfl ?_
    refine r_iload_n rfl dX12_checks_57 rfl ?_
    refine r_laldv (jn := j) (v := Z j) rfl dX12_checks_58 (show 2 ≤ 432 ∧ 432 < 434 by decide) h32 (vp_in_nI (n := j) (by omega) (by decide)) (nI_clamp (n := j) (by omega)) rfl ?_
    refine r_ldc2 (v := (-1)) rfl dX12_checks_59 lc_X12_137 ?_
    refine r_lxor rfl dX12_checks_62 ?_
    refine r_land rfl dX12_checks_63 ?_
    refine r_lconst (v := 0) rfl dX12_checks_64 (by decide) ?_
    refine r_lcmp rfl dX12_checks_65 ?_
    refine r_if_eq (tgt := 73) rfl rfl dX12_checks_66 (fun c52 => ?_) (fun c52 => ?_)
    · refine r_iload_n rfl dX12_checks_73 rfl ?_
      refine r_istore_n (ls' := [some (.ref 420), some (.ref 432), some (.int v), some (.int (nI j))]) rfl dX12_checks_74 (Nat.le_of_ble_eq_true rfl) rfl ?_
      obtain ⟨x53, e54⟩ : ∃ z : Int32, z = (nI j) + Int32.ofInt (-1) := ⟨_, rfl⟩
      refine r_iinc (y := x53) (ls' := [some (.ref 420), some (.ref 432), some (.int v), some (.int x53)]) rfl dX12_checks_75 rfl e54.symm (Nat.le_of_ble_eq_true rfl) rfl ?_
      refine r_goto (pc' := 20) rfl dX12_checks_78 ?_
      rw [ckL, ck1, if_pos (lgc0.mp c52), if_pos (lgc0.mp c51)]
      exact ih _ x53 (by rw [e54, Int32.sub_eq_add_neg]; rfl)
    · refine r_iconst (v := 2) rfl dX12_checks_69 (by decide) ?_
      refine r_goto (pc' := 74) rfl dX12_checks_70 ?_
      refine r_istore_n (ls' := [some (.ref 420), some (.ref 432), some (.int 2), some (.int (nI j))]) rfl dX12_checks_74 (Nat.le_of_ble_eq_true rfl) rfl ?_
      obtain ⟨x55, e56⟩ : ∃ z : Int32, z = (nI j) + Int32.ofInt (-1) := ⟨_, rfl⟩
      refine r_iinc (y := x55) (ls' := [some (.ref 420), some (.ref 432), some (.int 2), some (.int x55)]) rfl dX12_checks_75 rfl e56.symm (Nat.le_of_ble_eq_true rfl) rfl ?_
      refine r_goto (pc' := 20) rfl dX12_checks_78 ?_
      rw [ckL, ck1, if_neg (fun z => c52 (lgc0.mpr z))]
      exact ih _ x55 (by rw [e56, Int32.sub_eq_add_neg]; rfl)
  · refine r_iload_n rfl dX12_checks_39 rfl ?_
    refine r_iconst (v := 2) rfl dX12_checks_40 (by decide) ?_
    refine r_icmp_eq (tgt := 48) rfl rfl dX12_checks_41 (fun c57 => ?_) (fun c57 => ?_)
    · refine r_iload_n rfl dX12_checks_48 rfl ?_
      refine r_istore_n (ls' := [some (.ref 420), some (.ref 432), some (.int v), some (.int (nI j))]) rfl dX12_checks_49 (Nat.le_of_ble_eq_true rfl) rfl ?_
      refine r_aload_n rfl dX12_checks_50 rfl ?_
      refine r_getv 18 rfl dX12_checks_51 (show 2 ≤ 420 ∧ 420 < 434 by decide) h5 fl_X12_33 rfl ?_
      refine r_iload_n rfl dX12_checks_54 rfl ?_
      refine r_laldv (jn := j) (v := O1 j) rfl dX12_checks_55 (show 2 ≤ 427 ∧ 427 < 434 by decide) h27 (vp_in_nI (n := j) (by omega) (by decide)) (nI_clamp (n := j) (by omega)) rfl ?_
      refine r_aload_n rfl dX12_checks_56 rfl ?_
      refine r_iload_n rfl dX12_checks_57 rfl ?_
      refine r_laldv (jn := j) (v := Z j) rfl dX12_checks_58 (show 2 ≤ 432 ∧ 432 < 434 by decide) h32 (vp_in_nI (n := j) (by omega) (by decide)) (nI_clamp (n := j) (by omega)) rfl ?_
      refine r_ldc2 (v := (-1)) rfl dX12_checks_59 lc_X12_137 ?_
      refine r_lxor rfl dX12_checks_62 ?_
      refine r_land rfl dX12_checks_63 ?_
      refine r_lconst (v := 0) rfl dX12_checks_64 (by decide) ?_
      refine r_lcmp rfl dX12_checks_65 ?_
      refine r_if_eq (tgt := 73) rfl rfl dX12_checks_66 (fun c58 => ?_) (fun c58 => ?_)
      · refine r_iload_n rfl dX12_checks_73 rfl ?_
        refine r_istore_n (ls' := [some (.ref 420), some (.ref 432), some (.int v), some (.int (nI j))]) rfl dX12_checks_74 (Nat.le_of_ble_eq_true rfl) rfl ?_
        obtain ⟨x59, e60⟩ : ∃ z : Int32, z = (nI j) + Int32.ofInt (-1) := ⟨_, rfl⟩
        refine r_iinc (y := x59) (ls' := [some (.ref 420), some (.ref 432), some (.int v), some (.int x59)]) rfl dX12_checks_75 rfl e60.symm (Nat.le_of_ble_eq_true rfl) rfl ?_
        refine r_goto (pc' := 20) rfl dX12_checks_78 ?_
        rw [ckL, ck1, if_pos (lgc0.mp c58), if_neg (fun z => c51 (lgc0.mpr z)), if_pos c57]
        exact ih _ x59 (by rw [e60, Int32.sub_eq_add_neg]; rfl)
      · refine r_iconst (v := 2) rfl dX12_checks_69 (by decide) ?_
        refine r_goto (pc' := 74) rfl dX12_checks_70 ?_
        refine r_istore_n (ls' := [some (.ref 420), some (.ref 432), some (.int 2), some (.int (nI j))]) rfl dX12_checks_74 (Nat.le_of_ble_eq_true rfl) rfl ?_
        obtain ⟨x61, e62⟩ : ∃ z : Int32, z = (nI j) + Int32.ofInt (-1) := ⟨_, rfl⟩
        refine r_iinc (y := x61) (ls' := [some (.ref 420), some (.ref 432), some (.int 2), some (.int x61)]) rfl dX12_checks_75 rfl e62.symm (Nat.le_of_ble_eq_true rfl) rfl ?_
        refine r_goto (pc' := 20) rfl dX12_checks_78 ?_
        rw [ckL, ck1, if_neg (fun z => c58 (lgc0.mpr z))]
        exact ih _ x61 (by rw [e62, Int32.sub_eq_add_neg]; rfl)
    · refine r_iconst (v := 3) rfl dX12_checks_44 (by decide) ?_
      refine r_goto (pc' := 49) rfl dX12_checks_45 ?_
      refine r_istore_n (ls' := [some (.ref 420), some (.ref 432), some (.int 3), some (.int (nI j))]) rfl dX12_checks_49 (Nat.le_of_ble_eq_true rfl) rfl ?_
      refine r_aload_n rfl dX12_checks_50 rfl ?_
      refine r_getv 18 rfl dX12_checks_51 (show 2 ≤ 420 ∧ 420 < 434 by decide) h5 fl_X12_33 rfl ?_
      refine r_iload_n rfl dX12_checks_54 rfl ?_
      refine r_laldv (jn := j) (v := O1 j) rfl dX12_checks_55 (show 2 ≤ 427 ∧ 427 < 434 by decide) h27 (vp_in_nI (n := j) (by omega) (by decide)) (nI_clamp (n := j) (by omega)) rfl ?_
      refine r_aload_n rfl dX12_checks_56 rfl ?_
      refine r_iload_n rfl dX12_checks_57 rfl ?_
      refine r_laldv (jn := j) (v := Z j) rfl dX12_checks_58 (show 2 ≤ 432 ∧ 432 < 434 by decide) h32 (vp_in_nI (n := j) (by omega) (by decide)) (nI_clamp (n := j) (by omega)) rfl ?_
      refine r_ldc2 (v := (-1)) rfl dX12_checks_59 lc_X12_137 ?_
      refine r_lxor rfl dX12_checks_62 ?_
      refine r_land rfl dX12_checks_63 ?_
      refine r_lconst (v := 0) rfl dX12_checks_64 (by decide) ?_
      refine r_lcmp rfl dX12_checks_65 ?_
      refine r_if_eq (tgt := 73) rfl rfl dX12_checks_66 (fun c63 => ?_) (fun c63 => ?_)
      · refine r_iload_n rfl dX12_checks_73 rfl ?_
        refine r_istore_n (ls' := [some (.ref 420), some (.ref 432), some (.int 3), some (.int (nI j))]) rfl dX12_checks_74 (Nat.le_of_ble_eq_true rfl) rfl ?_
        obtain ⟨x64, e65⟩ : ∃ z : Int32, z = (nI j) + Int32.ofInt (-1) := ⟨_, rfl⟩
        refine r_iinc (y := x64) (ls' := [some (.ref 420), some (.ref 432), some (.int 3), some (.int x64)]) rfl dX12_checks_75 rfl e65.symm (Nat.le_of_ble_eq_true rfl) rfl ?_
        refine r_goto (pc' := 20) rfl dX12_checks_78 ?_
        rw [ckL, ck1, if_pos (lgc0.mp c63), if_neg (fun z => c51 (lgc0.mpr z)), if_neg c57]
        exact ih _ x64 (by rw [e65, Int32.sub_eq_add_neg]; rfl)
      · refine r_iconst (v := 2) rfl dX12_checks_69 (by decide) ?_
        refine r_goto (pc' := 74) rfl dX12_checks_70 ?_
        refine r_istore_n (ls' := [some (.ref 420), some (.ref 432), some (.int 2), some (.int (nI j))]) rfl dX12_checks_74 (Nat.le_of_ble_eq_true rfl) rfl ?_
        obtain ⟨x66, e67⟩ : ∃ z : Int32, z = (nI j) + Int32.ofInt (-1) := ⟨_, rfl⟩
        refine r_iinc (y := x66) (ls' := [some (.ref 420), some (.ref 432), some (.int 2), some (.int x66)]) rfl dX12_checks_75 rfl e67.symm (Nat.le_of_ble_eq_true rfl) rfl ?_
        refine r_goto (pc' := 20) rfl dX12_checks_78 ?_
        rw [ckL, ck1, if_neg (fun z => c63 (lgc0.mpr z))]
        exact ih _ x66 (by rw [e67, Int32.sub_eq_add_neg]; rfl)
theorem z_ck {xs : Nat → Int32} {L d : Nat} {h : ev_H} {th : Int32} {tr : Int64} {ty nx tk pl va fa ss wg : Int32} {c m : Nat} {G : Nat → Int32} {O1 T1 Z : Nat → Int64} (hS : SH h) (h5 : h 420 = .inr (12, [.int th, .long tr, .ref 421, .int ty, .int nx, .int tk, .int pl, .int va, .int fa, .int (nI c), .int (nI m), .int ss, .int wg, .ref 422, .ref 423, .ref 424, .ref 425, .ref 426, .ref 427, .ref 428, .ref 429, .ref 430, .ref 431, .ref 432, .ref 433])) (hc : c ≤ 16) (hm : m ≤ 24) (h22 : h 422 = cI 240 G) (h27 : h 427 = cL 4 O1) (h28 : h 428 = cL 4 T1) (h32 : h 432 = cL 4 Z) : ∀ (n : Nat) (v kx : Int32), n ≤ 4 → kx = nI n - 1 → EV xs L (d + 2) 0 0 M_X12_checks 434 h 20 [some (.ref 420), some (.ref 432), some (.int v), some (.int kx)] [] (fun sz' h' r => sz' = 434 ∧ h' = h ∧ r = [.int (ckL O1 T1 Z n v)]) := by
  intro n
  induction n with
  | zero => intro v kx hn e; exact z_ck_z hS h5 hc hm h22 h27 h28 h32 (by rw [e]; decide)
  | succ n ih => intro v kx hn e; obtain rfl : kx = nI n := (by rw [e]; exact nI_pred n); exact z_ck_s hS h5 hc hm h22 h27 h28 h32 (by omega) (fun v' kx z => ih v' kx (by omega) z)
set_option maxRecDepth 20000 in
set_option maxHeartbeats 1000000 in
theorem z_X12_checks {xs : Nat → Int32} {L d : Nat} {h : ev_H} {th : Int32} {tr : Int64} {ty nx tk pl va fa ss wg : Int32} {c m : Nat} {G : Nat → Int32} {O1 T1 Z : Nat → Int64} {P : Nat → Bool} (hS : SH h) (h5 : h 420 = .inr (12, [.int th, .long tr, .ref 421, .int ty, .int nx, .int tk, .int pl, .int va, .int fa, .int (nI c), .int (nI m), .int ss, .int wg, .ref 422, .ref 423, .ref 424, .ref 425, .ref 426, .ref 427, .ref 428, .ref 429, .ref 430, .ref 431, .ref 432, .ref 433])) (hc : c ≤ 16) (hm : m ≤ 24) (h22 : h 422 = cI 240 G) (h27 : h 427 = cL 4 O1) (h28 : h 428 = cL 4 T1) (h32 : h 432 = cL 4 Z) (hZ : ∀ p, p < 4 → Z p = wO P p) : EV xs L (d + 2) 0 0 M_X12_checks 434 h 0 [some (.ref 420), some (.ref 432), none, none] [] (fun sz' h' r => sz' = 434 ∧ h' = h ∧ r = [.int (if lkO P 256 &&& (shM G c ^^^ (-1)) = 0 then ckL O1 T1 Z 4 0 else 1)]) := by
  refine r_aload_n rfl dX12_checks_0 rfl ?_
  refine cl_X12_167 rfl rfl dX12_checks_1 (Nat.le_of_ble_eq_true rfl) (z_X12_looksOf hS (by decide) hZ h32) ?_
  rintro _ h51 _ ⟨rfl, hS52, hk53, rfl⟩
  have e54 : h = h51 := (funext (fun q => hk53 q (by simp))).symm
  subst e54
  refine r_aload_n rfl dX12_checks_4 rfl ?_
  refine cl_X12_133 rfl rfl dX12_checks_5 (show 2 ≤ 420 ∧ 420 < 434 by decide).1 (show 2 ≤ 420 ∧ 420 < 434 by decide).2 h5 (Nat.le_of_ble_eq_true rfl) (z_X12_shared hS h5 hc hm h22) ?_
  rintro _ h55 _ ⟨rfl, e56, rfl⟩
  replace e56 := e56.symm
  subst e56
  refine r_iconst (v := (-1)) rfl dX12_checks_8 (by decide) ?_
  refine r_ixor rfl dX12_checks_9 ?_
  refine r_iand rfl dX12_checks_10 ?_
  refine r_if_eq (tgt := 16) rfl rfl dX12_checks_11 (fun c57 => ?_) (fun c57 => ?_)
  · refine r_iconst (v := 0) rfl dX12_checks_16 (by decide) ?_
    refine r_istore_n (ls' := [some (.ref 420), some (.ref 432), some (.int 0), none]) rfl dX12_checks_17 (Nat.le_of_ble_eq_true rfl) rfl ?_
    refine r_iconst (v := 3) rfl dX12_checks_18 (by decide) ?_
    refine r_istore_n (ls' := [some (.ref 420), some (.ref 432), some (.int 0), some (.int 3)]) rfl dX12_checks_19 (Nat.le_of_ble_eq_true rfl) rfl ?_
    rw [if_pos c57]
    exact z_ck hS h5 hc hm h22 h27 h28 h32 4 0 3 (by decide) (by decide)
  · refine r_iconst (v := 1) rfl dX12_checks_14 (by decide) ?_
    exact r_ret dX12_checks_15 (rt_i rfl) ⟨rfl, rfl, by rw [if_neg c57] <;> rfl⟩
