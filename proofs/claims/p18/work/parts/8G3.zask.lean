def hoN (H : Nat → Int64) (k : Nat) (x y : Int32) : Int32 := if inR x 0 (nI k - 1) = 0 then -1 else if inR y 0 255 = 0 then -1 else hsM (H (4 * x.toNatClampNeg + y.toNatClampNeg / 64)) y.toNatClampNeg
def syN (Y : Nat → Int64) (k : Nat) (x y z : Int32) : Int32 := if inR x 0 2 = 0 then -1 else if inR y 0 (nI k - 1) = 0 then -1 else if inR z 0 255 = 0 then -1 else hsM (Y (160 * x.toNatClampNeg + 4 * y.toNatClampNeg + z.toNatClampNeg / 64)) z.toNatClampNeg
def sgN (Y : Nat → Int64) (e : Nat) (x y : Int32) : Int64 := if inR x 0 2 = 0 then 0 else if inR y 0 3 = 0 then 0 else Y (160 * x.toNatClampNeg + 4 * e + y.toNatClampNeg)
theorem hsM_01 (x : Int64) (w : Nat) : hsM x w = 0 ∨ hsM x w = 1 := by
  unfold hsM
  split
  · exact Or.inr rfl
  · exact Or.inl rfl
set_option maxRecDepth 20000 in
set_option maxHeartbeats 1000000 in
theorem v_X12_holds {xs : Nat → Int32} {L d : Nat} {h : ev_H} {th : Int32} {tr : Int64} {ty nx tk pl va fa ss wg : Int32} {c m : Nat} {H : Nat → Int64} {x y : Int32} (hS : SH h) (h5 : h 420 = c420 th tr ty nx tk pl va fa (nI c) (nI m) ss wg) (hc : c ≤ 16) (hm : m ≤ 24) (h25 : h 425 = cL 160 H) : EV xs L (d + 2) 0 0 M_X12_holds 434 h 0 [some (.ref 420), some (.int x), some (.int y)] [] (fun sz' h' r => sz' = 434 ∧ SH h' ∧ KM [420, 431, 432, 433] h h' ∧ (r = [.int (hoN H (c + m) x y)]) ∧ h' 420 = c420 0 tr ty nx tk pl va fa (nI c) (nI m) ss wg) := by
  refine r_aload_n rfl dX12_holds_0 rfl ?_
  refine r_iconst (v := 0) rfl dX12_holds_1 (by decide) ?_
  refine m_put 0 (fs' := [.int 0, .long tr, .ref 421, .int ty, .int nx, .int tk, .int pl, .int va, .int fa, .int (nI c), .int (nI m), .int ss, .int wg, .ref 422, .ref 423, .ref 424, .ref 425, .ref 426, .ref 427, .ref 428, .ref 429, .ref 430, .ref 431, .ref 432, .ref 433]) rfl dX12_holds_2 hS (KM_rf (Mod := [420, 431, 432, 433]) h) (by decide) h5 (fp_X12_57 rfl _) (Nat.le_of_ble_eq_true rfl) rfl (fun h51 hS52 hF53 f54 => ?_)
  refine r_aload_n rfl dX12_holds_5 rfl ?_
  refine r_iload_n rfl dX12_holds_6 rfl ?_
  refine cl_X12_157 rfl rfl dX12_holds_7 (show 2 ≤ 420 ∧ 420 < 434 by decide).1 (show 2 ≤ 420 ∧ 420 < 434 by decide).2 f54 (Nat.le_of_ble_eq_true rfl) (s_X12_isLine hS52 f54 hc hm) ?_
  rintro _ h55 _ ⟨rfl, e56, rfl⟩
  replace e56 := e56.symm
  subst e56
  refine r_if_eq (tgt := 24) rfl rfl dX12_holds_10 (fun c57 => ?_) (fun c57 => ?_)
  · refine r_iconst (v := (-1)) rfl dX12_holds_24 (by decide) ?_
    refine r_goto (pc' := 47) rfl dX12_holds_25 ?_
    exact r_ret dX12_holds_47 (rt_i rfl) ⟨rfl, hS52, hF53, (by rw [hoN, if_pos c57]; rfl), f54⟩
  · obtain ⟨j58, q59, e60⟩ := isLn (n := c + m) (by omega) c57
    subst e60
    refine r_iload_n rfl dX12_holds_13 rfl ?_
    refine r_iconst (v := 0) rfl dX12_holds_14 (by decide) ?_
    refine r_sipush (v := 255) rfl dX12_holds_15 (by decide) ?_
    refine cl_X12_60 rfl rfl dX12_holds_18 (Nat.le_of_ble_eq_true rfl) s_X12_in ?_
    rintro _ h61 _ ⟨rfl, e62, rfl⟩
    replace e62 := e62.symm
    subst e62
    refine r_if_ne (tgt := 28) rfl rfl dX12_holds_21 (fun c63 => ?_) (fun c63 => ?_)
    · obtain ⟨j64, q65, q66, e67⟩ := inR_nat (a := 0) (b := 255) (by omega) c63
      subst e67
      refine r_aload_n rfl dX12_holds_28 rfl ?_
      refine r_getv 16 rfl dX12_holds_29 (show 2 ≤ 420 ∧ 420 < 434 by decide) f54 fl_X12_26 rfl ?_
      refine r_iconst (v := 4) rfl dX12_holds_32 (by decide) ?_
      refine r_iload_n rfl dX12_holds_33 rfl ?_
      refine r_imul rfl dX12_holds_34 ?_
      refine r_eqi (y := nI (4 * j58)) (show 4 * (nI j58) = nI (4 * j58) from pk_mul 4 j58) ?_
      refine r_iload_n rfl dX12_holds_35 rfl ?_
      refine cl_X12_143 rfl rfl dX12_holds_36 (Nat.le_of_ble_eq_true rfl) (z_X12_has (q := 4 * j58) (w := j64) hS52 (by decide) ((hF53 425 (by decide)).trans h25) (by decide) (by omega) (by omega)) ?_
      rintro _ h68 _ ⟨rfl, e69, rfl⟩
      replace e69 := e69.symm
      subst e69
      refine r_if_eq (tgt := 46) rfl rfl dX12_holds_39 (fun c70 => ?_) (fun c70 => ?_)
      · refine r_iconst (v := 0) rfl dX12_holds_46 (by decide) ?_
        have e71 := c70
        exact r_ret dX12_holds_47 (rt_i rfl) ⟨rfl, hS52, hF53, (by rw [hoN, if_neg c57, if_neg c63, nI_clamp (by omega), nI_clamp (by omega)]; exact congrArg (fun z => [Value.int z]) e71.symm), f54⟩
      · refine r_iconst (v := 1) rfl dX12_holds_42 (by decide) ?_
        refine r_goto (pc' := 47) rfl dX12_holds_43 ?_
        have e72 := (hsM_01 _ _).resolve_left c70
        exact r_ret dX12_holds_47 (rt_i rfl) ⟨rfl, hS52, hF53, (by rw [hoN, if_neg c57, if_neg c63, nI_clamp (by omega), nI_clamp (by omega)]; exact congrArg (fun z => [Value.int z]) e72.symm), f54⟩
    · refine r_iconst (v := (-1)) rfl dX12_holds_24 (by decide) ?_
      refine r_goto (pc' := 47) rfl dX12_holds_25 ?_
      exact r_ret dX12_holds_47 (rt_i rfl) ⟨rfl, hS52, hF53, (by rw [hoN, if_neg c57, if_pos c63]; rfl), f54⟩
set_option maxRecDepth 20000 in
set_option maxHeartbeats 1000000 in
theorem v_X12_says {xs : Nat → Int32} {L d : Nat} {h : ev_H} {th : Int32} {tr : Int64} {ty nx tk pl va fa ss wg : Int32} {c m : Nat} {Y : Nat → Int64} {x y z : Int32} (hS : SH h) (h5 : h 420 = c420 th tr ty nx tk pl va fa (nI c) (nI m) ss wg) (hc : c ≤ 16) (hm : m ≤ 24) (h26 : h 426 = cL 480 Y) : EV xs L (d + 2) 0 0 M_X12_says 434 h 0 [some (.ref 420), some (.int x), some (.int y), some (.int z)] [] (fun sz' h' r => sz' = 434 ∧ SH h' ∧ KM [420, 431, 432, 433] h h' ∧ (r = [.int (syN Y (c + m) x y z)]) ∧ h' 420 = c420 0 tr ty nx tk pl va fa (nI c) (nI m) ss wg) := by
  refine r_aload_n rfl dX12_says_0 rfl ?_
  refine r_iconst (v := 0) rfl dX12_says_1 (by decide) ?_
  refine m_put 0 (fs' := [.int 0, .long tr, .ref 421, .int ty, .int nx, .int tk, .int pl, .int va, .int fa, .int (nI c), .int (nI m), .int ss, .int wg, .ref 422, .ref 423, .ref 424, .ref 425, .ref 426, .ref 427, .ref 428, .ref 429, .ref 430, .ref 431, .ref 432, .ref 433]) rfl dX12_says_2 hS (KM_rf (Mod := [420, 431, 432, 433]) h) (by decide) h5 (fp_X12_57 rfl _) (Nat.le_of_ble_eq_true rfl) rfl (fun h51 hS52 hF53 f54 => ?_)
  refine r_iload_n rfl dX12_says_5 rfl ?_
  refine cl_X12_164 rfl rfl dX12_says_6 (Nat.le_of_ble_eq_true rfl) (s_X12_isWay hS52) ?_
  rintro _ h55 _ ⟨rfl, e56, rfl⟩
  replace e56 := e56.symm
  subst e56
  refine r_if_eq (tgt := 31) rfl rfl dX12_says_9 (fun c57 => ?_) (fun c57 => ?_)
  · refine r_iconst (v := (-1)) rfl dX12_says_31 (by decide) ?_
    refine r_goto (pc' := 60) rfl dX12_says_32 ?_
    exact r_ret dX12_says_60 (rt_i rfl) ⟨rfl, hS52, hF53, (by rw [syN, if_pos c57]; rfl), f54⟩
  · obtain ⟨j58, q59, q60, e61⟩ := inR_nat (a := 0) (b := 2) (by omega) c57
    subst e61
    refine r_aload_n rfl dX12_says_12 rfl ?_
    refine r_iload_n rfl dX12_says_13 rfl ?_
    refine cl_X12_157 rfl rfl dX12_says_14 (show 2 ≤ 420 ∧ 420 < 434 by decide).1 (show 2 ≤ 420 ∧ 420 < 434 by decide).2 f54 (Nat.le_of_ble_eq_true rfl) (s_X12_isLine hS52 f54 hc hm) ?_
    rintro _ h62 _ ⟨rfl, e63, rfl⟩
    replace e63 := e63.symm
    subst e63
    refine r_if_eq (tgt := 31) rfl rfl dX12_says_17 (fun c64 => ?_) (fun c64 => ?_)
    · refine r_iconst (v := (-1)) rfl dX12_says_31 (by decide) ?_
      refine r_goto (pc' := 60) rfl dX12_says_32 ?_
      exact r_ret dX12_says_60 (rt_i rfl) ⟨rfl, hS52, hF53, (by rw [syN, if_neg c57, if_pos c64]; rfl), f54⟩
    · obtain ⟨j65, q66, e67⟩ := isLn (n := c + m) (by omega) c64
      subst e67
      refine r_iload_n rfl dX12_says_20 rfl ?_
      refine r_iconst (v := 0) rfl dX12_says_21 (by decide) ?_
      refine r_sipush (v := 255) rfl dX12_says_22 (by decide) ?_
      refine cl_X12_60 rfl rfl dX12_says_25 (Nat.le_of_ble_eq_true rfl) s_X12_in ?_
      rintro _ h68 _ ⟨rfl, e69, rfl⟩
      replace e69 := e69.symm
      subst e69
      refine r_if_ne (tgt := 35) rfl rfl dX12_says_28 (fun c70 => ?_) (fun c70 => ?_)
      · obtain ⟨j71, q72, q73, e74⟩ := inR_nat (a := 0) (b := 255) (by omega) c70
        subst e74
        refine r_aload_n rfl dX12_says_35 rfl ?_
        refine r_getv 17 rfl dX12_says_36 (show 2 ≤ 420 ∧ 420 < 434 by decide) f54 fl_X12_30 rfl ?_
        refine r_sipush (v := 160) rfl dX12_says_39 (by decide) ?_
        refine r_iload_n rfl dX12_says_42 rfl ?_
        refine r_imul rfl dX12_says_43 ?_
        refine r_eqi (y := nI (160 * j58)) (show 160 * (nI j58) = nI (160 * j58) from pk_mul 160 j58) ?_
        refine r_iconst (v := 4) rfl dX12_says_44 (by decide) ?_
        refine r_iload_n rfl dX12_says_45 rfl ?_
        refine r_imul rfl dX12_says_46 ?_
        refine r_eqi (y := nI (4 * j65)) (show 4 * (nI j65) = nI (4 * j65) from pk_mul 4 j65) ?_
        refine r_iadd rfl dX12_says_47 ?_
        refine r_eqi (y := nI ((160 * j58) + (4 * j65))) (show (nI (160 * j58)) + (nI (4 * j65)) = nI ((160 * j58) + (4 * j65)) from nI_add (160 * j58) (4 * j65)) ?_
        refine r_iload_n rfl dX12_says_48 rfl ?_
        refine cl_X12_143 rfl rfl dX12_says_49 (Nat.le_of_ble_eq_true rfl) (z_X12_has (q := (160 * j58) + (4 * j65)) (w := j71) hS52 (by decide) ((hF53 426 (by decide)).trans h26) (by decide) (by omega) (by omega)) ?_
        rintro _ h75 _ ⟨rfl, e76, rfl⟩
        replace e76 := e76.symm
        subst e76
        refine r_if_eq (tgt := 59) rfl rfl dX12_says_52 (fun c77 => ?_) (fun c77 => ?_)
        · refine r_iconst (v := 0) rfl dX12_says_59 (by decide) ?_
          have e78 := c77
          exact r_ret dX12_says_60 (rt_i rfl) ⟨rfl, hS52, hF53, (by rw [syN, if_neg c57, if_neg c64, if_neg c70, nI_clamp (by omega), nI_clamp (by omega), nI_clamp (by omega)]; exact congrArg (fun z => [Value.int z]) e78.symm), f54⟩
        · refine r_iconst (v := 1) rfl dX12_says_55 (by decide) ?_
          refine r_goto (pc' := 60) rfl dX12_says_56 ?_
          have e79 := (hsM_01 _ _).resolve_left c77
          exact r_ret dX12_says_60 (rt_i rfl) ⟨rfl, hS52, hF53, (by rw [syN, if_neg c57, if_neg c64, if_neg c70, nI_clamp (by omega), nI_clamp (by omega), nI_clamp (by omega)]; exact congrArg (fun z => [Value.int z]) e79.symm), f54⟩
      · refine r_iconst (v := (-1)) rfl dX12_says_31 (by decide) ?_
        refine r_goto (pc' := 60) rfl dX12_says_32 ?_
        exact r_ret dX12_says_60 (rt_i rfl) ⟨rfl, hS52, hF53, (by rw [syN, if_neg c57, if_neg c64, if_pos c70]; rfl), f54⟩
