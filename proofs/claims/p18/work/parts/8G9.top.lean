set_option maxRecDepth 20000 in
set_option maxHeartbeats 1000000 in
theorem v_sg_s {xs : Nat → Int32} {L d : Nat} {h : ev_H} {th : Int32} {tr : Int64} {ty nx tk pl va fa ss wg : Int32} {c m : Nat} {G : Nat → Int32} {e : Nat} {x y : Int32} {Y : Nat → Int64} (hS : SH h) (h5 : h 420 = c420 th tr ty nx tk pl va fa (nI c) (nI m) ss wg) (hc : c ≤ 16) (hm : m ≤ 24) (hek : e < 40) (h22 : h 422 = cI 240 G) (h26 : h 426 = cL 480 Y) (he : enM G (c + m) 0 = nI e) : EV xs L (d + 2) 0 0 M_X12_saying 434 h 0 [some (.ref 420), some (.int x), some (.int y), none] [] (fun sz' h' r => sz' = 434 ∧ SH h' ∧ KM [420, 431, 432, 433] h h' ∧ (r = [.long (sgN Y e x y)]) ∧ h' 420 = c420 0 tr ty nx tk pl va fa (nI c) (nI m) ss wg) := by
  refine r_aload_n rfl dX12_saying_0 rfl ?_
  refine r_iconst (v := 0) rfl dX12_saying_1 (by decide) ?_
  refine m_put 0 (fs' := [.int 0, .long tr, .ref 421, .int ty, .int nx, .int tk, .int pl, .int va, .int fa, .int (nI c), .int (nI m), .int ss, .int wg, .ref 422, .ref 423, .ref 424, .ref 425, .ref 426, .ref 427, .ref 428, .ref 429, .ref 430, .ref 431, .ref 432, .ref 433]) rfl dX12_saying_2 hS (KM_rf (Mod := [420, 431, 432, 433]) h) (by decide) h5 (fp_X12_57 rfl _) (Nat.le_of_ble_eq_true rfl) rfl (fun h51 hS52 hF53 f54 => ?_)
  refine r_aload_n rfl dX12_saying_5 rfl ?_
  refine cl_X12_154 rfl rfl dX12_saying_6 (show 2 ≤ 420 ∧ 420 < 434 by decide).1 (show 2 ≤ 420 ∧ 420 < 434 by decide).2 f54 (Nat.le_of_ble_eq_true rfl) (y_X12_ending hS52 f54 hc hm ((hF53 422 (by decide)).trans h22)) ?_
  rintro _ h55 _ ⟨rfl, e56, rfl⟩
  replace e56 := e56.symm
  subst e56
  refine r_eqi (y := nI e) he ?_
  refine r_istore_n (ls' := [some (.ref 420), some (.int x), some (.int y), some (.int (nI e))]) rfl dX12_saying_9 (Nat.le_of_ble_eq_true rfl) rfl ?_
  refine r_iload_n rfl dX12_saying_10 rfl ?_
  refine cl_X12_164 rfl rfl dX12_saying_11 (Nat.le_of_ble_eq_true rfl) (s_X12_isWay hS52) ?_
  rintro _ h57 _ ⟨rfl, e58, rfl⟩
  replace e58 := e58.symm
  subst e58
  refine r_if_eq (tgt := 51) rfl rfl dX12_saying_14 (fun c59 => ?_) (fun c59 => ?_)
  · refine r_lconst (v := 0) rfl dX12_saying_51 (by decide) ?_
    exact r_ret dX12_saying_52 (rt_l rfl) ⟨rfl, hS52, hF53, (by rw [sgN, if_pos c59]; rfl), f54⟩
  · obtain ⟨j60, q61, q62, e63⟩ := inR_nat (a := 0) (b := 2) (by omega) c59
    subst e63
    refine r_iload_n rfl dX12_saying_17 rfl ?_
    refine r_iconst (v := 0) rfl dX12_saying_18 (by decide) ?_
    refine r_iconst (v := 3) rfl dX12_saying_19 (by decide) ?_
    refine cl_X12_60 rfl rfl dX12_saying_20 (Nat.le_of_ble_eq_true rfl) s_X12_in ?_
    rintro _ h64 _ ⟨rfl, e65, rfl⟩
    replace e65 := e65.symm
    subst e65
    refine r_if_eq (tgt := 51) rfl rfl dX12_saying_23 (fun c66 => ?_) (fun c66 => ?_)
    · refine r_lconst (v := 0) rfl dX12_saying_51 (by decide) ?_
      exact r_ret dX12_saying_52 (rt_l rfl) ⟨rfl, hS52, hF53, (by rw [sgN, if_neg c59, if_pos c66]; rfl), f54⟩
    · obtain ⟨j67, q68, q69, e70⟩ := inR_nat (a := 0) (b := 3) (by omega) c66
      subst e70
      refine r_iload_n rfl dX12_saying_26 rfl ?_
      refine r_bipush (v := (-9)) rfl dX12_saying_27 (by decide) ?_
      refine r_icmp_eq (tgt := 51) rfl rfl dX12_saying_29 (fun zc => absurd zc (nI_nm9 (by omega))) (fun _ => ?_)
      refine r_aload_n rfl dX12_saying_32 rfl ?_
      refine r_getv 17 rfl dX12_saying_33 (show 2 ≤ 420 ∧ 420 < 434 by decide) f54 fl_X12_30 rfl ?_
      refine r_sipush (v := 160) rfl dX12_saying_36 (by decide) ?_
      refine r_iload_n rfl dX12_saying_39 rfl ?_
      refine r_imul rfl dX12_saying_40 ?_
      refine r_eqi (y := nI (160 * j60)) (show 160 * (nI j60) = nI (160 * j60) from pk_mul 160 j60) ?_
      refine r_iconst (v := 4) rfl dX12_saying_41 (by decide) ?_
      refine r_iload_n rfl dX12_saying_42 rfl ?_
      refine r_imul rfl dX12_saying_43 ?_
      refine r_eqi (y := nI (4 * e)) (show 4 * (nI e) = nI (4 * e) from pk_mul 4 e) ?_
      refine r_iadd rfl dX12_saying_44 ?_
      refine r_eqi (y := nI ((160 * j60) + (4 * e))) (show (nI (160 * j60)) + (nI (4 * e)) = nI ((160 * j60) + (4 * e)) from nI_add (160 * j60) (4 * e)) ?_
      refine r_iload_n rfl dX12_saying_45 rfl ?_
      refine r_iadd rfl dX12_saying_46 ?_
      refine r_eqi (y := nI (((160 * j60) + (4 * e)) + j67)) (show (nI ((160 * j60) + (4 * e))) + (nI j67) = nI (((160 * j60) + (4 * e)) + j67) from nI_add ((160 * j60) + (4 * e)) j67) ?_
      refine r_laldv (jn := ((160 * j60) + (4 * e)) + j67) (v := Y (((160 * j60) + (4 * e)) + j67)) rfl dX12_saying_47 (show 2 ≤ 426 ∧ 426 < 434 by decide) ((hF53 426 (by decide)).trans h26) (vp_in_nI (n := ((160 * j60) + (4 * e)) + j67) (by omega) (by omega)) (nI_clamp (n := ((160 * j60) + (4 * e)) + j67) (by omega)) rfl ?_
      refine r_goto (pc' := 52) rfl dX12_saying_48 ?_
      exact r_ret dX12_saying_52 (rt_l rfl) ⟨rfl, hS52, hF53, (by rw [sgN, if_neg c59, if_neg c66, nI_clamp (by omega), nI_clamp (by omega)]; rfl), f54⟩
set_option maxRecDepth 20000 in
set_option maxHeartbeats 1000000 in
theorem v_sg_z {xs : Nat → Int32} {L d : Nat} {h : ev_H} {th : Int32} {tr : Int64} {ty nx tk pl va fa ss wg : Int32} {c m : Nat} {G : Nat → Int32} {x y : Int32} {Y : Nat → Int64} (hS : SH h) (h5 : h 420 = c420 th tr ty nx tk pl va fa (nI c) (nI m) ss wg) (hc : c ≤ 16) (hm : m ≤ 24) (h22 : h 422 = cI 240 G) (h26 : h 426 = cL 480 Y) (he : enM G (c + m) 0 = (-9)) : EV xs L (d + 2) 0 0 M_X12_saying 434 h 0 [some (.ref 420), some (.int x), some (.int y), none] [] (fun sz' h' r => sz' = 434 ∧ SH h' ∧ KM [420, 431, 432, 433] h h' ∧ (r = [.long 0]) ∧ h' 420 = c420 0 tr ty nx tk pl va fa (nI c) (nI m) ss wg) := by
  refine r_aload_n rfl dX12_saying_0 rfl ?_
  refine r_iconst (v := 0) rfl dX12_saying_1 (by decide) ?_
  refine m_put 0 (fs' := [.int 0, .long tr, .ref 421, .int ty, .int nx, .int tk, .int pl, .int va, .int fa, .int (nI c), .int (nI m), .int ss, .int wg, .ref 422, .ref 423, .ref 424, .ref 425, .ref 426, .ref 427, .ref 428, .ref 429, .ref 430, .ref 431, .ref 432, .ref 433]) rfl dX12_saying_2 hS (KM_rf (Mod := [420, 431, 432, 433]) h) (by decide) h5 (fp_X12_57 rfl _) (Nat.le_of_ble_eq_true rfl) rfl (fun h51 hS52 hF53 f54 => ?_)
  refine r_aload_n rfl dX12_saying_5 rfl ?_
  refine cl_X12_154 rfl rfl dX12_saying_6 (show 2 ≤ 420 ∧ 420 < 434 by decide).1 (show 2 ≤ 420 ∧ 420 < 434 by decide).2 f54 (Nat.le_of_ble_eq_true rfl) (y_X12_ending hS52 f54 hc hm ((hF53 422 (by decide)).trans h22)) ?_
  rintro _ h55 _ ⟨rfl, e56, rfl⟩
  replace e56 := e56.symm
  subst e56
  refine r_eqi (y := (-9)) he ?_
  refine r_istore_n (ls' := [some (.ref 420), some (.int x), some (.int y), some (.int (-9))]) rfl dX12_saying_9 (Nat.le_of_ble_eq_true rfl) rfl ?_
  refine r_iload_n rfl dX12_saying_10 rfl ?_
  refine cl_X12_164 rfl rfl dX12_saying_11 (Nat.le_of_ble_eq_true rfl) (s_X12_isWay hS52) ?_
  rintro _ h57 _ ⟨rfl, e58, rfl⟩
  replace e58 := e58.symm
  subst e58
  refine r_if_eq (tgt := 51) rfl rfl dX12_saying_14 (fun c59 => ?_) (fun c59 => ?_)
  · refine r_lconst (v := 0) rfl dX12_saying_51 (by decide) ?_
    exact r_ret dX12_saying_52 (rt_l rfl) ⟨rfl, hS52, hF53, (rfl), f54⟩
  · obtain ⟨j60, q61, q62, e63⟩ := inR_nat (a := 0) (b := 2) (by omega) c59
    subst e63
    refine r_iload_n rfl dX12_saying_17 rfl ?_
    refine r_iconst (v := 0) rfl dX12_saying_18 (by decide) ?_
    refine r_iconst (v := 3) rfl dX12_saying_19 (by decide) ?_
    refine cl_X12_60 rfl rfl dX12_saying_20 (Nat.le_of_ble_eq_true rfl) s_X12_in ?_
    rintro _ h64 _ ⟨rfl, e65, rfl⟩
    replace e65 := e65.symm
    subst e65
    refine r_if_eq (tgt := 51) rfl rfl dX12_saying_23 (fun c66 => ?_) (fun c66 => ?_)
    · refine r_lconst (v := 0) rfl dX12_saying_51 (by decide) ?_
      exact r_ret dX12_saying_52 (rt_l rfl) ⟨rfl, hS52, hF53, (rfl), f54⟩
    · obtain ⟨j67, q68, q69, e70⟩ := inR_nat (a := 0) (b := 3) (by omega) c66
      subst e70
      refine r_iload_n rfl dX12_saying_26 rfl ?_
      refine r_bipush (v := (-9)) rfl dX12_saying_27 (by decide) ?_
      refine r_icmp_eq (tgt := 51) rfl rfl dX12_saying_29 (fun _ => ?_) (fun zc => absurd zc (by decide))
      refine r_lconst (v := 0) rfl dX12_saying_51 (by decide) ?_
      exact r_ret dX12_saying_52 (rt_l rfl) ⟨rfl, hS52, hF53, (rfl), f54⟩
/-- the row of sayings that the LINES' numbers tell -/
def yG (G : Nat → Int32) (c : Nat) : Nat → Nat → Int64
  | 0 => fun _ => 0
  | k + 1 => exY (yG G c k) k (fun w p => syW G c (yG G c k) k w p)
theorem yG_sv {G : Nat → Int32} {c K : Nat} (hc : c ≤ K) (hK : K ≤ 40) (hv : ∀ i, c ≤ i → i < K → (∃ a : Nat, a < i ∧ G (6 * i + 3) = nI a) ∧ (∃ b : Nat, b < i ∧ G (6 * i + 4) = nI b)) : ∀ k, k ≤ K → SV c k G (yG G c k)
  | 0, _ => fun i hi => absurd hi (by omega)
  | k + 1, hk => fun i hi way hw p hp => by
    have ih := yG_sv hc hK hv k (by omega)
    have hlo : ∀ j, j ≠ k → j < 40 → yG G c (k + 1) (160 * way + 4 * j + p) = yG G c k (160 * way + 4 * j + p) := fun j hj h40 => exY_lo h40 hp hj
    by_cases e : i = k
    · subst e
      rw [yG, exY_in (by omega) hp]
      exact syW_cg (k := K) hc (by omega) (fun _ _ => rfl) hv hK (fun j hj => (hlo j (by omega) (by omega)).symm)
    · rw [hlo i e (by omega), ih i (by omega) way hw p hp]
      exact syW_cg (k := K) hc (by omega) (fun _ _ => rfl) hv hK (fun j hj => (hlo j (by omega) (by omega)).symm)
theorem GV_hv {c m : Nat} {G : Nat → Int32} (hG : GV c m G) : ∀ i, c ≤ i → i < c + m → (∃ a : Nat, a < i ∧ G (6 * i + 3) = nI a) ∧ (∃ b : Nat, b < i ∧ G (6 * i + 4) = nI b) := fun q h1 h2 => ⟨(hG.2.2 q h1 h2).1, (hG.2.2 q h1 h2).2.1⟩
theorem Y_yG {c m : Nat} {G : Nat → Int32} {Y : Nat → Int64} (hcm : c + m ≤ 40) (hG : GV c m G) (hV : SV c (c + m) G Y) {way p i : Nat} (hw : way < 3) (hp : p < 4) (hi : i < c + m) : Y (160 * way + 4 * i + p) = yG G c (c + m) (160 * way + 4 * i + p) := SV_un (by omega) hcm (GV_hv hG) hV (yG_sv (by omega) hcm (GV_hv hG) (c + m) (Nat.le_refl _)) hw hp (i + 1) i (by omega) hi
theorem syN_yG {c m : Nat} {G : Nat → Int32} {Y : Nat → Int64} (hcm : c + m ≤ 40) (hG : GV c m G) (hV : SV c (c + m) G Y) (x y z : Int32) : syN Y (c + m) x y z = syN (yG G c (c + m)) (c + m) x y z := by
  unfold syN
  by_cases h1 : inR x 0 2 = 0
  · rw [if_pos h1, if_pos h1]
  · rw [if_neg h1, if_neg h1]
    by_cases h2 : inR y 0 (nI (c + m) - 1) = 0
    · rw [if_pos h2, if_pos h2]
    · rw [if_neg h2, if_neg h2]
      by_cases h3 : inR z 0 255 = 0
      · rw [if_pos h3, if_pos h3]
      · rw [if_neg h3, if_neg h3]
        obtain ⟨j, -, hj, rfl⟩ := inR_nat (a := 0) (b := 2) (by omega) h1
        obtain ⟨i, hi, rfl⟩ := isLn (n := c + m) (by omega) h2
        obtain ⟨w, -, hw, rfl⟩ := inR_nat (a := 0) (b := 255) (by omega) h3
        rw [nI_clamp (by omega), nI_clamp (by omega), nI_clamp (by omega), Y_yG hcm hG hV (by omega) (by omega) hi]
theorem sgN_yG {c m e : Nat} {G : Nat → Int32} {Y : Nat → Int64} (hcm : c + m ≤ 40) (hG : GV c m G) (hV : SV c (c + m) G Y) (he : e < c + m) (x y : Int32) : sgN Y e x y = sgN (yG G c (c + m)) e x y := by
  unfold sgN
  by_cases h1 : inR x 0 2 = 0
  · rw [if_pos h1, if_pos h1]
  · rw [if_neg h1, if_neg h1]
    by_cases h2 : inR y 0 3 = 0
    · rw [if_pos h2, if_pos h2]
    · rw [if_neg h2, if_neg h2]
      obtain ⟨j, -, hj, rfl⟩ := inR_nat (a := 0) (b := 2) (by omega) h1
      obtain ⟨p, -, hp, rfl⟩ := inR_nat (a := 0) (b := 3) (by omega) h2
      rw [nI_clamp (by omega), nI_clamp (by omega), Y_yG hcm hG hV (by omega) (by omega) he]
def sgR (G : Nat → Int32) (c k : Nat) (x y : Int32) : Int64 := if enM G k 0 = -9 then 0 else sgN (yG G c k) (enM G k 0).toNatClampNeg x y
theorem RSb_n {k : Nat} (h : 24 ≤ k) : RSb k = false := by
  simp [RSb]
  omega
theorem RKb_n {k : Nat} (h : 93 ≤ k) : RKb k = false := by
  simp [RKb]
  omega
