theorem ush_b {x : Int64} {n : Nat} (hn : n < 64) : (((x.toUInt64 >>> ((nI n : Int32).toInt64.toUInt64 &&& Int64.toUInt64 63)).toInt64) &&& 1) = if tb x n = true then 1 else 0 := by
  have hs : ∀ n : Fin 64, (((nI n.1 : Int32).toInt64.toUInt64 &&& Int64.toUInt64 63).toBitVec % 64) = BitVec.ofNat 64 n.1 := by decide +kernel
  rw [bit_and1]
  have e : tb ((x.toUInt64 >>> ((nI n : Int32).toInt64.toUInt64 &&& Int64.toUInt64 63)).toInt64) 0 = tb x n := by
    unfold tb
    show (x.toUInt64 >>> ((nI n : Int32).toInt64.toUInt64 &&& Int64.toUInt64 63)).toBitVec.getLsbD 0 = _
    rw [UInt64.toBitVec_shiftRight, hs ⟨n, hn⟩]
    show (x.toBitVec >>> (BitVec.ofNat 64 n)).getLsbD 0 = _
    rw [BitVec.ushiftRight_eq', BitVec.getLsbD_ushiftRight, BitVec.toNat_ofNat, Nat.mod_eq_of_lt (by omega), Nat.add_zero]
  rw [e]
theorem sel4_V {V : Nat → Int64} {p : Nat} (hp : p < 4) : sel4 (V 0) (V 1) (V 2) (V 3) p = V p := by
  match p, hp with
  | 0, _ => rfl
  | 1, _ => rfl
  | 2, _ => rfl
  | 3, _ => rfl
theorem isW_n : ∀ w : Fin 256, isW (nI w.1) = 1 ∧ (nI w.1 >>> ((6 : Int32) &&& 31)).toNatClampNeg = w.1 / 64 ∧ (nI w.1 &&& 63 : Int32) = nI (w.1 % 64) := by decide +kernel
theorem wsHas_M {V : Nat → Int64} {w : Nat} (hw : w < 256) : wsHas (V 0) (V 1) (V 2) (V 3) (nI w) = hsM (V (w / 64)) w := by
  obtain ⟨e1, e2, e3⟩ := isW_n ⟨w, hw⟩
  unfold wsHas hsM
  rw [e1, if_neg (by decide), e2, e3, sel4_V (by omega), ush_b (by omega)]
  by_cases t : tb (V (w / 64)) (w % 64) = true
  · rw [if_pos t, if_pos t, if_neg (by decide)]
  · rw [if_neg t, if_neg t, if_pos (by decide)]
theorem wsPart_M {V : Nat → Int64} {p : Nat} (hp : p < 4) : wsPart (V 0) (V 1) (V 2) (V 3) (nI p) = V p := by
  unfold wsPart
  rw [if_neg (show ¬ nI p < (0 : Int32) from nI_nlt (a := p) (b := 0) (by omega) (by omega)), if_pos (show nI p < (4 : Int32) from nI_lt (a := p) (b := 4) hp (by decide)), nI_clamp (by omega), sel4_V hp]
theorem isWy_in (x : Int32) : isWy x = inR x 0 2 := by
  unfold isWy inR
  have e : (3 : Int32) ≤ x ↔ (2 : Int32) < x := by
    rw [Int32.le_iff_toInt_le, Int32.lt_iff_toInt_lt]
    have e1 : (3 : Int32).toInt = 3 := rfl
    have e2 : (2 : Int32).toInt = 2 := rfl
    omega
  repeat' split
  all_goals first | rfl | (exfalso; simp only [Int32.not_lt, Int32.not_le, e] at *; contradiction) | (exfalso; rename_i a b c; first | exact absurd (e.mp b) c | exact absurd (e.mpr c) b | exact b (e.mpr c) | exact c (e.mp b))
theorem isWy_nat {x : Int32} (h : ¬ isWy x = 0) : ∃ j : Nat, j < 3 ∧ x = nI j := by
  rw [isWy_in] at h
  obtain ⟨j, -, hj, e⟩ := inR_nat (a := 0) (b := 2) (by omega) h
  exact ⟨j, by omega, e⟩
theorem isW_in' (y : Int32) : isW y = inR y 0 255 := by
  unfold isW inR
  by_cases h : y < 0
  · rw [if_pos h, if_pos h]
  · rw [if_neg h, if_neg h]
    have e : (256 : Int32) ≤ y ↔ (255 : Int32) < y := by
      rw [Int32.le_iff_toInt_le, Int32.lt_iff_toInt_lt]
      have e1 : (256 : Int32).toInt = 256 := rfl
      have e2 : (255 : Int32).toInt = 255 := rfl
      omega
    by_cases h2 : (255 : Int32) < y
    · rw [if_pos h2, if_pos (e.mpr h2)]
    · rw [if_neg h2, if_neg (fun z => h2 (e.mp z))]
theorem isW_nat {y : Int32} (h : ¬ isW y = 0) : ∃ w : Nat, w < 256 ∧ y = nI w := by
  rw [isW_in'] at h
  obtain ⟨j, -, hj, e⟩ := inR_nat (a := 0) (b := 255) (by omega) h
  exact ⟨j, by omega, e⟩
set_option maxRecDepth 20000 in
set_option maxHeartbeats 1000000 in
theorem v_X3_sayingBy {xs : Nat → Int32} {L d : Nat} {h : ev_H} {i j : Nat} (hS : SH h) (hi : i < 40) (hj : j < 3) : EV xs L (d + 0) 0 0 M_X3_sayingBy 434 h 0 [some (.ref (100 + 8 * i)), some (.int (nI j))] [] (fun sz' h' r => sz' = 434 ∧ h' = h ∧ r = [.ref (102 + 8 * i + 2 * j)]) := by
  refine r_aload_n rfl dX3_sayingBy_0 rfl ?_
  obtain ⟨y51, y52, y53, y54, y55, y56, f57⟩ := hS.ln (i := i) (by omega)
  refine r_getv 0 rfl dX3_sayingBy_1 (show 2 ≤ 100 + 8 * i ∧ 100 + 8 * i < 434 by omega) f57 fl_X3_11 rfl ?_
  refine r_iload_n rfl dX3_sayingBy_4 rfl ?_
  refine r_if_lt (tgt := 13) rfl rfl dX3_sayingBy_5 (fun zc => absurd zc (show ¬ nI j < (0 : Int32) from nI_nlt (a := j) (b := 0) (by omega) (by omega))) (fun _ => ?_)
  refine r_iload_n rfl dX3_sayingBy_8 rfl ?_
  refine r_iconst (v := 3) rfl dX3_sayingBy_9 (by decide) ?_
  refine r_icmp_lt (tgt := 17) rfl rfl dX3_sayingBy_10 (fun _ => ?_) (fun zc => absurd (show nI j < (3 : Int32) from nI_lt (a := j) (b := 3) (by omega) (by decide)) zc)
  refine r_iload_n rfl dX3_sayingBy_17 rfl ?_
  refine r_aald (jn := j) (v := .ref (102 + 8 * i + 2 * j)) rfl dX3_sayingBy_18 (show 2 ≤ 101 + 8 * i ∧ 101 + 8 * i < 434 by omega).1 (show 2 ≤ 101 + 8 * i ∧ 101 + 8 * i < 434 by omega).2 (hS.say (i := i) (by omega)) (by decide) (vp_in_nI (n := j) (by omega) (by decide)) (nI_clamp (n := j) (by omega)) (by show va_rf (if _ < _ then _ else _) = _; rw [if_pos (show j < 3 by omega)]; rfl) ?_
  exact r_ret dX3_sayingBy_19 (rt_a rfl) ⟨rfl, rfl, rfl⟩
set_option maxRecDepth 20000 in
set_option maxHeartbeats 1000000 in
theorem v_X11_says {xs : Nat → Int32} {L d : Nat} {h : ev_H} {k : Nat} {cc sc wr el : Int32} {G : Nat → Int32} {Y : Nat → Int64} {x y z : Int32} (hS : SH h) (h2 : h 2 = c2 cc (nI k) sc wr el) (hk : k ≤ 40) (hck : k ≤ 40) (hLN : LN k G h) (hSW : SWc k Y h) : EV xs L (d + 2) 0 0 M_X11_says 434 h 0 [some (.ref 2), some (.int x), some (.int y), some (.int z), none] [] (fun sz' h' r => sz' = 434 ∧ h' = h ∧ r = [.int (syN Y k x y z)]) := by
  refine r_aload_n rfl dX11_says_0 rfl ?_
  refine r_iload_n rfl dX11_says_1 rfl ?_
  refine cl_X11_121 rfl rfl dX11_says_2 (show 2 ≤ 2 ∧ 2 < 434 by decide).1 (show 2 ≤ 2 ∧ 2 < 434 by decide).2 h2 (Nat.le_of_ble_eq_true rfl) (x_X11_lineAt hS h2 hk) ?_
  rintro _ h51 _ ⟨rfl, e52, ⟨n53, hn54, ex55, rfl⟩ | ⟨hno56, rfl⟩⟩
  · replace e52 := e52.symm
    subst e52
    subst ex55
    refine r_astore (ls' := [some (.ref 2), some (.int x), some (.int (nI n53)), some (.int z), some (.ref (100 + 8 * n53))]) rfl dX11_says_5 (Nat.le_of_ble_eq_true rfl) rfl ?_
    refine r_iload_n rfl dX11_says_7 rfl ?_
    refine cl_X11_150 rfl rfl dX11_says_8 (Nat.le_of_ble_eq_true rfl) s_X11_isWay ?_
    rintro _ h57 _ ⟨rfl, e58, rfl⟩
    replace e58 := e58.symm
    subst e58
    refine r_if_eq (tgt := 26) rfl rfl dX11_says_11 (fun c59 => ?_) (fun c59 => ?_)
    · refine r_iconst (v := (-1)) rfl dX11_says_26 (by decide) ?_
      exact r_ret dX11_says_27 (rt_i rfl) ⟨rfl, rfl, (by rw [syN, if_pos (by rw [← isWy_in]; exact c59)] <;> rfl)⟩
    · obtain ⟨j60, hj61, ej62⟩ := isWy_nat c59
      subst ej62
      refine r_aload rfl dX11_says_14 rfl ?_
      refine r_ifnull rfl (by decide) dX11_says_16 ?_
      refine r_iload_n rfl dX11_says_19 rfl ?_
      refine cl_X11_132 rfl rfl dX11_says_20 (Nat.le_of_ble_eq_true rfl) s_X11_isWorld ?_
      rintro _ h63 _ ⟨rfl, e64, rfl⟩
      replace e64 := e64.symm
      subst e64
      refine r_if_ne (tgt := 28) rfl rfl dX11_says_23 (fun c65 => ?_) (fun c65 => ?_)
      · obtain ⟨w66, hw67, ew68⟩ := isW_nat c65
        subst ew68
        refine r_aload rfl dX11_says_28 rfl ?_
        refine r_iload_n rfl dX11_says_30 rfl ?_
        refine cl_X11_153 rfl rfl dX11_says_31 (show 2 ≤ 100 + 8 * n53 ∧ 100 + 8 * n53 < 434 by omega).1 (show 2 ≤ 100 + 8 * n53 ∧ 100 + 8 * n53 < 434 by omega).2 (hLN n53 (by omega)) (Nat.le_of_ble_eq_true rfl) (v_X3_sayingBy hS (i := n53) (j := j60) (by omega) (by omega)) ?_
        rintro _ h69 _ ⟨rfl, e70, rfl⟩
        replace e70 := e70.symm
        subst e70
        refine r_iload_n rfl dX11_says_34 rfl ?_
        obtain ⟨t71, hw72⟩ := (hSW n53 (by omega) j60 (by omega)).is hS (wsAt_ln (i := n53) (w := j60) (by omega) (by omega))
        refine cl_X11_157 rfl rfl dX11_says_35 (show _ ∧ _ from ⟨((wsAt_ln (i := n53) (w := j60) (by omega) (by omega))).2.2.1, Nat.lt_of_succ_lt ((wsAt_ln (i := n53) (w := j60) (by omega) (by omega))).2.2.2⟩).1 (show _ ∧ _ from ⟨((wsAt_ln (i := n53) (w := j60) (by omega) (by omega))).2.2.1, Nat.lt_of_succ_lt ((wsAt_ln (i := n53) (w := j60) (by omega) (by omega))).2.2.2⟩).2 hw72.2.2.1 (Nat.le_of_ble_eq_true rfl) (s_X10_has hw72) ?_
        rintro _ h73 _ ⟨rfl, e74, rfl⟩
        replace e74 := e74.symm
        subst e74
        refine r_if_eq (tgt := 45) rfl rfl dX11_says_38 (fun c75 => ?_) (fun c75 => ?_)
        · refine r_iconst (v := 0) rfl dX11_says_45 (by decide) ?_
          have e76 := c75
          rw [wsHas_M (V := fun p => Y (160 * j60 + 4 * n53 + p)) (by omega)] at e76
          exact r_ret dX11_says_46 (rt_i rfl) ⟨rfl, rfl, (by rw [syN, if_neg (by rw [← isWy_in]; exact c59), if_neg (inR_in hk hn54), if_neg (by rw [← isW_in']; exact c65), nI_clamp (by omega), nI_clamp (by omega), nI_clamp (by omega)]; exact congrArg (fun z => [Value.int z]) e76.symm)⟩
        · refine r_iconst (v := 1) rfl dX11_says_41 (by decide) ?_
          refine r_goto (pc' := 46) rfl dX11_says_42 ?_
          have e77 := c75
          rw [wsHas_M (V := fun p => Y (160 * j60 + 4 * n53 + p)) (by omega)] at e77
          replace e77 := (hsM_01 _ _).resolve_left e77
          exact r_ret dX11_says_46 (rt_i rfl) ⟨rfl, rfl, (by rw [syN, if_neg (by rw [← isWy_in]; exact c59), if_neg (inR_in hk hn54), if_neg (by rw [← isW_in']; exact c65), nI_clamp (by omega), nI_clamp (by omega), nI_clamp (by omega)]; exact congrArg (fun z => [Value.int z]) e77.symm)⟩
      · refine r_iconst (v := (-1)) rfl dX11_says_26 (by decide) ?_
        exact r_ret dX11_says_27 (rt_i rfl) ⟨rfl, rfl, (by rw [syN, if_neg (by rw [← isWy_in]; exact c59), if_neg (inR_in hk hn54), if_pos (by rw [← isW_in']; exact c65)] <;> rfl)⟩
  · replace e52 := e52.symm
    subst e52
    refine r_astoreN (ls' := [some (.ref 2), some (.int x), some (.int y), some (.int z), some (.null)]) rfl dX11_says_5 (Nat.le_of_ble_eq_true rfl) rfl ?_
    refine r_iload_n rfl dX11_says_7 rfl ?_
    refine cl_X11_150 rfl rfl dX11_says_8 (Nat.le_of_ble_eq_true rfl) s_X11_isWay ?_
    rintro _ h78 _ ⟨rfl, e79, rfl⟩
    replace e79 := e79.symm
    subst e79
    refine r_if_eq (tgt := 26) rfl rfl dX11_says_11 (fun c80 => ?_) (fun c80 => ?_)
    · refine r_iconst (v := (-1)) rfl dX11_says_26 (by decide) ?_
      exact r_ret dX11_says_27 (rt_i rfl) ⟨rfl, rfl, (by rw [syN, if_pos (by rw [← isWy_in]; exact c80)] <;> rfl)⟩
    · obtain ⟨j81, hj82, ej83⟩ := isWy_nat c80
      subst ej83
      refine r_aloadN rfl dX11_says_14 rfl ?_
      refine r_ifnullN (tgt := 26) rfl dX11_says_16 ?_
      refine r_iconst (v := (-1)) rfl dX11_says_26 (by decide) ?_
      exact r_ret dX11_says_27 (rt_i rfl) ⟨rfl, rfl, (by rw [syN, if_neg (by rw [← isWy_in]; exact c80), if_pos (inR_ln hk hno56)] <;> rfl)⟩
theorem y_nat4 {y : Int32} (h0 : ¬ y < 0) (h4 : ¬ (4 : Int32) ≤ y) : ∃ p : Nat, p < 4 ∧ y = nI p := by
  have h : ¬ inR y 0 3 = 0 := by
    unfold inR
    rw [if_neg h0, if_neg (fun z => h4 (by
      rw [Int32.lt_iff_toInt_lt] at z
      rw [Int32.le_iff_toInt_le]
      have e1 : (3 : Int32).toInt = 3 := rfl
      have e2 : (4 : Int32).toInt = 4 := rfl
      omega))]
    decide
  obtain ⟨j, -, hj, e⟩ := inR_nat (a := 0) (b := 3) (by omega) h
  exact ⟨j, by omega, e⟩
theorem y_out4 {y : Int32} (h : y < 0 ∨ (4 : Int32) ≤ y) : inR y 0 3 = 0 := by
  unfold inR
  rcases h with h | h
  · rw [if_pos h]
  · split
    · rfl
    · rw [if_pos (by
        rw [Int32.le_iff_toInt_le] at h
        rw [Int32.lt_iff_toInt_lt]
        have e1 : (3 : Int32).toInt = 3 := rfl
        have e2 : (4 : Int32).toInt = 4 := rfl
        omega)]
theorem inR4_in {p : Nat} (hp : p < 4) : ¬ inR (nI p) 0 3 = 0 := by
  unfold inR
  rw [if_neg (show ¬ nI p < (0 : Int32) from nI_nlt (a := p) (b := 0) (by omega) (by omega)), if_neg (show ¬ (3 : Int32) < nI p from nI_nlt (a := 3) (b := p) (by omega) (by omega))]
  decide
set_option maxRecDepth 20000 in
set_option maxHeartbeats 1000000 in
theorem v_X11_saying {xs : Nat → Int32} {L d : Nat} {h : ev_H} {k : Nat} {cc sc wr el : Int32} {G : Nat → Int32} {Y : Nat → Int64} {x y : Int32} (hS : SH h) (h2 : h 2 = c2 cc (nI k) sc wr el) (hk : k ≤ 40) (hck : k ≤ 40) (hLN : LN k G h) (hSW : SWc k Y h) : EV xs L (d + 1) 0 0 M_X11_saying 434 h 0 [some (.ref 2), some (.int x), some (.int y), none] [] (fun sz' h' r => sz' = 434 ∧ h' = h ∧ ((∃ n : Nat, n < k ∧ el = nI n ∧ r = [.long (sgN Y n x y)]) ∨ ((∀ n : Nat, n < k → ¬ el = nI n) ∧ r = [.long 0]))) := by
  refine r_aload_n rfl dX11_saying_0 rfl ?_
  refine r_aload_n rfl dX11_saying_1 rfl ?_
  refine r_getv 15 rfl dX11_saying_2 (show 2 ≤ 2 ∧ 2 < 434 by decide) h2 fl_X11_86 rfl ?_
  refine cl_X11_121 rfl rfl dX11_saying_5 (show 2 ≤ 2 ∧ 2 < 434 by decide).1 (show 2 ≤ 2 ∧ 2 < 434 by decide).2 h2 (Nat.le_of_ble_eq_true rfl) (x_X11_lineAt hS h2 hk) ?_
  rintro _ h51 _ ⟨rfl, e52, ⟨n53, hn54, ex55, rfl⟩ | ⟨hno56, rfl⟩⟩
  · replace e52 := e52.symm
    subst e52
    refine r_astore_n (ls' := [some (.ref 2), some (.int x), some (.int y), some (.ref (100 + 8 * n53))]) rfl dX11_saying_8 (Nat.le_of_ble_eq_true rfl) rfl ?_
    refine r_iload_n rfl dX11_saying_9 rfl ?_
    refine cl_X11_150 rfl rfl dX11_saying_10 (Nat.le_of_ble_eq_true rfl) s_X11_isWay ?_
    rintro _ h57 _ ⟨rfl, e58, rfl⟩
    replace e58 := e58.symm
    subst e58
    refine r_if_eq (tgt := 29) rfl rfl dX11_saying_13 (fun c59 => ?_) (fun c59 => ?_)
    · refine r_lconst (v := 0) rfl dX11_saying_29 (by decide) ?_
      exact r_ret dX11_saying_30 (rt_l rfl) ⟨rfl, rfl, Or.inl ⟨n53, hn54, (by assumption), (by rw [sgN, if_pos (by rw [← isWy_in]; exact c59)] <;> rfl)⟩⟩
    · obtain ⟨j60, hj61, ej62⟩ := isWy_nat c59
      subst ej62
      refine r_iload_n rfl dX11_saying_16 rfl ?_
      refine r_if_lt (tgt := 29) rfl rfl dX11_saying_17 (fun c63 => ?_) (fun c63 => ?_)
      · refine r_lconst (v := 0) rfl dX11_saying_29 (by decide) ?_
        exact r_ret dX11_saying_30 (rt_l rfl) ⟨rfl, rfl, Or.inl ⟨n53, hn54, (by assumption), (by rw [sgN, if_neg (by rw [← isWy_in]; exact c59), if_pos (y_out4 (Or.inl c63))] <;> rfl)⟩⟩
      · refine r_iload_n rfl dX11_saying_20 rfl ?_
        refine r_iconst (v := 4) rfl dX11_saying_21 (by decide) ?_
        refine r_icmp_ge (tgt := 29) rfl rfl dX11_saying_22 (fun c64 => ?_) (fun c64 => ?_)
        · refine r_lconst (v := 0) rfl dX11_saying_29 (by decide) ?_
          exact r_ret dX11_saying_30 (rt_l rfl) ⟨rfl, rfl, Or.inl ⟨n53, hn54, (by assumption), (by rw [sgN, if_neg (by rw [← isWy_in]; exact c59), if_pos (y_out4 (Or.inr c64))] <;> rfl)⟩⟩
        · obtain ⟨p65, hp66, ep67⟩ := y_nat4 c63 c64
          subst ep67
          refine r_aload_n rfl dX11_saying_25 rfl ?_
          refine r_ifnonnull (tgt := 31) rfl dX11_saying_26 ?_
          refine r_aload_n rfl dX11_saying_31 rfl ?_
          refine r_iload_n rfl dX11_saying_32 rfl ?_
          refine cl_X11_153 rfl rfl dX11_saying_33 (show 2 ≤ 100 + 8 * n53 ∧ 100 + 8 * n53 < 434 by omega).1 (show 2 ≤ 100 + 8 * n53 ∧ 100 + 8 * n53 < 434 by omega).2 (hLN n53 (by omega)) (Nat.le_of_ble_eq_true rfl) (v_X3_sayingBy hS (i := n53) (j := j60) (by omega) (by omega)) ?_
          rintro _ h68 _ ⟨rfl, e69, rfl⟩
          replace e69 := e69.symm
          subst e69
          refine r_iload_n rfl dX11_saying_36 rfl ?_
          obtain ⟨t70, hw71⟩ := (hSW n53 (by omega) j60 (by omega)).is hS (wsAt_ln (i := n53) (w := j60) (by omega) (by omega))
          refine cl_X11_160 rfl rfl dX11_saying_37 (show _ ∧ _ from ⟨((wsAt_ln (i := n53) (w := j60) (by omega) (by omega))).2.2.1, Nat.lt_of_succ_lt ((wsAt_ln (i := n53) (w := j60) (by omega) (by omega))).2.2.2⟩).1 (show _ ∧ _ from ⟨((wsAt_ln (i := n53) (w := j60) (by omega) (by omega))).2.2.1, Nat.lt_of_succ_lt ((wsAt_ln (i := n53) (w := j60) (by omega) (by omega))).2.2.2⟩).2 hw71.2.2.1 (Nat.le_of_ble_eq_true rfl) (s_X10_part hw71) ?_
          rintro _ h72 _ ⟨rfl, e73, rfl⟩
          replace e73 := e73.symm
          subst e73
          exact r_ret dX11_saying_40 (rt_l rfl) ⟨rfl, rfl, Or.inl ⟨n53, hn54, (by assumption), (by rw [sgN, if_neg (by rw [← isWy_in]; exact c59), if_neg (inR4_in (by omega)), nI_clamp (by omega), nI_clamp (by omega), wsPart_M (V := fun p => Y (160 * j60 + 4 * n53 + p)) (by omega)] <;> rfl)⟩⟩
  · replace e52 := e52.symm
    subst e52
    refine r_astore_nN (ls' := [some (.ref 2), some (.int x), some (.int y), some (.null)]) rfl dX11_saying_8 (Nat.le_of_ble_eq_true rfl) rfl ?_
    refine r_iload_n rfl dX11_saying_9 rfl ?_
    refine cl_X11_150 rfl rfl dX11_saying_10 (Nat.le_of_ble_eq_true rfl) s_X11_isWay ?_
    rintro _ h74 _ ⟨rfl, e75, rfl⟩
    replace e75 := e75.symm
    subst e75
    refine r_if_eq (tgt := 29) rfl rfl dX11_saying_13 (fun c76 => ?_) (fun c76 => ?_)
    · refine r_lconst (v := 0) rfl dX11_saying_29 (by decide) ?_
      exact r_ret dX11_saying_30 (rt_l rfl) ⟨rfl, rfl, Or.inr ⟨hno56, rfl⟩⟩
    · obtain ⟨j77, hj78, ej79⟩ := isWy_nat c76
      subst ej79
      refine r_iload_n rfl dX11_saying_16 rfl ?_
      refine r_if_lt (tgt := 29) rfl rfl dX11_saying_17 (fun c80 => ?_) (fun c80 => ?_)
      · refine r_lconst (v := 0) rfl dX11_saying_29 (by decide) ?_
        exact r_ret dX11_saying_30 (rt_l rfl) ⟨rfl, rfl, Or.inr ⟨hno56, rfl⟩⟩
      · refine r_iload_n rfl dX11_saying_20 rfl ?_
        refine r_iconst (v := 4) rfl dX11_saying_21 (by decide) ?_
        refine r_icmp_ge (tgt := 29) rfl rfl dX11_saying_22 (fun c81 => ?_) (fun c81 => ?_)
        · refine r_lconst (v := 0) rfl dX11_saying_29 (by decide) ?_
          exact r_ret dX11_saying_30 (rt_l rfl) ⟨rfl, rfl, Or.inr ⟨hno56, rfl⟩⟩
        · obtain ⟨p82, hp83, ep84⟩ := y_nat4 c80 c81
          subst ep84
          refine r_aload_nN rfl dX11_saying_25 rfl ?_
          refine r_ifnonnullN rfl (by decide) dX11_saying_26 ?_
          refine r_lconst (v := 0) rfl dX11_saying_29 (by decide) ?_
          exact r_ret dX11_saying_30 (rt_l rfl) ⟨rfl, rfl, Or.inr ⟨hno56, rfl⟩⟩
