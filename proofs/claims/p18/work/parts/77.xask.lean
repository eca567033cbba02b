set_option maxRecDepth 20000 in
set_option maxHeartbeats 1000000 in
theorem x_X3_sayingBy {xs : Nat → Int32} {L d : Nat} {h : ev_H} {i : Nat} {w : Int32} (hS : SH h) (hi : i < 40) : EV xs L (d + 0) 0 0 M_X3_sayingBy 434 h 0 [some (.ref (100 + 8 * i)), some (.int w)] [] (fun sz' h' r => sz' = 434 ∧ h' = h ∧ ∃ j : Nat, j < 3 ∧ r = [.ref (102 + 8 * i + 2 * j)]) := by
  refine r_aload_n rfl dX3_sayingBy_0 rfl ?_
  obtain ⟨y51, y52, y53, y54, y55, y56, f57⟩ := hS.ln (i := i) (by omega)
  refine r_getv 0 rfl dX3_sayingBy_1 (show 2 ≤ 100 + 8 * i ∧ 100 + 8 * i < 434 by omega) f57 fl_X3_11 rfl ?_
  refine r_iload_n rfl dX3_sayingBy_4 rfl ?_
  refine r_if_lt (tgt := 13) rfl rfl dX3_sayingBy_5 (fun c58 => ?_) (fun c58 => ?_)
  · refine r_iconst (v := 0) rfl dX3_sayingBy_13 (by decide) ?_
    refine r_goto (pc' := 18) rfl dX3_sayingBy_14 ?_
    refine r_aald (jn := 0) (v := .ref (102 + 8 * i + 2 * 0)) rfl dX3_sayingBy_18 (show 2 ≤ 101 + 8 * i ∧ 101 + 8 * i < 434 by omega).1 (show 2 ≤ 101 + 8 * i ∧ 101 + 8 * i < 434 by omega).2 (hS.say (i := i) (by omega)) (by decide) (vp_in_nI (n := 0) (by omega) (by decide)) (nI_clamp (n := 0) (by omega)) (by show va_rf (if _ < _ then _ else _) = _; rw [if_pos (show 0 < 3 by omega)]; rfl) ?_
    exact r_ret dX3_sayingBy_19 (rt_a rfl) ⟨rfl, rfl, 0, by omega, rfl⟩
  · refine r_iload_n rfl dX3_sayingBy_8 rfl ?_
    refine r_iconst (v := 3) rfl dX3_sayingBy_9 (by decide) ?_
    refine r_icmp_lt (tgt := 17) rfl rfl dX3_sayingBy_10 (fun c59 => ?_) (fun c59 => ?_)
    · obtain ⟨n, hn, en⟩ := vp_in_of (vpi (n := 3) rfl c58 (Int32.not_le.mpr c59)) (by decide)
      subst en
      refine r_iload_n rfl dX3_sayingBy_17 rfl ?_
      refine r_aald (jn := n) (v := .ref (102 + 8 * i + 2 * n)) rfl dX3_sayingBy_18 (show 2 ≤ 101 + 8 * i ∧ 101 + 8 * i < 434 by omega).1 (show 2 ≤ 101 + 8 * i ∧ 101 + 8 * i < 434 by omega).2 (hS.say (i := i) (by omega)) (by decide) (vp_in_nI (n := n) (by omega) (by decide)) (nI_clamp (n := n) (by omega)) (by show va_rf (if _ < _ then _ else _) = _; rw [if_pos (show n < 3 by omega)]; rfl) ?_
      exact r_ret dX3_sayingBy_19 (rt_a rfl) ⟨rfl, rfl, n, by omega, rfl⟩
    · refine r_iconst (v := 0) rfl dX3_sayingBy_13 (by decide) ?_
      refine r_goto (pc' := 18) rfl dX3_sayingBy_14 ?_
      refine r_aald (jn := 0) (v := .ref (102 + 8 * i + 2 * 0)) rfl dX3_sayingBy_18 (show 2 ≤ 101 + 8 * i ∧ 101 + 8 * i < 434 by omega).1 (show 2 ≤ 101 + 8 * i ∧ 101 + 8 * i < 434 by omega).2 (hS.say (i := i) (by omega)) (by decide) (vp_in_nI (n := 0) (by omega) (by decide)) (nI_clamp (n := 0) (by omega)) (by show va_rf (if _ < _ then _ else _) = _; rw [if_pos (show 0 < 3 by omega)]; rfl) ?_
      exact r_ret dX3_sayingBy_19 (rt_a rfl) ⟨rfl, rfl, 0, by omega, rfl⟩
theorem la40 {x : Int32} {k : Nat} (h : ¬ nI k ≤ x) (hk : k ≤ 40) : x < 40 := by
  rw [Int32.le_iff_toInt_le, nI_toInt (by omega)] at h
  rw [Int32.lt_iff_toInt_lt]
  have e : (40 : Int32).toInt = 40 := rfl
  omega
set_option maxRecDepth 20000 in
set_option maxHeartbeats 1000000 in
theorem x_X11_lineAt {xs : Nat → Int32} {L d : Nat} {h : ev_H} {k : Nat} {cc sc wr el : Int32} {x : Int32} (hS : SH h) (h2 : h 2 = c2 cc (nI k) sc wr el) (hk : k ≤ 40) : EV xs L (d + 0) 0 0 M_X11_lineAt 434 h 0 [some (.ref 2), some (.int x)] [] (fun sz' h' r => sz' = 434 ∧ h' = h ∧ ((∃ n : Nat, n < k ∧ x = nI n ∧ r = [.ref (100 + 8 * n)]) ∨ ((∀ n : Nat, n < k → ¬ x = nI n) ∧ r = [.null]))) := by
  refine r_iload_n rfl dX11_lineAt_0 rfl ?_
  refine r_if_lt (tgt := 21) rfl rfl dX11_lineAt_1 (fun c51 => ?_) (fun c51 => ?_)
  · refine r_null rfl dX11_lineAt_21 ?_
    refine r_goto (pc' := 31) rfl dX11_lineAt_22 ?_
    exact r_ret dX11_lineAt_31 (rt_n rfl) ⟨rfl, rfl, Or.inr ⟨fun n hn e => nI_pos (n := n) (by omega) (by rw [← e]; exact c51), rfl⟩⟩
  · refine r_iload_n rfl dX11_lineAt_4 rfl ?_
    refine r_aload_n rfl dX11_lineAt_5 rfl ?_
    refine r_getv 12 rfl dX11_lineAt_6 (show 2 ≤ 2 ∧ 2 < 434 by decide) h2 fl_X11_118 rfl ?_
    refine r_icmp_ge (tgt := 21) rfl rfl dX11_lineAt_9 (fun c52 => ?_) (fun c52 => ?_)
    · refine r_null rfl dX11_lineAt_21 ?_
      refine r_goto (pc' := 31) rfl dX11_lineAt_22 ?_
      exact r_ret dX11_lineAt_31 (rt_n rfl) ⟨rfl, rfl, Or.inr ⟨fun n hn e => nI_ge (a := n) (b := k) hn (by omega) (by rw [← e]; exact c52), rfl⟩⟩
    · obtain ⟨n, hn, en⟩ := la_of (lc := 0) c51 (la40 c52 hk)
      have hn2 : n < k := Nat.not_le.mp (fun z => c52 (by rw [en]; exact nI_le z (by omega)))
      have c40 : x < 40 := la40 c52 hk
      subst en
      refine r_iload_n rfl dX11_lineAt_12 rfl ?_
      refine r_aload_n rfl dX11_lineAt_13 rfl ?_
      refine r_getv 2 rfl dX11_lineAt_14 (show 2 ≤ 2 ∧ 2 < 434 by decide) h2 fl_X11_25 rfl ?_
      refine r_alen (v := 40) rfl dX11_lineAt_17 (by decide) (by decide) hS.o12 (by decide) rfl ?_
      refine r_icmp_lt (tgt := 25) rfl rfl dX11_lineAt_18 (fun _ => ?_) (fun zc => absurd c40 zc)
      refine r_aload_n rfl dX11_lineAt_25 rfl ?_
      refine r_getv 2 rfl dX11_lineAt_26 (show 2 ≤ 2 ∧ 2 < 434 by decide) h2 fl_X11_25 rfl ?_
      refine r_iload_n rfl dX11_lineAt_29 rfl ?_
      refine r_aald (jn := n) (v := .ref (100 + 8 * n)) rfl dX11_lineAt_30 (show 2 ≤ 12 ∧ 12 < 434 by decide).1 (show 2 ≤ 12 ∧ 12 < 434 by decide).2 hS.o12 (by decide) (vp_in_nI (n := n) (by omega) (by decide)) (nI_clamp (n := n) (by omega)) (by show va_rf (if _ < _ then _ else _) = _; rw [if_pos (show n < 40 by omega)]; rfl) ?_
      exact r_ret dX11_lineAt_31 (rt_a rfl) ⟨rfl, rfl, Or.inl ⟨n, hn2, rfl, rfl⟩⟩
set_option maxRecDepth 20000 in
set_option maxHeartbeats 1000000 in
theorem x_X11_setOf {xs : Nat → Int32} {L d : Nat} {h : ev_H} {k : Nat} {cc sc wr el : Int32} {x : Int32} (hS : SH h) (h2 : h 2 = c2 cc (nI k) sc wr el) (hk : k ≤ 40) : EV xs L (d + 1) 0 0 M_X11_setOf 434 h 0 [some (.ref 2), some (.int x), none] [] (fun sz' h' r => sz' = 434 ∧ h' = h ∧ (r = [.null] ∨ ∃ a, wsAt a ∧ r = [.ref a])) := by
  refine r_iload_n rfl dX11_setOf_0 rfl ?_
  by_cases c51 : x.toInt < 3 ∨ 5 < x.toInt
  · refine r_swO (tgt := 49) dX11_setOf_1 rfl c51 ?_
    refine r_aload_n rfl dX11_setOf_49 rfl ?_
    refine r_aload_n rfl dX11_setOf_50 rfl ?_
    refine r_getv 15 rfl dX11_setOf_51 (show 2 ≤ 2 ∧ 2 < 434 by decide) h2 fl_X11_86 rfl ?_
    refine cl_X11_121 rfl rfl dX11_setOf_54 (show 2 ≤ 2 ∧ 2 < 434 by decide).1 (show 2 ≤ 2 ∧ 2 < 434 by decide).2 h2 (Nat.le_of_ble_eq_true rfl) (x_X11_lineAt hS h2 hk) ?_
    rintro _ h52 _ ⟨rfl, e53, ⟨n54, hn55, ex56, rfl⟩ | ⟨hno57, rfl⟩⟩
    · replace e53 := e53.symm
      subst e53
      refine r_astore_n (ls' := [some (.ref 2), some (.int x), some (.ref (100 + 8 * n54))]) rfl dX11_setOf_57 (Nat.le_of_ble_eq_true rfl) rfl ?_
      refine r_aload_n rfl dX11_setOf_58 rfl ?_
      refine r_ifnonnull (tgt := 66) rfl dX11_setOf_59 ?_
      refine r_aload_n rfl dX11_setOf_66 rfl ?_
      refine r_iload_n rfl dX11_setOf_67 rfl ?_
      obtain ⟨y58, y59, y60, y61, y62, y63, f64⟩ := hS.ln (i := n54) (by omega)
      refine cl_X11_153 rfl rfl dX11_setOf_68 (show 2 ≤ 100 + 8 * n54 ∧ 100 + 8 * n54 < 434 by omega).1 (show 2 ≤ 100 + 8 * n54 ∧ 100 + 8 * n54 < 434 by omega).2 f64 (Nat.le_of_ble_eq_true rfl) (x_X3_sayingBy hS (i := n54) (by omega)) ?_
      rintro _ h65 _ ⟨rfl, e66, j67, hj68, rfl⟩
      replace e66 := e66.symm
      subst e66
      exact r_ret dX11_setOf_71 (rt_a rfl) ⟨rfl, rfl, Or.inr ⟨_, (wsAt_ln (i := n54) (w := j67) (by omega) hj68), rfl⟩⟩
    · replace e53 := e53.symm
      subst e53
      refine r_astore_nN (ls' := [some (.ref 2), some (.int x), some (.null)]) rfl dX11_setOf_57 (Nat.le_of_ble_eq_true rfl) rfl ?_
      refine r_aload_nN rfl dX11_setOf_58 rfl ?_
      refine r_ifnonnullN rfl (by decide) dX11_setOf_59 ?_
      refine r_null rfl dX11_setOf_62 ?_
      refine r_goto (pc' := 71) rfl dX11_setOf_63 ?_
      exact r_ret dX11_setOf_71 (rt_n rfl) ⟨rfl, rfl, Or.inl rfl⟩
  · have c51a : ¬ x.toInt < 3 := fun z => c51 (Or.inl z)
    have c51b : ¬ 5 < x.toInt := fun z => c51 (Or.inr z)
    rcases (show x.toInt = 3 ∨ x.toInt = 4 ∨ x.toInt = 5 by omega) with c51e | c51e | c51e
    · refine r_swI (off := 27) (tgt := 28) dX11_setOf_1 rfl c51a c51b (by rw [c51e]; rfl) ?_
      refine r_aload_n rfl dX11_setOf_28 rfl ?_
      refine r_getv 3 rfl dX11_setOf_29 (show 2 ≤ 2 ∧ 2 < 434 by decide) h2 fl_X11_32 rfl ?_
      obtain ⟨y69, y70, y71, y72, f73⟩ := hS.o13
      refine r_getv 2 rfl dX11_setOf_32 (show 2 ≤ 13 ∧ 13 < 434 by decide) f73 fl_X11_177 rfl ?_
      exact r_ret dX11_setOf_35 (rt_a rfl) ⟨rfl, rfl, Or.inr ⟨_, wsAt_18, rfl⟩⟩
    · refine r_swI (off := 35) (tgt := 36) dX11_setOf_1 rfl c51a c51b (by rw [c51e]; rfl) ?_
      refine r_aload_n rfl dX11_setOf_36 rfl ?_
      refine r_getv 3 rfl dX11_setOf_37 (show 2 ≤ 2 ∧ 2 < 434 by decide) h2 fl_X11_32 rfl ?_
      obtain ⟨y74, y75, y76, y77, f78⟩ := hS.o13
      refine r_getv 3 rfl dX11_setOf_40 (show 2 ≤ 13 ∧ 13 < 434 by decide) f78 fl_X11_180 rfl ?_
      exact r_ret dX11_setOf_43 (rt_a rfl) ⟨rfl, rfl, Or.inr ⟨_, wsAt_20, rfl⟩⟩
    · refine r_swI (off := 43) (tgt := 44) dX11_setOf_1 rfl c51a c51b (by rw [c51e]; rfl) ?_
      refine r_aload_n rfl dX11_setOf_44 rfl ?_
      refine r_getv 5 rfl dX11_setOf_45 (show 2 ≤ 2 ∧ 2 < 434 by decide) h2 fl_X11_46 rfl ?_
      exact r_ret dX11_setOf_48 (rt_a rfl) ⟨rfl, rfl, Or.inr ⟨_, wsAt_93, rfl⟩⟩
set_option maxRecDepth 20000 in
set_option maxHeartbeats 1000000 in
theorem x_X11_ruleOf {xs : Nat → Int32} {L d : Nat} {h : ev_H} {k : Nat} {cc sc wr el : Int32} {x : Int32} (hS : SH h) (h2 : h 2 = c2 cc (nI k) sc wr el) (hk : k ≤ 40) : EV xs L (d + 0) 0 0 M_X11_ruleOf 434 h 0 [some (.ref 2), some (.int x)] [] (fun sz' h' r => sz' = 434 ∧ h' = h ∧ ((∃ q : Nat, q < 4 ∧ x = nI q ∧ r = [.ref (96 + q)]) ∨ ((x.toInt < 0 ∨ 3 < x.toInt) ∧ r = [.null]))) := by
  refine r_iload_n rfl dX11_ruleOf_0 rfl ?_
  by_cases c51 : x.toInt < 0 ∨ 3 < x.toInt
  · refine r_swO (tgt := 52) dX11_ruleOf_1 rfl c51 ?_
    refine r_null rfl dX11_ruleOf_52 ?_
    exact r_ret dX11_ruleOf_53 (rt_n rfl) ⟨rfl, rfl, Or.inr ⟨c51, rfl⟩⟩
  · have c51a : ¬ x.toInt < 0 := fun z => c51 (Or.inl z)
    have c51b : ¬ 3 < x.toInt := fun z => c51 (Or.inr z)
    rcases (show x.toInt = 0 ∨ x.toInt = 1 ∨ x.toInt = 2 ∨ x.toInt = 3 by omega) with c51e | c51e | c51e | c51e
    · refine r_swI (off := 31) (tgt := 32) dX11_ruleOf_1 rfl c51a c51b (by rw [c51e]; rfl) ?_
      refine r_aload_n rfl dX11_ruleOf_32 rfl ?_
      refine r_getv 7 rfl dX11_ruleOf_33 (show 2 ≤ 2 ∧ 2 < 434 by decide) h2 fl_X11_60 rfl ?_
      exact r_ret dX11_ruleOf_36 (rt_a rfl) ⟨rfl, rfl, Or.inl ⟨0, by decide, Int32.toInt_inj.mp c51e, rfl⟩⟩
    · refine r_swI (off := 36) (tgt := 37) dX11_ruleOf_1 rfl c51a c51b (by rw [c51e]; rfl) ?_
      refine r_aload_n rfl dX11_ruleOf_37 rfl ?_
      refine r_getv 8 rfl dX11_ruleOf_38 (show 2 ≤ 2 ∧ 2 < 434 by decide) h2 fl_X11_67 rfl ?_
      exact r_ret dX11_ruleOf_41 (rt_a rfl) ⟨rfl, rfl, Or.inl ⟨1, by decide, Int32.toInt_inj.mp c51e, rfl⟩⟩
    · refine r_swI (off := 41) (tgt := 42) dX11_ruleOf_1 rfl c51a c51b (by rw [c51e]; rfl) ?_
      refine r_aload_n rfl dX11_ruleOf_42 rfl ?_
      refine r_getv 9 rfl dX11_ruleOf_43 (show 2 ≤ 2 ∧ 2 < 434 by decide) h2 fl_X11_73 rfl ?_
      exact r_ret dX11_ruleOf_46 (rt_a rfl) ⟨rfl, rfl, Or.inl ⟨2, by decide, Int32.toInt_inj.mp c51e, rfl⟩⟩
    · refine r_swI (off := 46) (tgt := 47) dX11_ruleOf_1 rfl c51a c51b (by rw [c51e]; rfl) ?_
      refine r_aload_n rfl dX11_ruleOf_47 rfl ?_
      refine r_getv 10 rfl dX11_ruleOf_48 (show 2 ≤ 2 ∧ 2 < 434 by decide) h2 fl_X11_79 rfl ?_
      exact r_ret dX11_ruleOf_51 (rt_a rfl) ⟨rfl, rfl, Or.inl ⟨3, by decide, Int32.toInt_inj.mp c51e, rfl⟩⟩
set_option maxRecDepth 20000 in
set_option maxHeartbeats 1000000 in
theorem x_X7_sharedLetters {xs : Nat → Int32} {L d : Nat} {h : ev_H} {lo lt fk fs : Int32} (hS : SH h) (f13 : h 13 = c13 lo lt fk fs) : EV xs L (d + 0) 0 0 M_X7_sharedLetters 434 h 0 [some (.ref 13)] [] (fun sz' h' r => sz' = 434 ∧ h' = h ∧ r = [.int (lo &&& lt)]) := by
  refine r_aload_n rfl dX7_sharedLetters_0 rfl ?_
  refine r_getv 5 rfl dX7_sharedLetters_1 (show 2 ≤ 13 ∧ 13 < 434 by decide) f13 fl_X7_33 rfl ?_
  refine r_aload_n rfl dX7_sharedLetters_4 rfl ?_
  refine r_getv 6 rfl dX7_sharedLetters_5 (show 2 ≤ 13 ∧ 13 < 434 by decide) f13 fl_X7_37 rfl ?_
  refine r_iand rfl dX7_sharedLetters_8 ?_
  exact r_ret dX7_sharedLetters_9 (rt_i rfl) ⟨rfl, rfl, rfl⟩
set_option maxRecDepth 20000 in
set_option maxHeartbeats 1000000 in
theorem x_X7_ownerOf {xs : Nat → Int32} {L d : Nat} {h : ev_H} {lo lt fk fs : Int32} {w : Int32} (hS : SH h) (f13 : h 13 = c13 lo lt fk fs) : EV xs L (d + 0) 0 0 M_X7_ownerOf 434 h 0 [some (.ref 13), some (.int w), none, none] [] (fun sz' h' r => sz' = 434 ∧ h' = h ∧ r = [.int (1 * ((lo >>> (w &&& 31)) &&& 1) + 2 * ((lt >>> (w &&& 31)) &&& 1))]) := by
  refine r_aload_n rfl dX7_ownerOf_0 rfl ?_
  refine r_getv 5 rfl dX7_ownerOf_1 (show 2 ≤ 13 ∧ 13 < 434 by decide) f13 fl_X7_33 rfl ?_
  refine r_iload_n rfl dX7_ownerOf_4 rfl ?_
  refine r_ishr rfl dX7_ownerOf_5 ?_
  refine r_iconst (v := 1) rfl dX7_ownerOf_6 (by decide) ?_
  refine r_iand rfl dX7_ownerOf_7 ?_
  refine r_topi (fun x51 e52 => ?_)
  refine r_istore_n (ls' := [some (.ref 13), some (.int w), some (.int x51), none]) rfl dX7_ownerOf_8 (Nat.le_of_ble_eq_true rfl) rfl ?_
  refine r_aload_n rfl dX7_ownerOf_9 rfl ?_
  refine r_getv 6 rfl dX7_ownerOf_10 (show 2 ≤ 13 ∧ 13 < 434 by decide) f13 fl_X7_37 rfl ?_
  refine r_iload_n rfl dX7_ownerOf_13 rfl ?_
  refine r_ishr rfl dX7_ownerOf_14 ?_
  refine r_iconst (v := 1) rfl dX7_ownerOf_15 (by decide) ?_
  refine r_iand rfl dX7_ownerOf_16 ?_
  refine r_topi (fun x53 e54 => ?_)
  refine r_istore_n (ls' := [some (.ref 13), some (.int w), some (.int x51), some (.int x53)]) rfl dX7_ownerOf_17 (Nat.le_of_ble_eq_true rfl) rfl ?_
  refine r_iconst (v := 1) rfl dX7_ownerOf_18 (by decide) ?_
  refine r_iload_n rfl dX7_ownerOf_19 rfl ?_
  refine r_imul rfl dX7_ownerOf_20 ?_
  refine r_iconst (v := 2) rfl dX7_ownerOf_21 (by decide) ?_
  refine r_iload_n rfl dX7_ownerOf_22 rfl ?_
  refine r_imul rfl dX7_ownerOf_23 ?_
  refine r_iadd rfl dX7_ownerOf_24 ?_
  subst e54
  subst e52
  exact r_ret dX7_ownerOf_25 (rt_i rfl) ⟨rfl, rfl, rfl⟩
set_option maxRecDepth 20000 in
set_option maxHeartbeats 1000000 in
theorem x_X7_judge {xs : Nat → Int32} {L d : Nat} {h : ev_H} {q : Nat} (hS : SH h) (hq : wsAt q) : EV xs L (d + 3) 0 0 M_X7_judge 434 h 0 [some (.ref 13), some (.ref q)] [] (fun sz' h' r => sz' = 434 ∧ h' = h ∧ ∃ x : Int32, r = [.int x]) := by
  refine r_aload_n rfl dX7_judge_0 rfl ?_
  obtain ⟨g51, hw52⟩ := hS.ws hq
  refine cl_X7_74 rfl rfl dX7_judge_1 (show _ ∧ _ from ⟨(hq).2.2.1, Nat.lt_of_succ_lt (hq).2.2.2⟩).1 (show _ ∧ _ from ⟨(hq).2.2.1, Nat.lt_of_succ_lt (hq).2.2.2⟩).2 hw52.2.2.1 (Nat.le_of_ble_eq_true rfl) (s_X10_lettersLookedAt hw52) ?_
  rintro _ h53 _ ⟨rfl, e54, rfl⟩
  replace e54 := e54.symm
  subst e54
  refine r_aload_n rfl dX7_judge_4 rfl ?_
  obtain ⟨y55, y56, y57, y58, f59⟩ := hS.o13
  refine cl_X7_60 rfl rfl dX7_judge_5 (show 2 ≤ 13 ∧ 13 < 434 by decide).1 (show 2 ≤ 13 ∧ 13 < 434 by decide).2 f59 (Nat.le_of_ble_eq_true rfl) (x_X7_sharedLetters hS f59) ?_
  rintro _ h60 _ ⟨rfl, e61, rfl⟩
  replace e61 := e61.symm
  subst e61
  refine r_iconst (v := (-1)) rfl dX7_judge_8 (by decide) ?_
  refine r_ixor rfl dX7_judge_9 ?_
  refine r_iand rfl dX7_judge_10 ?_
  refine r_if_eq (tgt := 16) rfl rfl dX7_judge_11 (fun c63 => ?_) (fun c63 => ?_)
  · refine r_aload_n rfl dX7_judge_16 rfl ?_
    refine r_getv 0 rfl dX7_judge_17 (show 2 ≤ 13 ∧ 13 < 434 by decide) f59 fl_X7_12 rfl ?_
    refine r_aload_n rfl dX7_judge_20 rfl ?_
    obtain ⟨g64, hw65⟩ := hS.ws wsAt_14
    obtain ⟨g66, hw67⟩ := hS.ws hq
    refine cl_X7_77 rfl rfl dX7_judge_21 (show 2 ≤ 14 ∧ 14 < 434 by decide).1 (show 2 ≤ 14 ∧ 14 < 434 by decide).2 hw65.2.2.1 (Nat.le_of_ble_eq_true rfl) (s_X10_isWithin hw65 hw67) ?_
    rintro _ h68 _ ⟨rfl, e69, rfl⟩
    replace e69 := e69.symm
    subst e69
    refine r_if_ne (tgt := 29) rfl rfl dX7_judge_24 (fun c70 => ?_) (fun c70 => ?_)
    · refine r_aload_n rfl dX7_judge_29 rfl ?_
      refine r_getv 1 rfl dX7_judge_30 (show 2 ≤ 13 ∧ 13 < 434 by decide) f59 fl_X7_18 rfl ?_
      refine r_aload_n rfl dX7_judge_33 rfl ?_
      obtain ⟨g71, hw72⟩ := hS.ws wsAt_16
      obtain ⟨g73, hw74⟩ := hS.ws hq
      refine cl_X7_81 rfl rfl dX7_judge_34 (show 2 ≤ 16 ∧ 16 < 434 by decide).1 (show 2 ≤ 16 ∧ 16 < 434 by decide).2 hw72.2.2.1 (Nat.le_of_ble_eq_true rfl) (s_X10_sizeWith hw72 hw74) ?_
      rintro _ h75 _ ⟨rfl, e76, rfl⟩
      replace e76 := e76.symm
      subst e76
      refine r_if_eq (tgt := 44) rfl rfl dX7_judge_37 (fun c77 => ?_) (fun c77 => ?_)
      · refine r_iconst (v := 0) rfl dX7_judge_44 (by decide) ?_
        exact r_ret dX7_judge_45 (rt_i rfl) ⟨rfl, rfl, _, rfl⟩
      · refine r_iconst (v := 3) rfl dX7_judge_40 (by decide) ?_
        refine r_goto (pc' := 45) rfl dX7_judge_41 ?_
        exact r_ret dX7_judge_45 (rt_i rfl) ⟨rfl, rfl, _, rfl⟩
    · refine r_iconst (v := 2) rfl dX7_judge_27 (by decide) ?_
      exact r_ret dX7_judge_28 (rt_i rfl) ⟨rfl, rfl, _, rfl⟩
  · refine r_iconst (v := 1) rfl dX7_judge_14 (by decide) ?_
    exact r_ret dX7_judge_15 (rt_i rfl) ⟨rfl, rfl, _, rfl⟩
set_option maxRecDepth 20000 in
set_option maxHeartbeats 1000000 in
theorem x_X7_freeChoices {xs : Nat → Int32} {L d : Nat} {h : ev_H}  (hS : SH h)  : EV xs L (d + 2) 0 0 M_X7_freeChoices 434 h 0 [some (.ref 13), none] [] (fun sz' h' r => sz' = 434 ∧ h' = h ∧ ∃ x : Int32, r = [.int x]) := by
  refine r_aload_n rfl dX7_freeChoices_0 rfl ?_
  obtain ⟨y51, y52, y53, y54, f55⟩ := hS.o13
  refine r_getv 3 rfl dX7_freeChoices_1 (show 2 ≤ 13 ∧ 13 < 434 by decide) f55 fl_X7_24 rfl ?_
  obtain ⟨g56, hw57⟩ := hS.ws wsAt_20
  refine cl_X7_85 rfl rfl dX7_freeChoices_4 (show 2 ≤ 20 ∧ 20 < 434 by decide).1 (show 2 ≤ 20 ∧ 20 < 434 by decide).2 hw57.2.2.1 (Nat.le_of_ble_eq_true rfl) (s_X10_size hw57) ?_
  rintro _ h58 _ ⟨rfl, e59, rfl⟩
  replace e59 := e59.symm
  subst e59
  refine r_aload_n rfl dX7_freeChoices_7 rfl ?_
  refine r_getv 3 rfl dX7_freeChoices_8 (show 2 ≤ 13 ∧ 13 < 434 by decide) f55 fl_X7_24 rfl ?_
  refine r_aload_n rfl dX7_freeChoices_11 rfl ?_
  refine r_getv 2 rfl dX7_freeChoices_12 (show 2 ≤ 13 ∧ 13 < 434 by decide) f55 fl_X7_21 rfl ?_
  obtain ⟨g60, hw61⟩ := hS.ws wsAt_20
  obtain ⟨g62, hw63⟩ := hS.ws wsAt_18
  refine cl_X7_81 rfl rfl dX7_freeChoices_15 (show 2 ≤ 20 ∧ 20 < 434 by decide).1 (show 2 ≤ 20 ∧ 20 < 434 by decide).2 hw61.2.2.1 (Nat.le_of_ble_eq_true rfl) (s_X10_sizeWith hw61 hw63) ?_
  rintro _ h64 _ ⟨rfl, e65, rfl⟩
  replace e65 := e65.symm
  subst e65
  refine r_isub rfl dX7_freeChoices_18 ?_
  refine r_topi (fun x66 e67 => ?_)
  refine r_istore_n (ls' := [some (.ref 13), some (.int x66)]) rfl dX7_freeChoices_19 (Nat.le_of_ble_eq_true rfl) rfl ?_
  refine r_iload_n rfl dX7_freeChoices_20 rfl ?_
  refine r_bipush (v := 8) rfl dX7_freeChoices_21 (by decide) ?_
  refine r_aload_n rfl dX7_freeChoices_23 rfl ?_
  refine cl_X7_60 rfl rfl dX7_freeChoices_24 (show 2 ≤ 13 ∧ 13 < 434 by decide).1 (show 2 ≤ 13 ∧ 13 < 434 by decide).2 f55 (Nat.le_of_ble_eq_true rfl) (x_X7_sharedLetters hS f55) ?_
  rintro _ h68 _ ⟨rfl, e69, rfl⟩
  replace e69 := e69.symm
  subst e69
  refine cl_X7_88 rfl rfl dX7_freeChoices_27 (Nat.le_of_ble_eq_true rfl) s_J6_bitCount_0f7a4 ?_
  rintro _ h71 _ ⟨rfl, e72, rfl⟩
  replace e72 := e72.symm
  subst e72
  refine r_isub rfl dX7_freeChoices_30 ?_
  refine r_ishr rfl dX7_freeChoices_31 ?_
  exact r_ret dX7_freeChoices_32 (rt_i rfl) ⟨rfl, rfl, _, rfl⟩
set_option maxRecDepth 20000 in
set_option maxHeartbeats 1000000 in
theorem x_X11_holds {xs : Nat → Int32} {L d : Nat} {h : ev_H} {k : Nat} {cc sc wr el : Int32} {x y : Int32} (hS : SH h) (h2 : h 2 = c2 cc (nI k) sc wr el) (hk : k ≤ 40) : EV xs L (d + 1) 0 0 M_X11_holds 434 h 0 [some (.ref 2), some (.int x), some (.int y), none] [] (fun sz' h' r => sz' = 434 ∧ h' = h ∧ ∃ x : Int32, r = [.int x]) := by
  refine r_aload_n rfl dX11_holds_0 rfl ?_
  refine r_iload_n rfl dX11_holds_1 rfl ?_
  refine cl_X11_121 rfl rfl dX11_holds_2 (show 2 ≤ 2 ∧ 2 < 434 by decide).1 (show 2 ≤ 2 ∧ 2 < 434 by decide).2 h2 (Nat.le_of_ble_eq_true rfl) (x_X11_lineAt hS h2 hk) ?_
  rintro _ h51 _ ⟨rfl, e52, ⟨n53, hn54, ex55, rfl⟩ | ⟨hno56, rfl⟩⟩
  · replace e52 := e52.symm
    subst e52
    subst ex55
    refine r_astore_n (ls' := [some (.ref 2), some (.int (nI n53)), some (.int y), some (.ref (100 + 8 * n53))]) rfl dX11_holds_5 (Nat.le_of_ble_eq_true rfl) rfl ?_
    refine r_aload_n rfl dX11_holds_6 rfl ?_
    refine r_ifnull rfl (by decide) dX11_holds_7 ?_
    refine r_iload_n rfl dX11_holds_10 rfl ?_
    refine cl_X11_132 rfl rfl dX11_holds_11 (Nat.le_of_ble_eq_true rfl) s_X11_isWorld ?_
    rintro _ h57 _ ⟨rfl, e58, rfl⟩
    replace e58 := e58.symm
    subst e58
    refine r_if_ne (tgt := 19) rfl rfl dX11_holds_14 (fun c59 => ?_) (fun c59 => ?_)
    · refine r_aload_n rfl dX11_holds_19 rfl ?_
      refine r_iload_n rfl dX11_holds_20 rfl ?_
      obtain ⟨y60, y61, y62, y63, y64, y65, f66⟩ := hS.ln (i := n53) (by omega)
      refine cl_X11_136 rfl rfl dX11_holds_21 (show 2 ≤ 100 + 8 * n53 ∧ 100 + 8 * n53 < 434 by omega).1 (show 2 ≤ 100 + 8 * n53 ∧ 100 + 8 * n53 < 434 by omega).2 f66 (Nat.le_of_ble_eq_true rfl) (x_X3_isSoIn hS (i := n53) (by omega)) ?_
      rintro _ h67 _ ⟨rfl, e68, x69, rfl⟩
      replace e68 := e68.symm
      subst e68
      refine r_if_eq (tgt := 31) rfl rfl dX11_holds_24 (fun c70 => ?_) (fun c70 => ?_)
      · refine r_iconst (v := 0) rfl dX11_holds_31 (by decide) ?_
        exact r_ret dX11_holds_32 (rt_i rfl) ⟨rfl, rfl, _, rfl⟩
      · refine r_iconst (v := 1) rfl dX11_holds_27 (by decide) ?_
        refine r_goto (pc' := 32) rfl dX11_holds_28 ?_
        exact r_ret dX11_holds_32 (rt_i rfl) ⟨rfl, rfl, _, rfl⟩
    · refine r_iconst (v := (-1)) rfl dX11_holds_17 (by decide) ?_
      exact r_ret dX11_holds_18 (rt_i rfl) ⟨rfl, rfl, _, rfl⟩
  · replace e52 := e52.symm
    subst e52
    refine r_astore_nN (ls' := [some (.ref 2), some (.int x), some (.int y), some (.null)]) rfl dX11_holds_5 (Nat.le_of_ble_eq_true rfl) rfl ?_
    refine r_aload_nN rfl dX11_holds_6 rfl ?_
    refine r_ifnullN (tgt := 17) rfl dX11_holds_7 ?_
    refine r_iconst (v := (-1)) rfl dX11_holds_17 (by decide) ?_
    exact r_ret dX11_holds_18 (rt_i rfl) ⟨rfl, rfl, _, rfl⟩
set_option maxRecDepth 20000 in
set_option maxHeartbeats 1000000 in
theorem x_X11_worlds {xs : Nat → Int32} {L d : Nat} {h : ev_H} {k : Nat} {cc sc wr el : Int32} {x : Int32} (hS : SH h) (h2 : h 2 = c2 cc (nI k) sc wr el) (hk : k ≤ 40) : EV xs L (d + 2) 0 0 M_X11_worlds 434 h 0 [some (.ref 2), some (.int x)] [] (fun sz' h' r => sz' = 434 ∧ h' = h ∧ ∃ x : Int32, r = [.int x]) := by
  refine r_iload_n rfl dX11_worlds_0 rfl ?_
  by_cases c51 : x.toInt < 0 ∨ 2 < x.toInt
  · refine r_swO (tgt := 68) dX11_worlds_1 rfl c51 ?_
    refine r_iconst (v := (-1)) rfl dX11_worlds_68 (by decide) ?_
    exact r_ret dX11_worlds_69 (rt_i rfl) ⟨rfl, rfl, _, rfl⟩
  · have c51a : ¬ x.toInt < 0 := fun z => c51 (Or.inl z)
    have c51b : ¬ 2 < x.toInt := fun z => c51 (Or.inr z)
    rcases (show x.toInt = 0 ∨ x.toInt = 1 ∨ x.toInt = 2 by omega) with c51e | c51e | c51e
    · refine r_swI (off := 27) (tgt := 28) dX11_worlds_1 rfl c51a c51b (by rw [c51e]; rfl) ?_
      refine r_aload_n rfl dX11_worlds_28 rfl ?_
      refine r_getv 3 rfl dX11_worlds_29 (show 2 ≤ 2 ∧ 2 < 434 by decide) h2 fl_X11_32 rfl ?_
      obtain ⟨y52, y53, y54, y55, f56⟩ := hS.o13
      refine r_getv 0 rfl dX11_worlds_32 (show 2 ≤ 13 ∧ 13 < 434 by decide) f56 fl_X11_139 rfl ?_
      obtain ⟨g57, hw58⟩ := hS.ws wsAt_14
      refine cl_X11_142 rfl rfl dX11_worlds_35 (show 2 ≤ 14 ∧ 14 < 434 by decide).1 (show 2 ≤ 14 ∧ 14 < 434 by decide).2 hw58.2.2.1 (Nat.le_of_ble_eq_true rfl) (s_X10_size hw58) ?_
      rintro _ h59 _ ⟨rfl, e60, rfl⟩
      replace e60 := e60.symm
      subst e60
      exact r_ret dX11_worlds_38 (rt_i rfl) ⟨rfl, rfl, _, rfl⟩
    · refine r_swI (off := 38) (tgt := 39) dX11_worlds_1 rfl c51a c51b (by rw [c51e]; rfl) ?_
      refine r_aload_n rfl dX11_worlds_39 rfl ?_
      refine r_getv 3 rfl dX11_worlds_40 (show 2 ≤ 2 ∧ 2 < 434 by decide) h2 fl_X11_32 rfl ?_
      obtain ⟨y61, y62, y63, y64, f65⟩ := hS.o13
      refine r_getv 1 rfl dX11_worlds_43 (show 2 ≤ 13 ∧ 13 < 434 by decide) f65 fl_X11_143 rfl ?_
      obtain ⟨g66, hw67⟩ := hS.ws wsAt_16
      refine cl_X11_142 rfl rfl dX11_worlds_46 (show 2 ≤ 16 ∧ 16 < 434 by decide).1 (show 2 ≤ 16 ∧ 16 < 434 by decide).2 hw67.2.2.1 (Nat.le_of_ble_eq_true rfl) (s_X10_size hw67) ?_
      rintro _ h68 _ ⟨rfl, e69, rfl⟩
      replace e69 := e69.symm
      subst e69
      exact r_ret dX11_worlds_49 (rt_i rfl) ⟨rfl, rfl, _, rfl⟩
    · refine r_swI (off := 49) (tgt := 50) dX11_worlds_1 rfl c51a c51b (by rw [c51e]; rfl) ?_
      refine r_aload_n rfl dX11_worlds_50 rfl ?_
      refine r_getv 3 rfl dX11_worlds_51 (show 2 ≤ 2 ∧ 2 < 434 by decide) h2 fl_X11_32 rfl ?_
      obtain ⟨y70, y71, y72, y73, f74⟩ := hS.o13
      refine r_getv 0 rfl dX11_worlds_54 (show 2 ≤ 13 ∧ 13 < 434 by decide) f74 fl_X11_139 rfl ?_
      refine r_aload_n rfl dX11_worlds_57 rfl ?_
      refine r_getv 3 rfl dX11_worlds_58 (show 2 ≤ 2 ∧ 2 < 434 by decide) h2 fl_X11_32 rfl ?_
      refine r_getv 1 rfl dX11_worlds_61 (show 2 ≤ 13 ∧ 13 < 434 by decide) f74 fl_X11_143 rfl ?_
      obtain ⟨g75, hw76⟩ := hS.ws wsAt_14
      obtain ⟨g77, hw78⟩ := hS.ws wsAt_16
      refine cl_X11_146 rfl rfl dX11_worlds_64 (show 2 ≤ 14 ∧ 14 < 434 by decide).1 (show 2 ≤ 14 ∧ 14 < 434 by decide).2 hw76.2.2.1 (Nat.le_of_ble_eq_true rfl) (s_X10_sizeWith hw76 hw78) ?_
      rintro _ h79 _ ⟨rfl, e80, rfl⟩
      replace e80 := e80.symm
      subst e80
      exact r_ret dX11_worlds_67 (rt_i rfl) ⟨rfl, rfl, _, rfl⟩
set_option maxRecDepth 20000 in
set_option maxHeartbeats 1000000 in
theorem x_X11_says {xs : Nat → Int32} {L d : Nat} {h : ev_H} {k : Nat} {cc sc wr el : Int32} {x y z : Int32} (hS : SH h) (h2 : h 2 = c2 cc (nI k) sc wr el) (hk : k ≤ 40) : EV xs L (d + 2) 0 0 M_X11_says 434 h 0 [some (.ref 2), some (.int x), some (.int y), some (.int z), none] [] (fun sz' h' r => sz' = 434 ∧ h' = h ∧ ∃ x : Int32, r = [.int x]) := by
  refine r_aload_n rfl dX11_says_0 rfl ?_
  refine r_iload_n rfl dX11_says_1 rfl ?_
  refine cl_X11_121 rfl rfl dX11_says_2 (show 2 ≤ 2 ∧ 2 < 434 by decide).1 (show 2 ≤ 2 ∧ 2 < 434 by decide).2 h2 (Nat.le_of_ble_eq_true rfl) (x_X11_lineAt hS h2 hk) ?_
  rintro _ h51 _ ⟨rfl, e52, ⟨n53, hn54, ex55, rfl⟩ | ⟨hno56, rfl⟩⟩
  · replace e52 := e52.symm
    subst e52
    subst ex55
    refine r_astore (ls' := [some (.ref 2), some (.int x), some (.int (nI n53)), some (.int z), some (.ref (100 + 8 * n53))]) rfl dX11_says_5 (Nat.le_of_ble_eq_true rfl) rfl ?_
    refine r_iload_n rfl dX11_says_7 rfl ?_
    refine cl_X11_150 rfl rfl dX11_says_8 (Nat.le_of_ble_eq_true rfl) s_X11_isWay ?_
    rintro _ h57 _ ⟨rfl, e58, rfl⟩
    replace e58 := e58.symm
    subst e58
    refine r_if_eq (tgt := 26) rfl rfl dX11_says_11 (fun c59 => ?_) (fun c59 => ?_)
    · refine r_iconst (v := (-1)) rfl dX11_says_26 (by decide) ?_
      exact r_ret dX11_says_27 (rt_i rfl) ⟨rfl, rfl, _, rfl⟩
    · refine r_aload rfl dX11_says_14 rfl ?_
      refine r_ifnull rfl (by decide) dX11_says_16 ?_
      refine r_iload_n rfl dX11_says_19 rfl ?_
      refine cl_X11_132 rfl rfl dX11_says_20 (Nat.le_of_ble_eq_true rfl) s_X11_isWorld ?_
      rintro _ h60 _ ⟨rfl, e61, rfl⟩
      replace e61 := e61.symm
      subst e61
      refine r_if_ne (tgt := 28) rfl rfl dX11_says_23 (fun c62 => ?_) (fun c62 => ?_)
      · refine r_aload rfl dX11_says_28 rfl ?_
        refine r_iload_n rfl dX11_says_30 rfl ?_
        obtain ⟨y63, y64, y65, y66, y67, y68, f69⟩ := hS.ln (i := n53) (by omega)
        refine cl_X11_153 rfl rfl dX11_says_31 (show 2 ≤ 100 + 8 * n53 ∧ 100 + 8 * n53 < 434 by omega).1 (show 2 ≤ 100 + 8 * n53 ∧ 100 + 8 * n53 < 434 by omega).2 f69 (Nat.le_of_ble_eq_true rfl) (x_X3_sayingBy hS (i := n53) (by omega)) ?_
        rintro _ h70 _ ⟨rfl, e71, j72, hj73, rfl⟩
        replace e71 := e71.symm
        subst e71
        refine r_iload_n rfl dX11_says_34 rfl ?_
        obtain ⟨g74, hw75⟩ := hS.ws (wsAt_ln (i := n53) (w := j72) (by omega) hj73)
        refine cl_X11_157 rfl rfl dX11_says_35 (show _ ∧ _ from ⟨((wsAt_ln (i := n53) (w := j72) (by omega) hj73)).2.2.1, Nat.lt_of_succ_lt ((wsAt_ln (i := n53) (w := j72) (by omega) hj73)).2.2.2⟩).1 (show _ ∧ _ from ⟨((wsAt_ln (i := n53) (w := j72) (by omega) hj73)).2.2.1, Nat.lt_of_succ_lt ((wsAt_ln (i := n53) (w := j72) (by omega) hj73)).2.2.2⟩).2 hw75.2.2.1 (Nat.le_of_ble_eq_true rfl) (s_X10_has hw75) ?_
        rintro _ h76 _ ⟨rfl, e77, rfl⟩
        replace e77 := e77.symm
        subst e77
        refine r_if_eq (tgt := 45) rfl rfl dX11_says_38 (fun c78 => ?_) (fun c78 => ?_)
        · refine r_iconst (v := 0) rfl dX11_says_45 (by decide) ?_
          exact r_ret dX11_says_46 (rt_i rfl) ⟨rfl, rfl, _, rfl⟩
        · refine r_iconst (v := 1) rfl dX11_says_41 (by decide) ?_
          refine r_goto (pc' := 46) rfl dX11_says_42 ?_
          exact r_ret dX11_says_46 (rt_i rfl) ⟨rfl, rfl, _, rfl⟩
      · refine r_iconst (v := (-1)) rfl dX11_says_26 (by decide) ?_
        exact r_ret dX11_says_27 (rt_i rfl) ⟨rfl, rfl, _, rfl⟩
  · replace e52 := e52.symm
    subst e52
    refine r_astoreN (ls' := [some (.ref 2), some (.int x), some (.int y), some (.int z), some (.null)]) rfl dX11_says_5 (Nat.le_of_ble_eq_true rfl) rfl ?_
    refine r_iload_n rfl dX11_says_7 rfl ?_
    refine cl_X11_150 rfl rfl dX11_says_8 (Nat.le_of_ble_eq_true rfl) s_X11_isWay ?_
    rintro _ h79 _ ⟨rfl, e80, rfl⟩
    replace e80 := e80.symm
    subst e80
    refine r_if_eq (tgt := 26) rfl rfl dX11_says_11 (fun c81 => ?_) (fun c81 => ?_)
    · refine r_iconst (v := (-1)) rfl dX11_says_26 (by decide) ?_
      exact r_ret dX11_says_27 (rt_i rfl) ⟨rfl, rfl, _, rfl⟩
    · refine r_aloadN rfl dX11_says_14 rfl ?_
      refine r_ifnullN (tgt := 26) rfl dX11_says_16 ?_
      refine r_iconst (v := (-1)) rfl dX11_says_26 (by decide) ?_
      exact r_ret dX11_says_27 (rt_i rfl) ⟨rfl, rfl, _, rfl⟩
set_option maxRecDepth 20000 in
set_option maxHeartbeats 1000000 in
theorem x_X11_saying {xs : Nat → Int32} {L d : Nat} {h : ev_H} {k : Nat} {cc sc wr el : Int32} {x y : Int32} (hS : SH h) (h2 : h 2 = c2 cc (nI k) sc wr el) (hk : k ≤ 40) : EV xs L (d + 1) 0 0 M_X11_saying 434 h 0 [some (.ref 2), some (.int x), some (.int y), none] [] (fun sz' h' r => sz' = 434 ∧ h' = h ∧ ∃ x : Int64, r = [.long x]) := by
  refine r_aload_n rfl dX11_saying_0 rfl ?_
  refine r_aload_n rfl dX11_saying_1 rfl ?_
  refine r_getv 15 rfl dX11_saying_2 (show 2 ≤ 2 ∧ 2 < 434 by decide) h2 fl_X11_86 rfl ?_
  refine cl_X11_121 rfl rfl dX11_saying_5 (show 2 ≤ 2 ∧ 2 < 434 by decide).1 (show 2 ≤ 2 ∧ 2 < 434 by decide).2 h2 (Nat.le_of_ble_eq_true rfl) (x_X11_lineAt hS h2 hk) ?_
  rintro _ h51 _ ⟨rfl, e52, ⟨n53, hn54, ex55, rfl⟩ | ⟨hno56, rfl⟩⟩
  · replace e52 := e52.symm
    subst e52
    refine r_astore_n (ls' := [some (.ref 2), some (.int x), some (.int y), some (.ref (100 + 8 * n53))]) rfl dX11_saying_8 (Nat.le_of_ble_eq_true rfl) rfl ?_
    refine r_iload_n rfl dX11_saying_9 rfl ?_
    refine cl_X11_150 rfl rfl dX11_saying_10 (Nat.le_of_ble_eq_true rfl) s_X11_isWay ?_
    rintro _ h57 _ ⟨rfl, e58, rfl⟩
    replace e58 := e58.symm
    subst e58
    refine r_if_eq (tgt := 29) rfl rfl dX11_saying_13 (fun c59 => ?_) (fun c59 => ?_)
    · refine r_lconst (v := 0) rfl dX11_saying_29 (by decide) ?_
      exact r_ret dX11_saying_30 (rt_l rfl) ⟨rfl, rfl, _, rfl⟩
    · refine r_iload_n rfl dX11_saying_16 rfl ?_
      refine r_if_lt (tgt := 29) rfl rfl dX11_saying_17 (fun c60 => ?_) (fun c60 => ?_)
      · refine r_lconst (v := 0) rfl dX11_saying_29 (by decide) ?_
        exact r_ret dX11_saying_30 (rt_l rfl) ⟨rfl, rfl, _, rfl⟩
      · refine r_iload_n rfl dX11_saying_20 rfl ?_
        refine r_iconst (v := 4) rfl dX11_saying_21 (by decide) ?_
        refine r_icmp_ge (tgt := 29) rfl rfl dX11_saying_22 (fun c61 => ?_) (fun c61 => ?_)
        · refine r_lconst (v := 0) rfl dX11_saying_29 (by decide) ?_
          exact r_ret dX11_saying_30 (rt_l rfl) ⟨rfl, rfl, _, rfl⟩
        · refine r_aload_n rfl dX11_saying_25 rfl ?_
          refine r_ifnonnull (tgt := 31) rfl dX11_saying_26 ?_
          refine r_aload_n rfl dX11_saying_31 rfl ?_
          refine r_iload_n rfl dX11_saying_32 rfl ?_
          obtain ⟨y62, y63, y64, y65, y66, y67, f68⟩ := hS.ln (i := n53) (by omega)
          refine cl_X11_153 rfl rfl dX11_saying_33 (show 2 ≤ 100 + 8 * n53 ∧ 100 + 8 * n53 < 434 by omega).1 (show 2 ≤ 100 + 8 * n53 ∧ 100 + 8 * n53 < 434 by omega).2 f68 (Nat.le_of_ble_eq_true rfl) (x_X3_sayingBy hS (i := n53) (by omega)) ?_
          rintro _ h69 _ ⟨rfl, e70, j71, hj72, rfl⟩
          replace e70 := e70.symm
          subst e70
          refine r_iload_n rfl dX11_saying_36 rfl ?_
          obtain ⟨g73, hw74⟩ := hS.ws (wsAt_ln (i := n53) (w := j71) (by omega) hj72)
          refine cl_X11_160 rfl rfl dX11_saying_37 (show _ ∧ _ from ⟨((wsAt_ln (i := n53) (w := j71) (by omega) hj72)).2.2.1, Nat.lt_of_succ_lt ((wsAt_ln (i := n53) (w := j71) (by omega) hj72)).2.2.2⟩).1 (show _ ∧ _ from ⟨((wsAt_ln (i := n53) (w := j71) (by omega) hj72)).2.2.1, Nat.lt_of_succ_lt ((wsAt_ln (i := n53) (w := j71) (by omega) hj72)).2.2.2⟩).2 hw74.2.2.1 (Nat.le_of_ble_eq_true rfl) (s_X10_part hw74) ?_
          rintro _ h75 _ ⟨rfl, e76, rfl⟩
          replace e76 := e76.symm
          subst e76
          exact r_ret dX11_saying_40 (rt_l rfl) ⟨rfl, rfl, _, rfl⟩
  · replace e52 := e52.symm
    subst e52
    refine r_astore_nN (ls' := [some (.ref 2), some (.int x), some (.int y), some (.null)]) rfl dX11_saying_8 (Nat.le_of_ble_eq_true rfl) rfl ?_
    refine r_iload_n rfl dX11_saying_9 rfl ?_
    refine cl_X11_150 rfl rfl dX11_saying_10 (Nat.le_of_ble_eq_true rfl) s_X11_isWay ?_
    rintro _ h77 _ ⟨rfl, e78, rfl⟩
    replace e78 := e78.symm
    subst e78
    refine r_if_eq (tgt := 29) rfl rfl dX11_saying_13 (fun c79 => ?_) (fun c79 => ?_)
    · refine r_lconst (v := 0) rfl dX11_saying_29 (by decide) ?_
      exact r_ret dX11_saying_30 (rt_l rfl) ⟨rfl, rfl, _, rfl⟩
    · refine r_iload_n rfl dX11_saying_16 rfl ?_
      refine r_if_lt (tgt := 29) rfl rfl dX11_saying_17 (fun c80 => ?_) (fun c80 => ?_)
      · refine r_lconst (v := 0) rfl dX11_saying_29 (by decide) ?_
        exact r_ret dX11_saying_30 (rt_l rfl) ⟨rfl, rfl, _, rfl⟩
      · refine r_iload_n rfl dX11_saying_20 rfl ?_
        refine r_iconst (v := 4) rfl dX11_saying_21 (by decide) ?_
        refine r_icmp_ge (tgt := 29) rfl rfl dX11_saying_22 (fun c81 => ?_) (fun c81 => ?_)
        · refine r_lconst (v := 0) rfl dX11_saying_29 (by decide) ?_
          exact r_ret dX11_saying_30 (rt_l rfl) ⟨rfl, rfl, _, rfl⟩
        · refine r_aload_nN rfl dX11_saying_25 rfl ?_
          refine r_ifnonnullN rfl (by decide) dX11_saying_26 ?_
          refine r_lconst (v := 0) rfl dX11_saying_29 (by decide) ?_
          exact r_ret dX11_saying_30 (rt_l rfl) ⟨rfl, rfl, _, rfl⟩
set_option maxRecDepth 20000 in
set_option maxHeartbeats 1000000 in
theorem x_X11_between {xs : Nat → Int32} {L d : Nat} {h : ev_H} {k : Nat} {cc sc wr el : Int32} {x : Int32} (hS : SH h) (h2 : h 2 = c2 cc (nI k) sc wr el) (hk : k ≤ 40) : EV xs L (d + 4) 0 0 M_X11_between 434 h 0 [some (.ref 2), some (.int x), none] [] (fun sz' h' r => sz' = 434 ∧ h' = h ∧ ∃ x : Int32, r = [.int x]) := by
  refine r_iload_n rfl dX11_between_0 rfl ?_
  refine cl_X11_150 rfl rfl dX11_between_1 (Nat.le_of_ble_eq_true rfl) s_X11_isWay ?_
  rintro _ h51 _ ⟨rfl, e52, rfl⟩
  replace e52 := e52.symm
  subst e52
  refine r_if_ne (tgt := 9) rfl rfl dX11_between_4 (fun c53 => ?_) (fun c53 => ?_)
  · refine r_aload_n rfl dX11_between_9 rfl ?_
    refine r_aload_n rfl dX11_between_10 rfl ?_
    refine r_getv 15 rfl dX11_between_11 (show 2 ≤ 2 ∧ 2 < 434 by decide) h2 fl_X11_86 rfl ?_
    refine cl_X11_121 rfl rfl dX11_between_14 (show 2 ≤ 2 ∧ 2 < 434 by decide).1 (show 2 ≤ 2 ∧ 2 < 434 by decide).2 h2 (Nat.le_of_ble_eq_true rfl) (x_X11_lineAt hS h2 hk) ?_
    rintro _ h54 _ ⟨rfl, e55, ⟨n56, hn57, ex58, rfl⟩ | ⟨hno59, rfl⟩⟩
    · replace e55 := e55.symm
      subst e55
      refine r_astore_n (ls' := [some (.ref 2), some (.int x), some (.ref (100 + 8 * n56))]) rfl dX11_between_17 (Nat.le_of_ble_eq_true rfl) rfl ?_
      refine r_aload_n rfl dX11_between_18 rfl ?_
      refine r_ifnonnull (tgt := 27) rfl dX11_between_19 ?_
      refine r_aload_n rfl dX11_between_27 rfl ?_
      refine r_getv 3 rfl dX11_between_28 (show 2 ≤ 2 ∧ 2 < 434 by decide) h2 fl_X11_32 rfl ?_
      refine r_aload_n rfl dX11_between_31 rfl ?_
      refine r_iload_n rfl dX11_between_32 rfl ?_
      obtain ⟨y60, y61, y62, y63, y64, y65, f66⟩ := hS.ln (i := n56) (by omega)
      refine cl_X11_153 rfl rfl dX11_between_33 (show 2 ≤ 100 + 8 * n56 ∧ 100 + 8 * n56 < 434 by omega).1 (show 2 ≤ 100 + 8 * n56 ∧ 100 + 8 * n56 < 434 by omega).2 f66 (Nat.le_of_ble_eq_true rfl) (x_X3_sayingBy hS (i := n56) (by omega)) ?_
      rintro _ h67 _ ⟨rfl, e68, j69, hj70, rfl⟩
      replace e68 := e68.symm
      subst e68
      obtain ⟨y71, y72, y73, y74, f75⟩ := hS.o13
      refine cl_X11_164 rfl rfl dX11_between_36 (show 2 ≤ 13 ∧ 13 < 434 by decide).1 (show 2 ≤ 13 ∧ 13 < 434 by decide).2 f75 (Nat.le_of_ble_eq_true rfl) (x_X7_judge hS (wsAt_ln (i := n56) (w := j69) (by omega) hj70)) ?_
      rintro _ h76 _ ⟨rfl, e77, x78, rfl⟩
      replace e77 := e77.symm
      subst e77
      exact r_ret dX11_between_39 (rt_i rfl) ⟨rfl, rfl, _, rfl⟩
    · replace e55 := e55.symm
      subst e55
      refine r_astore_nN (ls' := [some (.ref 2), some (.int x), some (.null)]) rfl dX11_between_17 (Nat.le_of_ble_eq_true rfl) rfl ?_
      refine r_aload_nN rfl dX11_between_18 rfl ?_
      refine r_ifnonnullN rfl (by decide) dX11_between_19 ?_
      refine r_bipush (v := (-2)) rfl dX11_between_22 (by decide) ?_
      refine r_goto (pc' := 39) rfl dX11_between_24 ?_
      exact r_ret dX11_between_39 (rt_i rfl) ⟨rfl, rfl, _, rfl⟩
  · refine r_iconst (v := (-1)) rfl dX11_between_7 (by decide) ?_
    exact r_ret dX11_between_8 (rt_i rfl) ⟨rfl, rfl, _, rfl⟩
set_option maxRecDepth 20000 in
set_option maxHeartbeats 1000000 in
theorem x_X11_looks {xs : Nat → Int32} {L d : Nat} {h : ev_H} {k : Nat} {cc sc wr el : Int32} {x : Int32} (hS : SH h) (h2 : h 2 = c2 cc (nI k) sc wr el) (hk : k ≤ 40) : EV xs L (d + 3) 0 0 M_X11_looks 434 h 0 [some (.ref 2), some (.int x), none] [] (fun sz' h' r => sz' = 434 ∧ h' = h ∧ ∃ x : Int32, r = [.int x]) := by
  refine r_iload_n rfl dX11_looks_0 rfl ?_
  refine r_if_lt (tgt := 9) rfl rfl dX11_looks_1 (fun c51 => ?_) (fun c51 => ?_)
  · refine r_iconst (v := (-1)) rfl dX11_looks_9 (by decide) ?_
    exact r_ret dX11_looks_10 (rt_i rfl) ⟨rfl, rfl, _, rfl⟩
  · refine r_iload_n rfl dX11_looks_4 rfl ?_
    refine r_iconst (v := 5) rfl dX11_looks_5 (by decide) ?_
    refine r_icmp_le (tgt := 11) rfl rfl dX11_looks_6 (fun c52 => ?_) (fun c52 => ?_)
    · refine r_aload_n rfl dX11_looks_11 rfl ?_
      refine r_iload_n rfl dX11_looks_12 rfl ?_
      refine cl_X11_167 rfl rfl dX11_looks_13 (show 2 ≤ 2 ∧ 2 < 434 by decide).1 (show 2 ≤ 2 ∧ 2 < 434 by decide).2 h2 (Nat.le_of_ble_eq_true rfl) (x_X11_setOf hS h2 hk) ?_
      rintro _ h53 _ ⟨rfl, e54, rfl | ⟨a55, ha56, rfl⟩⟩
      · replace e54 := e54.symm
        subst e54
        refine r_astore_nN (ls' := [some (.ref 2), some (.int x), some (.null)]) rfl dX11_looks_16 (Nat.le_of_ble_eq_true rfl) rfl ?_
        refine r_aload_nN rfl dX11_looks_17 rfl ?_
        refine r_ifnonnullN rfl (by decide) dX11_looks_18 ?_
        refine r_bipush (v := (-2)) rfl dX11_looks_21 (by decide) ?_
        refine r_goto (pc' := 30) rfl dX11_looks_23 ?_
        exact r_ret dX11_looks_30 (rt_i rfl) ⟨rfl, rfl, _, rfl⟩
      · replace e54 := e54.symm
        subst e54
        refine r_astore_n (ls' := [some (.ref 2), some (.int x), some (.ref a55)]) rfl dX11_looks_16 (Nat.le_of_ble_eq_true rfl) rfl ?_
        refine r_aload_n rfl dX11_looks_17 rfl ?_
        refine r_ifnonnull (tgt := 26) rfl dX11_looks_18 ?_
        refine r_aload_n rfl dX11_looks_26 rfl ?_
        obtain ⟨g57, hw58⟩ := hS.ws ha56
        refine cl_X11_170 rfl rfl dX11_looks_27 (show _ ∧ _ from ⟨(ha56).2.2.1, Nat.lt_of_succ_lt (ha56).2.2.2⟩).1 (show _ ∧ _ from ⟨(ha56).2.2.1, Nat.lt_of_succ_lt (ha56).2.2.2⟩).2 hw58.2.2.1 (Nat.le_of_ble_eq_true rfl) (s_X10_lettersLookedAt hw58) ?_
        rintro _ h59 _ ⟨rfl, e60, rfl⟩
        replace e60 := e60.symm
        subst e60
        exact r_ret dX11_looks_30 (rt_i rfl) ⟨rfl, rfl, _, rfl⟩
    · refine r_iconst (v := (-1)) rfl dX11_looks_9 (by decide) ?_
      exact r_ret dX11_looks_10 (rt_i rfl) ⟨rfl, rfl, _, rfl⟩
set_option maxRecDepth 20000 in
set_option maxHeartbeats 1000000 in
theorem x_X11_compare {xs : Nat → Int32} {L d : Nat} {h : ev_H} {k : Nat} {cc sc wr el : Int32} {x y : Int32} (hS : SH h) (h2 : h 2 = c2 cc (nI k) sc wr el) (hk : k ≤ 40) : EV xs L (d + 3) 0 0 M_X11_compare 434 h 0 [some (.ref 2), some (.int x), some (.int y), none, none, none, none] [] (fun sz' h' r => sz' = 434 ∧ h' = h ∧ ∃ x : Int32, r = [.int x]) := by
  refine r_iload_n rfl dX11_compare_0 rfl ?_
  refine r_if_lt (tgt := 18) rfl rfl dX11_compare_1 (fun c51 => ?_) (fun c51 => ?_)
  · refine r_iconst (v := (-1)) rfl dX11_compare_18 (by decide) ?_
    exact r_ret dX11_compare_19 (rt_i rfl) ⟨rfl, rfl, _, rfl⟩
  · refine r_iload_n rfl dX11_compare_4 rfl ?_
    refine r_iconst (v := 5) rfl dX11_compare_5 (by decide) ?_
    refine r_icmp_gt (tgt := 18) rfl rfl dX11_compare_6 (fun c52 => ?_) (fun c52 => ?_)
    · refine r_iconst (v := (-1)) rfl dX11_compare_18 (by decide) ?_
      exact r_ret dX11_compare_19 (rt_i rfl) ⟨rfl, rfl, _, rfl⟩
    · refine r_iload_n rfl dX11_compare_9 rfl ?_
      refine r_if_lt (tgt := 18) rfl rfl dX11_compare_10 (fun c53 => ?_) (fun c53 => ?_)
      · refine r_iconst (v := (-1)) rfl dX11_compare_18 (by decide) ?_
        exact r_ret dX11_compare_19 (rt_i rfl) ⟨rfl, rfl, _, rfl⟩
      · refine r_iload_n rfl dX11_compare_13 rfl ?_
        refine r_iconst (v := 5) rfl dX11_compare_14 (by decide) ?_
        refine r_icmp_le (tgt := 20) rfl rfl dX11_compare_15 (fun c54 => ?_) (fun c54 => ?_)
        · refine r_aload_n rfl dX11_compare_20 rfl ?_
          refine r_iload_n rfl dX11_compare_21 rfl ?_
          refine cl_X11_167 rfl rfl dX11_compare_22 (show 2 ≤ 2 ∧ 2 < 434 by decide).1 (show 2 ≤ 2 ∧ 2 < 434 by decide).2 h2 (Nat.le_of_ble_eq_true rfl) (x_X11_setOf hS h2 hk) ?_
          rintro _ h55 _ ⟨rfl, e56, rfl | ⟨a57, ha58, rfl⟩⟩
          · replace e56 := e56.symm
            subst e56
            refine r_astore_nN (ls' := [some (.ref 2), some (.int x), some (.int y), some (.null), none, none, none]) rfl dX11_compare_25 (Nat.le_of_ble_eq_true rfl) rfl ?_
            refine r_aload_n rfl dX11_compare_26 rfl ?_
            refine r_iload_n rfl dX11_compare_27 rfl ?_
            refine cl_X11_167 rfl rfl dX11_compare_28 (show 2 ≤ 2 ∧ 2 < 434 by decide).1 (show 2 ≤ 2 ∧ 2 < 434 by decide).2 h2 (Nat.le_of_ble_eq_true rfl) (x_X11_setOf hS h2 hk) ?_
            rintro _ h59 _ ⟨rfl, e60, rfl | ⟨a61, ha62, rfl⟩⟩
            · replace e60 := e60.symm
              subst e60
              refine r_astoreN (ls' := [some (.ref 2), some (.int x), some (.int y), some (.null), some (.null), none, none]) rfl dX11_compare_31 (Nat.le_of_ble_eq_true rfl) rfl ?_
              refine r_aload_nN rfl dX11_compare_33 rfl ?_
              refine r_ifnullN (tgt := 42) rfl dX11_compare_34 ?_
              refine r_bipush (v := (-2)) rfl dX11_compare_42 (by decide) ?_
              exact r_ret dX11_compare_44 (rt_i rfl) ⟨rfl, rfl, _, rfl⟩
            · replace e60 := e60.symm
              subst e60
              refine r_astore (ls' := [some (.ref 2), some (.int x), some (.int y), some (.null), some (.ref a61), none, none]) rfl dX11_compare_31 (Nat.le_of_ble_eq_true rfl) rfl ?_
              refine r_aload_nN rfl dX11_compare_33 rfl ?_
              refine r_ifnullN (tgt := 42) rfl dX11_compare_34 ?_
              refine r_bipush (v := (-2)) rfl dX11_compare_42 (by decide) ?_
              exact r_ret dX11_compare_44 (rt_i rfl) ⟨rfl, rfl, _, rfl⟩
          · replace e56 := e56.symm
            subst e56
            refine r_astore_n (ls' := [some (.ref 2), some (.int x), some (.int y), some (.ref a57), none, none, none]) rfl dX11_compare_25 (Nat.le_of_ble_eq_true rfl) rfl ?_
            refine r_aload_n rfl dX11_compare_26 rfl ?_
            refine r_iload_n rfl dX11_compare_27 rfl ?_
            refine cl_X11_167 rfl rfl dX11_compare_28 (show 2 ≤ 2 ∧ 2 < 434 by decide).1 (show 2 ≤ 2 ∧ 2 < 434 by decide).2 h2 (Nat.le_of_ble_eq_true rfl) (x_X11_setOf hS h2 hk) ?_
            rintro _ h63 _ ⟨rfl, e64, rfl | ⟨a65, ha66, rfl⟩⟩
            · replace e64 := e64.symm
              subst e64
              refine r_astoreN (ls' := [some (.ref 2), some (.int x), some (.int y), some (.ref a57), some (.null), none, none]) rfl dX11_compare_31 (Nat.le_of_ble_eq_true rfl) rfl ?_
              refine r_aload_n rfl dX11_compare_33 rfl ?_
              refine r_ifnull rfl (by decide) dX11_compare_34 ?_
              refine r_aloadN rfl dX11_compare_37 rfl ?_
              refine r_ifnonnullN rfl (by decide) dX11_compare_39 ?_
              refine r_bipush (v := (-2)) rfl dX11_compare_42 (by decide) ?_
              exact r_ret dX11_compare_44 (rt_i rfl) ⟨rfl, rfl, _, rfl⟩
            · replace e64 := e64.symm
              subst e64
              refine r_astore (ls' := [some (.ref 2), some (.int x), some (.int y), some (.ref a57), some (.ref a65), none, none]) rfl dX11_compare_31 (Nat.le_of_ble_eq_true rfl) rfl ?_
              refine r_aload_n rfl dX11_compare_33 rfl ?_
              refine r_ifnull rfl (by decide) dX11_compare_34 ?_
              refine r_aload rfl dX11_compare_37 rfl ?_
              refine r_ifnonnull (tgt := 45) rfl dX11_compare_39 ?_
              refine r_aload_n rfl dX11_compare_45 rfl ?_
              refine r_aload rfl dX11_compare_46 rfl ?_
              obtain ⟨g67, hw68⟩ := hS.ws ha58
              obtain ⟨g69, hw70⟩ := hS.ws ha66
              refine cl_X11_173 rfl rfl dX11_compare_48 (show _ ∧ _ from ⟨(ha58).2.2.1, Nat.lt_of_succ_lt (ha58).2.2.2⟩).1 (show _ ∧ _ from ⟨(ha58).2.2.1, Nat.lt_of_succ_lt (ha58).2.2.2⟩).2 hw68.2.2.1 (Nat.le_of_ble_eq_true rfl) (s_X10_isWithin hw68 hw70) ?_
              rintro _ h71 _ ⟨rfl, e72, rfl⟩
              replace e72 := e72.symm
              subst e72
              refine r_topi (fun x73 e74 => ?_)
              refine r_istore (ls' := [some (.ref 2), some (.int x), some (.int y), some (.ref a57), some (.ref a65), some (.int x73), none]) rfl dX11_compare_51 (Nat.le_of_ble_eq_true rfl) rfl ?_
              refine r_aload rfl dX11_compare_53 rfl ?_
              refine r_aload_n rfl dX11_compare_55 rfl ?_
              obtain ⟨g75, hw76⟩ := hS.ws ha66
              obtain ⟨g77, hw78⟩ := hS.ws ha58
              refine cl_X11_173 rfl rfl dX11_compare_56 (show _ ∧ _ from ⟨(ha66).2.2.1, Nat.lt_of_succ_lt (ha66).2.2.2⟩).1 (show _ ∧ _ from ⟨(ha66).2.2.1, Nat.lt_of_succ_lt (ha66).2.2.2⟩).2 hw76.2.2.1 (Nat.le_of_ble_eq_true rfl) (s_X10_isWithin hw76 hw78) ?_
              rintro _ h79 _ ⟨rfl, e80, rfl⟩
              replace e80 := e80.symm
              subst e80
              refine r_topi (fun x81 e82 => ?_)
              refine r_istore (ls' := [some (.ref 2), some (.int x), some (.int y), some (.ref a57), some (.ref a65), some (.int x73), some (.int x81)]) rfl dX11_compare_59 (Nat.le_of_ble_eq_true rfl) rfl ?_
              refine r_iload rfl dX11_compare_61 rfl ?_
              refine r_if_eq (tgt := 77) rfl rfl dX11_compare_63 (fun c83 => ?_) (fun c83 => ?_)
              · refine r_iload rfl dX11_compare_77 rfl ?_
                refine r_if_eq (tgt := 86) rfl rfl dX11_compare_79 (fun c84 => ?_) (fun c84 => ?_)
                · refine r_iconst (v := 3) rfl dX11_compare_86 (by decide) ?_
                  exact r_ret dX11_compare_87 (rt_i rfl) ⟨rfl, rfl, _, rfl⟩
                · refine r_iconst (v := 2) rfl dX11_compare_82 (by decide) ?_
                  refine r_goto (pc' := 87) rfl dX11_compare_83 ?_
                  exact r_ret dX11_compare_87 (rt_i rfl) ⟨rfl, rfl, _, rfl⟩
              · refine r_iload rfl dX11_compare_66 rfl ?_
                refine r_if_eq (tgt := 75) rfl rfl dX11_compare_68 (fun c85 => ?_) (fun c85 => ?_)
                · refine r_iconst (v := 1) rfl dX11_compare_75 (by decide) ?_
                  exact r_ret dX11_compare_76 (rt_i rfl) ⟨rfl, rfl, _, rfl⟩
                · refine r_iconst (v := 0) rfl dX11_compare_71 (by decide) ?_
                  refine r_goto (pc' := 76) rfl dX11_compare_72 ?_
                  exact r_ret dX11_compare_76 (rt_i rfl) ⟨rfl, rfl, _, rfl⟩
        · refine r_iconst (v := (-1)) rfl dX11_compare_18 (by decide) ?_
          exact r_ret dX11_compare_19 (rt_i rfl) ⟨rfl, rfl, _, rfl⟩
set_option maxRecDepth 20000 in
set_option maxHeartbeats 1000000 in
theorem x_X11_bounds {xs : Nat → Int32} {L d : Nat} {h : ev_H} {k : Nat} {cc sc wr el : Int32} {x : Int32} (hS : SH h) (h2 : h 2 = c2 cc (nI k) sc wr el) (hk : k ≤ 40) : EV xs L (d + 3) 0 0 M_X11_bounds 434 h 0 [some (.ref 2), some (.int x)] [] (fun sz' h' r => sz' = 434 ∧ h' = h ∧ ∃ x : Int32, r = [.int x]) := by
  refine r_iload_n rfl dX11_bounds_0 rfl ?_
  by_cases c51 : x.toInt < 0 ∨ 2 < x.toInt
  · refine r_swO (tgt := 58) dX11_bounds_1 rfl c51 ?_
    refine r_iconst (v := (-1)) rfl dX11_bounds_58 (by decide) ?_
    exact r_ret dX11_bounds_59 (rt_i rfl) ⟨rfl, rfl, _, rfl⟩
  · have c51a : ¬ x.toInt < 0 := fun z => c51 (Or.inl z)
    have c51b : ¬ 2 < x.toInt := fun z => c51 (Or.inr z)
    rcases (show x.toInt = 0 ∨ x.toInt = 1 ∨ x.toInt = 2 by omega) with c51e | c51e | c51e
    · refine r_swI (off := 27) (tgt := 28) dX11_bounds_1 rfl c51a c51b (by rw [c51e]; rfl) ?_
      refine r_aload_n rfl dX11_bounds_28 rfl ?_
      refine r_getv 3 rfl dX11_bounds_29 (show 2 ≤ 2 ∧ 2 < 434 by decide) h2 fl_X11_32 rfl ?_
      obtain ⟨y52, y53, y54, y55, f56⟩ := hS.o13
      refine r_getv 2 rfl dX11_bounds_32 (show 2 ≤ 13 ∧ 13 < 434 by decide) f56 fl_X11_177 rfl ?_
      obtain ⟨g57, hw58⟩ := hS.ws wsAt_18
      refine cl_X11_142 rfl rfl dX11_bounds_35 (show 2 ≤ 18 ∧ 18 < 434 by decide).1 (show 2 ≤ 18 ∧ 18 < 434 by decide).2 hw58.2.2.1 (Nat.le_of_ble_eq_true rfl) (s_X10_size hw58) ?_
      rintro _ h59 _ ⟨rfl, e60, rfl⟩
      replace e60 := e60.symm
      subst e60
      exact r_ret dX11_bounds_38 (rt_i rfl) ⟨rfl, rfl, _, rfl⟩
    · refine r_swI (off := 38) (tgt := 39) dX11_bounds_1 rfl c51a c51b (by rw [c51e]; rfl) ?_
      refine r_aload_n rfl dX11_bounds_39 rfl ?_
      refine r_getv 3 rfl dX11_bounds_40 (show 2 ≤ 2 ∧ 2 < 434 by decide) h2 fl_X11_32 rfl ?_
      obtain ⟨y61, y62, y63, y64, f65⟩ := hS.o13
      refine r_getv 3 rfl dX11_bounds_43 (show 2 ≤ 13 ∧ 13 < 434 by decide) f65 fl_X11_180 rfl ?_
      obtain ⟨g66, hw67⟩ := hS.ws wsAt_20
      refine cl_X11_142 rfl rfl dX11_bounds_46 (show 2 ≤ 20 ∧ 20 < 434 by decide).1 (show 2 ≤ 20 ∧ 20 < 434 by decide).2 hw67.2.2.1 (Nat.le_of_ble_eq_true rfl) (s_X10_size hw67) ?_
      rintro _ h68 _ ⟨rfl, e69, rfl⟩
      replace e69 := e69.symm
      subst e69
      exact r_ret dX11_bounds_49 (rt_i rfl) ⟨rfl, rfl, _, rfl⟩
    · refine r_swI (off := 49) (tgt := 50) dX11_bounds_1 rfl c51a c51b (by rw [c51e]; rfl) ?_
      refine r_aload_n rfl dX11_bounds_50 rfl ?_
      refine r_getv 3 rfl dX11_bounds_51 (show 2 ≤ 2 ∧ 2 < 434 by decide) h2 fl_X11_32 rfl ?_
      obtain ⟨y70, y71, y72, y73, f74⟩ := hS.o13
      refine cl_X11_183 rfl rfl dX11_bounds_54 (show 2 ≤ 13 ∧ 13 < 434 by decide).1 (show 2 ≤ 13 ∧ 13 < 434 by decide).2 f74 (Nat.le_of_ble_eq_true rfl) (x_X7_freeChoices hS) ?_
      rintro _ h75 _ ⟨rfl, e76, x77, rfl⟩
      replace e76 := e76.symm
      subst e76
      exact r_ret dX11_bounds_57 (rt_i rfl) ⟨rfl, rfl, _, rfl⟩
set_option maxRecDepth 20000 in
set_option maxHeartbeats 1000000 in
theorem x_X11_check {xs : Nat → Int32} {L d : Nat} {h : ev_H} {k : Nat} {cc sc wr el : Int32} (hS : SH h) (h2 : h 2 = c2 cc (nI k) sc wr el) (hk : k ≤ 40) : EV xs L (d + 4) 0 0 M_X11_check 434 h 0 [some (.ref 2)] [] (fun sz' h' r => sz' = 434 ∧ h' = h ∧ ∃ x : Int32, r = [.int x]) := by
  refine r_aload_n rfl dX11_check_0 rfl ?_
  refine r_getv 3 rfl dX11_check_1 (show 2 ≤ 2 ∧ 2 < 434 by decide) h2 fl_X11_32 rfl ?_
  refine r_aload_n rfl dX11_check_4 rfl ?_
  refine r_getv 5 rfl dX11_check_5 (show 2 ≤ 2 ∧ 2 < 434 by decide) h2 fl_X11_46 rfl ?_
  obtain ⟨y51, y52, y53, y54, f55⟩ := hS.o13
  refine cl_X11_164 rfl rfl dX11_check_8 (show 2 ≤ 13 ∧ 13 < 434 by decide).1 (show 2 ≤ 13 ∧ 13 < 434 by decide).2 f55 (Nat.le_of_ble_eq_true rfl) (x_X7_judge hS wsAt_93) ?_
  rintro _ h56 _ ⟨rfl, e57, x58, rfl⟩
  replace e57 := e57.symm
  subst e57
  exact r_ret dX11_check_11 (rt_i rfl) ⟨rfl, rfl, _, rfl⟩
