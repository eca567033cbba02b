/-- only Sides and its scratch have changed -/
def KF (h h' : ev_H) : Prop := ∀ q, q ≠ 13 → q ≠ 23 → h' q = h q
theorem KF_rf (h : ev_H) : KF h h := fun _ _ _ => rfl
theorem KF_tr {a b c : ev_H} (h1 : KF a b) (h2 : KF b c) : KF a c := fun q x y => (h2 q x y).trans (h1 q x y)
theorem KF_1 {h h' : ev_H} (h1 : K1 22 h h') : KF h h' := fun q _ y => h1 q y
theorem KF_M {h h' : ev_H} (h1 : KM [13] h h') : KF h h' := fun q x _ => h1 q (by simp only [List.mem_singleton]; exact x)
set_option maxRecDepth 20000 in
set_option maxHeartbeats 1000000 in
theorem m_X7_tellsApart {xs : Nat → Int32} {L d : Nat} {h : ev_H} {m : Int32} (hS : SH h)  : EV xs L (d + 3) 0 0 M_X7_tellsApart 434 h 0 [some (.ref 13), some (.int m)] [] (fun sz' h' r => sz' = 434 ∧ SH h' ∧ K1 22 h h' ∧ ∃ x : Int32, r = [.int x]) := by
  refine r_aload_n rfl dX7_tellsApart_0 rfl ?_
  obtain ⟨y51, y52, y53, y54, f55⟩ := hS.o13
  refine r_getv 4 rfl dX7_tellsApart_1 (show 2 ≤ 13 ∧ 13 < 434 by decide) f55 fl_X7_27 rfl ?_
  refine r_aload_n rfl dX7_tellsApart_4 rfl ?_
  refine r_getv 0 rfl dX7_tellsApart_5 (show 2 ≤ 13 ∧ 13 < 434 by decide) f55 fl_X7_12 rfl ?_
  obtain ⟨g56, hw57⟩ := hS.ws wsAt_22
  obtain ⟨g58, hw59⟩ := hS.ws wsAt_14
  refine cl_X7_57 rfl rfl dX7_tellsApart_8 (show 2 ≤ 22 ∧ 22 < 434 by decide).1 (show 2 ≤ 22 ∧ 22 < 434 by decide).2 hw57.2.2.1 (Nat.le_of_ble_eq_true rfl) (s_X10_become hw57 hw59 (by omega)) ?_
  rintro _ h60 _ ⟨rfl, eh61, rfl⟩
  have hS62 := SH_p hS wsAt_22 eh61
  have hk63 : K1 22 h h60 := K1_up eh61
  have hF64 := K1_tr (K1_rf 22 h) hk63
  have f65 : h60 (13) = .inr (7, [.ref 14, .ref 16, .ref 18, .ref 20, .ref 22, .int y51, .int y52, .int y53, .int y54]) := (hk63 _ (by decide)).trans f55
  refine r_aload_n rfl dX7_tellsApart_11 rfl ?_
  refine r_getv 4 rfl dX7_tellsApart_12 (show 2 ≤ 13 ∧ 13 < 434 by decide) f65 fl_X7_27 rfl ?_
  refine r_iload_n rfl dX7_tellsApart_15 rfl ?_
  obtain ⟨g66, hw67⟩ := hS62.ws wsAt_22
  refine cl_X7_63 rfl rfl dX7_tellsApart_16 (show 2 ≤ 22 ∧ 22 < 434 by decide).1 (show 2 ≤ 22 ∧ 22 < 434 by decide).2 hw67.2.2.1 (Nat.le_of_ble_eq_true rfl) (s_X10_spreadBut hw67) ?_
  rintro _ h68 _ ⟨rfl, eh69, rfl⟩
  have hS70 := SH_p hS62 wsAt_22 eh69
  have hk71 : K1 22 h60 h68 := K1_up eh69
  have hF72 := K1_tr hF64 hk71
  have f73 : h68 (13) = .inr (7, [.ref 14, .ref 16, .ref 18, .ref 20, .ref 22, .int y51, .int y52, .int y53, .int y54]) := (hk71 _ (by decide)).trans f65
  refine r_aload_n rfl dX7_tellsApart_19 rfl ?_
  refine r_getv 4 rfl dX7_tellsApart_20 (show 2 ≤ 13 ∧ 13 < 434 by decide) f73 fl_X7_27 rfl ?_
  refine r_aload_n rfl dX7_tellsApart_23 rfl ?_
  refine r_getv 1 rfl dX7_tellsApart_24 (show 2 ≤ 13 ∧ 13 < 434 by decide) f73 fl_X7_18 rfl ?_
  obtain ⟨g74, hw75⟩ := hS70.ws wsAt_22
  obtain ⟨g76, hw77⟩ := hS70.ws wsAt_16
  refine cl_X7_81 rfl rfl dX7_tellsApart_27 (show 2 ≤ 22 ∧ 22 < 434 by decide).1 (show 2 ≤ 22 ∧ 22 < 434 by decide).2 hw75.2.2.1 (Nat.le_of_ble_eq_true rfl) (s_X10_sizeWith hw75 hw77) ?_
  rintro _ h78 _ ⟨rfl, e79, rfl⟩
  replace e79 := e79.symm
  subst e79
  refine r_if_ne (tgt := 37) rfl rfl dX7_tellsApart_30 (fun c80 => ?_) (fun c80 => ?_)
  · refine r_iconst (v := 0) rfl dX7_tellsApart_37 (by decide) ?_
    exact r_ret dX7_tellsApart_38 (rt_z rfl (Or.inl rfl)) ⟨rfl, hS70, hF72, _, rfl⟩
  · refine r_iconst (v := 1) rfl dX7_tellsApart_33 (by decide) ?_
    refine r_goto (pc' := 38) rfl dX7_tellsApart_34 ?_
    exact r_ret dX7_tellsApart_38 (rt_z rfl (Or.inr rfl)) ⟨rfl, hS70, hF72, _, rfl⟩
set_option maxRecDepth 20000 in
set_option maxHeartbeats 1000000 in
theorem m_ff_z {xs : Nat → Int32} {L d : Nat} {h : ev_H} {h0 : ev_H} {k : Nat} {b z : Int32} {u : Option Value} (hS : SH h) (hF : K1 22 h0 h) (hk : k = 256) : EV xs L (d + 4) 0 0 M_X7_findFewest 434 h 8 [some (.ref 13), some (.int b), some (.int z), some (.int (nI k)), u] [] (fun sz' h' r => sz' = 434 ∧ SH h' ∧ K1 22 h0 h' ∧ ∃ x : Int32, r = [.int x]) := by
  refine r_iload_n rfl dX7_findFewest_8 rfl ?_
  refine r_sipush (v := 255) rfl dX7_findFewest_9 (by decide) ?_
  refine r_icmp_gt (tgt := 67) rfl rfl dX7_findFewest_12 (fun _ => ?_) (fun zc => absurd (show (255 : Int32) < nI k from nI_lt (a := 255) (b := k) (by omega) (by omega)) zc)
  refine r_iload_n rfl dX7_findFewest_67 rfl ?_
  exact r_ret dX7_findFewest_68 (rt_i rfl) ⟨rfl, hS, hF, _, rfl⟩
set_option maxRecDepth 20000 in
set_option maxHeartbeats 1000000 in
theorem m_ff_s {xs : Nat → Int32} {L d : Nat} {h : ev_H} {h0 : ev_H} {k : Nat} {b z : Int32} {u : Option Value} (hS : SH h) (hF : K1 22 h0 h) (hk : k < 256) (ih : ∀ (h' : ev_H) (b' z' : Int32) (u' : Option Value), SH h' → K1 22 h0 h' → EV xs L (d + 4) 0 0 M_X7_findFewest 434 h' 8 [some (.ref 13), some (.int b'), some (.int z'), some (.int (nI (k + 1))), u'] [] (fun sz' h' r => sz' = 434 ∧ SH h' ∧ K1 22 h0 h' ∧ ∃ x : Int32, r = [.int x])) : EV xs L (d + 4) 0 0 M_X7_findFewest 434 h 8 [some (.ref 13), some (.int b), some (.int z), some (.int (nI k)), u] [] (fun sz' h' r => sz' = 434 ∧ SH h' ∧ K1 22 h0 h' ∧ ∃ x : Int32, r = [.int x]) := by
  refine r_iload_n rfl dX7_findFewest_8 rfl ?_
  refine r_sipush (v := 255) rfl dX7_findFewest_9 (by decide) ?_
  refine r_icmp_gt (tgt := 67) rfl rfl dX7_findFewest_12 (fun zc => absurd zc (show ¬ (255 : Int32) < nI k from nI_nlt (a := 255) (b := k) (by omega) (by decide))) (fun _ => ?_)
  refine r_iload_n rfl dX7_findFewest_15 rfl ?_
  refine r_aload_n rfl dX7_findFewest_16 rfl ?_
  obtain ⟨y51, y52, y53, y54, f55⟩ := hS.o13
  refine cl_X7_60 rfl rfl dX7_findFewest_17 (show 2 ≤ 13 ∧ 13 < 434 by decide).1 (show 2 ≤ 13 ∧ 13 < 434 by decide).2 f55 (Nat.le_of_ble_eq_true rfl) (x_X7_sharedLetters hS f55) ?_
  rintro _ h56 _ ⟨rfl, e57, rfl⟩
  replace e57 := e57.symm
  subst e57
  refine r_iconst (v := (-1)) rfl dX7_findFewest_20 (by decide) ?_
  refine r_ixor rfl dX7_findFewest_21 ?_
  refine r_iand rfl dX7_findFewest_22 ?_
  refine r_if_ne (tgt := 30) rfl rfl dX7_findFewest_23 (fun c59 => ?_) (fun c59 => ?_)
  · refine r_iconst (v := 0) rfl dX7_findFewest_30 (by decide) ?_
    refine r_istore (ls' := [some (.ref 13), some (.int b), some (.int z), some (.int (nI k)), some (.int 0)]) rfl dX7_findFewest_31 (Nat.le_of_ble_eq_true rfl) rfl ?_
    refine r_iload rfl dX7_findFewest_33 rfl ?_
    refine r_if_eq (tgt := 61) rfl rfl dX7_findFewest_35 (fun _ => ?_) (fun zc => absurd zc (by decide))
    refine r_iinc (y := nI (k + 1)) (ls' := [some (.ref 13), some (.int b), some (.int z), some (.int (nI (k + 1))), some (.int 0)]) rfl dX7_findFewest_61 rfl (nI_1 k) (Nat.le_of_ble_eq_true rfl) rfl ?_
    refine r_goto (pc' := 8) rfl dX7_findFewest_64 ?_
    exact ih h _ _ _ hS hF
  · refine r_iconst (v := 1) rfl dX7_findFewest_26 (by decide) ?_
    refine r_goto (pc' := 31) rfl dX7_findFewest_27 ?_
    refine r_istore (ls' := [some (.ref 13), some (.int b), some (.int z), some (.int (nI k)), some (.int 1)]) rfl dX7_findFewest_31 (Nat.le_of_ble_eq_true rfl) rfl ?_
    refine r_iload rfl dX7_findFewest_33 rfl ?_
    refine r_if_eq (tgt := 61) rfl rfl dX7_findFewest_35 (fun zc => absurd zc (by decide)) (fun _ => ?_)
    refine r_iload_n rfl dX7_findFewest_38 rfl ?_
    refine cl_X7_88 rfl rfl dX7_findFewest_39 (Nat.le_of_ble_eq_true rfl) s_J6_bitCount_0f7a4 ?_
    rintro _ h60 _ ⟨rfl, e61, rfl⟩
    replace e61 := e61.symm
    subst e61
    refine r_iload_n rfl dX7_findFewest_42 rfl ?_
    refine r_icmp_ge (tgt := 61) rfl rfl dX7_findFewest_43 (fun c62 => ?_) (fun c62 => ?_)
    · refine r_iinc (y := nI (k + 1)) (ls' := [some (.ref 13), some (.int b), some (.int z), some (.int (nI (k + 1))), some (.int 1)]) rfl dX7_findFewest_61 rfl (nI_1 k) (Nat.le_of_ble_eq_true rfl) rfl ?_
      refine r_goto (pc' := 8) rfl dX7_findFewest_64 ?_
      exact ih h _ _ _ hS hF
    · refine r_aload_n rfl dX7_findFewest_46 rfl ?_
      refine r_iload_n rfl dX7_findFewest_47 rfl ?_
      refine cl_X7_100 rfl rfl dX7_findFewest_48 (show 2 ≤ 13 ∧ 13 < 434 by decide).1 (show 2 ≤ 13 ∧ 13 < 434 by decide).2 f55 (Nat.le_of_ble_eq_true rfl) (m_X7_tellsApart hS) ?_
      rintro _ h63 _ ⟨rfl, hS64, hk65, x66, rfl⟩
      have hF67 := K1_tr hF hk65
      have f68 : h63 (13) = .inr (7, [.ref 14, .ref 16, .ref 18, .ref 20, .ref 22, .int y51, .int y52, .int y53, .int y54]) := (hk65 _ (by decide)).trans f55
      refine r_if_eq (tgt := 61) rfl rfl dX7_findFewest_51 (fun c69 => ?_) (fun c69 => ?_)
      · refine r_iinc (y := nI (k + 1)) (ls' := [some (.ref 13), some (.int b), some (.int z), some (.int (nI (k + 1))), some (.int 1)]) rfl dX7_findFewest_61 rfl (nI_1 k) (Nat.le_of_ble_eq_true rfl) rfl ?_
        refine r_goto (pc' := 8) rfl dX7_findFewest_64 ?_
        exact ih h63 _ _ _ hS64 hF67
      · refine r_iload_n rfl dX7_findFewest_54 rfl ?_
        refine r_istore_n (ls' := [some (.ref 13), some (.int (nI k)), some (.int z), some (.int (nI k)), some (.int 1)]) rfl dX7_findFewest_55 (Nat.le_of_ble_eq_true rfl) rfl ?_
        refine r_iload_n rfl dX7_findFewest_56 rfl ?_
        refine cl_X7_88 rfl rfl dX7_findFewest_57 (Nat.le_of_ble_eq_true rfl) s_J6_bitCount_0f7a4 ?_
        rintro _ h70 _ ⟨rfl, e71, rfl⟩
        replace e71 := e71.symm
        subst e71
        refine r_topi (fun x72 e73 => ?_)
        refine r_istore_n (ls' := [some (.ref 13), some (.int (nI k)), some (.int x72), some (.int (nI k)), some (.int 1)]) rfl dX7_findFewest_60 (Nat.le_of_ble_eq_true rfl) rfl ?_
        refine r_iinc (y := nI (k + 1)) (ls' := [some (.ref 13), some (.int (nI k)), some (.int x72), some (.int (nI (k + 1))), some (.int 1)]) rfl dX7_findFewest_61 rfl (nI_1 k) (Nat.le_of_ble_eq_true rfl) rfl ?_
        refine r_goto (pc' := 8) rfl dX7_findFewest_64 ?_
        exact ih h63 _ _ _ hS64 hF67
theorem m_ff {xs : Nat → Int32} {L d : Nat} {h0 : ev_H} : ∀ (n k : Nat) (h : ev_H) (b z : Int32) (u : Option Value), k + n = 256 → SH h → K1 22 h0 h → EV xs L (d + 4) 0 0 M_X7_findFewest 434 h 8 [some (.ref 13), some (.int b), some (.int z), some (.int (nI k)), u] [] (fun sz' h' r => sz' = 434 ∧ SH h' ∧ K1 22 h0 h' ∧ ∃ x : Int32, r = [.int x]) := by
  intro n
  induction n with
  | zero => intro k h b z u hk hS hF; exact m_ff_z hS hF (by omega)
  | succ n ih => intro k h b z u hk hS hF; exact m_ff_s hS hF (by omega) (fun h' b' z' u' q1 q2 => ih (k + 1) h' b' z' u' (by omega) q1 q2)
set_option maxRecDepth 20000 in
set_option maxHeartbeats 1000000 in
theorem m_X7_findFewest {xs : Nat → Int32} {L d : Nat} {h : ev_H}  (hS : SH h)  : EV xs L (d + 4) 0 0 M_X7_findFewest 434 h 0 [some (.ref 13), none, none, none, none] [] (fun sz' h' r => sz' = 434 ∧ SH h' ∧ K1 22 h h' ∧ ∃ x : Int32, r = [.int x]) := by
  refine r_bipush (v := (-9)) rfl dX7_findFewest_0 (by decide) ?_
  refine r_istore_n (ls' := [some (.ref 13), some (.int (-9)), none, none, none]) rfl dX7_findFewest_2 (Nat.le_of_ble_eq_true rfl) rfl ?_
  refine r_bipush (v := 9) rfl dX7_findFewest_3 (by decide) ?_
  refine r_istore_n (ls' := [some (.ref 13), some (.int (-9)), some (.int 9), none, none]) rfl dX7_findFewest_5 (Nat.le_of_ble_eq_true rfl) rfl ?_
  refine r_iconst (v := 0) rfl dX7_findFewest_6 (by decide) ?_
  refine r_istore_n (ls' := [some (.ref 13), some (.int (-9)), some (.int 9), some (.int 0), none]) rfl dX7_findFewest_7 (Nat.le_of_ble_eq_true rfl) rfl ?_
  exact m_ff 256 0 h _ _ _ rfl hS (K1_rf 22 h)
set_option maxRecDepth 20000 in
set_option maxHeartbeats 1000000 in
theorem m_X7_fewestLetters {xs : Nat → Int32} {L d : Nat} {h : ev_H} {lo lt fk fs : Int32} (hS : SH h) (f13 : h 13 = c13 lo lt fk fs) : EV xs L (d + 5) 0 0 M_X7_fewestLetters 434 h 0 [some (.ref 13)] [] (fun sz' h' r => sz' = 434 ∧ SH h' ∧ KF h h' ∧ (∃ fk fs, h' 13 = c13 lo lt fk fs) ∧ ∃ x : Int32, r = [.int x]) := by
  refine r_aload_n rfl dX7_fewestLetters_0 rfl ?_
  refine r_getv 7 rfl dX7_fewestLetters_1 (show 2 ≤ 13 ∧ 13 < 434 by decide) f13 fl_X7_70 rfl ?_
  refine r_if_ne (tgt := 20) rfl rfl dX7_fewestLetters_4 (fun c51 => ?_) (fun c51 => ?_)
  · refine r_aload_n rfl dX7_fewestLetters_20 rfl ?_
    refine r_getv 8 rfl dX7_fewestLetters_21 (show 2 ≤ 13 ∧ 13 < 434 by decide) f13 fl_X7_97 rfl ?_
    exact r_ret dX7_fewestLetters_24 (rt_i rfl) ⟨rfl, hS, (KF_rf h), ⟨_, _, f13⟩, _, rfl⟩
  · refine r_aload_n rfl dX7_fewestLetters_7 rfl ?_
    refine r_aload_n rfl dX7_fewestLetters_8 rfl ?_
    refine cl_X7_94 rfl rfl dX7_fewestLetters_9 (show 2 ≤ 13 ∧ 13 < 434 by decide).1 (show 2 ≤ 13 ∧ 13 < 434 by decide).2 f13 (Nat.le_of_ble_eq_true rfl) (m_X7_findFewest hS) ?_
    rintro _ h52 _ ⟨rfl, hS53, hk54, x55, rfl⟩
    have hF56 := KF_tr (KF_rf h) (by first | exact hk54 | exact KF_1 hk54 | exact KF_M hk54)
    have f57 : h52 (13) = .inr (7, [.ref 14, .ref 16, .ref 18, .ref 20, .ref 22, .int lo, .int lt, .int fk, .int fs]) := (hk54 _ (by decide)).trans f13
    refine e_put 8 (fs' := [.ref 14, .ref 16, .ref 18, .ref 20, .ref 22, .int lo, .int lt, .int fk, .int x55]) rfl dX7_fewestLetters_12 (show 2 ≤ 13 ∧ 13 < 434 by decide) hS53 (KM_rf (Mod := [13]) _) (List.mem_singleton.mpr rfl) f57 (fp_X7_97 rfl _) (Nat.le_of_ble_eq_true rfl) rfl (fun h58 hS59 _ hN60 f61 => ?_)
    have hk62 : KM [13] h52 h58 := hN60
    have hF63 := KF_tr hF56 (by first | exact hk62 | exact KF_1 hk62 | exact KF_M hk62)
    refine r_aload_n rfl dX7_fewestLetters_15 rfl ?_
    refine r_iconst (v := 1) rfl dX7_fewestLetters_16 (by decide) ?_
    refine e_put 7 (fs' := [.ref 14, .ref 16, .ref 18, .ref 20, .ref 22, .int lo, .int lt, .int 1, .int x55]) rfl dX7_fewestLetters_17 (show 2 ≤ 13 ∧ 13 < 434 by decide) hS59 (KM_rf (Mod := [13]) _) (List.mem_singleton.mpr rfl) f61 (fp_X7_70 rfl _ (Or.inr rfl)) (Nat.le_of_ble_eq_true rfl) rfl (fun h64 hS65 _ hN66 f67 => ?_)
    have hk68 : KM [13] h58 h64 := hN66
    have hF69 := KF_tr hF63 (by first | exact hk68 | exact KF_1 hk68 | exact KF_M hk68)
    refine r_aload_n rfl dX7_fewestLetters_20 rfl ?_
    refine r_getv 8 rfl dX7_fewestLetters_21 (show 2 ≤ 13 ∧ 13 < 434 by decide) f67 fl_X7_97 rfl ?_
    exact r_ret dX7_fewestLetters_24 (rt_i rfl) ⟨rfl, hS65, hF69, ⟨_, _, f67⟩, _, rfl⟩
set_option maxRecDepth 20000 in
set_option maxHeartbeats 1000000 in
theorem m_X11_fewest {xs : Nat → Int32} {L d : Nat} {h : ev_H} {k : Nat} {cc sc wr el : Int32} {x lo lt fk fs : Int32} (hS : SH h) (h2 : h 2 = c2 cc (nI k) sc wr el) (hk : k ≤ 40) (f13 : h 13 = c13 lo lt fk fs) : EV xs L (d + 6) 0 0 M_X11_fewest 434 h 0 [some (.ref 2), some (.int x)] [] (fun sz' h' r => sz' = 434 ∧ SH h' ∧ KF h h' ∧ (∃ fk fs, h' 13 = c13 lo lt fk fs) ∧ ∃ x : Int32, r = [.int x]) := by
  refine r_iload_n rfl dX11_fewest_0 rfl ?_
  refine r_if_lt (tgt := 9) rfl rfl dX11_fewest_1 (fun c51 => ?_) (fun c51 => ?_)
  · refine r_iconst (v := (-1)) rfl dX11_fewest_9 (by decide) ?_
    refine r_goto (pc' := 24) rfl dX11_fewest_10 ?_
    exact r_ret dX11_fewest_24 (rt_i rfl) ⟨rfl, hS, (KF_rf h), ⟨_, _, f13⟩, _, rfl⟩
  · refine r_iload_n rfl dX11_fewest_4 rfl ?_
    refine r_iconst (v := 1) rfl dX11_fewest_5 (by decide) ?_
    refine r_icmp_le (tgt := 13) rfl rfl dX11_fewest_6 (fun c52 => ?_) (fun c52 => ?_)
    · refine r_iload_n rfl dX11_fewest_13 rfl ?_
      refine r_aload_n rfl dX11_fewest_14 rfl ?_
      refine r_getv 3 rfl dX11_fewest_15 (show 2 ≤ 2 ∧ 2 < 434 by decide) h2 fl_X11_32 rfl ?_
      refine cl_X11_186 rfl rfl dX11_fewest_18 (show 2 ≤ 13 ∧ 13 < 434 by decide).1 (show 2 ≤ 13 ∧ 13 < 434 by decide).2 f13 (Nat.le_of_ble_eq_true rfl) (m_X7_fewestLetters hS f13) ?_
      rintro _ h53 _ ⟨rfl, hS54, hk55, ⟨y57, y58, f59⟩, x56, rfl⟩
      have hF60 := KF_tr (KF_rf h) (by first | exact hk55 | exact KF_1 hk55 | exact KF_M hk55)
      have f61 : h53 (2) = .inr (11, [.ref 3, .ref 5, .ref 12, .ref 13, .ref 24, .ref 93, .ref 95, .ref 96, .ref 97, .ref 98, .ref 99, .int cc, .int (nI k), .int sc, .int wr, .int el]) := (hk55 _ (by decide) (by decide)).trans h2
      refine cl_X11_189 rfl rfl dX11_fewest_21 (Nat.le_of_ble_eq_true rfl) s_X11_sizeOrSet ?_
      rintro _ h62 _ ⟨rfl, e63, rfl⟩
      replace e63 := e63.symm
      subst e63
      exact r_ret dX11_fewest_24 (rt_i rfl) ⟨rfl, hS54, hF60, ⟨_, _, f59⟩, _, rfl⟩
    · refine r_iconst (v := (-1)) rfl dX11_fewest_9 (by decide) ?_
      refine r_goto (pc' := 24) rfl dX11_fewest_10 ?_
      exact r_ret dX11_fewest_24 (rt_i rfl) ⟨rfl, hS, (KF_rf h), ⟨_, _, f13⟩, _, rfl⟩


