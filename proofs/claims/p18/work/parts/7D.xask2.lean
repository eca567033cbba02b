set_option maxRecDepth 20000 in
set_option maxHeartbeats 1000000 in
theorem x_X11_tell {xs : Nat → Int32} {L d : Nat} {h : ev_H} {k : Nat} {cc sc wr el : Int32} {x y : Int32} (hS : SH h) (h2 : h 2 = c2 cc (nI k) sc wr el) (hk : k ≤ 40) : EV xs L (d + 2) 0 0 M_X11_tell 434 h 0 [some (.ref 2), some (.int x), some (.int y), none] [] (fun sz' h' r => sz' = 434 ∧ SH h' ∧ KX [] h h' ∧ ∃ x : Int32, r = [.int x]) := by
  refine r_iload_n rfl dX11_tell_0 rfl ?_
  refine cl_X11_132 rfl rfl dX11_tell_1 (Nat.le_of_ble_eq_true rfl) s_X11_isWorld ?_
  rintro _ h51 _ ⟨rfl, e52, rfl⟩
  replace e52 := e52.symm
  subst e52
  refine r_if_eq (tgt := 16) rfl rfl dX11_tell_4 (fun c53 => ?_) (fun c53 => ?_)
  · refine r_iconst (v := (-1)) rfl dX11_tell_16 (by decide) ?_
    exact r_ret dX11_tell_17 (rt_i rfl) ⟨rfl, hS, (KX_rf (l := []) h), _, rfl⟩
  · refine r_iload_n rfl dX11_tell_7 rfl ?_
    refine r_if_lt (tgt := 16) rfl rfl dX11_tell_8 (fun c54 => ?_) (fun c54 => ?_)
    · refine r_iconst (v := (-1)) rfl dX11_tell_16 (by decide) ?_
      exact r_ret dX11_tell_17 (rt_i rfl) ⟨rfl, hS, (KX_rf (l := []) h), _, rfl⟩
    · refine r_iload_n rfl dX11_tell_11 rfl ?_
      refine r_iconst (v := 1) rfl dX11_tell_12 (by decide) ?_
      refine r_icmp_le (tgt := 18) rfl rfl dX11_tell_13 (fun c55 => ?_) (fun c55 => ?_)
      · refine r_aload_n rfl dX11_tell_18 rfl ?_
        refine r_getv 5 rfl dX11_tell_19 (show 2 ≤ 2 ∧ 2 < 434 by decide) h2 fl_X11_46 rfl ?_
        refine r_iload_n rfl dX11_tell_22 rfl ?_
        obtain ⟨g56, hw57⟩ := hS.ws wsAt_93
        refine cl_X11_157 rfl rfl dX11_tell_23 (show 2 ≤ 93 ∧ 93 < 434 by decide).1 (show 2 ≤ 93 ∧ 93 < 434 by decide).2 hw57.2.2.1 (Nat.le_of_ble_eq_true rfl) (s_X10_has hw57) ?_
        rintro _ h58 _ ⟨rfl, e59, rfl⟩
        replace e59 := e59.symm
        subst e59
        refine r_if_eq (tgt := 33) rfl rfl dX11_tell_26 (fun c60 => ?_) (fun c60 => ?_)
        · refine r_iconst (v := 0) rfl dX11_tell_33 (by decide) ?_
          refine r_istore_n (ls' := [some (.ref 2), some (.int x), some (.int y), some (.int 0)]) rfl dX11_tell_34 (Nat.le_of_ble_eq_true rfl) rfl ?_
          refine r_aload_n rfl dX11_tell_35 rfl ?_
          refine r_getv 5 rfl dX11_tell_36 (show 2 ≤ 2 ∧ 2 < 434 by decide) h2 fl_X11_46 rfl ?_
          refine r_iload_n rfl dX11_tell_39 rfl ?_
          refine r_iload_n rfl dX11_tell_40 rfl ?_
          refine r_iconst (v := 1) rfl dX11_tell_41 (by decide) ?_
          refine r_icmp_ne (tgt := 49) rfl rfl dX11_tell_42 (fun c61 => ?_) (fun c61 => ?_)
          · refine r_iconst (v := 0) rfl dX11_tell_49 (by decide) ?_
            obtain ⟨g62, hw63⟩ := hS.ws wsAt_93
            refine cl_X11_193 rfl rfl dX11_tell_50 (show 2 ≤ 93 ∧ 93 < 434 by decide).1 (show 2 ≤ 93 ∧ 93 < 434 by decide).2 hw63.2.2.1 (Nat.le_of_ble_eq_true rfl) (s_X10_put hw63) ?_
            rintro _ h64 _ ⟨rfl, ⟨z68, z69, z70, z71, eh65⟩, rfl⟩
            have hS66 := SH_p hS wsAt_93 eh65
            have hk67 : KX [] h h64 := KX_p wsAt_93 eh65
            have hF72 := KX_tr (KX_rf (l := []) h) (KX_sb (l := []) (by first | decide | exact fun _ z => z | simp) hk67)
            have f73 : h64 (2) = .inr (11, [.ref 3, .ref 5, .ref 12, .ref 13, .ref 24, .ref 93, .ref 95, .ref 96, .ref 97, .ref 98, .ref 99, .int cc, .int (nI k), .int sc, .int wr, .int el]) := (hk67 _ (by decide) nSP_2).trans h2
            refine r_iload_n rfl dX11_tell_53 rfl ?_
            exact r_ret dX11_tell_54 (rt_i rfl) ⟨rfl, hS66, hF72, _, rfl⟩
          · refine r_iconst (v := 1) rfl dX11_tell_45 (by decide) ?_
            refine r_goto (pc' := 50) rfl dX11_tell_46 ?_
            obtain ⟨g74, hw75⟩ := hS.ws wsAt_93
            refine cl_X11_193 rfl rfl dX11_tell_50 (show 2 ≤ 93 ∧ 93 < 434 by decide).1 (show 2 ≤ 93 ∧ 93 < 434 by decide).2 hw75.2.2.1 (Nat.le_of_ble_eq_true rfl) (s_X10_put hw75) ?_
            rintro _ h76 _ ⟨rfl, ⟨z80, z81, z82, z83, eh77⟩, rfl⟩
            have hS78 := SH_p hS wsAt_93 eh77
            have hk79 : KX [] h h76 := KX_p wsAt_93 eh77
            have hF84 := KX_tr (KX_rf (l := []) h) (KX_sb (l := []) (by first | decide | exact fun _ z => z | simp) hk79)
            have f85 : h76 (2) = .inr (11, [.ref 3, .ref 5, .ref 12, .ref 13, .ref 24, .ref 93, .ref 95, .ref 96, .ref 97, .ref 98, .ref 99, .int cc, .int (nI k), .int sc, .int wr, .int el]) := (hk79 _ (by decide) nSP_2).trans h2
            refine r_iload_n rfl dX11_tell_53 rfl ?_
            exact r_ret dX11_tell_54 (rt_i rfl) ⟨rfl, hS78, hF84, _, rfl⟩
        · refine r_iconst (v := 1) rfl dX11_tell_29 (by decide) ?_
          refine r_goto (pc' := 34) rfl dX11_tell_30 ?_
          refine r_istore_n (ls' := [some (.ref 2), some (.int x), some (.int y), some (.int 1)]) rfl dX11_tell_34 (Nat.le_of_ble_eq_true rfl) rfl ?_
          refine r_aload_n rfl dX11_tell_35 rfl ?_
          refine r_getv 5 rfl dX11_tell_36 (show 2 ≤ 2 ∧ 2 < 434 by decide) h2 fl_X11_46 rfl ?_
          refine r_iload_n rfl dX11_tell_39 rfl ?_
          refine r_iload_n rfl dX11_tell_40 rfl ?_
          refine r_iconst (v := 1) rfl dX11_tell_41 (by decide) ?_
          refine r_icmp_ne (tgt := 49) rfl rfl dX11_tell_42 (fun c86 => ?_) (fun c86 => ?_)
          · refine r_iconst (v := 0) rfl dX11_tell_49 (by decide) ?_
            obtain ⟨g87, hw88⟩ := hS.ws wsAt_93
            refine cl_X11_193 rfl rfl dX11_tell_50 (show 2 ≤ 93 ∧ 93 < 434 by decide).1 (show 2 ≤ 93 ∧ 93 < 434 by decide).2 hw88.2.2.1 (Nat.le_of_ble_eq_true rfl) (s_X10_put hw88) ?_
            rintro _ h89 _ ⟨rfl, ⟨z93, z94, z95, z96, eh90⟩, rfl⟩
            have hS91 := SH_p hS wsAt_93 eh90
            have hk92 : KX [] h h89 := KX_p wsAt_93 eh90
            have hF97 := KX_tr (KX_rf (l := []) h) (KX_sb (l := []) (by first | decide | exact fun _ z => z | simp) hk92)
            have f98 : h89 (2) = .inr (11, [.ref 3, .ref 5, .ref 12, .ref 13, .ref 24, .ref 93, .ref 95, .ref 96, .ref 97, .ref 98, .ref 99, .int cc, .int (nI k), .int sc, .int wr, .int el]) := (hk92 _ (by decide) nSP_2).trans h2
            refine r_iload_n rfl dX11_tell_53 rfl ?_
            exact r_ret dX11_tell_54 (rt_i rfl) ⟨rfl, hS91, hF97, _, rfl⟩
          · refine r_iconst (v := 1) rfl dX11_tell_45 (by decide) ?_
            refine r_goto (pc' := 50) rfl dX11_tell_46 ?_
            obtain ⟨g99, hw100⟩ := hS.ws wsAt_93
            refine cl_X11_193 rfl rfl dX11_tell_50 (show 2 ≤ 93 ∧ 93 < 434 by decide).1 (show 2 ≤ 93 ∧ 93 < 434 by decide).2 hw100.2.2.1 (Nat.le_of_ble_eq_true rfl) (s_X10_put hw100) ?_
            rintro _ h101 _ ⟨rfl, ⟨z105, z106, z107, z108, eh102⟩, rfl⟩
            have hS103 := SH_p hS wsAt_93 eh102
            have hk104 : KX [] h h101 := KX_p wsAt_93 eh102
            have hF109 := KX_tr (KX_rf (l := []) h) (KX_sb (l := []) (by first | decide | exact fun _ z => z | simp) hk104)
            have f110 : h101 (2) = .inr (11, [.ref 3, .ref 5, .ref 12, .ref 13, .ref 24, .ref 93, .ref 95, .ref 96, .ref 97, .ref 98, .ref 99, .int cc, .int (nI k), .int sc, .int wr, .int el]) := (hk104 _ (by decide) nSP_2).trans h2
            refine r_iload_n rfl dX11_tell_53 rfl ?_
            exact r_ret dX11_tell_54 (rt_i rfl) ⟨rfl, hS103, hF109, _, rfl⟩
      · refine r_iconst (v := (-1)) rfl dX11_tell_16 (by decide) ?_
        exact r_ret dX11_tell_17 (rt_i rfl) ⟨rfl, hS, (KX_rf (l := []) h), _, rfl⟩
set_option maxRecDepth 20000 in
set_option maxHeartbeats 1000000 in
theorem x_cp_z {xs : Nat → Int32} {L d : Nat} {h : ev_H} {h0 : ev_H} {k kk q : Nat} {cc sc wr el x y z m : Int32} (hS : SH h) (hF : KX [] h0 h) (hq : wsAt q) (h2 : h 2 = c2 cc (nI kk) sc wr el) (hk : k = 256) : EV xs L (d + 2) 0 0 M_X11_copy 434 h 60 [some (.ref 2), some (.int x), some (.int y), some (.int z), some (.ref q), some (.int m), some (.int (nI k))] [] (fun sz' h' r => sz' = 434 ∧ SH h' ∧ KX [] h0 h' ∧ ∃ x : Int32, r = [.int x]) := by
  refine r_iload rfl dX11_copy_60 rfl ?_
  refine r_iload_n rfl dX11_copy_62 rfl ?_
  refine r_icmp_gt (tgt := 118) rfl rfl dX11_copy_63 (fun c51 => ?_) (fun c51 => ?_)
  · refine r_iload rfl dX11_copy_118 rfl ?_
    exact r_ret dX11_copy_120 (rt_i rfl) ⟨rfl, hS, hF, _, rfl⟩
  · refine r_iload rfl dX11_copy_66 rfl ?_
    refine r_sipush (v := 256) rfl dX11_copy_68 (by decide) ?_
    refine r_icmp_ge (tgt := 118) rfl rfl dX11_copy_71 (fun _ => ?_) (fun zc => absurd (show (256 : Int32) ≤ nI k from nI_le (a := 256) (b := k) (by omega) (by omega)) zc)
    refine r_iload rfl dX11_copy_118 rfl ?_
    exact r_ret dX11_copy_120 (rt_i rfl) ⟨rfl, hS, hF, _, rfl⟩
set_option maxRecDepth 20000 in
set_option maxHeartbeats 1000000 in
theorem x_cp_s {xs : Nat → Int32} {L d : Nat} {h : ev_H} {h0 : ev_H} {k kk q : Nat} {cc sc wr el x y z m : Int32} (hS : SH h) (hF : KX [] h0 h) (hq : wsAt q) (h2 : h 2 = c2 cc (nI kk) sc wr el) (hk : k < 256) (ih : ∀ (h' : ev_H) (m' : Int32), SH h' → KX [] h0 h' → h' 2 = c2 cc (nI kk) sc wr el → EV xs L (d + 2) 0 0 M_X11_copy 434 h' 60 [some (.ref 2), some (.int x), some (.int y), some (.int z), some (.ref q), some (.int m'), some (.int (nI (k + 1)))] [] (fun sz' h' r => sz' = 434 ∧ SH h' ∧ KX [] h0 h' ∧ ∃ x : Int32, r = [.int x])) : EV xs L (d + 2) 0 0 M_X11_copy 434 h 60 [some (.ref 2), some (.int x), some (.int y), some (.int z), some (.ref q), some (.int m), some (.int (nI k))] [] (fun sz' h' r => sz' = 434 ∧ SH h' ∧ KX [] h0 h' ∧ ∃ x : Int32, r = [.int x]) := by
  refine r_iload rfl dX11_copy_60 rfl ?_
  refine r_iload_n rfl dX11_copy_62 rfl ?_
  refine r_icmp_gt (tgt := 118) rfl rfl dX11_copy_63 (fun c51 => ?_) (fun c51 => ?_)
  · refine r_iload rfl dX11_copy_118 rfl ?_
    exact r_ret dX11_copy_120 (rt_i rfl) ⟨rfl, hS, hF, _, rfl⟩
  · refine r_iload rfl dX11_copy_66 rfl ?_
    refine r_sipush (v := 256) rfl dX11_copy_68 (by decide) ?_
    refine r_icmp_ge (tgt := 118) rfl rfl dX11_copy_71 (fun zc => absurd zc (show ¬ (256 : Int32) ≤ nI k from nI_ge (a := k) (b := 256) (by omega) (by decide))) (fun _ => ?_)
    refine r_aload_n rfl dX11_copy_74 rfl ?_
    refine r_getv 5 rfl dX11_copy_75 (show 2 ≤ 2 ∧ 2 < 434 by decide) h2 fl_X11_46 rfl ?_
    refine r_iload rfl dX11_copy_78 rfl ?_
    obtain ⟨g52, hw53⟩ := hS.ws wsAt_93
    refine cl_X11_157 rfl rfl dX11_copy_80 (show 2 ≤ 93 ∧ 93 < 434 by decide).1 (show 2 ≤ 93 ∧ 93 < 434 by decide).2 hw53.2.2.1 (Nat.le_of_ble_eq_true rfl) (s_X10_has hw53) ?_
    rintro _ h54 _ ⟨rfl, e55, rfl⟩
    replace e55 := e55.symm
    subst e55
    refine r_aload rfl dX11_copy_83 rfl ?_
    refine r_iload rfl dX11_copy_85 rfl ?_
    obtain ⟨g56, hw57⟩ := hS.ws hq
    refine cl_X11_157 rfl rfl dX11_copy_87 (show _ ∧ _ from ⟨(hq).2.2.1, Nat.lt_of_succ_lt (hq).2.2.2⟩).1 (show _ ∧ _ from ⟨(hq).2.2.1, Nat.lt_of_succ_lt (hq).2.2.2⟩).2 hw57.2.2.1 (Nat.le_of_ble_eq_true rfl) (s_X10_has hw57) ?_
    rintro _ h58 _ ⟨rfl, e59, rfl⟩
    replace e59 := e59.symm
    subst e59
    refine r_icmp_eq (tgt := 112) rfl rfl dX11_copy_90 (fun c60 => ?_) (fun c60 => ?_)
    · refine r_iinc (y := nI (k + 1)) (ls' := [some (.ref 2), some (.int x), some (.int y), some (.int z), some (.ref q), some (.int m), some (.int (nI (k + 1)))]) rfl dX11_copy_112 rfl (nI_1 k) (Nat.le_of_ble_eq_true rfl) rfl ?_
      refine r_goto (pc' := 60) rfl dX11_copy_115 ?_
      exact ih h _ hS hF h2
    · refine r_aload_n rfl dX11_copy_93 rfl ?_
      refine r_getv 5 rfl dX11_copy_94 (show 2 ≤ 2 ∧ 2 < 434 by decide) h2 fl_X11_46 rfl ?_
      refine r_iload rfl dX11_copy_97 rfl ?_
      refine r_aload rfl dX11_copy_99 rfl ?_
      refine r_iload rfl dX11_copy_101 rfl ?_
      obtain ⟨g61, hw62⟩ := hS.ws hq
      refine cl_X11_157 rfl rfl dX11_copy_103 (show _ ∧ _ from ⟨(hq).2.2.1, Nat.lt_of_succ_lt (hq).2.2.2⟩).1 (show _ ∧ _ from ⟨(hq).2.2.1, Nat.lt_of_succ_lt (hq).2.2.2⟩).2 hw62.2.2.1 (Nat.le_of_ble_eq_true rfl) (s_X10_has hw62) ?_
      rintro _ h63 _ ⟨rfl, e64, rfl⟩
      replace e64 := e64.symm
      subst e64
      obtain ⟨g65, hw66⟩ := hS.ws wsAt_93
      refine cl_X11_193 rfl rfl dX11_copy_106 (show 2 ≤ 93 ∧ 93 < 434 by decide).1 (show 2 ≤ 93 ∧ 93 < 434 by decide).2 hw66.2.2.1 (Nat.le_of_ble_eq_true rfl) (s_X10_put hw66) ?_
      rintro _ h67 _ ⟨rfl, ⟨z71, z72, z73, z74, eh68⟩, rfl⟩
      have hS69 := SH_p hS wsAt_93 eh68
      have hk70 : KX [] h h67 := KX_p wsAt_93 eh68
      have hF75 := KX_tr hF (KX_sb (l := []) (by first | decide | exact fun _ z => z | simp) hk70)
      have f76 : h67 (2) = .inr (11, [.ref 3, .ref 5, .ref 12, .ref 13, .ref 24, .ref 93, .ref 95, .ref 96, .ref 97, .ref 98, .ref 99, .int cc, .int (nI kk), .int sc, .int wr, .int el]) := (hk70 _ (by decide) nSP_2).trans h2
      obtain ⟨x77, e78⟩ : ∃ z : Int32, z = m + Int32.ofInt 1 := ⟨_, rfl⟩
      refine r_iinc (y := x77) (ls' := [some (.ref 2), some (.int x), some (.int y), some (.int z), some (.ref q), some (.int x77), some (.int (nI k))]) rfl dX11_copy_109 rfl e78.symm (Nat.le_of_ble_eq_true rfl) rfl ?_
      refine r_iinc (y := nI (k + 1)) (ls' := [some (.ref 2), some (.int x), some (.int y), some (.int z), some (.ref q), some (.int x77), some (.int (nI (k + 1)))]) rfl dX11_copy_112 rfl (nI_1 k) (Nat.le_of_ble_eq_true rfl) rfl ?_
      refine r_goto (pc' := 60) rfl dX11_copy_115 ?_
      exact ih h67 _ hS69 hF75 f76
theorem x_cp {xs : Nat → Int32} {L d : Nat} {h0 : ev_H} {kk q : Nat} {cc sc wr el x y z : Int32} (hq : wsAt q) : ∀ (n k : Nat) (h : ev_H) (m : Int32), k + n = 256 → SH h → KX [] h0 h → h 2 = c2 cc (nI kk) sc wr el → EV xs L (d + 2) 0 0 M_X11_copy 434 h 60 [some (.ref 2), some (.int x), some (.int y), some (.int z), some (.ref q), some (.int m), some (.int (nI k))] [] (fun sz' h' r => sz' = 434 ∧ SH h' ∧ KX [] h0 h' ∧ ∃ x : Int32, r = [.int x]) := by
  intro n
  induction n with
  | zero => intro k h m hk hS hF h2; exact x_cp_z hS hF hq h2 (by omega)
  | succ n ih => intro k h m hk hS hF h2; exact x_cp_s hS hF hq h2 (by omega) (fun h' m' q1 q2 q3 => ih (k + 1) h' m' (by omega) q1 q2 q3)
set_option maxRecDepth 20000 in
set_option maxHeartbeats 1000000 in
theorem x_X11_copy {xs : Nat → Int32} {L d : Nat} {h : ev_H} {k : Nat} {cc sc wr el : Int32} {x y z : Int32} (hS : SH h) (h2 : h 2 = c2 cc (nI k) sc wr el) (hk : k ≤ 40) : EV xs L (d + 3) 0 0 M_X11_copy 434 h 0 [some (.ref 2), some (.int x), some (.int y), some (.int z), none, none, none] [] (fun sz' h' r => sz' = 434 ∧ SH h' ∧ KX [] h h' ∧ ∃ x : Int32, r = [.int x]) := by
  refine r_iload_n rfl dX11_copy_0 rfl ?_
  refine r_if_lt (tgt := 28) rfl rfl dX11_copy_1 (fun c51 => ?_) (fun c51 => ?_)
  · refine r_iconst (v := (-1)) rfl dX11_copy_28 (by decide) ?_
    exact r_ret dX11_copy_29 (rt_i rfl) ⟨rfl, hS, (KX_rf (l := []) h), _, rfl⟩
  · refine r_iload_n rfl dX11_copy_4 rfl ?_
    refine r_iconst (v := 4) rfl dX11_copy_5 (by decide) ?_
    refine r_icmp_gt (tgt := 28) rfl rfl dX11_copy_6 (fun c52 => ?_) (fun c52 => ?_)
    · refine r_iconst (v := (-1)) rfl dX11_copy_28 (by decide) ?_
      exact r_ret dX11_copy_29 (rt_i rfl) ⟨rfl, hS, (KX_rf (l := []) h), _, rfl⟩
    · refine r_iload_n rfl dX11_copy_9 rfl ?_
      refine cl_X11_132 rfl rfl dX11_copy_10 (Nat.le_of_ble_eq_true rfl) s_X11_isWorld ?_
      rintro _ h53 _ ⟨rfl, e54, rfl⟩
      replace e54 := e54.symm
      subst e54
      refine r_if_eq (tgt := 28) rfl rfl dX11_copy_13 (fun c55 => ?_) (fun c55 => ?_)
      · refine r_iconst (v := (-1)) rfl dX11_copy_28 (by decide) ?_
        exact r_ret dX11_copy_29 (rt_i rfl) ⟨rfl, hS, (KX_rf (l := []) h), _, rfl⟩
      · refine r_iload_n rfl dX11_copy_16 rfl ?_
        refine cl_X11_132 rfl rfl dX11_copy_17 (Nat.le_of_ble_eq_true rfl) s_X11_isWorld ?_
        rintro _ h56 _ ⟨rfl, e57, rfl⟩
        replace e57 := e57.symm
        subst e57
        refine r_if_eq (tgt := 28) rfl rfl dX11_copy_20 (fun c58 => ?_) (fun c58 => ?_)
        · refine r_iconst (v := (-1)) rfl dX11_copy_28 (by decide) ?_
          exact r_ret dX11_copy_29 (rt_i rfl) ⟨rfl, hS, (KX_rf (l := []) h), _, rfl⟩
        · refine r_iload_n rfl dX11_copy_23 rfl ?_
          refine r_iload_n rfl dX11_copy_24 rfl ?_
          refine r_icmp_le (tgt := 30) rfl rfl dX11_copy_25 (fun c59 => ?_) (fun c59 => ?_)
          · refine r_aload_n rfl dX11_copy_30 rfl ?_
            refine r_iload_n rfl dX11_copy_31 rfl ?_
            refine cl_X11_167 rfl rfl dX11_copy_32 (show 2 ≤ 2 ∧ 2 < 434 by decide).1 (show 2 ≤ 2 ∧ 2 < 434 by decide).2 h2 (Nat.le_of_ble_eq_true rfl) (x_X11_setOf hS h2 hk) ?_
            rintro _ h60 _ ⟨rfl, e61, rfl | ⟨a62, ha63, rfl⟩⟩
            · replace e61 := e61.symm
              subst e61
              refine r_astoreN (ls' := [some (.ref 2), some (.int x), some (.int y), some (.int z), some (.null), none, none]) rfl dX11_copy_35 (Nat.le_of_ble_eq_true rfl) rfl ?_
              refine r_aloadN rfl dX11_copy_37 rfl ?_
              refine r_ifnullN (tgt := 51) rfl dX11_copy_39 ?_
              refine r_bipush (v := (-2)) rfl dX11_copy_51 (by decide) ?_
              exact r_ret dX11_copy_53 (rt_i rfl) ⟨rfl, hS, (KX_rf (l := []) h), _, rfl⟩
            · replace e61 := e61.symm
              subst e61
              refine r_astore (ls' := [some (.ref 2), some (.int x), some (.int y), some (.int z), some (.ref a62), none, none]) rfl dX11_copy_35 (Nat.le_of_ble_eq_true rfl) rfl ?_
              refine r_aload rfl dX11_copy_37 rfl ?_
              refine r_ifnull rfl (by decide) dX11_copy_39 ?_
              refine r_aload_n rfl dX11_copy_42 rfl ?_
              refine r_getv 15 rfl dX11_copy_43 (show 2 ≤ 2 ∧ 2 < 434 by decide) h2 fl_X11_86 rfl ?_
              refine r_bipush (v := (-9)) rfl dX11_copy_46 (by decide) ?_
              refine r_icmp_ne (tgt := 54) rfl rfl dX11_copy_48 (fun c64 => ?_) (fun c64 => ?_)
              · refine r_iconst (v := 0) rfl dX11_copy_54 (by decide) ?_
                refine r_istore (ls' := [some (.ref 2), some (.int x), some (.int y), some (.int z), some (.ref a62), some (.int 0), none]) rfl dX11_copy_55 (Nat.le_of_ble_eq_true rfl) rfl ?_
                refine r_iload_n rfl dX11_copy_57 rfl ?_
                refine r_istore (ls' := [some (.ref 2), some (.int x), some (.int y), some (.int z), some (.ref a62), some (.int 0), some (.int y)]) rfl dX11_copy_58 (Nat.le_of_ble_eq_true rfl) rfl ?_
                obtain ⟨j, hj, ej⟩ := isW_of c55
                subst ej
                exact x_cp ha63 (256 - j) j h _ (by omega) hS (KX_rf (l := []) h) h2
              · refine r_bipush (v := (-2)) rfl dX11_copy_51 (by decide) ?_
                exact r_ret dX11_copy_53 (rt_i rfl) ⟨rfl, hS, (KX_rf (l := []) h), _, rfl⟩
          · refine r_iconst (v := (-1)) rfl dX11_copy_28 (by decide) ?_
            exact r_ret dX11_copy_29 (rt_i rfl) ⟨rfl, hS, (KX_rf (l := []) h), _, rfl⟩
set_option maxRecDepth 20000 in
set_option maxHeartbeats 1000000 in
theorem x_X11_count {xs : Nat → Int32} {L d : Nat} {h : ev_H} {k : Nat} {cc sc wr el : Int32} {x : Int32} (hS : SH h) (h2 : h 2 = c2 cc (nI k) sc wr el) (hk : k ≤ 40) : EV xs L (d + 2) 0 0 M_X11_count 434 h 0 [some (.ref 2), some (.int x)] [] (fun sz' h' r => sz' = 434 ∧ h' = h ∧ ∃ x : Int32, r = [.int x]) := by
  refine r_iload_n rfl dX11_count_0 rfl ?_
  by_cases c51 : x.toInt < 0 ∨ 5 < x.toInt
  · refine r_swO (tgt := 87) dX11_count_1 rfl c51 ?_
    refine r_iconst (v := (-1)) rfl dX11_count_87 (by decide) ?_
    exact r_ret dX11_count_88 (rt_i rfl) ⟨rfl, rfl, _, rfl⟩
  · have c51a : ¬ x.toInt < 0 := fun z => c51 (Or.inl z)
    have c51b : ¬ 5 < x.toInt := fun z => c51 (Or.inr z)
    rcases (show x.toInt = 0 ∨ x.toInt = 1 ∨ x.toInt = 2 ∨ x.toInt = 3 ∨ x.toInt = 4 ∨ x.toInt = 5 by omega) with c51e | c51e | c51e | c51e | c51e | c51e
    · refine r_swI (off := 39) (tgt := 40) dX11_count_1 rfl c51a c51b (by rw [c51e]; rfl) ?_
      refine r_aload_n rfl dX11_count_40 rfl ?_
      refine r_getv 11 rfl dX11_count_41 (show 2 ≤ 2 ∧ 2 < 434 by decide) h2 fl_X11_108 rfl ?_
      exact r_ret dX11_count_44 (rt_i rfl) ⟨rfl, rfl, _, rfl⟩
    · refine r_swI (off := 44) (tgt := 45) dX11_count_1 rfl c51a c51b (by rw [c51e]; rfl) ?_
      refine r_aload_n rfl dX11_count_45 rfl ?_
      refine r_getv 12 rfl dX11_count_46 (show 2 ≤ 2 ∧ 2 < 434 by decide) h2 fl_X11_118 rfl ?_
      refine r_aload_n rfl dX11_count_49 rfl ?_
      refine r_getv 11 rfl dX11_count_50 (show 2 ≤ 2 ∧ 2 < 434 by decide) h2 fl_X11_108 rfl ?_
      refine r_isub rfl dX11_count_53 ?_
      exact r_ret dX11_count_54 (rt_i rfl) ⟨rfl, rfl, _, rfl⟩
    · refine r_swI (off := 54) (tgt := 55) dX11_count_1 rfl c51a c51b (by rw [c51e]; rfl) ?_
      refine r_aload_n rfl dX11_count_55 rfl ?_
      refine r_getv 13 rfl dX11_count_56 (show 2 ≤ 2 ∧ 2 < 434 by decide) h2 fl_X11_211 rfl ?_
      exact r_ret dX11_count_59 (rt_i rfl) ⟨rfl, rfl, _, rfl⟩
    · refine r_swI (off := 59) (tgt := 60) dX11_count_1 rfl c51a c51b (by rw [c51e]; rfl) ?_
      refine r_aload_n rfl dX11_count_60 rfl ?_
      refine r_getv 3 rfl dX11_count_61 (show 2 ≤ 2 ∧ 2 < 434 by decide) h2 fl_X11_32 rfl ?_
      obtain ⟨y52, y53, y54, y55, f56⟩ := hS.o13
      refine cl_X11_214 rfl rfl dX11_count_64 (show 2 ≤ 13 ∧ 13 < 434 by decide).1 (show 2 ≤ 13 ∧ 13 < 434 by decide).2 f56 (Nat.le_of_ble_eq_true rfl) (x_X7_sharedLetters hS f56) ?_
      rintro _ h57 _ ⟨rfl, e58, rfl⟩
      replace e58 := e58.symm
      subst e58
      refine cl_X11_217 rfl rfl dX11_count_67 (Nat.le_of_ble_eq_true rfl) s_J6_bitCount_0f7a4 ?_
      rintro _ h60 _ ⟨rfl, e61, rfl⟩
      replace e61 := e61.symm
      subst e61
      exact r_ret dX11_count_70 (rt_i rfl) ⟨rfl, rfl, _, rfl⟩
    · refine r_swI (off := 70) (tgt := 71) dX11_count_1 rfl c51a c51b (by rw [c51e]; rfl) ?_
      refine r_aload_n rfl dX11_count_71 rfl ?_
      refine r_getv 0 rfl dX11_count_72 (show 2 ≤ 2 ∧ 2 < 434 by decide) h2 fl_X11_12 rfl ?_
      obtain ⟨y62, y63, y64, y65, y66, f67⟩ := hS.o3
      refine cl_X11_94 rfl rfl dX11_count_75 (show 2 ≤ 3 ∧ 3 < 434 by decide).1 (show 2 ≤ 3 ∧ 3 < 434 by decide).2 f67 (Nat.le_of_ble_eq_true rfl) (s_X8_size f67) ?_
      rintro _ h68 _ ⟨rfl, e69, rfl⟩
      replace e69 := e69.symm
      subst e69
      exact r_ret dX11_count_78 (rt_i rfl) ⟨rfl, rfl, _, rfl⟩
    · refine r_swI (off := 78) (tgt := 79) dX11_count_1 rfl c51a c51b (by rw [c51e]; rfl) ?_
      refine r_aload_n rfl dX11_count_79 rfl ?_
      refine r_getv 5 rfl dX11_count_80 (show 2 ≤ 2 ∧ 2 < 434 by decide) h2 fl_X11_46 rfl ?_
      obtain ⟨g70, hw71⟩ := hS.ws wsAt_93
      refine cl_X11_142 rfl rfl dX11_count_83 (show 2 ≤ 93 ∧ 93 < 434 by decide).1 (show 2 ≤ 93 ∧ 93 < 434 by decide).2 hw71.2.2.1 (Nat.le_of_ble_eq_true rfl) (s_X10_size hw71) ?_
      rintro _ h72 _ ⟨rfl, e73, rfl⟩
      replace e73 := e73.symm
      subst e73
      exact r_ret dX11_count_86 (rt_i rfl) ⟨rfl, rfl, _, rfl⟩
set_option maxRecDepth 20000 in
set_option maxHeartbeats 1000000 in
theorem x_X7_tellsApart {xs : Nat → Int32} {L d : Nat} {h : ev_H} {m : Int32} (hS : SH h)  : EV xs L (d + 3) 0 0 M_X7_tellsApart 434 h 0 [some (.ref 13), some (.int m)] [] (fun sz' h' r => sz' = 434 ∧ SH h' ∧ KX [] h h' ∧ ∃ x : Int32, r = [.int x]) := by
  refine r_aload_n rfl dX7_tellsApart_0 rfl ?_
  obtain ⟨y51, y52, y53, y54, f55⟩ := hS.o13
  refine r_getv 4 rfl dX7_tellsApart_1 (show 2 ≤ 13 ∧ 13 < 434 by decide) f55 fl_X7_27 rfl ?_
  refine r_aload_n rfl dX7_tellsApart_4 rfl ?_
  refine r_getv 0 rfl dX7_tellsApart_5 (show 2 ≤ 13 ∧ 13 < 434 by decide) f55 fl_X7_12 rfl ?_
  obtain ⟨g56, hw57⟩ := hS.ws wsAt_22
  obtain ⟨g58, hw59⟩ := hS.ws wsAt_14
  refine cl_X7_57 rfl rfl dX7_tellsApart_8 (show 2 ≤ 22 ∧ 22 < 434 by decide).1 (show 2 ≤ 22 ∧ 22 < 434 by decide).2 hw57.2.2.1 (Nat.le_of_ble_eq_true rfl) (s_X10_become hw57 hw59 (by omega)) ?_
  rintro _ h60 _ ⟨rfl, eh61, rfl⟩
  have hS62 := SH_p hS wsAt_22 eh61
  have hk63 : KX [] h h60 := KX_p wsAt_22 eh61
  have hF64 := KX_tr (KX_rf (l := []) h) (KX_sb (l := []) (by first | decide | exact fun _ z => z | simp) hk63)
  have f65 : h60 (13) = .inr (7, [.ref 14, .ref 16, .ref 18, .ref 20, .ref 22, .int y51, .int y52, .int y53, .int y54]) := (hk63 _ (by decide) nSP_13).trans f55
  refine r_aload_n rfl dX7_tellsApart_11 rfl ?_
  refine r_getv 4 rfl dX7_tellsApart_12 (show 2 ≤ 13 ∧ 13 < 434 by decide) f65 fl_X7_27 rfl ?_
  refine r_iload_n rfl dX7_tellsApart_15 rfl ?_
  obtain ⟨g66, hw67⟩ := hS62.ws wsAt_22
  refine cl_X7_63 rfl rfl dX7_tellsApart_16 (show 2 ≤ 22 ∧ 22 < 434 by decide).1 (show 2 ≤ 22 ∧ 22 < 434 by decide).2 hw67.2.2.1 (Nat.le_of_ble_eq_true rfl) (s_X10_spreadBut hw67) ?_
  rintro _ h68 _ ⟨rfl, eh69, rfl⟩
  have hS70 := SH_p hS62 wsAt_22 eh69
  have hk71 : KX [] h60 h68 := KX_p wsAt_22 eh69
  have hF72 := KX_tr hF64 (KX_sb (l := []) (by first | decide | exact fun _ z => z | simp) hk71)
  have f73 : h68 (13) = .inr (7, [.ref 14, .ref 16, .ref 18, .ref 20, .ref 22, .int y51, .int y52, .int y53, .int y54]) := (hk71 _ (by decide) nSP_13).trans f65
  refine r_aload_n rfl dX7_tellsApart_19 rfl ?_
  refine r_getv 4 rfl dX7_tellsApart_20 (show 2 ≤ 13 ∧ 13 < 434 by decide) f73 fl_X7_27 rfl ?_
  refine r_aload_n rfl dX7_tellsApart_23 rfl ?_
  refine r_getv 1 rfl dX7_tellsApart_24 (show 2 ≤ 13 ∧ 13 < 434 by decide) f73 fl_X7_18 rfl ?_
  obtain ⟨g74, hw75⟩ := hS70.ws wsAt_22
  obtain ⟨g76, hw77⟩ := hS70.ws wsAt_16
  refine cl_X7_81 rfl rfl dX7_tellsApart_27 (show 2 ≤ 22 ∧ 22 < 434 by decide).1 (show 2 ≤ 22 ∧ 22 < 434 by decide).2 hw75.2.2.1 (Nat.le_of_ble_eq_true rfl) (s_X10_sizeWith hw75 hw77) ?_
  rintro _ h78 _ ⟨rfl, e79, rfl⟩
  replace e79 := e79.symm
  subst e79
  refine r_if_ne (tgt := 37) rfl rfl dX7_tellsApart_30 (fun c80 => ?_) (fun c80 => ?_)
  · refine r_iconst (v := 0) rfl dX7_tellsApart_37 (by decide) ?_
    exact r_ret dX7_tellsApart_38 (rt_z rfl (Or.inl rfl)) ⟨rfl, hS70, hF72, _, rfl⟩
  · refine r_iconst (v := 1) rfl dX7_tellsApart_33 (by decide) ?_
    refine r_goto (pc' := 38) rfl dX7_tellsApart_34 ?_
    exact r_ret dX7_tellsApart_38 (rt_z rfl (Or.inr rfl)) ⟨rfl, hS70, hF72, _, rfl⟩
set_option maxRecDepth 20000 in
set_option maxHeartbeats 1000000 in
theorem x_ff_z {xs : Nat → Int32} {L d : Nat} {h : ev_H} {h0 : ev_H} {k : Nat} {b z : Int32} {u : Option Value} (hS : SH h) (hF : KX [] h0 h) (hk : k = 256) : EV xs L (d + 4) 0 0 M_X7_findFewest 434 h 8 [some (.ref 13), some (.int b), some (.int z), some (.int (nI k)), u] [] (fun sz' h' r => sz' = 434 ∧ SH h' ∧ KX [] h0 h' ∧ ∃ x : Int32, r = [.int x]) := by
  refine r_iload_n rfl dX7_findFewest_8 rfl ?_
  refine r_sipush (v := 255) rfl dX7_findFewest_9 (by decide) ?_
  refine r_icmp_gt (tgt := 67) rfl rfl dX7_findFewest_12 (fun _ => ?_) (fun zc => absurd (show (255 : Int32) < nI k from nI_lt (a := 255) (b := k) (by omega) (by omega)) zc)
  refine r_iload_n rfl dX7_findFewest_67 rfl ?_
  exact r_ret dX7_findFewest_68 (rt_i rfl) ⟨rfl, hS, hF, _, rfl⟩
set_option maxRecDepth 20000 in
set_option maxHeartbeats 1000000 in
theorem x_ff_s {xs : Nat → Int32} {L d : Nat} {h : ev_H} {h0 : ev_H} {k : Nat} {b z : Int32} {u : Option Value} (hS : SH h) (hF : KX [] h0 h) (hk : k < 256) (ih : ∀ (h' : ev_H) (b' z' : Int32) (u' : Option Value), SH h' → KX [] h0 h' → EV xs L (d + 4) 0 0 M_X7_findFewest 434 h' 8 [some (.ref 13), some (.int b'), some (.int z'), some (.int (nI (k + 1))), u'] [] (fun sz' h' r => sz' = 434 ∧ SH h' ∧ KX [] h0 h' ∧ ∃ x : Int32, r = [.int x])) : EV xs L (d + 4) 0 0 M_X7_findFewest 434 h 8 [some (.ref 13), some (.int b), some (.int z), some (.int (nI k)), u] [] (fun sz' h' r => sz' = 434 ∧ SH h' ∧ KX [] h0 h' ∧ ∃ x : Int32, r = [.int x]) := by
  refine r_iload_n rfl dX7_findFewest_8 rfl ?_
  refine r_sipush (v := 255) rfl dX7_findFewest_9 (by decide) ?_
  refine r_icmp_gt (tgt := 67) rfl rfl dX7_findFewest_12 (fun zc => absurd zc (show ¬ (255 : Int32) < nI k from nI_nlt (a := 255) (b := k) (by omega) (by decide))) (fun _ => ?_)
  refine r_iload_n rfl dX7_findFewest_15 rfl ?_
  refine r_aload_n rfl dX7_findFewest_16 rfl ?_
  obtain ⟨y51, y52, y53, y54, f55⟩ := hS.o13
  refine cl_X7_60 rfl rfl dX7_findFewest_17 (show 2 ≤ 13 ∧ 13 < 434 by decide).1 (show 2 ≤ 13 ∧ 13 < 434 by decide).2 f55 (Nat.le_of_ble_eq_true rfl) (x_X7_sharedLetters hS f55) ?_
  rintro _ h56 _ ⟨rfl, e57, rfl⟩
  replace e57 := e57.symm
  subst e57
  refine r_iconst (v := (-1)) rfl dX7_findFewest_20 (by decide) ?_
  refine r_ixor rfl dX7_findFewest_21 ?_
  refine r_iand rfl dX7_findFewest_22 ?_
  refine r_if_ne (tgt := 30) rfl rfl dX7_findFewest_23 (fun c59 => ?_) (fun c59 => ?_)
  · refine r_iconst (v := 0) rfl dX7_findFewest_30 (by decide) ?_
    refine r_istore (ls' := [some (.ref 13), some (.int b), some (.int z), some (.int (nI k)), some (.int 0)]) rfl dX7_findFewest_31 (Nat.le_of_ble_eq_true rfl) rfl ?_
    refine r_iload rfl dX7_findFewest_33 rfl ?_
    refine r_if_eq (tgt := 61) rfl rfl dX7_findFewest_35 (fun _ => ?_) (fun zc => absurd zc (by decide))
    refine r_iinc (y := nI (k + 1)) (ls' := [some (.ref 13), some (.int b), some (.int z), some (.int (nI (k + 1))), some (.int 0)]) rfl dX7_findFewest_61 rfl (nI_1 k) (Nat.le_of_ble_eq_true rfl) rfl ?_
    refine r_goto (pc' := 8) rfl dX7_findFewest_64 ?_
    exact ih h _ _ _ hS hF
  · refine r_iconst (v := 1) rfl dX7_findFewest_26 (by decide) ?_
    refine r_goto (pc' := 31) rfl dX7_findFewest_27 ?_
    refine r_istore (ls' := [some (.ref 13), some (.int b), some (.int z), some (.int (nI k)), some (.int 1)]) rfl dX7_findFewest_31 (Nat.le_of_ble_eq_true rfl) rfl ?_
    refine r_iload rfl dX7_findFewest_33 rfl ?_
    refine r_if_eq (tgt := 61) rfl rfl dX7_findFewest_35 (fun zc => absurd zc (by decide)) (fun _ => ?_)
    refine r_iload_n rfl dX7_findFewest_38 rfl ?_
    refine cl_X7_88 rfl rfl dX7_findFewest_39 (Nat.le_of_ble_eq_true rfl) s_J6_bitCount_0f7a4 ?_
    rintro _ h60 _ ⟨rfl, e61, rfl⟩
    replace e61 := e61.symm
    subst e61
    refine r_iload_n rfl dX7_findFewest_42 rfl ?_
    refine r_icmp_ge (tgt := 61) rfl rfl dX7_findFewest_43 (fun c62 => ?_) (fun c62 => ?_)
    · refine r_iinc (y := nI (k + 1)) (ls' := [some (.ref 13), some (.int b), some (.int z), some (.int (nI (k + 1))), some (.int 1)]) rfl dX7_findFewest_61 rfl (nI_1 k) (Nat.le_of_ble_eq_true rfl) rfl ?_
      refine r_goto (pc' := 8) rfl dX7_findFewest_64 ?_
      exact ih h _ _ _ hS hF
    · refine r_aload_n rfl dX7_findFewest_46 rfl ?_
      refine r_iload_n rfl dX7_findFewest_47 rfl ?_
      refine cl_X7_100 rfl rfl dX7_findFewest_48 (show 2 ≤ 13 ∧ 13 < 434 by decide).1 (show 2 ≤ 13 ∧ 13 < 434 by decide).2 f55 (Nat.le_of_ble_eq_true rfl) (x_X7_tellsApart hS) ?_
      rintro _ h63 _ ⟨rfl, hS64, hk65, x66, rfl⟩
      have hF67 := KX_tr hF (KX_sb (l := []) (by first | decide | exact fun _ z => z | simp) hk65)
      have f68 : h63 (13) = .inr (7, [.ref 14, .ref 16, .ref 18, .ref 20, .ref 22, .int y51, .int y52, .int y53, .int y54]) := (hk65 _ (by decide) nSP_13).trans f55
      refine r_if_eq (tgt := 61) rfl rfl dX7_findFewest_51 (fun c69 => ?_) (fun c69 => ?_)
      · refine r_iinc (y := nI (k + 1)) (ls' := [some (.ref 13), some (.int b), some (.int z), some (.int (nI (k + 1))), some (.int 1)]) rfl dX7_findFewest_61 rfl (nI_1 k) (Nat.le_of_ble_eq_true rfl) rfl ?_
        refine r_goto (pc' := 8) rfl dX7_findFewest_64 ?_
        exact ih h63 _ _ _ hS64 hF67
      · refine r_iload_n rfl dX7_findFewest_54 rfl ?_
        refine r_istore_n (ls' := [some (.ref 13), some (.int (nI k)), some (.int z), some (.int (nI k)), some (.int 1)]) rfl dX7_findFewest_55 (Nat.le_of_ble_eq_true rfl) rfl ?_
        refine r_iload_n rfl dX7_findFewest_56 rfl ?_
        refine cl_X7_88 rfl rfl dX7_findFewest_57 (Nat.le_of_ble_eq_true rfl) s_J6_bitCount_0f7a4 ?_
        rintro _ h70 _ ⟨rfl, e71, rfl⟩
        replace e71 := e71.symm
        subst e71
        refine r_topi (fun x72 e73 => ?_)
        refine r_istore_n (ls' := [some (.ref 13), some (.int (nI k)), some (.int x72), some (.int (nI k)), some (.int 1)]) rfl dX7_findFewest_60 (Nat.le_of_ble_eq_true rfl) rfl ?_
        refine r_iinc (y := nI (k + 1)) (ls' := [some (.ref 13), some (.int (nI k)), some (.int x72), some (.int (nI (k + 1))), some (.int 1)]) rfl dX7_findFewest_61 rfl (nI_1 k) (Nat.le_of_ble_eq_true rfl) rfl ?_
        refine r_goto (pc' := 8) rfl dX7_findFewest_64 ?_
        exact ih h63 _ _ _ hS64 hF67
theorem x_ff {xs : Nat → Int32} {L d : Nat} {h0 : ev_H} : ∀ (n k : Nat) (h : ev_H) (b z : Int32) (u : Option Value), k + n = 256 → SH h → KX [] h0 h → EV xs L (d + 4) 0 0 M_X7_findFewest 434 h 8 [some (.ref 13), some (.int b), some (.int z), some (.int (nI k)), u] [] (fun sz' h' r => sz' = 434 ∧ SH h' ∧ KX [] h0 h' ∧ ∃ x : Int32, r = [.int x]) := by
  intro n
  induction n with
  | zero => intro k h b z u hk hS hF; exact x_ff_z hS hF (by omega)
  | succ n ih => intro k h b z u hk hS hF; exact x_ff_s hS hF (by omega) (fun h' b' z' u' q1 q2 => ih (k + 1) h' b' z' u' (by omega) q1 q2)
set_option maxRecDepth 20000 in
set_option maxHeartbeats 1000000 in
theorem x_X7_findFewest {xs : Nat → Int32} {L d : Nat} {h : ev_H}  (hS : SH h)  : EV xs L (d + 4) 0 0 M_X7_findFewest 434 h 0 [some (.ref 13), none, none, none, none] [] (fun sz' h' r => sz' = 434 ∧ SH h' ∧ KX [] h h' ∧ ∃ x : Int32, r = [.int x]) := by
  refine r_bipush (v := (-9)) rfl dX7_findFewest_0 (by decide) ?_
  refine r_istore_n (ls' := [some (.ref 13), some (.int (-9)), none, none, none]) rfl dX7_findFewest_2 (Nat.le_of_ble_eq_true rfl) rfl ?_
  refine r_bipush (v := 9) rfl dX7_findFewest_3 (by decide) ?_
  refine r_istore_n (ls' := [some (.ref 13), some (.int (-9)), some (.int 9), none, none]) rfl dX7_findFewest_5 (Nat.le_of_ble_eq_true rfl) rfl ?_
  refine r_iconst (v := 0) rfl dX7_findFewest_6 (by decide) ?_
  refine r_istore_n (ls' := [some (.ref 13), some (.int (-9)), some (.int 9), some (.int 0), none]) rfl dX7_findFewest_7 (Nat.le_of_ble_eq_true rfl) rfl ?_
  exact x_ff 256 0 h _ _ _ rfl hS (KX_rf (l := []) h)
set_option maxRecDepth 20000 in
set_option maxHeartbeats 1000000 in
theorem x_X7_fewestLetters {xs : Nat → Int32} {L d : Nat} {h : ev_H} {lo lt fk fs : Int32} (hS : SH h) (f13 : h 13 = c13 lo lt fk fs) : EV xs L (d + 5) 0 0 M_X7_fewestLetters 434 h 0 [some (.ref 13)] [] (fun sz' h' r => sz' = 434 ∧ SH h' ∧ KX [13] h h' ∧ (∃ fk fs, h' 13 = c13 lo lt fk fs) ∧ ∃ x : Int32, r = [.int x]) := by
  refine r_aload_n rfl dX7_fewestLetters_0 rfl ?_
  refine r_getv 7 rfl dX7_fewestLetters_1 (show 2 ≤ 13 ∧ 13 < 434 by decide) f13 fl_X7_70 rfl ?_
  refine r_if_ne (tgt := 20) rfl rfl dX7_fewestLetters_4 (fun c51 => ?_) (fun c51 => ?_)
  · refine r_aload_n rfl dX7_fewestLetters_20 rfl ?_
    refine r_getv 8 rfl dX7_fewestLetters_21 (show 2 ≤ 13 ∧ 13 < 434 by decide) f13 fl_X7_97 rfl ?_
    exact r_ret dX7_fewestLetters_24 (rt_i rfl) ⟨rfl, hS, (KX_rf (l := [13]) h), ⟨_, _, f13⟩, _, rfl⟩
  · refine r_aload_n rfl dX7_fewestLetters_7 rfl ?_
    refine r_aload_n rfl dX7_fewestLetters_8 rfl ?_
    refine cl_X7_94 rfl rfl dX7_fewestLetters_9 (show 2 ≤ 13 ∧ 13 < 434 by decide).1 (show 2 ≤ 13 ∧ 13 < 434 by decide).2 f13 (Nat.le_of_ble_eq_true rfl) (x_X7_findFewest hS) ?_
    rintro _ h52 _ ⟨rfl, hS53, hk54, x55, rfl⟩
    have hF56 := KX_tr (KX_rf (l := [13]) h) (KX_sb (l := [13]) (by first | decide | exact fun _ z => z | simp) hk54)
    have f57 : h52 (13) = .inr (7, [.ref 14, .ref 16, .ref 18, .ref 20, .ref 22, .int lo, .int lt, .int fk, .int fs]) := (hk54 _ (by decide) nSP_13).trans f13
    refine e_put 8 (fs' := [.ref 14, .ref 16, .ref 18, .ref 20, .ref 22, .int lo, .int lt, .int fk, .int x55]) rfl dX7_fewestLetters_12 (show 2 ≤ 13 ∧ 13 < 434 by decide) hS53 (KM_rf (Mod := [13]) _) (List.mem_singleton.mpr rfl) f57 (fp_X7_97 rfl _) (Nat.le_of_ble_eq_true rfl) rfl (fun h58 hS59 _ hN60 f61 => ?_)
    have hk62 : KX [13] h52 h58 := KX_M (fun _ z => z) hN60
    have hF63 := KX_tr hF56 (KX_sb (l := [13]) (by first | decide | exact fun _ z => z | simp) hk62)
    refine r_aload_n rfl dX7_fewestLetters_15 rfl ?_
    refine r_iconst (v := 1) rfl dX7_fewestLetters_16 (by decide) ?_
    refine e_put 7 (fs' := [.ref 14, .ref 16, .ref 18, .ref 20, .ref 22, .int lo, .int lt, .int 1, .int x55]) rfl dX7_fewestLetters_17 (show 2 ≤ 13 ∧ 13 < 434 by decide) hS59 (KM_rf (Mod := [13]) _) (List.mem_singleton.mpr rfl) f61 (fp_X7_70 rfl _ (Or.inr rfl)) (Nat.le_of_ble_eq_true rfl) rfl (fun h64 hS65 _ hN66 f67 => ?_)
    have hk68 : KX [13] h58 h64 := KX_M (fun _ z => z) hN66
    have hF69 := KX_tr hF63 (KX_sb (l := [13]) (by first | decide | exact fun _ z => z | simp) hk68)
    refine r_aload_n rfl dX7_fewestLetters_20 rfl ?_
    refine r_getv 8 rfl dX7_fewestLetters_21 (show 2 ≤ 13 ∧ 13 < 434 by decide) f67 fl_X7_97 rfl ?_
    exact r_ret dX7_fewestLetters_24 (rt_i rfl) ⟨rfl, hS65, hF69, ⟨_, _, f67⟩, _, rfl⟩
set_option maxRecDepth 20000 in
set_option maxHeartbeats 1000000 in
theorem x_X11_fewest {xs : Nat → Int32} {L d : Nat} {h : ev_H} {k : Nat} {cc sc wr el : Int32} {x lo lt fk fs : Int32} (hS : SH h) (h2 : h 2 = c2 cc (nI k) sc wr el) (hk : k ≤ 40) (f13 : h 13 = c13 lo lt fk fs) : EV xs L (d + 6) 0 0 M_X11_fewest 434 h 0 [some (.ref 2), some (.int x)] [] (fun sz' h' r => sz' = 434 ∧ SH h' ∧ KX [13] h h' ∧ (∃ fk fs, h' 13 = c13 lo lt fk fs) ∧ ∃ x : Int32, r = [.int x]) := by
  refine r_iload_n rfl dX11_fewest_0 rfl ?_
  refine r_if_lt (tgt := 9) rfl rfl dX11_fewest_1 (fun c51 => ?_) (fun c51 => ?_)
  · refine r_iconst (v := (-1)) rfl dX11_fewest_9 (by decide) ?_
    refine r_goto (pc' := 24) rfl dX11_fewest_10 ?_
    exact r_ret dX11_fewest_24 (rt_i rfl) ⟨rfl, hS, (KX_rf (l := [13]) h), ⟨_, _, f13⟩, _, rfl⟩
  · refine r_iload_n rfl dX11_fewest_4 rfl ?_
    refine r_iconst (v := 1) rfl dX11_fewest_5 (by decide) ?_
    refine r_icmp_le (tgt := 13) rfl rfl dX11_fewest_6 (fun c52 => ?_) (fun c52 => ?_)
    · refine r_iload_n rfl dX11_fewest_13 rfl ?_
      refine r_aload_n rfl dX11_fewest_14 rfl ?_
      refine r_getv 3 rfl dX11_fewest_15 (show 2 ≤ 2 ∧ 2 < 434 by decide) h2 fl_X11_32 rfl ?_
      refine cl_X11_186 rfl rfl dX11_fewest_18 (show 2 ≤ 13 ∧ 13 < 434 by decide).1 (show 2 ≤ 13 ∧ 13 < 434 by decide).2 f13 (Nat.le_of_ble_eq_true rfl) (x_X7_fewestLetters hS f13) ?_
      rintro _ h53 _ ⟨rfl, hS54, hk55, ⟨y57, y58, f59⟩, x56, rfl⟩
      have hF60 := KX_tr (KX_rf (l := [13]) h) (KX_sb (l := [13]) (by first | decide | exact fun _ z => z | simp) hk55)
      have f61 : h53 (2) = .inr (11, [.ref 3, .ref 5, .ref 12, .ref 13, .ref 24, .ref 93, .ref 95, .ref 96, .ref 97, .ref 98, .ref 99, .int cc, .int (nI k), .int sc, .int wr, .int el]) := (hk55 _ (by decide) nSP_2).trans h2
      refine cl_X11_189 rfl rfl dX11_fewest_21 (Nat.le_of_ble_eq_true rfl) s_X11_sizeOrSet ?_
      rintro _ h62 _ ⟨rfl, e63, rfl⟩
      replace e63 := e63.symm
      subst e63
      exact r_ret dX11_fewest_24 (rt_i rfl) ⟨rfl, hS54, hF60, ⟨_, _, f59⟩, _, rfl⟩
    · refine r_iconst (v := (-1)) rfl dX11_fewest_9 (by decide) ?_
      refine r_goto (pc' := 24) rfl dX11_fewest_10 ?_
      exact r_ret dX11_fewest_24 (rt_i rfl) ⟨rfl, hS, (KX_rf (l := [13]) h), ⟨_, _, f13⟩, _, rfl⟩

