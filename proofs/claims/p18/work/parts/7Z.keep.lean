/-- the regions of Sides and of Core -/
def RSb (k : Nat) : Bool := k == 1 || (decide (13 ≤ k) && decide (k < 24))
theorem RSb_d : ∀ k, k < 434 → 2 ≤ k → RSb k = true → rfB RSb (cs0 k) 40 = true := by decide +kernel
theorem RSb_b : ∀ k, RSb k = true → k < 434 := by
  intro k hk
  simp [RSb] at hk
  omega
def RKb (k : Nat) : Bool := k == 1 || (decide (24 ≤ k) && decide (k < 93))
theorem RKb_d : ∀ k, k < 434 → 2 ≤ k → RKb k = true → rfB RKb (cs0 k) 40 = true := by decide +kernel
theorem RKb_b : ∀ k, RKb k = true → k < 434 := by
  intro k hk
  simp [RKb] at hk
  omega
def KR (Rb : Nat → Bool) (h h' : ev_H) : Prop := ∀ k, Rb k = false → h' k = h k
theorem KR_rf (Rb : Nat → Bool) (h : ev_H) : KR Rb h h := fun _ _ => rfl
theorem EV.shKR {xs : Nat → Int32} {L d : Nat} {M : ev_M} {sz : Nat} {h : ev_H} {ls : ev_L} {Q : ev_Q} {Rb : Nat → Bool} (h1 : Rb 1 = true) (hb : ∀ k, Rb k = true → k < 434) (hd : ∀ k, k < 434 → 2 ≤ k → Rb k = true → rfB Rb (cs0 k) 40 = true) (hE : EV xs L d 0 0 M sz h 0 ls [] Q) (hS : SH h) (hl : okl (fun k => Rb k = true) ls) : EV xs L d 0 0 M sz h 0 ls [] (fun sz' h' r => Q sz' h' r ∧ sz' = sz ∧ SH h' ∧ KR Rb h h') :=
  EV.post (fun _ _ _ q => ⟨q.1, q.2.1, q.2.2.1, fun k hk => q.2.2.2 k (by rw [hk]; decide)⟩) (EV.shR (fun k => Rb k = true) h1 hE hS (clo_R hb hd hS) hl (fun _ h => by cases h))
theorem okl_1 {Rb : Nat → Bool} {a : Nat} (ha : Rb a = true) : okl (fun k => Rb k = true) [some (.ref a)] := fun j v hj => by
  match j, hj with
  | 0, hj => cases hj; intro b e; cases e; exact ha
  | j + 1, hj => simp at hj
set_option maxRecDepth 20000 in
set_option maxHeartbeats 1000000 in
theorem n_X11_tell {xs : Nat → Int32} {L d : Nat} {h : ev_H} {k : Nat} {cc sc wr el : Int32} {x y : Int32} (hS : SH h) (h2 : h 2 = c2 cc (nI k) sc wr el) (hk : k ≤ 40) : EV xs L (d + 2) 0 0 M_X11_tell 434 h 0 [some (.ref 2), some (.int x), some (.int y), none] [] (fun sz' h' r => sz' = 434 ∧ SH h' ∧ K1 93 h h' ∧ ∃ x : Int32, r = [.int x]) := by
  refine r_iload_n rfl dX11_tell_0 rfl ?_
  refine cl_X11_132 rfl rfl dX11_tell_1 (Nat.le_of_ble_eq_true rfl) s_X11_isWorld ?_
  rintro _ h51 _ ⟨rfl, e52, rfl⟩
  replace e52 := e52.symm
  subst e52
  refine r_if_eq (tgt := 16) rfl rfl dX11_tell_4 (fun c53 => ?_) (fun c53 => ?_)
  · refine r_iconst (v := (-1)) rfl dX11_tell_16 (by decide) ?_
    exact r_ret dX11_tell_17 (rt_i rfl) ⟨rfl, hS, (K1_rf 93 h), _, rfl⟩
  · refine r_iload_n rfl dX11_tell_7 rfl ?_
    refine r_if_lt (tgt := 16) rfl rfl dX11_tell_8 (fun c54 => ?_) (fun c54 => ?_)
    · refine r_iconst (v := (-1)) rfl dX11_tell_16 (by decide) ?_
      exact r_ret dX11_tell_17 (rt_i rfl) ⟨rfl, hS, (K1_rf 93 h), _, rfl⟩
    · refine r_iload_n rfl dX11_tell_11 rfl ?_
      refine r_iconst (v := 1) rfl dX11_tell_12 (by decide) ?_
      refine r_icmp_le (tgt := 18) rfl rfl dX11_tell_13 (fun c55 => ?_) (fun c55 => ?_)
      · refine r_aload_n rfl dX11_tell_18 rfl ?_
        refine r_getv 5 rfl dX11_tell_19 (show 2 ≤ 2 ∧ 2 < 434 by decide) h2 fl_X11_46 rfl ?_
        refine r_iload_n rfl dX11_tell_22 rfl ?_
        obtain ⟨g56, hw57⟩ := hS.ws wsAt_93
        refine cl_X11_157 rfl rfl dX11_tell_23 (show 2 ≤ 93 ∧ 93 < 434 by decide).1 (show 2 ≤ 93 ∧ 93 < 434 by decide).2 hw57.2.2.1 (Nat.le_of_ble_eq_true rfl) (s_X10_has hw57) ?_
        rintro _ h58 _ ⟨rfl, e59, rfl⟩
        replace e59 := e59.symm
        subst e59
        refine r_if_eq (tgt := 33) rfl rfl dX11_tell_26 (fun c60 => ?_) (fun c60 => ?_)
        · refine r_iconst (v := 0) rfl dX11_tell_33 (by decide) ?_
          refine r_istore_n (ls' := [some (.ref 2), some (.int x), some (.int y), some (.int 0)]) rfl dX11_tell_34 (Nat.le_of_ble_eq_true rfl) rfl ?_
          refine r_aload_n rfl dX11_tell_35 rfl ?_
          refine r_getv 5 rfl dX11_tell_36 (show 2 ≤ 2 ∧ 2 < 434 by decide) h2 fl_X11_46 rfl ?_
          refine r_iload_n rfl dX11_tell_39 rfl ?_
          refine r_iload_n rfl dX11_tell_40 rfl ?_
          refine r_iconst (v := 1) rfl dX11_tell_41 (by decide) ?_
          refine r_icmp_ne (tgt := 49) rfl rfl dX11_tell_42 (fun c61 => ?_) (fun c61 => ?_)
          · refine r_iconst (v := 0) rfl dX11_tell_49 (by decide) ?_
            obtain ⟨g62, hw63⟩ := hS.ws wsAt_93
            refine cl_X11_193 rfl rfl dX11_tell_50 (show 2 ≤ 93 ∧ 93 < 434 by decide).1 (show 2 ≤ 93 ∧ 93 < 434 by decide).2 hw63.2.2.1 (Nat.le_of_ble_eq_true rfl) (s_X10_put hw63) ?_
            rintro _ h64 _ ⟨rfl, ⟨z68, z69, z70, z71, eh65⟩, rfl⟩
            have hS66 := SH_p hS wsAt_93 eh65
            have hk67 : K1 93 h h64 := K1_up eh65
            have hF72 := K1_tr (K1_rf 93 h) hk67
            have f73 : h64 (2) = .inr (11, [.ref 3, .ref 5, .ref 12, .ref 13, .ref 24, .ref 93, .ref 95, .ref 96, .ref 97, .ref 98, .ref 99, .int cc, .int (nI k), .int sc, .int wr, .int el]) := (hk67 _ (by decide)).trans h2
            refine r_iload_n rfl dX11_tell_53 rfl ?_
            exact r_ret dX11_tell_54 (rt_i rfl) ⟨rfl, hS66, hF72, _, rfl⟩
          · refine r_iconst (v := 1) rfl dX11_tell_45 (by decide) ?_
            refine r_goto (pc' := 50) rfl dX11_tell_46 ?_
            obtain ⟨g74, hw75⟩ := hS.ws wsAt_93
            refine cl_X11_193 rfl rfl dX11_tell_50 (show 2 ≤ 93 ∧ 93 < 434 by decide).1 (show 2 ≤ 93 ∧ 93 < 434 by decide).2 hw75.2.2.1 (Nat.le_of_ble_eq_true rfl) (s_X10_put hw75) ?_
            rintro _ h76 _ ⟨rfl, ⟨z80, z81, z82, z83, eh77⟩, rfl⟩
            have hS78 := SH_p hS wsAt_93 eh77
            have hk79 : K1 93 h h76 := K1_up eh77
            have hF84 := K1_tr (K1_rf 93 h) hk79
            have f85 : h76 (2) = .inr (11, [.ref 3, .ref 5, .ref 12, .ref 13, .ref 24, .ref 93, .ref 95, .ref 96, .ref 97, .ref 98, .ref 99, .int cc, .int (nI k), .int sc, .int wr, .int el]) := (hk79 _ (by decide)).trans h2
            refine r_iload_n rfl dX11_tell_53 rfl ?_
            exact r_ret dX11_tell_54 (rt_i rfl) ⟨rfl, hS78, hF84, _, rfl⟩
        · refine r_iconst (v := 1) rfl dX11_tell_29 (by decide) ?_
          refine r_goto (pc' := 34) rfl dX11_tell_30 ?_
          refine r_istore_n (ls' := [some (.ref 2), some (.int x), some (.int y), some (.int 1)]) rfl dX11_tell_34 (Nat.le_of_ble_eq_true rfl) rfl ?_
          refine r_aload_n rfl dX11_tell_35 rfl ?_
          refine r_getv 5 rfl dX11_tell_36 (show 2 ≤ 2 ∧ 2 < 434 by decide) h2 fl_X11_46 rfl ?_
          refine r_iload_n rfl dX11_tell_39 rfl ?_
          refine r_iload_n rfl dX11_tell_40 rfl ?_
          refine r_iconst (v := 1) rfl dX11_tell_41 (by decide) ?_
          refine r_icmp_ne (tgt := 49) rfl rfl dX11_tell_42 (fun c86 => ?_) (fun c86 => ?_)
          · refine r_iconst (v := 0) rfl dX11_tell_49 (by decide) ?_
            obtain ⟨g87, hw88⟩ := hS.ws wsAt_93
            refine cl_X11_193 rfl rfl dX11_tell_50 (show 2 ≤ 93 ∧ 93 < 434 by decide).1 (show 2 ≤ 93 ∧ 93 < 434 by decide).2 hw88.2.2.1 (Nat.le_of_ble_eq_true rfl) (s_X10_put hw88) ?_
            rintro _ h89 _ ⟨rfl, ⟨z93, z94, z95, z96, eh90⟩, rfl⟩
            have hS91 := SH_p hS wsAt_93 eh90
            have hk92 : K1 93 h h89 := K1_up eh90
            have hF97 := K1_tr (K1_rf 93 h) hk92
            have f98 : h89 (2) = .inr (11, [.ref 3, .ref 5, .ref 12, .ref 13, .ref 24, .ref 93, .ref 95, .ref 96, .ref 97, .ref 98, .ref 99, .int cc, .int (nI k), .int sc, .int wr, .int el]) := (hk92 _ (by decide)).trans h2
            refine r_iload_n rfl dX11_tell_53 rfl ?_
            exact r_ret dX11_tell_54 (rt_i rfl) ⟨rfl, hS91, hF97, _, rfl⟩
          · refine r_iconst (v := 1) rfl dX11_tell_45 (by decide) ?_
            refine r_goto (pc' := 50) rfl dX11_tell_46 ?_
            obtain ⟨g99, hw100⟩ := hS.ws wsAt_93
            refine cl_X11_193 rfl rfl dX11_tell_50 (show 2 ≤ 93 ∧ 93 < 434 by decide).1 (show 2 ≤ 93 ∧ 93 < 434 by decide).2 hw100.2.2.1 (Nat.le_of_ble_eq_true rfl) (s_X10_put hw100) ?_
            rintro _ h101 _ ⟨rfl, ⟨z105, z106, z107, z108, eh102⟩, rfl⟩
            have hS103 := SH_p hS wsAt_93 eh102
            have hk104 : K1 93 h h101 := K1_up eh102
            have hF109 := K1_tr (K1_rf 93 h) hk104
            have f110 : h101 (2) = .inr (11, [.ref 3, .ref 5, .ref 12, .ref 13, .ref 24, .ref 93, .ref 95, .ref 96, .ref 97, .ref 98, .ref 99, .int cc, .int (nI k), .int sc, .int wr, .int el]) := (hk104 _ (by decide)).trans h2
            refine r_iload_n rfl dX11_tell_53 rfl ?_
            exact r_ret dX11_tell_54 (rt_i rfl) ⟨rfl, hS103, hF109, _, rfl⟩
      · refine r_iconst (v := (-1)) rfl dX11_tell_16 (by decide) ?_
        exact r_ret dX11_tell_17 (rt_i rfl) ⟨rfl, hS, (K1_rf 93 h), _, rfl⟩
set_option maxRecDepth 20000 in
set_option maxHeartbeats 1000000 in
theorem n_cp_z {xs : Nat → Int32} {L d : Nat} {h : ev_H} {h0 : ev_H} {k kk q : Nat} {cc sc wr el x y z m : Int32} (hS : SH h) (hF : K1 93 h0 h) (hq : wsAt q) (h2 : h 2 = c2 cc (nI kk) sc wr el) (hk : k = 256) : EV xs L (d + 2) 0 0 M_X11_copy 434 h 60 [some (.ref 2), some (.int x), some (.int y), some (.int z), some (.ref q), some (.int m), some (.int (nI k))] [] (fun sz' h' r => sz' = 434 ∧ SH h' ∧ K1 93 h0 h' ∧ ∃ x : Int32, r = [.int x]) := by
  refine r_iload rfl dX11_copy_60 rfl ?_
  refine r_iload_n rfl dX11_copy_62 rfl ?_
  refine r_icmp_gt (tgt := 118) rfl rfl dX11_copy_63 (fun c51 => ?_) (fun c51 => ?_)
  · refine r_iload rfl dX11_copy_118 rfl ?_
    exact r_ret dX11_copy_120 (rt_i rfl) ⟨rfl, hS, hF, _, rfl⟩
  · refine r_iload rfl dX11_copy_66 rfl ?_
    refine r_sipush (v := 256) rfl dX11_copy_68 (by decide) ?_
    refine r_icmp_ge (tgt := 118) rfl rfl dX11_copy_71 (fun _ => ?_) (fun zc => absurd (show (256 : Int32) ≤ nI k from nI_le (a := 256) (b := k) (by omega) (by omega)) zc)
    refine r_iload rfl dX11_copy_118 rfl ?_
    exact r_ret dX11_copy_120 (rt_i rfl) ⟨rfl, hS, hF, _, rfl⟩
set_option maxRecDepth 20000 in
set_option maxHeartbeats 1000000 in
theorem n_cp_s {xs : Nat → Int32} {L d : Nat} {h : ev_H} {h0 : ev_H} {k kk q : Nat} {cc sc wr el x y z m : Int32} (hS : SH h) (hF : K1 93 h0 h) (hq : wsAt q) (h2 : h 2 = c2 cc (nI kk) sc wr el) (hk : k < 256) (ih : ∀ (h' : ev_H) (m' : Int32), SH h' → K1 93 h0 h' → h' 2 = c2 cc (nI kk) sc wr el → EV xs L (d + 2) 0 0 M_X11_copy 434 h' 60 [some (.ref 2), some (.int x), some (.int y), some (.int z), some (.ref q), some (.int m'), some (.int (nI (k + 1)))] [] (fun sz' h' r => sz' = 434 ∧ SH h' ∧ K1 93 h0 h' ∧ ∃ x : Int32, r = [.int x])) : EV xs L (d + 2) 0 0 M_X11_copy 434 h 60 [some (.ref 2), some (.int x), some (.int y), some (.int z), some (.ref q), some (.int m), some (.int (nI k))] [] (fun sz' h' r => sz' = 434 ∧ SH h' ∧ K1 93 h0 h' ∧ ∃ x : Int32, r = [.int x]) := by
  refine r_iload rfl dX11_copy_60 rfl ?_
  refine r_iload_n rfl dX11_copy_62 rfl ?_
  refine r_icmp_gt (tgt := 118) rfl rfl dX11_copy_63 (fun c51 => ?_) (fun c51 => ?_)
  · refine r_iload rfl dX11_copy_118 rfl ?_
    exact r_ret dX11_copy_120 (rt_i rfl) ⟨rfl, hS, hF, _, rfl⟩
  · refine r_iload rfl dX11_copy_66 rfl ?_
    refine r_sipush (v := 256) rfl dX11_copy_68 (by decide) ?_
    refine r_icmp_ge (tgt := 118) rfl rfl dX11_copy_71 (fun zc => absurd zc (show ¬ (256 : Int32) ≤ nI k from nI_ge (a := k) (b := 256) (by omega) (by decide))) (fun _ => ?_)
    refine r_aload_n rfl dX11_copy_74 rfl ?_
    refine r_getv 5 rfl dX11_copy_75 (show 2 ≤ 2 ∧ 2 < 434 by decide) h2 fl_X11_46 rfl ?_
    refine r_iload rfl dX11_copy_78 rfl ?_
    obtain ⟨g52, hw53⟩ := hS.ws wsAt_93
    refine cl_X11_157 rfl rfl dX11_copy_80 (show 2 ≤ 93 ∧ 93 < 434 by decide).1 (show 2 ≤ 93 ∧ 93 < 434 by decide).2 hw53.2.2.1 (Nat.le_of_ble_eq_true rfl) (s_X10_has hw53) ?_
    rintro _ h54 _ ⟨rfl, e55, rfl⟩
    replace e55 := e55.symm
    subst e55
    refine r_aload rfl dX11_copy_83 rfl ?_
    refine r_iload rfl dX11_copy_85 rfl ?_
    obtain ⟨g56, hw57⟩ := hS.ws hq
    refine cl_X11_157 rfl rfl dX11_copy_87 (show _ ∧ _ from ⟨(hq).2.2.1, Nat.lt_of_succ_lt (hq).2.2.2⟩).1 (show _ ∧ _ from ⟨(hq).2.2.1, Nat.lt_of_succ_lt (hq).2.2.2⟩).2 hw57.2.2.1 (Nat.le_of_ble_eq_true rfl) (s_X10_has hw57) ?_
    rintro _ h58 _ ⟨rfl, e59, rfl⟩
    replace e59 := e59.symm
    subst e59
    refine r_icmp_eq (tgt := 112) rfl rfl dX11_copy_90 (fun c60 => ?_) (fun c60 => ?_)
    · refine r_iinc (y := nI (k + 1)) (ls' := [some (.ref 2), some (.int x), some (.int y), some (.int z), some (.ref q), some (.int m), some (.int (nI (k + 1)))]) rfl dX11_copy_112 rfl (nI_1 k) (Nat.le_of_ble_eq_true rfl) rfl ?_
      refine r_goto (pc' := 60) rfl dX11_copy_115 ?_
      exact ih h _ hS hF h2
    · refine r_aload_n rfl dX11_copy_93 rfl ?_
      refine r_getv 5 rfl dX11_copy_94 (show 2 ≤ 2 ∧ 2 < 434 by decide) h2 fl_X11_46 rfl ?_
      refine r_iload rfl dX11_copy_97 rfl ?_
      refine r_aload rfl dX11_copy_99 rfl ?_
      refine r_iload rfl dX11_copy_101 rfl ?_
      obtain ⟨g61, hw62⟩ := hS.ws hq
      refine cl_X11_157 rfl rfl dX11_copy_103 (show _ ∧ _ from ⟨(hq).2.2.1, Nat.lt_of_succ_lt (hq).2.2.2⟩).1 (show _ ∧ _ from ⟨(hq).2.2.1, Nat.lt_of_succ_lt (hq).2.2.2⟩).2 hw62.2.2.1 (Nat.le_of_ble_eq_true rfl) (s_X10_has hw62) ?_
      rintro _ h63 _ ⟨rfl, e64, rfl⟩
      replace e64 := e64.symm
      subst e64
      obtain ⟨g65, hw66⟩ := hS.ws wsAt_93
      refine cl_X11_193 rfl rfl dX11_copy_106 (show 2 ≤ 93 ∧ 93 < 434 by decide).1 (show 2 ≤ 93 ∧ 93 < 434 by decide).2 hw66.2.2.1 (Nat.le_of_ble_eq_true rfl) (s_X10_put hw66) ?_
      rintro _ h67 _ ⟨rfl, ⟨z71, z72, z73, z74, eh68⟩, rfl⟩
      have hS69 := SH_p hS wsAt_93 eh68
      have hk70 : K1 93 h h67 := K1_up eh68
      have hF75 := K1_tr hF hk70
      have f76 : h67 (2) = .inr (11, [.ref 3, .ref 5, .ref 12, .ref 13, .ref 24, .ref 93, .ref 95, .ref 96, .ref 97, .ref 98, .ref 99, .int cc, .int (nI kk), .int sc, .int wr, .int el]) := (hk70 _ (by decide)).trans h2
      obtain ⟨x77, e78⟩ : ∃ z : Int32, z = m + Int32.ofInt 1 := ⟨_, rfl⟩
      refine r_iinc (y := x77) (ls' := [some (.ref 2), some (.int x), some (.int y), some (.int z), some (.ref q), some (.int x77), some (.int (nI k))]) rfl dX11_copy_109 rfl e78.symm (Nat.le_of_ble_eq_true rfl) rfl ?_
      refine r_iinc (y := nI (k + 1)) (ls' := [some (.ref 2), some (.int x), some (.int y), some (.int z), some (.ref q), some (.int x77), some (.int (nI (k + 1)))]) rfl dX11_copy_112 rfl (nI_1 k) (Nat.le_of_ble_eq_true rfl) rfl ?_
      refine r_goto (pc' := 60) rfl dX11_copy_115 ?_
      exact ih h67 _ hS69 hF75 f76
theorem n_cp {xs : Nat → Int32} {L d : Nat} {h0 : ev_H} {kk q : Nat} {cc sc wr el x y z : Int32} (hq : wsAt q) : ∀ (n k : Nat) (h : ev_H) (m : Int32), k + n = 256 → SH h → K1 93 h0 h → h 2 = c2 cc (nI kk) sc wr el → EV xs L (d + 2) 0 0 M_X11_copy 434 h 60 [some (.ref 2), some (.int x), some (.int y), some (.int z), some (.ref q), some (.int m), some (.int (nI k))] [] (fun sz' h' r => sz' = 434 ∧ SH h' ∧ K1 93 h0 h' ∧ ∃ x : Int32, r = [.int x]) := by
  intro n
  induction n with
  | zero => intro k h m hk hS hF h2; exact n_cp_z hS hF hq h2 (by omega)
  | succ n ih => intro k h m hk hS hF h2; exact n_cp_s hS hF hq h2 (by omega) (fun h' m' q1 q2 q3 => ih (k + 1) h' m' (by omega) q1 q2 q3)
set_option maxRecDepth 20000 in
set_option maxHeartbeats 1000000 in
theorem n_X11_copy {xs : Nat → Int32} {L d : Nat} {h : ev_H} {k : Nat} {cc sc wr el : Int32} {x y z : Int32} (hS : SH h) (h2 : h 2 = c2 cc (nI k) sc wr el) (hk : k ≤ 40) : EV xs L (d + 3) 0 0 M_X11_copy 434 h 0 [some (.ref 2), some (.int x), some (.int y), some (.int z), none, none, none] [] (fun sz' h' r => sz' = 434 ∧ SH h' ∧ K1 93 h h' ∧ ∃ x : Int32, r = [.int x]) := by
  refine r_iload_n rfl dX11_copy_0 rfl ?_
  refine r_if_lt (tgt := 28) rfl rfl dX11_copy_1 (fun c51 => ?_) (fun c51 => ?_)
  · refine r_iconst (v := (-1)) rfl dX11_copy_28 (by decide) ?_
    exact r_ret dX11_copy_29 (rt_i rfl) ⟨rfl, hS, (K1_rf 93 h), _, rfl⟩
  · refine r_iload_n rfl dX11_copy_4 rfl ?_
    refine r_iconst (v := 4) rfl dX11_copy_5 (by decide) ?_
    refine r_icmp_gt (tgt := 28) rfl rfl dX11_copy_6 (fun c52 => ?_) (fun c52 => ?_)
    · refine r_iconst (v := (-1)) rfl dX11_copy_28 (by decide) ?_
      exact r_ret dX11_copy_29 (rt_i rfl) ⟨rfl, hS, (K1_rf 93 h), _, rfl⟩
    · refine r_iload_n rfl dX11_copy_9 rfl ?_
      refine cl_X11_132 rfl rfl dX11_copy_10 (Nat.le_of_ble_eq_true rfl) s_X11_isWorld ?_
      rintro _ h53 _ ⟨rfl, e54, rfl⟩
      replace e54 := e54.symm
      subst e54
      refine r_if_eq (tgt := 28) rfl rfl dX11_copy_13 (fun c55 => ?_) (fun c55 => ?_)
      · refine r_iconst (v := (-1)) rfl dX11_copy_28 (by decide) ?_
        exact r_ret dX11_copy_29 (rt_i rfl) ⟨rfl, hS, (K1_rf 93 h), _, rfl⟩
      · refine r_iload_n rfl dX11_copy_16 rfl ?_
        refine cl_X11_132 rfl rfl dX11_copy_17 (Nat.le_of_ble_eq_true rfl) s_X11_isWorld ?_
        rintro _ h56 _ ⟨rfl, e57, rfl⟩
        replace e57 := e57.symm
        subst e57
        refine r_if_eq (tgt := 28) rfl rfl dX11_copy_20 (fun c58 => ?_) (fun c58 => ?_)
        · refine r_iconst (v := (-1)) rfl dX11_copy_28 (by decide) ?_
          exact r_ret dX11_copy_29 (rt_i rfl) ⟨rfl, hS, (K1_rf 93 h), _, rfl⟩
        · refine r_iload_n rfl dX11_copy_23 rfl ?_
          refine r_iload_n rfl dX11_copy_24 rfl ?_
          refine r_icmp_le (tgt := 30) rfl rfl dX11_copy_25 (fun c59 => ?_) (fun c59 => ?_)
          · refine r_aload_n rfl dX11_copy_30 rfl ?_
            refine r_iload_n rfl dX11_copy_31 rfl ?_
            refine cl_X11_167 rfl rfl dX11_copy_32 (show 2 ≤ 2 ∧ 2 < 434 by decide).1 (show 2 ≤ 2 ∧ 2 < 434 by decide).2 h2 (Nat.le_of_ble_eq_true rfl) (x_X11_setOf hS h2 hk) ?_
            rintro _ h60 _ ⟨rfl, e61, rfl | ⟨a62, ha63, rfl⟩⟩
            · replace e61 := e61.symm
              subst e61
              refine r_astoreN (ls' := [some (.ref 2), some (.int x), some (.int y), some (.int z), some (.null), none, none]) rfl dX11_copy_35 (Nat.le_of_ble_eq_true rfl) rfl ?_
              refine r_aloadN rfl dX11_copy_37 rfl ?_
              refine r_ifnullN (tgt := 51) rfl dX11_copy_39 ?_
              refine r_bipush (v := (-2)) rfl dX11_copy_51 (by decide) ?_
              exact r_ret dX11_copy_53 (rt_i rfl) ⟨rfl, hS, (K1_rf 93 h), _, rfl⟩
            · replace e61 := e61.symm
              subst e61
              refine r_astore (ls' := [some (.ref 2), some (.int x), some (.int y), some (.int z), some (.ref a62), none, none]) rfl dX11_copy_35 (Nat.le_of_ble_eq_true rfl) rfl ?_
              refine r_aload rfl dX11_copy_37 rfl ?_
              refine r_ifnull rfl (by decide) dX11_copy_39 ?_
              refine r_aload_n rfl dX11_copy_42 rfl ?_
              refine r_getv 15 rfl dX11_copy_43 (show 2 ≤ 2 ∧ 2 < 434 by decide) h2 fl_X11_86 rfl ?_
              refine r_bipush (v := (-9)) rfl dX11_copy_46 (by decide) ?_
              refine r_icmp_ne (tgt := 54) rfl rfl dX11_copy_48 (fun c64 => ?_) (fun c64 => ?_)
              · refine r_iconst (v := 0) rfl dX11_copy_54 (by decide) ?_
                refine r_istore (ls' := [some (.ref 2), some (.int x), some (.int y), some (.int z), some (.ref a62), some (.int 0), none]) rfl dX11_copy_55 (Nat.le_of_ble_eq_true rfl) rfl ?_
                refine r_iload_n rfl dX11_copy_57 rfl ?_
                refine r_istore (ls' := [some (.ref 2), some (.int x), some (.int y), some (.int z), some (.ref a62), some (.int 0), some (.int y)]) rfl dX11_copy_58 (Nat.le_of_ble_eq_true rfl) rfl ?_
                obtain ⟨j, hj, ej⟩ := isW_of c55
                subst ej
                exact n_cp ha63 (256 - j) j h _ (by omega) hS (K1_rf 93 h) h2
              · refine r_bipush (v := (-2)) rfl dX11_copy_51 (by decide) ?_
                exact r_ret dX11_copy_53 (rt_i rfl) ⟨rfl, hS, (K1_rf 93 h), _, rfl⟩
          · refine r_iconst (v := (-1)) rfl dX11_copy_28 (by decide) ?_
            exact r_ret dX11_copy_29 (rt_i rfl) ⟨rfl, hS, (K1_rf 93 h), _, rfl⟩
set_option maxRecDepth 20000 in
set_option maxHeartbeats 1000000 in
theorem n_X11_fewest {xs : Nat → Int32} {L d : Nat} {h : ev_H} {k : Nat} {cc sc wr el : Int32} {x lo lt fk fs : Int32} (hS : SH h) (h2 : h 2 = c2 cc (nI k) sc wr el) (hk : k ≤ 40) (f13 : h 13 = c13 lo lt fk fs) : EV xs L (d + 6) 0 0 M_X11_fewest 434 h 0 [some (.ref 2), some (.int x)] [] (fun sz' h' r => sz' = 434 ∧ SH h' ∧ KR RSb h h' ∧ (∃ fk fs, h' 13 = c13 lo lt fk fs) ∧ ∃ x : Int32, r = [.int x]) := by
  refine r_iload_n rfl dX11_fewest_0 rfl ?_
  refine r_if_lt (tgt := 9) rfl rfl dX11_fewest_1 (fun c51 => ?_) (fun c51 => ?_)
  · refine r_iconst (v := (-1)) rfl dX11_fewest_9 (by decide) ?_
    refine r_goto (pc' := 24) rfl dX11_fewest_10 ?_
    exact r_ret dX11_fewest_24 (rt_i rfl) ⟨rfl, hS, (KR_rf RSb h), ⟨_, _, f13⟩, _, rfl⟩
  · refine r_iload_n rfl dX11_fewest_4 rfl ?_
    refine r_iconst (v := 1) rfl dX11_fewest_5 (by decide) ?_
    refine r_icmp_le (tgt := 13) rfl rfl dX11_fewest_6 (fun c52 => ?_) (fun c52 => ?_)
    · refine r_iload_n rfl dX11_fewest_13 rfl ?_
      refine r_aload_n rfl dX11_fewest_14 rfl ?_
      refine r_getv 3 rfl dX11_fewest_15 (show 2 ≤ 2 ∧ 2 < 434 by decide) h2 fl_X11_32 rfl ?_
      refine cl_X11_186 rfl rfl dX11_fewest_18 (show 2 ≤ 13 ∧ 13 < 434 by decide).1 (show 2 ≤ 13 ∧ 13 < 434 by decide).2 f13 (Nat.le_of_ble_eq_true rfl) (EV.shKR rfl RSb_b RSb_d (x_X7_fewestLetters hS f13) hS (okl_1 (by decide))) ?_
      rintro _ h53 _ ⟨⟨rfl, hS54, -, ⟨y57, y58, f59⟩, x56, rfl⟩, -, -, hk55⟩
      have hF60 := hk55
      have f61 : h53 (2) = .inr (11, [.ref 3, .ref 5, .ref 12, .ref 13, .ref 24, .ref 93, .ref 95, .ref 96, .ref 97, .ref 98, .ref 99, .int cc, .int (nI k), .int sc, .int wr, .int el]) := (hk55 2 (by decide)).trans h2
      refine cl_X11_189 rfl rfl dX11_fewest_21 (Nat.le_of_ble_eq_true rfl) s_X11_sizeOrSet ?_
      rintro _ h62 _ ⟨rfl, e63, rfl⟩
      replace e63 := e63.symm
      subst e63
      exact r_ret dX11_fewest_24 (rt_i rfl) ⟨rfl, hS54, hF60, ⟨_, _, f59⟩, _, rfl⟩
    · refine r_iconst (v := (-1)) rfl dX11_fewest_9 (by decide) ?_
      refine r_goto (pc' := 24) rfl dX11_fewest_10 ?_
      exact r_ret dX11_fewest_24 (rt_i rfl) ⟨rfl, hS, (KR_rf RSb h), ⟨_, _, f13⟩, _, rfl⟩


set_option maxRecDepth 20000 in
set_option maxHeartbeats 1000000 in
theorem n_X11_needed {xs : Nat → Int32} {L d : Nat} {h : ev_H} {k c : Nat} {cc sc wr el : Int32} {x kn bs bz : Int32} (hS : SH h) (h2 : h 2 = c2 cc (nI k) sc wr el) (hk : k ≤ 40) (hc : c ≤ 16) (f24 : h 24 = c24 (nI c) kn bs bz) : EV xs L (d + 22) 0 0 M_X11_needed 434 h 0 [some (.ref 2), some (.int x)] [] (fun sz' h' r => sz' = 434 ∧ SH h' ∧ KR RKb h h' ∧ (∃ kn bs bz, h' 24 = c24 (nI c) kn bs bz) ∧ ∃ x : Int32, r = [.int x]) := by
  refine r_iload_n rfl dX11_needed_0 rfl ?_
  refine r_if_lt (tgt := 9) rfl rfl dX11_needed_1 (fun c51 => ?_) (fun c51 => ?_)
  · refine r_iconst (v := (-1)) rfl dX11_needed_9 (by decide) ?_
    refine r_goto (pc' := 24) rfl dX11_needed_10 ?_
    exact r_ret dX11_needed_24 (rt_i rfl) ⟨rfl, hS, (KR_rf RKb h), ⟨_, _, _, f24⟩, _, rfl⟩
  · refine r_iload_n rfl dX11_needed_4 rfl ?_
    refine r_iconst (v := 1) rfl dX11_needed_5 (by decide) ?_
    refine r_icmp_le (tgt := 13) rfl rfl dX11_needed_6 (fun c52 => ?_) (fun c52 => ?_)
    · refine r_iload_n rfl dX11_needed_13 rfl ?_
      refine r_aload_n rfl dX11_needed_14 rfl ?_
      refine r_getv 4 rfl dX11_needed_15 (show 2 ≤ 2 ∧ 2 < 434 by decide) h2 fl_X11_39 rfl ?_
      refine cl_X11_200 rfl rfl dX11_needed_18 (show 2 ≤ 24 ∧ 24 < 434 by decide).1 (show 2 ≤ 24 ∧ 24 < 434 by decide).2 f24 (Nat.le_of_ble_eq_true rfl) (EV.shKR rfl RKb_b RKb_d (x_X0_leastSet hS hc f24) hS (okl_1 (by decide))) ?_
      rintro _ h53 _ ⟨⟨rfl, hS54, -, ⟨kn56, bs57, bz58, f59⟩, x60, rfl⟩, -, -, hk55⟩
      have hF61 := hk55
      have f62 : h53 (2) = .inr (11, [.ref 3, .ref 5, .ref 12, .ref 13, .ref 24, .ref 93, .ref 95, .ref 96, .ref 97, .ref 98, .ref 99, .int cc, .int (nI k), .int sc, .int wr, .int el]) := (hk55 2 (by decide)).trans h2
      refine cl_X11_189 rfl rfl dX11_needed_21 (Nat.le_of_ble_eq_true rfl) s_X11_sizeOrSet ?_
      rintro _ h63 _ ⟨rfl, e64, rfl⟩
      replace e64 := e64.symm
      subst e64
      exact r_ret dX11_needed_24 (rt_i rfl) ⟨rfl, hS54, hF61, ⟨_, _, _, f59⟩, _, rfl⟩
    · refine r_iconst (v := (-1)) rfl dX11_needed_9 (by decide) ?_
      refine r_goto (pc' := 24) rfl dX11_needed_10 ?_
      exact r_ret dX11_needed_24 (rt_i rfl) ⟨rfl, hS, (KR_rf RKb h), ⟨_, _, _, f24⟩, _, rfl⟩

set_option maxRecDepth 20000 in
set_option maxHeartbeats 1000000 in
theorem n_X9_mark {xs : Nat → Int32} {L d : Nat} {h : ev_H} {s : Int64} {w : Int32} (hS : SH h) (f95 : h 95 = .inr (9, [.long s])) : EV xs L (d + 0) 0 0 M_X9_mark 434 h 0 [some (.ref 95), some (.int w)] [] (fun sz' h' r => sz' = 434 ∧ SH h' ∧ KM [95] h h' ∧ h' 95 = .inr (9, [.long (s + (w : Int32).toInt64)]) ∧ r = []) := by
  refine r_aload_n rfl dX9_mark_0 rfl ?_
  refine r_dup rfl dX9_mark_1 rfl ?_
  refine r_getv 0 rfl dX9_mark_2 (show 2 ≤ 95 ∧ 95 < 434 by decide) f95 fl_X9_7 rfl ?_
  refine r_iload_n rfl dX9_mark_5 rfl ?_
  refine r_i2l rfl dX9_mark_6 ?_
  refine r_ladd rfl dX9_mark_7 ?_
  refine e_put 0 (fs' := [.long (s + ((w : Int32).toInt64))]) rfl dX9_mark_8 (show 2 ≤ 95 ∧ 95 < 434 by decide) hS (KM_rf (Mod := [95]) _) (List.mem_singleton.mpr rfl) f95 (fp_X9_7 rfl _) (Nat.le_of_ble_eq_true rfl) rfl (fun h51 hS52 _ hN53 f54 => ?_)
  have hk55 : KM [95] h h51 := hN53
  have hF56 := KM_tr (KM_rf (Mod := [95]) h) hk55
  exact r_ret dX9_mark_11 (rt_v rfl) ⟨rfl, hS52, hF56, f54, rfl⟩
set_option maxRecDepth 20000 in
set_option maxHeartbeats 1000000 in
theorem n_X6_work {xs : Nat → Int32} {L d : Nat} {h : ev_H} {t i : Nat} {s : Int64} (hS : SH h) (ht : 2 ≤ t ∧ t < 434) (hi : i < 40) (f95 : h 95 = .inr (9, [.long s])) : EV xs L (d + 2) 0 0 M_X6_work 434 h 0 [some (.ref t), some (.ref (100 + 8 * i)), some (.ref 95)] [] (fun sz' h' r => sz' = 434 ∧ SH h' ∧ KM [95] h h' ∧ h' 95 = .inr (9, [.long (s + (1 : Int32).toInt64)]) ∧ ∃ x : Int32, r = [.int x]) := by
  refine r_aload_n rfl dX6_work_0 rfl ?_
  refine r_iconst (v := 1) rfl dX6_work_1 (by decide) ?_
  refine cl_X6_7 rfl rfl dX6_work_2 (show 2 ≤ 95 ∧ 95 < 434 by decide).1 (show 2 ≤ 95 ∧ 95 < 434 by decide).2 f95 (Nat.le_of_ble_eq_true rfl) (n_X9_mark hS f95) ?_
  rintro _ h51 _ ⟨rfl, hS52, hk53, f54, rfl⟩
  have hF55 := KM_tr (KM_rf (Mod := [95]) h) hk53
  refine r_aload_n rfl dX6_work_5 rfl ?_
  obtain ⟨y56, y57, y58, y59, y60, y61, f62⟩ := hS52.ln (i := i) (by omega)
  refine cl_X6_13 rfl rfl dX6_work_6 (show 2 ≤ 100 + 8 * i ∧ 100 + 8 * i < 434 by omega).1 (show 2 ≤ 100 + 8 * i ∧ 100 + 8 * i < 434 by omega).2 f62 (Nat.le_of_ble_eq_true rfl) (x_X3_literals hS52 (i := i) (by omega) f62) ?_
  rintro _ h63 _ ⟨rfl, e64, rfl⟩
  replace e64 := e64.symm
  subst e64
  exact r_ret dX6_work_9 (rt_i rfl) ⟨rfl, hS52, hF55, f54, _, rfl⟩
set_option maxRecDepth 20000 in
set_option maxHeartbeats 1000000 in
theorem n_X2_work {xs : Nat → Int32} {L d : Nat} {h : ev_H} {t i : Nat} {s : Int64} {cj : Nat} {q : vw_C} (hS : SH h) (ht : 2 ≤ t ∧ t < 434) (hi : i < 40) (hq : dp_cl[cj]? = some q) (ho : ∀ h' : ev_H, SH h' → h' t = .inr (cj, [])) (f95 : h 95 = .inr (9, [.long s])) : EV xs L (d + 3) 0 0 M_X2_work 434 h 0 [some (.ref t), some (.ref (100 + 8 * i)), some (.ref 95)] [] (fun sz' h' r => sz' = 434 ∧ SH h' ∧ KM [95] h h' ∧ h' 95 = .inr (9, [.long (s + (10 : Int32).toInt64 + (1 : Int32).toInt64)]) ∧ ∃ x : Int32, r = [.int x]) := by
  refine r_aload_n rfl dX2_work_0 rfl ?_
  refine r_bipush (v := 10) rfl dX2_work_1 (by decide) ?_
  refine cl_X2_7 rfl rfl dX2_work_3 (show 2 ≤ 95 ∧ 95 < 434 by decide).1 (show 2 ≤ 95 ∧ 95 < 434 by decide).2 f95 (Nat.le_of_ble_eq_true rfl) (n_X9_mark hS f95) ?_
  rintro _ h51 _ ⟨rfl, hS52, hk53, f54, rfl⟩
  have hF55 := KM_tr (KM_rf (Mod := [95]) h) hk53
  refine r_aload_n rfl dX2_work_6 rfl ?_
  refine r_aload_n rfl dX2_work_7 rfl ?_
  refine r_aload_n rfl dX2_work_8 rfl ?_
  refine cl_X2_13 rfl rfl dX2_work_9 ht.1 ht.2 (ho _ hS52) hq (Nat.le_of_ble_eq_true rfl) (n_X6_work hS52 ht (i := i) (by omega) f54) ?_
  rintro _ h56 _ ⟨rfl, hS57, hk58, f59, x60, rfl⟩
  have hF61 := KM_tr hF55 hk58
  refine r_aload_n rfl dX2_work_12 rfl ?_
  refine r_iconst (v := 0) rfl dX2_work_13 (by decide) ?_
  obtain ⟨y62, y63, y64, y65, y66, y67, f68⟩ := hS57.ln (i := i) (by omega)
  refine cl_X2_17 rfl rfl dX2_work_14 (show 2 ≤ 100 + 8 * i ∧ 100 + 8 * i < 434 by omega).1 (show 2 ≤ 100 + 8 * i ∧ 100 + 8 * i < 434 by omega).2 f68 (Nat.le_of_ble_eq_true rfl) (x_X3_sayingBy hS57 (i := i) (by omega)) ?_
  rintro _ h69 _ ⟨rfl, e70, j71, hj72, rfl⟩
  replace e70 := e70.symm
  subst e70
  obtain ⟨g73, hw74⟩ := hS57.ws (wsAt_ln (i := i) (w := j71) (by omega) hj72)
  refine cl_X2_23 rfl rfl dX2_work_17 (show _ ∧ _ from ⟨((wsAt_ln (i := i) (w := j71) (by omega) hj72)).2.2.1, Nat.lt_of_succ_lt ((wsAt_ln (i := i) (w := j71) (by omega) hj72)).2.2.2⟩).1 (show _ ∧ _ from ⟨((wsAt_ln (i := i) (w := j71) (by omega) hj72)).2.2.1, Nat.lt_of_succ_lt ((wsAt_ln (i := i) (w := j71) (by omega) hj72)).2.2.2⟩).2 hw74.2.2.1 (Nat.le_of_ble_eq_true rfl) (s_X10_size hw74) ?_
  rintro _ h75 _ ⟨rfl, e76, rfl⟩
  replace e76 := e76.symm
  subst e76
  refine r_iadd rfl dX2_work_20 ?_
  exact r_ret dX2_work_21 (rt_i rfl) ⟨rfl, hS57, hF61, f59, _, rfl⟩
set_option maxRecDepth 20000 in
set_option maxHeartbeats 1000000 in
theorem n_X5_work {xs : Nat → Int32} {L d : Nat} {h : ev_H} {t i : Nat} {s : Int64} {cj : Nat} {q : vw_C} (hS : SH h) (ht : 2 ≤ t ∧ t < 434) (hi : i < 40) (hq : dp_cl[cj]? = some q) (ho : ∀ h' : ev_H, SH h' → h' t = .inr (cj, [])) (f95 : h 95 = .inr (9, [.long s])) : EV xs L (d + 3) 0 0 M_X5_work 434 h 0 [some (.ref t), some (.ref (100 + 8 * i)), some (.ref 95)] [] (fun sz' h' r => sz' = 434 ∧ SH h' ∧ KM [95] h h' ∧ h' 95 = .inr (9, [.long (s + (100 : Int32).toInt64 + (1 : Int32).toInt64)]) ∧ ∃ x : Int32, r = [.int x]) := by
  refine r_aload_n rfl dX5_work_0 rfl ?_
  refine r_bipush (v := 100) rfl dX5_work_1 (by decide) ?_
  refine cl_X5_7 rfl rfl dX5_work_3 (show 2 ≤ 95 ∧ 95 < 434 by decide).1 (show 2 ≤ 95 ∧ 95 < 434 by decide).2 f95 (Nat.le_of_ble_eq_true rfl) (n_X9_mark hS f95) ?_
  rintro _ h51 _ ⟨rfl, hS52, hk53, f54, rfl⟩
  have hF55 := KM_tr (KM_rf (Mod := [95]) h) hk53
  refine r_iconst (v := 2) rfl dX5_work_6 (by decide) ?_
  refine r_aload_n rfl dX5_work_7 rfl ?_
  refine r_aload_n rfl dX5_work_8 rfl ?_
  refine r_aload_n rfl dX5_work_9 rfl ?_
  refine cl_X5_13 rfl rfl dX5_work_10 ht.1 ht.2 (ho _ hS52) hq (Nat.le_of_ble_eq_true rfl) (n_X6_work hS52 ht (i := i) (by omega) f54) ?_
  rintro _ h56 _ ⟨rfl, hS57, hk58, f59, x60, rfl⟩
  have hF61 := KM_tr hF55 hk58
  refine r_imul rfl dX5_work_13 ?_
  refine r_iconst (v := 1) rfl dX5_work_14 (by decide) ?_
  refine r_iadd rfl dX5_work_15 ?_
  exact r_ret dX5_work_16 (rt_i rfl) ⟨rfl, hS57, hF61, f59, _, rfl⟩
set_option maxRecDepth 20000 in
set_option maxHeartbeats 1000000 in
theorem n_X1_work {xs : Nat → Int32} {L d : Nat} {h : ev_H} {t i : Nat} {s : Int64} {cj : Nat} {q : vw_C} (hS : SH h) (ht : 2 ≤ t ∧ t < 434) (hi : i < 40) (hq : dp_cl[cj]? = some q) (ho : ∀ h' : ev_H, SH h' → h' t = .inr (cj, [])) (f95 : h 95 = .inr (9, [.long s])) : EV xs L (d + 4) 0 0 M_X1_work 434 h 0 [some (.ref t), some (.ref (100 + 8 * i)), some (.ref 95)] [] (fun sz' h' r => sz' = 434 ∧ SH h' ∧ KM [95] h h' ∧ h' 95 = .inr (9, [.long (s + (1000 : Int32).toInt64 + (10 : Int32).toInt64 + (1 : Int32).toInt64)]) ∧ ∃ x : Int32, r = [.int x]) := by
  refine r_aload_n rfl dX1_work_0 rfl ?_
  refine r_sipush (v := 1000) rfl dX1_work_1 (by decide) ?_
  refine cl_X1_7 rfl rfl dX1_work_4 (show 2 ≤ 95 ∧ 95 < 434 by decide).1 (show 2 ≤ 95 ∧ 95 < 434 by decide).2 f95 (Nat.le_of_ble_eq_true rfl) (n_X9_mark hS f95) ?_
  rintro _ h51 _ ⟨rfl, hS52, hk53, f54, rfl⟩
  have hF55 := KM_tr (KM_rf (Mod := [95]) h) hk53
  refine r_aload_n rfl dX1_work_7 rfl ?_
  refine r_aload_n rfl dX1_work_8 rfl ?_
  refine r_aload_n rfl dX1_work_9 rfl ?_
  refine cl_X1_13 rfl rfl dX1_work_10 ht.1 ht.2 (ho _ hS52) hq (Nat.le_of_ble_eq_true rfl) (n_X2_work hS52 ht (i := i) (by omega) hq ho f54) ?_
  rintro _ h56 _ ⟨rfl, hS57, hk58, f59, x60, rfl⟩
  have hF61 := KM_tr hF55 hk58
  refine r_iconst (v := 2) rfl dX1_work_13 (by decide) ?_
  refine r_idiv rfl dX1_work_14 (by decide) ?_
  exact r_ret dX1_work_15 (rt_i rfl) ⟨rfl, hS57, hF61, f59, _, rfl⟩
set_option maxRecDepth 20000 in
set_option maxHeartbeats 1000000 in
theorem n_X11_labour {xs : Nat → Int32} {L d : Nat} {h : ev_H} {k : Nat} {cc sc wr el : Int32} {x y : Int32} {s : Int64} (hS : SH h) (h2 : h 2 = c2 cc (nI k) sc wr el) (hk : k ≤ 40) (f95 : h 95 = .inr (9, [.long s])) : EV xs L (d + 5) 0 0 M_X11_labour 434 h 0 [some (.ref 2), some (.int x), some (.int y), none, none] [] (fun sz' h' r => sz' = 434 ∧ SH h' ∧ KM [95] h h' ∧ h' 95 = .inr (9, [.long (lbT x y k s)]) ∧ ∃ x : Int32, r = [.int x]) := by
  refine r_aload_n rfl dX11_labour_0 rfl ?_
  refine r_iload_n rfl dX11_labour_1 rfl ?_
  refine cl_X11_203 rfl rfl dX11_labour_2 (show 2 ≤ 2 ∧ 2 < 434 by decide).1 (show 2 ≤ 2 ∧ 2 < 434 by decide).2 h2 (Nat.le_of_ble_eq_true rfl) (x_X11_ruleOf hS h2 hk) ?_
  rintro _ h51 _ ⟨rfl, e52, ⟨q53, hq54, ex55, rfl⟩ | ⟨ho56, rfl⟩⟩
  · replace e52 := e52.symm
    subst e52
    obtain rfl | rfl | rfl | rfl : q53 = 0 ∨ q53 = 1 ∨ q53 = 2 ∨ q53 = 3 := by omega
    · subst ex55
      refine r_astore_n (ls' := [some (.ref 2), some (.int (nI 0)), some (.int y), some (.ref 96), none]) rfl dX11_labour_5 (Nat.le_of_ble_eq_true rfl) rfl ?_
      refine r_aload_n rfl dX11_labour_6 rfl ?_
      refine r_iload_n rfl dX11_labour_7 rfl ?_
      refine cl_X11_121 rfl rfl dX11_labour_8 (show 2 ≤ 2 ∧ 2 < 434 by decide).1 (show 2 ≤ 2 ∧ 2 < 434 by decide).2 h2 (Nat.le_of_ble_eq_true rfl) (x_X11_lineAt hS h2 hk) ?_
      rintro _ h57 _ ⟨rfl, e58, ⟨n59, hn60, ex61, rfl⟩ | ⟨hno62, rfl⟩⟩
      · replace e58 := e58.symm
        subst e58
        subst ex61
        refine r_astore (ls' := [some (.ref 2), some (.int (nI 0)), some (.int (nI n59)), some (.ref 96), some (.ref (100 + 8 * n59))]) rfl dX11_labour_11 (Nat.le_of_ble_eq_true rfl) rfl ?_
        refine r_aload_n rfl dX11_labour_13 rfl ?_
        refine r_ifnull rfl (by decide) dX11_labour_14 ?_
        refine r_aload rfl dX11_labour_17 rfl ?_
        refine r_ifnonnull (tgt := 26) rfl dX11_labour_19 ?_
        refine r_aload_n rfl dX11_labour_26 rfl ?_
        refine r_aload rfl dX11_labour_27 rfl ?_
        refine r_aload_n rfl dX11_labour_29 rfl ?_
        refine r_getv 6 rfl dX11_labour_30 (show 2 ≤ 2 ∧ 2 < 434 by decide) h2 fl_X11_53 rfl ?_
        refine cl_X11_207 rfl rfl dX11_labour_33 (show 2 ≤ 96 ∧ 96 < 434 by decide).1 (show 2 ≤ 96 ∧ 96 < 434 by decide).2 hS.o96 (Nat.le_of_ble_eq_true rfl) (n_X6_work (t := 96) hS (by decide) (i := n59) (by omega) f95) ?_
        rintro _ h63 _ ⟨rfl, hS64, hk65, f66, x67, rfl⟩
        have hF68 := KM_tr (KM_rf (Mod := [95]) h) hk65
        have f69 : h63 (2) = .inr (11, [.ref 3, .ref 5, .ref 12, .ref 13, .ref 24, .ref 93, .ref 95, .ref 96, .ref 97, .ref 98, .ref 99, .int cc, .int (nI k), .int sc, .int wr, .int el]) := (hk65 _ (by decide)).trans h2
        exact r_ret dX11_labour_36 (rt_i rfl) ⟨rfl, hS64, hF68, (by rw [lbT, if_neg (by decide), if_neg (inR_in hk hn60)]; rw [f66]; exact lab_0), _, rfl⟩
      · replace e58 := e58.symm
        subst e58
        refine r_astoreN (ls' := [some (.ref 2), some (.int (nI 0)), some (.int y), some (.ref 96), some (.null)]) rfl dX11_labour_11 (Nat.le_of_ble_eq_true rfl) rfl ?_
        refine r_aload_n rfl dX11_labour_13 rfl ?_
        refine r_ifnull rfl (by decide) dX11_labour_14 ?_
        refine r_aloadN rfl dX11_labour_17 rfl ?_
        refine r_ifnonnullN rfl (by decide) dX11_labour_19 ?_
        refine r_iconst (v := (-1)) rfl dX11_labour_22 (by decide) ?_
        refine r_goto (pc' := 36) rfl dX11_labour_23 ?_
        exact r_ret dX11_labour_36 (rt_i rfl) ⟨rfl, hS, (KM_rf (Mod := [95]) h), (by rw [lbT, if_neg (by decide), if_pos (inR_ln hk hno62)]; exact f95), _, rfl⟩
    · subst ex55
      refine r_astore_n (ls' := [some (.ref 2), some (.int (nI 1)), some (.int y), some (.ref 97), none]) rfl dX11_labour_5 (Nat.le_of_ble_eq_true rfl) rfl ?_
      refine r_aload_n rfl dX11_labour_6 rfl ?_
      refine r_iload_n rfl dX11_labour_7 rfl ?_
      refine cl_X11_121 rfl rfl dX11_labour_8 (show 2 ≤ 2 ∧ 2 < 434 by decide).1 (show 2 ≤ 2 ∧ 2 < 434 by decide).2 h2 (Nat.le_of_ble_eq_true rfl) (x_X11_lineAt hS h2 hk) ?_
      rintro _ h70 _ ⟨rfl, e71, ⟨n72, hn73, ex74, rfl⟩ | ⟨hno75, rfl⟩⟩
      · replace e71 := e71.symm
        subst e71
        subst ex74
        refine r_astore (ls' := [some (.ref 2), some (.int (nI 1)), some (.int (nI n72)), some (.ref 97), some (.ref (100 + 8 * n72))]) rfl dX11_labour_11 (Nat.le_of_ble_eq_true rfl) rfl ?_
        refine r_aload_n rfl dX11_labour_13 rfl ?_
        refine r_ifnull rfl (by decide) dX11_labour_14 ?_
        refine r_aload rfl dX11_labour_17 rfl ?_
        refine r_ifnonnull (tgt := 26) rfl dX11_labour_19 ?_
        refine r_aload_n rfl dX11_labour_26 rfl ?_
        refine r_aload rfl dX11_labour_27 rfl ?_
        refine r_aload_n rfl dX11_labour_29 rfl ?_
        refine r_getv 6 rfl dX11_labour_30 (show 2 ≤ 2 ∧ 2 < 434 by decide) h2 fl_X11_53 rfl ?_
        refine cl_X11_207_X2 rfl rfl dX11_labour_33 (show 2 ≤ 97 ∧ 97 < 434 by decide).1 (show 2 ≤ 97 ∧ 97 < 434 by decide).2 hS.o97 (Nat.le_of_ble_eq_true rfl) (n_X2_work (t := 97) hS (by decide) (i := n72) (by omega) (q := (RX2, TX2, 0)) rfl (fun _ z => z.o97) f95) ?_
        rintro _ h76 _ ⟨rfl, hS77, hk78, f79, x80, rfl⟩
        have hF81 := KM_tr (KM_rf (Mod := [95]) h) hk78
        have f82 : h76 (2) = .inr (11, [.ref 3, .ref 5, .ref 12, .ref 13, .ref 24, .ref 93, .ref 95, .ref 96, .ref 97, .ref 98, .ref 99, .int cc, .int (nI k), .int sc, .int wr, .int el]) := (hk78 _ (by decide)).trans h2
        exact r_ret dX11_labour_36 (rt_i rfl) ⟨rfl, hS77, hF81, (by rw [lbT, if_neg (by decide), if_neg (inR_in hk hn73)]; rw [f79]; exact lab_1), _, rfl⟩
      · replace e71 := e71.symm
        subst e71
        refine r_astoreN (ls' := [some (.ref 2), some (.int (nI 1)), some (.int y), some (.ref 97), some (.null)]) rfl dX11_labour_11 (Nat.le_of_ble_eq_true rfl) rfl ?_
        refine r_aload_n rfl dX11_labour_13 rfl ?_
        refine r_ifnull rfl (by decide) dX11_labour_14 ?_
        refine r_aloadN rfl dX11_labour_17 rfl ?_
        refine r_ifnonnullN rfl (by decide) dX11_labour_19 ?_
        refine r_iconst (v := (-1)) rfl dX11_labour_22 (by decide) ?_
        refine r_goto (pc' := 36) rfl dX11_labour_23 ?_
        exact r_ret dX11_labour_36 (rt_i rfl) ⟨rfl, hS, (KM_rf (Mod := [95]) h), (by rw [lbT, if_neg (by decide), if_pos (inR_ln hk hno75)]; exact f95), _, rfl⟩
    · subst ex55
      refine r_astore_n (ls' := [some (.ref 2), some (.int (nI 2)), some (.int y), some (.ref 98), none]) rfl dX11_labour_5 (Nat.le_of_ble_eq_true rfl) rfl ?_
      refine r_aload_n rfl dX11_labour_6 rfl ?_
      refine r_iload_n rfl dX11_labour_7 rfl ?_
      refine cl_X11_121 rfl rfl dX11_labour_8 (show 2 ≤ 2 ∧ 2 < 434 by decide).1 (show 2 ≤ 2 ∧ 2 < 434 by decide).2 h2 (Nat.le_of_ble_eq_true rfl) (x_X11_lineAt hS h2 hk) ?_
      rintro _ h83 _ ⟨rfl, e84, ⟨n85, hn86, ex87, rfl⟩ | ⟨hno88, rfl⟩⟩
      · replace e84 := e84.symm
        subst e84
        subst ex87
        refine r_astore (ls' := [some (.ref 2), some (.int (nI 2)), some (.int (nI n85)), some (.ref 98), some (.ref (100 + 8 * n85))]) rfl dX11_labour_11 (Nat.le_of_ble_eq_true rfl) rfl ?_
        refine r_aload_n rfl dX11_labour_13 rfl ?_
        refine r_ifnull rfl (by decide) dX11_labour_14 ?_
        refine r_aload rfl dX11_labour_17 rfl ?_
        refine r_ifnonnull (tgt := 26) rfl dX11_labour_19 ?_
        refine r_aload_n rfl dX11_labour_26 rfl ?_
        refine r_aload rfl dX11_labour_27 rfl ?_
        refine r_aload_n rfl dX11_labour_29 rfl ?_
        refine r_getv 6 rfl dX11_labour_30 (show 2 ≤ 2 ∧ 2 < 434 by decide) h2 fl_X11_53 rfl ?_
        refine cl_X11_207_X5 rfl rfl dX11_labour_33 (show 2 ≤ 98 ∧ 98 < 434 by decide).1 (show 2 ≤ 98 ∧ 98 < 434 by decide).2 hS.o98 (Nat.le_of_ble_eq_true rfl) (n_X5_work (t := 98) hS (by decide) (i := n85) (by omega) (q := (RX5, TX5, 0)) rfl (fun _ z => z.o98) f95) ?_
        rintro _ h89 _ ⟨rfl, hS90, hk91, f92, x93, rfl⟩
        have hF94 := KM_tr (KM_rf (Mod := [95]) h) hk91
        have f95 : h89 (2) = .inr (11, [.ref 3, .ref 5, .ref 12, .ref 13, .ref 24, .ref 93, .ref 95, .ref 96, .ref 97, .ref 98, .ref 99, .int cc, .int (nI k), .int sc, .int wr, .int el]) := (hk91 _ (by decide)).trans h2
        exact r_ret dX11_labour_36 (rt_i rfl) ⟨rfl, hS90, hF94, (by rw [lbT, if_neg (by decide), if_neg (inR_in hk hn86)]; rw [f92]; exact lab_2), _, rfl⟩
      · replace e84 := e84.symm
        subst e84
        refine r_astoreN (ls' := [some (.ref 2), some (.int (nI 2)), some (.int y), some (.ref 98), some (.null)]) rfl dX11_labour_11 (Nat.le_of_ble_eq_true rfl) rfl ?_
        refine r_aload_n rfl dX11_labour_13 rfl ?_
        refine r_ifnull rfl (by decide) dX11_labour_14 ?_
        refine r_aloadN rfl dX11_labour_17 rfl ?_
        refine r_ifnonnullN rfl (by decide) dX11_labour_19 ?_
        refine r_iconst (v := (-1)) rfl dX11_labour_22 (by decide) ?_
        refine r_goto (pc' := 36) rfl dX11_labour_23 ?_
        exact r_ret dX11_labour_36 (rt_i rfl) ⟨rfl, hS, (KM_rf (Mod := [95]) h), (by rw [lbT, if_neg (by decide), if_pos (inR_ln hk hno88)]; exact f95), _, rfl⟩
    · subst ex55
      refine r_astore_n (ls' := [some (.ref 2), some (.int (nI 3)), some (.int y), some (.ref 99), none]) rfl dX11_labour_5 (Nat.le_of_ble_eq_true rfl) rfl ?_
      refine r_aload_n rfl dX11_labour_6 rfl ?_
      refine r_iload_n rfl dX11_labour_7 rfl ?_
      refine cl_X11_121 rfl rfl dX11_labour_8 (show 2 ≤ 2 ∧ 2 < 434 by decide).1 (show 2 ≤ 2 ∧ 2 < 434 by decide).2 h2 (Nat.le_of_ble_eq_true rfl) (x_X11_lineAt hS h2 hk) ?_
      rintro _ h96 _ ⟨rfl, e97, ⟨n98, hn99, ex100, rfl⟩ | ⟨hno101, rfl⟩⟩
      · replace e97 := e97.symm
        subst e97
        subst ex100
        refine r_astore (ls' := [some (.ref 2), some (.int (nI 3)), some (.int (nI n98)), some (.ref 99), some (.ref (100 + 8 * n98))]) rfl dX11_labour_11 (Nat.le_of_ble_eq_true rfl) rfl ?_
        refine r_aload_n rfl dX11_labour_13 rfl ?_
        refine r_ifnull rfl (by decide) dX11_labour_14 ?_
        refine r_aload rfl dX11_labour_17 rfl ?_
        refine r_ifnonnull (tgt := 26) rfl dX11_labour_19 ?_
        refine r_aload_n rfl dX11_labour_26 rfl ?_
        refine r_aload rfl dX11_labour_27 rfl ?_
        refine r_aload_n rfl dX11_labour_29 rfl ?_
        refine r_getv 6 rfl dX11_labour_30 (show 2 ≤ 2 ∧ 2 < 434 by decide) h2 fl_X11_53 rfl ?_
        refine cl_X11_207_X1 rfl rfl dX11_labour_33 (show 2 ≤ 99 ∧ 99 < 434 by decide).1 (show 2 ≤ 99 ∧ 99 < 434 by decide).2 hS.o99 (Nat.le_of_ble_eq_true rfl) (n_X1_work (t := 99) hS (by decide) (i := n98) (by omega) (q := (RX1, TX1, 0)) rfl (fun _ z => z.o99) f95) ?_
        rintro _ h102 _ ⟨rfl, hS103, hk104, f105, x106, rfl⟩
        have hF107 := KM_tr (KM_rf (Mod := [95]) h) hk104
        have f108 : h102 (2) = .inr (11, [.ref 3, .ref 5, .ref 12, .ref 13, .ref 24, .ref 93, .ref 95, .ref 96, .ref 97, .ref 98, .ref 99, .int cc, .int (nI k), .int sc, .int wr, .int el]) := (hk104 _ (by decide)).trans h2
        exact r_ret dX11_labour_36 (rt_i rfl) ⟨rfl, hS103, hF107, (by rw [lbT, if_neg (by decide), if_neg (inR_in hk hn99)]; rw [f105]; exact lab_3), _, rfl⟩
      · replace e97 := e97.symm
        subst e97
        refine r_astoreN (ls' := [some (.ref 2), some (.int (nI 3)), some (.int y), some (.ref 99), some (.null)]) rfl dX11_labour_11 (Nat.le_of_ble_eq_true rfl) rfl ?_
        refine r_aload_n rfl dX11_labour_13 rfl ?_
        refine r_ifnull rfl (by decide) dX11_labour_14 ?_
        refine r_aloadN rfl dX11_labour_17 rfl ?_
        refine r_ifnonnullN rfl (by decide) dX11_labour_19 ?_
        refine r_iconst (v := (-1)) rfl dX11_labour_22 (by decide) ?_
        refine r_goto (pc' := 36) rfl dX11_labour_23 ?_
        exact r_ret dX11_labour_36 (rt_i rfl) ⟨rfl, hS, (KM_rf (Mod := [95]) h), (by rw [lbT, if_neg (by decide), if_pos (inR_ln hk hno101)]; exact f95), _, rfl⟩
  · replace e52 := e52.symm
    subst e52
    refine r_astore_nN (ls' := [some (.ref 2), some (.int x), some (.int y), some (.null), none]) rfl dX11_labour_5 (Nat.le_of_ble_eq_true rfl) rfl ?_
    refine r_aload_n rfl dX11_labour_6 rfl ?_
    refine r_iload_n rfl dX11_labour_7 rfl ?_
    refine cl_X11_121 rfl rfl dX11_labour_8 (show 2 ≤ 2 ∧ 2 < 434 by decide).1 (show 2 ≤ 2 ∧ 2 < 434 by decide).2 h2 (Nat.le_of_ble_eq_true rfl) (x_X11_lineAt hS h2 hk) ?_
    rintro _ h109 _ ⟨rfl, e110, ⟨n111, hn112, ex113, rfl⟩ | ⟨hno114, rfl⟩⟩
    · replace e110 := e110.symm
      subst e110
      subst ex113
      refine r_astore (ls' := [some (.ref 2), some (.int x), some (.int (nI n111)), some (.null), some (.ref (100 + 8 * n111))]) rfl dX11_labour_11 (Nat.le_of_ble_eq_true rfl) rfl ?_
      refine r_aload_nN rfl dX11_labour_13 rfl ?_
      refine r_ifnullN (tgt := 22) rfl dX11_labour_14 ?_
      refine r_iconst (v := (-1)) rfl dX11_labour_22 (by decide) ?_
      refine r_goto (pc' := 36) rfl dX11_labour_23 ?_
      exact r_ret dX11_labour_36 (rt_i rfl) ⟨rfl, hS, (KM_rf (Mod := [95]) h), (by rw [lbT, if_pos (inR_out ho56)]; exact f95), _, rfl⟩
    · replace e110 := e110.symm
      subst e110
      refine r_astoreN (ls' := [some (.ref 2), some (.int x), some (.int y), some (.null), some (.null)]) rfl dX11_labour_11 (Nat.le_of_ble_eq_true rfl) rfl ?_
      refine r_aload_nN rfl dX11_labour_13 rfl ?_
      refine r_ifnullN (tgt := 22) rfl dX11_labour_14 ?_
      refine r_iconst (v := (-1)) rfl dX11_labour_22 (by decide) ?_
      refine r_goto (pc' := 36) rfl dX11_labour_23 ?_
      exact r_ret dX11_labour_36 (rt_i rfl) ⟨rfl, hS, (KM_rf (Mod := [95]) h), (by rw [lbT, if_pos (inR_out ho56)]; exact f95), _, rfl⟩
