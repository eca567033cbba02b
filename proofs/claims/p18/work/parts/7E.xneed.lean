set_option maxRecDepth 20000 in
set_option maxHeartbeats 1000000 in
theorem x_X0_keep {xs : Nat → Int32} {L d : Nat} {h : ev_H} {c : Nat} {kn bs bz : Int32} {a b : Int32} (hS : SH h) (hc : c ≤ 16) (f24 : h 24 = c24 (nI c) kn bs bz) : EV xs L (d + 0) 0 0 M_X0_keep 434 h 0 [some (.ref 24), some (.int a), some (.int b)] [] (fun sz' h' r => sz' = 434 ∧ SH h' ∧ KX [24] h h' ∧ (∃ kn bs bz, h' 24 = c24 (nI c) kn bs bz) ∧ r = []) := by
  refine r_iload_n rfl dX0_keep_0 rfl ?_
  refine r_aload_n rfl dX0_keep_1 rfl ?_
  refine r_getv 5 rfl dX0_keep_2 (show 2 ≤ 24 ∧ 24 < 434 by decide) f24 fl_X0_44 rfl ?_
  refine r_icmp_lt (tgt := 24) rfl rfl dX0_keep_5 (fun c51 => ?_) (fun c51 => ?_)
  · refine r_aload_n rfl dX0_keep_24 rfl ?_
    refine r_iload_n rfl dX0_keep_25 rfl ?_
    refine e_put 4 (fs' := [.ref 25, .ref 26, .int (nI c), .int kn, .int b, .int bz]) rfl dX0_keep_26 (show 2 ≤ 24 ∧ 24 < 434 by decide) hS (KM_rf (Mod := [24]) _) (List.mem_singleton.mpr rfl) f24 (fp_X0_41 rfl _) (Nat.le_of_ble_eq_true rfl) rfl (fun h52 hS53 _ hN54 f55 => ?_)
    have hk56 : KX [24] h h52 := KX_M (fun _ z => z) hN54
    have hF57 := KX_tr (KX_rf (l := [24]) h) (KX_sb (l := [24]) (by first | decide | exact fun _ z => z | simp) hk56)
    refine r_aload_n rfl dX0_keep_29 rfl ?_
    refine r_iload_n rfl dX0_keep_30 rfl ?_
    refine e_put 5 (fs' := [.ref 25, .ref 26, .int (nI c), .int kn, .int b, .int a]) rfl dX0_keep_31 (show 2 ≤ 24 ∧ 24 < 434 by decide) hS53 (KM_rf (Mod := [24]) _) (List.mem_singleton.mpr rfl) f55 (fp_X0_44 rfl _) (Nat.le_of_ble_eq_true rfl) rfl (fun h58 hS59 _ hN60 f61 => ?_)
    have hk62 : KX [24] h52 h58 := KX_M (fun _ z => z) hN60
    have hF63 := KX_tr hF57 (KX_sb (l := [24]) (by first | decide | exact fun _ z => z | simp) hk62)
    exact r_ret dX0_keep_34 (rt_v rfl) ⟨rfl, hS59, hF63, ⟨_, _, _, f61⟩, rfl⟩
  · refine r_iload_n rfl dX0_keep_8 rfl ?_
    refine r_aload_n rfl dX0_keep_9 rfl ?_
    refine r_getv 5 rfl dX0_keep_10 (show 2 ≤ 24 ∧ 24 < 434 by decide) f24 fl_X0_44 rfl ?_
    refine r_icmp_ne (tgt := 34) rfl rfl dX0_keep_13 (fun c64 => ?_) (fun c64 => ?_)
    · exact r_ret dX0_keep_34 (rt_v rfl) ⟨rfl, hS, (KX_rf (l := [24]) h), ⟨_, _, _, f24⟩, rfl⟩
    · refine r_iload_n rfl dX0_keep_16 rfl ?_
      refine r_aload_n rfl dX0_keep_17 rfl ?_
      refine r_getv 4 rfl dX0_keep_18 (show 2 ≤ 24 ∧ 24 < 434 by decide) f24 fl_X0_41 rfl ?_
      refine r_icmp_ge (tgt := 34) rfl rfl dX0_keep_21 (fun c65 => ?_) (fun c65 => ?_)
      · exact r_ret dX0_keep_34 (rt_v rfl) ⟨rfl, hS, (KX_rf (l := [24]) h), ⟨_, _, _, f24⟩, rfl⟩
      · refine r_aload_n rfl dX0_keep_24 rfl ?_
        refine r_iload_n rfl dX0_keep_25 rfl ?_
        refine e_put 4 (fs' := [.ref 25, .ref 26, .int (nI c), .int kn, .int b, .int bz]) rfl dX0_keep_26 (show 2 ≤ 24 ∧ 24 < 434 by decide) hS (KM_rf (Mod := [24]) _) (List.mem_singleton.mpr rfl) f24 (fp_X0_41 rfl _) (Nat.le_of_ble_eq_true rfl) rfl (fun h66 hS67 _ hN68 f69 => ?_)
        have hk70 : KX [24] h h66 := KX_M (fun _ z => z) hN68
        have hF71 := KX_tr (KX_rf (l := [24]) h) (KX_sb (l := [24]) (by first | decide | exact fun _ z => z | simp) hk70)
        refine r_aload_n rfl dX0_keep_29 rfl ?_
        refine r_iload_n rfl dX0_keep_30 rfl ?_
        refine e_put 5 (fs' := [.ref 25, .ref 26, .int (nI c), .int kn, .int b, .int a]) rfl dX0_keep_31 (show 2 ≤ 24 ∧ 24 < 434 by decide) hS67 (KM_rf (Mod := [24]) _) (List.mem_singleton.mpr rfl) f69 (fp_X0_44 rfl _) (Nat.le_of_ble_eq_true rfl) rfl (fun h72 hS73 _ hN74 f75 => ?_)
        have hk76 : KX [24] h66 h72 := KX_M (fun _ z => z) hN74
        have hF77 := KX_tr hF71 (KX_sb (l := [24]) (by first | decide | exact fun _ z => z | simp) hk76)
        exact r_ret dX0_keep_34 (rt_v rfl) ⟨rfl, hS73, hF77, ⟨_, _, _, f75⟩, rfl⟩
set_option maxRecDepth 20000 in
set_option maxHeartbeats 1000000 in
theorem x_ac_z {xs : Nat → Int32} {L d : Nat} {h : ev_H} {h0 : ev_H} {k : Nat} {c : Nat} {kn bs bz : Int32} (hS : SH h) (hc : c ≤ 16) (f24 : h 24 = c24 (nI c) kn bs bz) (hF : KX [24] h0 h) (hk : k = c) : EV xs L (d + 2) 0 0 M_X0_allClash 434 h 11 [some (.ref 24), some (.int (nI k))] [] (fun sz' h' r => sz' = 434 ∧ SH h' ∧ KX [24] h0 h' ∧ (∃ kn bs bz, h' 24 = c24 (nI c) kn bs bz) ∧ ∃ x : Int32, r = [.int x]) := by
  refine r_iload_n rfl dX0_allClash_11 rfl ?_
  refine r_aload_n rfl dX0_allClash_12 rfl ?_
  refine r_getv 2 rfl dX0_allClash_13 (show 2 ≤ 24 ∧ 24 < 434 by decide) f24 fl_X0_27 rfl ?_
  refine r_icmp_ge (tgt := 40) rfl rfl dX0_allClash_16 (fun _ => ?_) (fun zc => absurd (show nI c ≤ nI k from nI_le (a := c) (b := k) (by omega) (by omega)) zc)
  refine r_aload_n rfl dX0_allClash_40 rfl ?_
  refine r_getv 1 rfl dX0_allClash_41 (show 2 ≤ 24 ∧ 24 < 434 by decide) f24 fl_X0_17 rfl ?_
  refine r_iconst (v := 0) rfl dX0_allClash_44 (by decide) ?_
  refine r_aald (jn := 0) (v := .ref (59 + 2 * 0)) rfl dX0_allClash_45 (show 2 ≤ 26 ∧ 26 < 434 by decide).1 (show 2 ≤ 26 ∧ 26 < 434 by decide).2 hS.o26 (by decide) (vp_in_nI (n := 0) (by omega) (by decide)) (nI_clamp (n := 0) (by omega)) (by show va_rf (if _ < _ then _ else _) = _; rw [if_pos (show 0 < 17 by omega)]; rfl) ?_
  obtain ⟨g51, hw52⟩ := hS.ws (wsAt_open (j := 0) (by omega))
  refine cl_X0_62 rfl rfl dX0_allClash_46 (show _ ∧ _ from ⟨((wsAt_open (j := 0) (by omega))).2.2.1, Nat.lt_of_succ_lt ((wsAt_open (j := 0) (by omega))).2.2.2⟩).1 (show _ ∧ _ from ⟨((wsAt_open (j := 0) (by omega))).2.2.1, Nat.lt_of_succ_lt ((wsAt_open (j := 0) (by omega))).2.2.2⟩).2 hw52.2.2.1 (Nat.le_of_ble_eq_true rfl) (s_X10_leastWorld hw52) ?_
  rintro _ h53 _ ⟨rfl, e54, rfl⟩
  replace e54 := e54.symm
  subst e54
  refine r_if_ge (tgt := 56) rfl rfl dX0_allClash_49 (fun c55 => ?_) (fun c55 => ?_)
  · refine r_iconst (v := 0) rfl dX0_allClash_56 (by decide) ?_
    exact r_ret dX0_allClash_57 (rt_z rfl (Or.inl rfl)) ⟨rfl, hS, hF, ⟨_, _, _, f24⟩, _, rfl⟩
  · refine r_iconst (v := 1) rfl dX0_allClash_52 (by decide) ?_
    refine r_goto (pc' := 57) rfl dX0_allClash_53 ?_
    exact r_ret dX0_allClash_57 (rt_z rfl (Or.inr rfl)) ⟨rfl, hS, hF, ⟨_, _, _, f24⟩, _, rfl⟩
set_option maxRecDepth 20000 in
set_option maxHeartbeats 1000000 in
theorem x_ac_s {xs : Nat → Int32} {L d : Nat} {h : ev_H} {h0 : ev_H} {k : Nat} {c : Nat} {kn bs bz : Int32} (hS : SH h) (hc : c ≤ 16) (f24 : h 24 = c24 (nI c) kn bs bz) (hF : KX [24] h0 h) (hk : k < c) (ih : ∀ (h' : ev_H), SH h' → h' 24 = c24 (nI c) kn bs bz → KX [24] h0 h' → EV xs L (d + 2) 0 0 M_X0_allClash 434 h' 11 [some (.ref 24), some (.int (nI (k + 1)))] [] (fun sz' h' r => sz' = 434 ∧ SH h' ∧ KX [24] h0 h' ∧ (∃ kn bs bz, h' 24 = c24 (nI c) kn bs bz) ∧ ∃ x : Int32, r = [.int x])) : EV xs L (d + 2) 0 0 M_X0_allClash 434 h 11 [some (.ref 24), some (.int (nI k))] [] (fun sz' h' r => sz' = 434 ∧ SH h' ∧ KX [24] h0 h' ∧ (∃ kn bs bz, h' 24 = c24 (nI c) kn bs bz) ∧ ∃ x : Int32, r = [.int x]) := by
  refine r_iload_n rfl dX0_allClash_11 rfl ?_
  refine r_aload_n rfl dX0_allClash_12 rfl ?_
  refine r_getv 2 rfl dX0_allClash_13 (show 2 ≤ 24 ∧ 24 < 434 by decide) f24 fl_X0_27 rfl ?_
  refine r_icmp_ge (tgt := 40) rfl rfl dX0_allClash_16 (fun zc => absurd zc (show ¬ nI c ≤ nI k from nI_ge (a := k) (b := c) (by omega) (by omega))) (fun _ => ?_)
  refine r_aload_n rfl dX0_allClash_19 rfl ?_
  refine r_getv 1 rfl dX0_allClash_20 (show 2 ≤ 24 ∧ 24 < 434 by decide) f24 fl_X0_17 rfl ?_
  refine r_iconst (v := 0) rfl dX0_allClash_23 (by decide) ?_
  refine r_aald (jn := 0) (v := .ref (59 + 2 * 0)) rfl dX0_allClash_24 (show 2 ≤ 26 ∧ 26 < 434 by decide).1 (show 2 ≤ 26 ∧ 26 < 434 by decide).2 hS.o26 (by decide) (vp_in_nI (n := 0) (by omega) (by decide)) (nI_clamp (n := 0) (by omega)) (by show va_rf (if _ < _ then _ else _) = _; rw [if_pos (show 0 < 17 by omega)]; rfl) ?_
  refine r_aload_n rfl dX0_allClash_25 rfl ?_
  refine r_getv 0 rfl dX0_allClash_26 (show 2 ≤ 24 ∧ 24 < 434 by decide) f24 fl_X0_11 rfl ?_
  refine r_iload_n rfl dX0_allClash_29 rfl ?_
  refine r_aald (jn := k) (v := .ref (27 + 2 * k)) rfl dX0_allClash_30 (show 2 ≤ 25 ∧ 25 < 434 by decide).1 (show 2 ≤ 25 ∧ 25 < 434 by decide).2 hS.o25 (by decide) (vp_in_nI (n := k) (by omega) (by decide)) (nI_clamp (n := k) (by omega)) (by show va_rf (if _ < _ then _ else _) = _; rw [if_pos (show k < 16 by omega)]; rfl) ?_
  obtain ⟨g51, hw52⟩ := hS.ws (wsAt_open (j := 0) (by omega))
  obtain ⟨g53, hw54⟩ := hS.ws (wsAt_hold (j := k) (by omega))
  refine cl_X0_58 rfl rfl dX0_allClash_31 (show _ ∧ _ from ⟨((wsAt_open (j := 0) (by omega))).2.2.1, Nat.lt_of_succ_lt ((wsAt_open (j := 0) (by omega))).2.2.2⟩).1 (show _ ∧ _ from ⟨((wsAt_open (j := 0) (by omega))).2.2.1, Nat.lt_of_succ_lt ((wsAt_open (j := 0) (by omega))).2.2.2⟩).2 hw52.2.2.1 (Nat.le_of_ble_eq_true rfl) (s_X10_meet hw52 hw54 (by omega)) ?_
  rintro _ h55 _ ⟨rfl, eh56, rfl⟩
  have hS57 := SH_p hS (wsAt_open (j := 0) (by omega)) eh56
  have hk58 : KX [] h h55 := KX_p (wsAt_open (j := 0) (by omega)) eh56
  have hF59 := KX_tr hF (KX_sb (l := [24]) (by first | decide | exact fun _ z => z | simp) hk58)
  have f60 : h55 (24) = .inr (0, [.ref 25, .ref 26, .int (nI c), .int kn, .int bs, .int bz]) := (hk58 _ (by decide) nSP_24).trans f24
  refine r_iinc (y := nI (k + 1)) (ls' := [some (.ref 24), some (.int (nI (k + 1)))]) rfl dX0_allClash_34 rfl (nI_1 k) (Nat.le_of_ble_eq_true rfl) rfl ?_
  refine r_goto (pc' := 11) rfl dX0_allClash_37 ?_
  exact ih h55 hS57 f60 hF59
theorem x_ac {xs : Nat → Int32} {L d : Nat} {h0 : ev_H} {c : Nat} {kn bs bz : Int32} (hc : c ≤ 16) : ∀ (n k : Nat) (h : ev_H), k + n = c → SH h → h 24 = c24 (nI c) kn bs bz → KX [24] h0 h → EV xs L (d + 2) 0 0 M_X0_allClash 434 h 11 [some (.ref 24), some (.int (nI k))] [] (fun sz' h' r => sz' = 434 ∧ SH h' ∧ KX [24] h0 h' ∧ (∃ kn bs bz, h' 24 = c24 (nI c) kn bs bz) ∧ ∃ x : Int32, r = [.int x]) := by
  intro n
  induction n with
  | zero => intro k h hk hS f24 hF; exact x_ac_z hS hc f24 hF (by omega)
  | succ n ih => intro k h hk hS f24 hF; exact x_ac_s hS hc f24 hF (by omega) (fun h' q1 q2 q3 => ih (k + 1) h' (by omega) q1 q2 q3)
set_option maxRecDepth 20000 in
set_option maxHeartbeats 1000000 in
theorem x_X0_allClash {xs : Nat → Int32} {L d : Nat} {h : ev_H} {c : Nat} {kn bs bz : Int32} (hS : SH h) (hc : c ≤ 16) (f24 : h 24 = c24 (nI c) kn bs bz) : EV xs L (d + 2) 0 0 M_X0_allClash 434 h 0 [some (.ref 24), none] [] (fun sz' h' r => sz' = 434 ∧ SH h' ∧ KX [24] h h' ∧ (∃ kn bs bz, h' 24 = c24 (nI c) kn bs bz) ∧ ∃ x : Int32, r = [.int x]) := by
  refine r_aload_n rfl dX0_allClash_0 rfl ?_
  refine r_getv 1 rfl dX0_allClash_1 (show 2 ≤ 24 ∧ 24 < 434 by decide) f24 fl_X0_17 rfl ?_
  refine r_iconst (v := 0) rfl dX0_allClash_4 (by decide) ?_
  refine r_aald (jn := 0) (v := .ref (59 + 2 * 0)) rfl dX0_allClash_5 (show 2 ≤ 26 ∧ 26 < 434 by decide).1 (show 2 ≤ 26 ∧ 26 < 434 by decide).2 hS.o26 (by decide) (vp_in_nI (n := 0) (by omega) (by decide)) (nI_clamp (n := 0) (by omega)) (by show va_rf (if _ < _ then _ else _) = _; rw [if_pos (show 0 < 17 by omega)]; rfl) ?_
  obtain ⟨g51, hw52⟩ := hS.ws (wsAt_open (j := 0) (by omega))
  refine cl_X0_51 rfl rfl dX0_allClash_6 (show _ ∧ _ from ⟨((wsAt_open (j := 0) (by omega))).2.2.1, Nat.lt_of_succ_lt ((wsAt_open (j := 0) (by omega))).2.2.2⟩).1 (show _ ∧ _ from ⟨((wsAt_open (j := 0) (by omega))).2.2.1, Nat.lt_of_succ_lt ((wsAt_open (j := 0) (by omega))).2.2.2⟩).2 hw52.2.2.1 (Nat.le_of_ble_eq_true rfl) (s_X10_fill hw52) ?_
  rintro _ h53 _ ⟨rfl, eh54, rfl⟩
  have hS55 := SH_p hS (wsAt_open (j := 0) (by omega)) eh54
  have hk56 : KX [] h h53 := KX_p (wsAt_open (j := 0) (by omega)) eh54
  have hF57 := KX_tr (KX_rf (l := [24]) h) (KX_sb (l := [24]) (by first | decide | exact fun _ z => z | simp) hk56)
  have f58 : h53 (24) = .inr (0, [.ref 25, .ref 26, .int (nI c), .int kn, .int bs, .int bz]) := (hk56 _ (by decide) nSP_24).trans f24
  refine r_iconst (v := 0) rfl dX0_allClash_9 (by decide) ?_
  refine r_istore_n (ls' := [some (.ref 24), some (.int 0)]) rfl dX0_allClash_10 (Nat.le_of_ble_eq_true rfl) rfl ?_
  exact x_ac hc c 0 h53 (by omega) hS55 f58 hF57
set_option maxRecDepth 20000 in
set_option maxHeartbeats 1000000 in
theorem x_ch_z {xs : Nat → Int32} {L d : Nat} {h : ev_H} {h0 : ev_H} {k m i : Nat} {ch br wd cl : Int32} {u : Option Value} {c : Nat} {kn bs bz : Int32} (hS : SH h) (hc : c ≤ 16) (f24 : h 24 = c24 (nI c) kn bs bz) (hF : KX [24] h0 h) (hk : k + (m + 1) = 17) (hi : i = c) : EV xs L (d + (m + 4)) 0 0 M_X0_choose 434 h 50 [some (.ref 24), some (.int (nI k)), some (.int ch), some (.int br), some (.int wd), some (.int cl), some (.int (nI i)), u] [] (fun sz' h' r => sz' = 434 ∧ SH h' ∧ KX [24] h0 h' ∧ (∃ kn bs bz, h' 24 = c24 (nI c) kn bs bz) ∧ r = []) := by
  refine r_iload rfl dX0_choose_50 rfl ?_
  refine r_aload_n rfl dX0_choose_52 rfl ?_
  refine r_getv 2 rfl dX0_choose_53 (show 2 ≤ 24 ∧ 24 < 434 by decide) f24 fl_X0_27 rfl ?_
  refine r_icmp_ge (tgt := 155) rfl rfl dX0_choose_56 (fun _ => ?_) (fun zc => absurd (show nI c ≤ nI i from nI_le (a := c) (b := i) (by omega) (by omega)) zc)
  exact r_ret dX0_choose_155 (rt_v rfl) ⟨rfl, hS, hF, ⟨_, _, _, f24⟩, rfl⟩
set_option maxRecDepth 20000 in
set_option maxHeartbeats 1000000 in
theorem x_ch_s {xs : Nat → Int32} {L d : Nat} {h : ev_H} {h0 : ev_H} {k m i : Nat} {ch br wd cl : Int32} {u : Option Value} {c : Nat} {kn bs bz : Int32} (hS : SH h) (hc : c ≤ 16) (f24 : h 24 = c24 (nI c) kn bs bz) (hF : KX [24] h0 h) (hk : k + (m + 1) = 17) (hi : i < c) (rc : ∀ (h' : ev_H) (kn' bs' bz' ch' br' : Int32), SH h' → h' 24 = c24 (nI c) kn' bs' bz' → EV xs L (d + (m + 3)) 0 0 M_X0_choose 434 h' 0 [some (.ref 24), some (.int (nI (k + 1))), some (.int ch'), some (.int br'), none, none, none, none] [] (fun sz' h'' r => sz' = 434 ∧ SH h'' ∧ KX [24] h' h'' ∧ (∃ kn bs bz, h'' 24 = c24 (nI c) kn bs bz) ∧ r = [])) (ih : ∀ (h' : ev_H) (kn' bs' bz' cl' : Int32) (u' : Option Value), SH h' → h' 24 = c24 (nI c) kn' bs' bz' → KX [24] h0 h' → EV xs L (d + (m + 4)) 0 0 M_X0_choose 434 h' 50 [some (.ref 24), some (.int (nI k)), some (.int ch), some (.int br), some (.int wd), some (.int cl'), some (.int (nI (i + 1))), u'] [] (fun sz' h' r => sz' = 434 ∧ SH h' ∧ KX [24] h0 h' ∧ (∃ kn bs bz, h' 24 = c24 (nI c) kn bs bz) ∧ r = [])) : EV xs L (d + (m + 4)) 0 0 M_X0_choose 434 h 50 [some (.ref 24), some (.int (nI k)), some (.int ch), some (.int br), some (.int wd), some (.int cl), some (.int (nI i)), u] [] (fun sz' h' r => sz' = 434 ∧ SH h' ∧ KX [24] h0 h' ∧ (∃ kn bs bz, h' 24 = c24 (nI c) kn bs bz) ∧ r = []) := by
  refine r_iload rfl dX0_choose_50 rfl ?_
  refine r_aload_n rfl dX0_choose_52 rfl ?_
  refine r_getv 2 rfl dX0_choose_53 (show 2 ≤ 24 ∧ 24 < 434 by decide) f24 fl_X0_27 rfl ?_
  refine r_icmp_ge (tgt := 155) rfl rfl dX0_choose_56 (fun zc => absurd zc (show ¬ nI c ≤ nI i from nI_ge (a := i) (b := c) (by omega) (by omega))) (fun _ => ?_)
  refine r_iload_n rfl dX0_choose_59 rfl ?_
  refine r_bipush (v := 16) rfl dX0_choose_60 (by decide) ?_
  refine r_icmp_ge (tgt := 155) rfl rfl dX0_choose_62 (fun c51 => ?_) (fun c51 => ?_)
  · have q52 : 16 ≤ k := (nI_leI (a := 16) (b := k) (by omega) (by omega)).mp c51
    exact r_ret dX0_choose_155 (rt_v rfl) ⟨rfl, hS, hF, ⟨_, _, _, f24⟩, rfl⟩
  · have q53 : ¬ 16 ≤ k := fun z => c51 ((nI_leI (a := 16) (b := k) (by omega) (by omega)).mpr z)
    refine r_iconst (v := 1) rfl dX0_choose_65 (by decide) ?_
    refine r_iload rfl dX0_choose_66 rfl ?_
    refine r_ishl rfl dX0_choose_68 ?_
    refine r_topi (fun x54 e55 => ?_)
    refine r_istore (ls' := [some (.ref 24), some (.int (nI k)), some (.int ch), some (.int br), some (.int wd), some (.int cl), some (.int (nI i)), some (.int x54)]) rfl dX0_choose_69 (Nat.le_of_ble_eq_true rfl) rfl ?_
    refine r_iload rfl dX0_choose_71 rfl ?_
    refine r_iload rfl dX0_choose_73 rfl ?_
    refine r_iand rfl dX0_choose_75 ?_
    refine r_if_ne (tgt := 149) rfl rfl dX0_choose_76 (fun c56 => ?_) (fun c56 => ?_)
    · refine r_iinc (y := nI (i + 1)) (ls' := [some (.ref 24), some (.int (nI k)), some (.int ch), some (.int br), some (.int wd), some (.int cl), some (.int (nI (i + 1))), some (.int x54)]) rfl dX0_choose_149 rfl (nI_1 i) (Nat.le_of_ble_eq_true rfl) rfl ?_
      refine r_goto (pc' := 50) rfl dX0_choose_152 ?_
      exact ih h _ _ _ _ _ hS f24 hF
    · refine r_aload_n rfl dX0_choose_79 rfl ?_
      refine r_getv 0 rfl dX0_choose_80 (show 2 ≤ 24 ∧ 24 < 434 by decide) f24 fl_X0_11 rfl ?_
      refine r_iload rfl dX0_choose_83 rfl ?_
      refine r_aald (jn := i) (v := .ref (27 + 2 * i)) rfl dX0_choose_85 (show 2 ≤ 25 ∧ 25 < 434 by decide).1 (show 2 ≤ 25 ∧ 25 < 434 by decide).2 hS.o25 (by decide) (vp_in_nI (n := i) (by omega) (by decide)) (nI_clamp (n := i) (by omega)) (by show va_rf (if _ < _ then _ else _) = _; rw [if_pos (show i < 16 by omega)]; rfl) ?_
      refine r_iload rfl dX0_choose_86 rfl ?_
      obtain ⟨g57, hw58⟩ := hS.ws (wsAt_hold (j := i) (by omega))
      refine cl_X0_70 rfl rfl dX0_choose_88 (show _ ∧ _ from ⟨((wsAt_hold (j := i) (by omega))).2.2.1, Nat.lt_of_succ_lt ((wsAt_hold (j := i) (by omega))).2.2.2⟩).1 (show _ ∧ _ from ⟨((wsAt_hold (j := i) (by omega))).2.2.1, Nat.lt_of_succ_lt ((wsAt_hold (j := i) (by omega))).2.2.2⟩).2 hw58.2.2.1 (Nat.le_of_ble_eq_true rfl) (s_X10_has hw58) ?_
      rintro _ h59 _ ⟨rfl, e60, rfl⟩
      replace e60 := e60.symm
      subst e60
      refine r_if_ne (tgt := 149) rfl rfl dX0_choose_91 (fun c61 => ?_) (fun c61 => ?_)
      · refine r_iinc (y := nI (i + 1)) (ls' := [some (.ref 24), some (.int (nI k)), some (.int ch), some (.int br), some (.int wd), some (.int cl), some (.int (nI (i + 1))), some (.int x54)]) rfl dX0_choose_149 rfl (nI_1 i) (Nat.le_of_ble_eq_true rfl) rfl ?_
        refine r_goto (pc' := 50) rfl dX0_choose_152 ?_
        exact ih h _ _ _ _ _ hS f24 hF
      · refine r_aload_n rfl dX0_choose_94 rfl ?_
        refine r_getv 1 rfl dX0_choose_95 (show 2 ≤ 24 ∧ 24 < 434 by decide) f24 fl_X0_17 rfl ?_
        refine r_iload_n rfl dX0_choose_98 rfl ?_
        refine r_iconst (v := 1) rfl dX0_choose_99 (by decide) ?_
        refine r_iadd rfl dX0_choose_100 ?_
        refine r_eqi (y := nI (k + 1)) (show (nI k) + 1 = nI (k + 1) from nI_add k 1) ?_
        refine r_aald (jn := k + 1) (v := .ref (59 + 2 * (k + 1))) rfl dX0_choose_101 (show 2 ≤ 26 ∧ 26 < 434 by decide).1 (show 2 ≤ 26 ∧ 26 < 434 by decide).2 hS.o26 (by decide) (vp_in_nI (n := k + 1) (by omega) (by decide)) (nI_clamp (n := k + 1) (by omega)) (by show va_rf (if _ < _ then _ else _) = _; rw [if_pos (show k + 1 < 17 by omega)]; rfl) ?_
        refine r_aload_n rfl dX0_choose_102 rfl ?_
        refine r_getv 1 rfl dX0_choose_103 (show 2 ≤ 24 ∧ 24 < 434 by decide) f24 fl_X0_17 rfl ?_
        refine r_iload_n rfl dX0_choose_106 rfl ?_
        refine r_aald (jn := k) (v := .ref (59 + 2 * k)) rfl dX0_choose_107 (show 2 ≤ 26 ∧ 26 < 434 by decide).1 (show 2 ≤ 26 ∧ 26 < 434 by decide).2 hS.o26 (by decide) (vp_in_nI (n := k) (by omega) (by decide)) (nI_clamp (n := k) (by omega)) (by show va_rf (if _ < _ then _ else _) = _; rw [if_pos (show k < 17 by omega)]; rfl) ?_
        obtain ⟨g62, hw63⟩ := hS.ws (wsAt_open (j := k + 1) (by omega))
        obtain ⟨g64, hw65⟩ := hS.ws (wsAt_open (j := k) (by omega))
        refine cl_X0_74 rfl rfl dX0_choose_108 (show _ ∧ _ from ⟨((wsAt_open (j := k + 1) (by omega))).2.2.1, Nat.lt_of_succ_lt ((wsAt_open (j := k + 1) (by omega))).2.2.2⟩).1 (show _ ∧ _ from ⟨((wsAt_open (j := k + 1) (by omega))).2.2.1, Nat.lt_of_succ_lt ((wsAt_open (j := k + 1) (by omega))).2.2.2⟩).2 hw63.2.2.1 (Nat.le_of_ble_eq_true rfl) (s_X10_become hw63 hw65 (by omega)) ?_
        rintro _ h66 _ ⟨rfl, eh67, rfl⟩
        have hS68 := SH_p hS (wsAt_open (j := k + 1) (by omega)) eh67
        have hk69 : KX [] h h66 := KX_p (wsAt_open (j := k + 1) (by omega)) eh67
        have hF70 := KX_tr hF (KX_sb (l := [24]) (by first | decide | exact fun _ z => z | simp) hk69)
        have f71 : h66 (24) = .inr (0, [.ref 25, .ref 26, .int (nI c), .int kn, .int bs, .int bz]) := (hk69 _ (by decide) nSP_24).trans f24
        refine r_aload_n rfl dX0_choose_111 rfl ?_
        refine r_getv 1 rfl dX0_choose_112 (show 2 ≤ 24 ∧ 24 < 434 by decide) f71 fl_X0_17 rfl ?_
        refine r_iload_n rfl dX0_choose_115 rfl ?_
        refine r_iconst (v := 1) rfl dX0_choose_116 (by decide) ?_
        refine r_iadd rfl dX0_choose_117 ?_
        refine r_eqi (y := nI (k + 1)) (show (nI k) + 1 = nI (k + 1) from nI_add k 1) ?_
        refine r_aald (jn := k + 1) (v := .ref (59 + 2 * (k + 1))) rfl dX0_choose_118 (show 2 ≤ 26 ∧ 26 < 434 by decide).1 (show 2 ≤ 26 ∧ 26 < 434 by decide).2 hS68.o26 (by decide) (vp_in_nI (n := k + 1) (by omega) (by decide)) (nI_clamp (n := k + 1) (by omega)) (by show va_rf (if _ < _ then _ else _) = _; rw [if_pos (show k + 1 < 17 by omega)]; rfl) ?_
        refine r_aload_n rfl dX0_choose_119 rfl ?_
        refine r_getv 0 rfl dX0_choose_120 (show 2 ≤ 24 ∧ 24 < 434 by decide) f71 fl_X0_11 rfl ?_
        refine r_iload rfl dX0_choose_123 rfl ?_
        refine r_aald (jn := i) (v := .ref (27 + 2 * i)) rfl dX0_choose_125 (show 2 ≤ 25 ∧ 25 < 434 by decide).1 (show 2 ≤ 25 ∧ 25 < 434 by decide).2 hS68.o25 (by decide) (vp_in_nI (n := i) (by omega) (by decide)) (nI_clamp (n := i) (by omega)) (by show va_rf (if _ < _ then _ else _) = _; rw [if_pos (show i < 16 by omega)]; rfl) ?_
        obtain ⟨g72, hw73⟩ := hS68.ws (wsAt_open (j := k + 1) (by omega))
        obtain ⟨g74, hw75⟩ := hS68.ws (wsAt_hold (j := i) (by omega))
        refine cl_X0_58 rfl rfl dX0_choose_126 (show _ ∧ _ from ⟨((wsAt_open (j := k + 1) (by omega))).2.2.1, Nat.lt_of_succ_lt ((wsAt_open (j := k + 1) (by omega))).2.2.2⟩).1 (show _ ∧ _ from ⟨((wsAt_open (j := k + 1) (by omega))).2.2.1, Nat.lt_of_succ_lt ((wsAt_open (j := k + 1) (by omega))).2.2.2⟩).2 hw73.2.2.1 (Nat.le_of_ble_eq_true rfl) (s_X10_meet hw73 hw75 (by omega)) ?_
        rintro _ h76 _ ⟨rfl, eh77, rfl⟩
        have hS78 := SH_p hS68 (wsAt_open (j := k + 1) (by omega)) eh77
        have hk79 : KX [] h66 h76 := KX_p (wsAt_open (j := k + 1) (by omega)) eh77
        have hF80 := KX_tr hF70 (KX_sb (l := [24]) (by first | decide | exact fun _ z => z | simp) hk79)
        have f81 : h76 (24) = .inr (0, [.ref 25, .ref 26, .int (nI c), .int kn, .int bs, .int bz]) := (hk79 _ (by decide) nSP_24).trans f71
        refine r_aload_n rfl dX0_choose_129 rfl ?_
        refine r_iload_n rfl dX0_choose_130 rfl ?_
        refine r_iconst (v := 1) rfl dX0_choose_131 (by decide) ?_
        refine r_iadd rfl dX0_choose_132 ?_
        refine r_eqi (y := nI (k + 1)) (show (nI k) + 1 = nI (k + 1) from nI_add k 1) ?_
        refine r_iload_n rfl dX0_choose_133 rfl ?_
        refine r_iload rfl dX0_choose_134 rfl ?_
        refine r_ior rfl dX0_choose_136 ?_
        refine r_iload rfl dX0_choose_137 rfl ?_
        refine cl_X0_54 rfl rfl dX0_choose_139 (show 2 ≤ 24 ∧ 24 < 434 by decide).1 (show 2 ≤ 24 ∧ 24 < 434 by decide).2 f81 (Nat.le_of_ble_eq_true rfl) (rc h76 _ _ _ _ _ hS78 f81) ?_
        rintro _ h82 _ ⟨rfl, hS83, hk84, ⟨kn85, bs86, bz87, f88⟩, rfl⟩
        have hF89 := KX_tr hF80 (KX_sb (l := [24]) (by first | decide | exact fun _ z => z | simp) hk84)
        refine r_iload rfl dX0_choose_142 rfl ?_
        refine r_iload rfl dX0_choose_144 rfl ?_
        refine r_ior rfl dX0_choose_146 ?_
        refine r_topi (fun x90 e91 => ?_)
        refine r_istore (ls' := [some (.ref 24), some (.int (nI k)), some (.int ch), some (.int br), some (.int wd), some (.int x90), some (.int (nI i)), some (.int x54)]) rfl dX0_choose_147 (Nat.le_of_ble_eq_true rfl) rfl ?_
        refine r_iinc (y := nI (i + 1)) (ls' := [some (.ref 24), some (.int (nI k)), some (.int ch), some (.int br), some (.int wd), some (.int x90), some (.int (nI (i + 1))), some (.int x54)]) rfl dX0_choose_149 rfl (nI_1 i) (Nat.le_of_ble_eq_true rfl) rfl ?_
        refine r_goto (pc' := 50) rfl dX0_choose_152 ?_
        exact ih h82 _ _ _ _ _ hS83 f88 hF89
theorem x_ch {xs : Nat → Int32} {L d : Nat} {h0 : ev_H} {c k m : Nat} {ch br wd : Int32} (hc : c ≤ 16) (hk : k + (m + 1) = 17) (rc : ∀ (h' : ev_H) (kn' bs' bz' ch' br' : Int32), SH h' → h' 24 = c24 (nI c) kn' bs' bz' → EV xs L (d + (m + 3)) 0 0 M_X0_choose 434 h' 0 [some (.ref 24), some (.int (nI (k + 1))), some (.int ch'), some (.int br'), none, none, none, none] [] (fun sz' h'' r => sz' = 434 ∧ SH h'' ∧ KX [24] h' h'' ∧ (∃ kn bs bz, h'' 24 = c24 (nI c) kn bs bz) ∧ r = [])) : ∀ (n i : Nat) (h : ev_H) (kn bs bz cl : Int32) (u : Option Value), i + n = c → SH h → h 24 = c24 (nI c) kn bs bz → KX [24] h0 h → EV xs L (d + (m + 4)) 0 0 M_X0_choose 434 h 50 [some (.ref 24), some (.int (nI k)), some (.int ch), some (.int br), some (.int wd), some (.int cl), some (.int (nI i)), u] [] (fun sz' h' r => sz' = 434 ∧ SH h' ∧ KX [24] h0 h' ∧ (∃ kn bs bz, h' 24 = c24 (nI c) kn bs bz) ∧ r = []) := by
  intro n
  induction n with
  | zero => intro i h kn bs bz cl u hi hS f24 hF; exact x_ch_z hS hc f24 hF hk (by omega)
  | succ n ih => intro i h kn bs bz cl u hi hS f24 hF; exact x_ch_s hS hc f24 hF hk (by omega) rc (fun h' kn' bs' bz' cl' u' q1 q2 q3 => ih (i + 1) h' kn' bs' bz' cl' u' (by omega) q1 q2 q3)
set_option maxRecDepth 20000 in
set_option maxHeartbeats 1000000 in
theorem x_ch_w {xs : Nat → Int32} {L d : Nat} {h : ev_H} {k m : Nat} {ch br : Int32} {c : Nat} {kn bs bz : Int32} (hS : SH h) (hc : c ≤ 16) (f24 : h 24 = c24 (nI c) kn bs bz) (hk : k + (m + 1) = 17) (rc : ∀ (h' : ev_H) (kn' bs' bz' ch' br' : Int32), SH h' → h' 24 = c24 (nI c) kn' bs' bz' → EV xs L (d + (m + 3)) 0 0 M_X0_choose 434 h' 0 [some (.ref 24), some (.int (nI (k + 1))), some (.int ch'), some (.int br'), none, none, none, none] [] (fun sz' h'' r => sz' = 434 ∧ SH h'' ∧ KX [24] h' h'' ∧ (∃ kn bs bz, h'' 24 = c24 (nI c) kn bs bz) ∧ r = [])) : EV xs L (d + (m + 4)) 0 0 M_X0_choose 434 h 0 [some (.ref 24), some (.int (nI k)), some (.int ch), some (.int br), none, none, none, none] [] (fun sz' h' r => sz' = 434 ∧ SH h' ∧ KX [24] h h' ∧ (∃ kn bs bz, h' 24 = c24 (nI c) kn bs bz) ∧ r = []) := by
  refine r_iload_n rfl dX0_choose_0 rfl ?_
  refine r_if_lt (tgt := 20) rfl rfl dX0_choose_1 (fun zc => absurd zc (nI_pos (by omega))) (fun _ => ?_)
  refine r_iload_n rfl dX0_choose_4 rfl ?_
  refine r_aload_n rfl dX0_choose_5 rfl ?_
  refine r_getv 2 rfl dX0_choose_6 (show 2 ≤ 24 ∧ 24 < 434 by decide) f24 fl_X0_27 rfl ?_
  refine r_icmp_gt (tgt := 20) rfl rfl dX0_choose_9 (fun c51 => ?_) (fun c51 => ?_)
  · have q52 : c < k := (nI_ltI (a := c) (b := k) (by omega) (by omega)).mp c51
    exact r_ret dX0_choose_20 (rt_v rfl) ⟨rfl, hS, (KX_rf (l := [24]) h), ⟨_, _, _, f24⟩, rfl⟩
  · have q53 : ¬ c < k := fun z => c51 ((nI_ltI (a := c) (b := k) (by omega) (by omega)).mpr z)
    refine r_iload_n rfl dX0_choose_12 rfl ?_
    refine r_aload_n rfl dX0_choose_13 rfl ?_
    refine r_getv 5 rfl dX0_choose_14 (show 2 ≤ 24 ∧ 24 < 434 by decide) f24 fl_X0_44 rfl ?_
    refine r_icmp_le (tgt := 21) rfl rfl dX0_choose_17 (fun c54 => ?_) (fun c54 => ?_)
    · refine r_aload_n rfl dX0_choose_21 rfl ?_
      refine r_getv 1 rfl dX0_choose_22 (show 2 ≤ 24 ∧ 24 < 434 by decide) f24 fl_X0_17 rfl ?_
      refine r_iload_n rfl dX0_choose_25 rfl ?_
      refine r_aald (jn := k) (v := .ref (59 + 2 * k)) rfl dX0_choose_26 (show 2 ≤ 26 ∧ 26 < 434 by decide).1 (show 2 ≤ 26 ∧ 26 < 434 by decide).2 hS.o26 (by decide) (vp_in_nI (n := k) (by omega) (by decide)) (nI_clamp (n := k) (by omega)) (by show va_rf (if _ < _ then _ else _) = _; rw [if_pos (show k < 17 by omega)]; rfl) ?_
      obtain ⟨g55, hw56⟩ := hS.ws (wsAt_open (j := k) (by omega))
      refine cl_X0_62 rfl rfl dX0_choose_27 (show _ ∧ _ from ⟨((wsAt_open (j := k) (by omega))).2.2.1, Nat.lt_of_succ_lt ((wsAt_open (j := k) (by omega))).2.2.2⟩).1 (show _ ∧ _ from ⟨((wsAt_open (j := k) (by omega))).2.2.1, Nat.lt_of_succ_lt ((wsAt_open (j := k) (by omega))).2.2.2⟩).2 hw56.2.2.1 (Nat.le_of_ble_eq_true rfl) (s_X10_leastWorld hw56) ?_
      rintro _ h57 _ ⟨rfl, e58, rfl⟩
      replace e58 := e58.symm
      subst e58
      refine r_topi (fun x59 e60 => ?_)
      refine r_istore (ls' := [some (.ref 24), some (.int (nI k)), some (.int ch), some (.int br), some (.int x59), none, none, none]) rfl dX0_choose_30 (Nat.le_of_ble_eq_true rfl) rfl ?_
      refine r_iload rfl dX0_choose_32 rfl ?_
      refine r_if_ge (tgt := 44) rfl rfl dX0_choose_34 (fun c61 => ?_) (fun c61 => ?_)
      · refine r_iload_n rfl dX0_choose_44 rfl ?_
        refine r_istore (ls' := [some (.ref 24), some (.int (nI k)), some (.int ch), some (.int br), some (.int x59), some (.int br), none, none]) rfl dX0_choose_45 (Nat.le_of_ble_eq_true rfl) rfl ?_
        refine r_iconst (v := 0) rfl dX0_choose_47 (by decide) ?_
        refine r_istore (ls' := [some (.ref 24), some (.int (nI k)), some (.int ch), some (.int br), some (.int x59), some (.int br), some (.int 0), none]) rfl dX0_choose_48 (Nat.le_of_ble_eq_true rfl) rfl ?_
        exact x_ch hc hk rc c 0 h _ _ _ _ _ (by omega) hS f24 (KX_rf (l := [24]) h)
      · refine r_aload_n rfl dX0_choose_37 rfl ?_
        refine r_iload_n rfl dX0_choose_38 rfl ?_
        refine r_iload_n rfl dX0_choose_39 rfl ?_
        refine cl_X0_66 rfl rfl dX0_choose_40 (show 2 ≤ 24 ∧ 24 < 434 by decide).1 (show 2 ≤ 24 ∧ 24 < 434 by decide).2 f24 (Nat.le_of_ble_eq_true rfl) (x_X0_keep hS hc f24) ?_
        rintro _ h62 _ ⟨rfl, hS63, hk64, ⟨kn65, bs66, bz67, f68⟩, rfl⟩
        have hF69 := KX_tr (KX_rf (l := [24]) h) (KX_sb (l := [24]) (by first | decide | exact fun _ z => z | simp) hk64)
        exact r_ret dX0_choose_43 (rt_v rfl) ⟨rfl, hS63, hF69, ⟨_, _, _, f68⟩, rfl⟩
    · exact r_ret dX0_choose_20 (rt_v rfl) ⟨rfl, hS, (KX_rf (l := [24]) h), ⟨_, _, _, f24⟩, rfl⟩
set_option maxRecDepth 20000 in
set_option maxHeartbeats 1000000 in
theorem x_ch_17 {xs : Nat → Int32} {L d : Nat} {h : ev_H} {ch br : Int32} {c : Nat} {kn bs bz : Int32} (hS : SH h) (hc : c ≤ 16) (f24 : h 24 = c24 (nI c) kn bs bz) : EV xs L (d + 3) 0 0 M_X0_choose 434 h 0 [some (.ref 24), some (.int 17), some (.int ch), some (.int br), none, none, none, none] [] (fun sz' h' r => sz' = 434 ∧ SH h' ∧ KX [24] h h' ∧ (∃ kn bs bz, h' 24 = c24 (nI c) kn bs bz) ∧ r = []) := by
  refine r_iload_n rfl dX0_choose_0 rfl ?_
  refine r_if_lt (tgt := 20) rfl rfl dX0_choose_1 (fun zc => absurd zc (by decide)) (fun _ => ?_)
  refine r_iload_n rfl dX0_choose_4 rfl ?_
  refine r_aload_n rfl dX0_choose_5 rfl ?_
  refine r_getv 2 rfl dX0_choose_6 (show 2 ≤ 24 ∧ 24 < 434 by decide) f24 fl_X0_27 rfl ?_
  refine r_icmp_gt (tgt := 20) rfl rfl dX0_choose_9 (fun _ => ?_) (fun zc => absurd (show nI c < (17 : Int32) from nI_lt (a := c) (b := 17) (by omega) (by decide)) zc)
  exact r_ret dX0_choose_20 (rt_v rfl) ⟨rfl, hS, (KX_rf (l := [24]) h), ⟨_, _, _, f24⟩, rfl⟩
theorem x_X0_choose {xs : Nat → Int32} {L d : Nat} {c : Nat} (hc : c ≤ 16) : ∀ (m k : Nat), k + m = 17 → ∀ (h : ev_H) (kn bs bz ch br : Int32), SH h → h 24 = c24 (nI c) kn bs bz → EV xs L (d + (m + 3)) 0 0 M_X0_choose 434 h 0 [some (.ref 24), some (.int (nI k)), some (.int ch), some (.int br), none, none, none, none] [] (fun sz' h' r => sz' = 434 ∧ SH h' ∧ KX [24] h h' ∧ (∃ kn bs bz, h' 24 = c24 (nI c) kn bs bz) ∧ r = []) := by
  intro m
  induction m with
  | zero => intro k hk h kn bs bz ch br hS f24; obtain rfl : k = 17 := (by omega); exact x_ch_17 hS hc f24
  | succ m ih => intro k hk h kn bs bz ch br hS f24; exact x_ch_w hS hc f24 hk (fun h' kn' bs' bz' ch' br' q1 q2 => ih (k + 1) (by omega) h' kn' bs' bz' ch' br' q1 q2)
set_option maxRecDepth 20000 in
set_option maxHeartbeats 1000000 in
theorem x_X0_leastSet {xs : Nat → Int32} {L d : Nat} {h : ev_H} {c : Nat} {kn bs bz : Int32} (hS : SH h) (hc : c ≤ 16) (f24 : h 24 = c24 (nI c) kn bs bz) : EV xs L (d + 21) 0 0 M_X0_leastSet 434 h 0 [some (.ref 24)] [] (fun sz' h' r => sz' = 434 ∧ SH h' ∧ KX [24] h h' ∧ (∃ kn bs bz, h' 24 = c24 (nI c) kn bs bz) ∧ ∃ x : Int32, r = [.int x]) := by
  refine r_aload_n rfl dX0_leastSet_0 rfl ?_
  refine r_getv 3 rfl dX0_leastSet_1 (show 2 ≤ 24 ∧ 24 < 434 by decide) f24 fl_X0_37 rfl ?_
  refine r_if_ne (tgt := 47) rfl rfl dX0_leastSet_4 (fun c51 => ?_) (fun c51 => ?_)
  · refine r_aload_n rfl dX0_leastSet_47 rfl ?_
    refine r_getv 4 rfl dX0_leastSet_48 (show 2 ≤ 24 ∧ 24 < 434 by decide) f24 fl_X0_41 rfl ?_
    exact r_ret dX0_leastSet_51 (rt_i rfl) ⟨rfl, hS, (KX_rf (l := [24]) h), ⟨_, _, _, f24⟩, _, rfl⟩
  · refine r_aload_n rfl dX0_leastSet_7 rfl ?_
    refine r_bipush (v := (-9)) rfl dX0_leastSet_8 (by decide) ?_
    refine e_put 4 (fs' := [.ref 25, .ref 26, .int (nI c), .int kn, .int (-9), .int bz]) rfl dX0_leastSet_10 (show 2 ≤ 24 ∧ 24 < 434 by decide) hS (KM_rf (Mod := [24]) _) (List.mem_singleton.mpr rfl) f24 (fp_X0_41 rfl _) (Nat.le_of_ble_eq_true rfl) rfl (fun h52 hS53 _ hN54 f55 => ?_)
    have hk56 : KX [24] h h52 := KX_M (fun _ z => z) hN54
    have hF57 := KX_tr (KX_rf (l := [24]) h) (KX_sb (l := [24]) (by first | decide | exact fun _ z => z | simp) hk56)
    refine r_aload_n rfl dX0_leastSet_13 rfl ?_
    refine r_bipush (v := 17) rfl dX0_leastSet_14 (by decide) ?_
    refine e_put 5 (fs' := [.ref 25, .ref 26, .int (nI c), .int kn, .int (-9), .int 17]) rfl dX0_leastSet_16 (show 2 ≤ 24 ∧ 24 < 434 by decide) hS53 (KM_rf (Mod := [24]) _) (List.mem_singleton.mpr rfl) f55 (fp_X0_44 rfl _) (Nat.le_of_ble_eq_true rfl) rfl (fun h58 hS59 _ hN60 f61 => ?_)
    have hk62 : KX [24] h52 h58 := KX_M (fun _ z => z) hN60
    have hF63 := KX_tr hF57 (KX_sb (l := [24]) (by first | decide | exact fun _ z => z | simp) hk62)
    refine r_aload_n rfl dX0_leastSet_19 rfl ?_
    refine cl_X0_47 rfl rfl dX0_leastSet_20 (show 2 ≤ 24 ∧ 24 < 434 by decide).1 (show 2 ≤ 24 ∧ 24 < 434 by decide).2 f61 (Nat.le_of_ble_eq_true rfl) (x_X0_allClash hS59 hc f61) ?_
    rintro _ h64 _ ⟨rfl, hS65, hk66, ⟨kn67, bs68, bz69, f70⟩, x71, rfl⟩
    have hF72 := KX_tr hF63 (KX_sb (l := [24]) (by first | decide | exact fun _ z => z | simp) hk66)
    refine r_if_eq (tgt := 42) rfl rfl dX0_leastSet_23 (fun c73 => ?_) (fun c73 => ?_)
    · refine r_aload_n rfl dX0_leastSet_42 rfl ?_
      refine r_iconst (v := 1) rfl dX0_leastSet_43 (by decide) ?_
      refine e_put 3 (fs' := [.ref 25, .ref 26, .int (nI c), .int 1, .int bs68, .int bz69]) rfl dX0_leastSet_44 (show 2 ≤ 24 ∧ 24 < 434 by decide) hS65 (KM_rf (Mod := [24]) _) (List.mem_singleton.mpr rfl) f70 (fp_X0_37 rfl _ (Or.inr rfl)) (Nat.le_of_ble_eq_true rfl) rfl (fun h74 hS75 _ hN76 f77 => ?_)
      have hk78 : KX [24] h64 h74 := KX_M (fun _ z => z) hN76
      have hF79 := KX_tr hF72 (KX_sb (l := [24]) (by first | decide | exact fun _ z => z | simp) hk78)
      refine r_aload_n rfl dX0_leastSet_47 rfl ?_
      refine r_getv 4 rfl dX0_leastSet_48 (show 2 ≤ 24 ∧ 24 < 434 by decide) f77 fl_X0_41 rfl ?_
      exact r_ret dX0_leastSet_51 (rt_i rfl) ⟨rfl, hS75, hF79, ⟨_, _, _, f77⟩, _, rfl⟩
    · refine r_aload_n rfl dX0_leastSet_26 rfl ?_
      refine r_getv 1 rfl dX0_leastSet_27 (show 2 ≤ 24 ∧ 24 < 434 by decide) f70 fl_X0_17 rfl ?_
      refine r_iconst (v := 0) rfl dX0_leastSet_30 (by decide) ?_
      refine r_aald (jn := 0) (v := .ref (59 + 2 * 0)) rfl dX0_leastSet_31 (show 2 ≤ 26 ∧ 26 < 434 by decide).1 (show 2 ≤ 26 ∧ 26 < 434 by decide).2 hS65.o26 (by decide) (vp_in_nI (n := 0) (by omega) (by decide)) (nI_clamp (n := 0) (by omega)) (by show va_rf (if _ < _ then _ else _) = _; rw [if_pos (show 0 < 17 by omega)]; rfl) ?_
      obtain ⟨g80, hw81⟩ := hS65.ws (wsAt_open (j := 0) (by omega))
      refine cl_X0_51 rfl rfl dX0_leastSet_32 (show _ ∧ _ from ⟨((wsAt_open (j := 0) (by omega))).2.2.1, Nat.lt_of_succ_lt ((wsAt_open (j := 0) (by omega))).2.2.2⟩).1 (show _ ∧ _ from ⟨((wsAt_open (j := 0) (by omega))).2.2.1, Nat.lt_of_succ_lt ((wsAt_open (j := 0) (by omega))).2.2.2⟩).2 hw81.2.2.1 (Nat.le_of_ble_eq_true rfl) (s_X10_fill hw81) ?_
      rintro _ h82 _ ⟨rfl, eh83, rfl⟩
      have hS84 := SH_p hS65 (wsAt_open (j := 0) (by omega)) eh83
      have hk85 : KX [] h64 h82 := KX_p (wsAt_open (j := 0) (by omega)) eh83
      have hF86 := KX_tr hF72 (KX_sb (l := [24]) (by first | decide | exact fun _ z => z | simp) hk85)
      have f87 : h82 (24) = .inr (0, [.ref 25, .ref 26, .int (nI c), .int kn67, .int bs68, .int bz69]) := (hk85 _ (by decide) nSP_24).trans f70
      refine r_aload_n rfl dX0_leastSet_35 rfl ?_
      refine r_iconst (v := 0) rfl dX0_leastSet_36 (by decide) ?_
      refine r_iconst (v := 0) rfl dX0_leastSet_37 (by decide) ?_
      refine r_iconst (v := 0) rfl dX0_leastSet_38 (by decide) ?_
      refine cl_X0_54 rfl rfl dX0_leastSet_39 (show 2 ≤ 24 ∧ 24 < 434 by decide).1 (show 2 ≤ 24 ∧ 24 < 434 by decide).2 f87 (Nat.le_of_ble_eq_true rfl) (x_X0_choose hc 17 0 rfl h82 _ _ _ _ _ hS84 f87) ?_
      rintro _ h88 _ ⟨rfl, hS89, hk90, ⟨kn91, bs92, bz93, f94⟩, rfl⟩
      have hF95 := KX_tr hF86 (KX_sb (l := [24]) (by first | decide | exact fun _ z => z | simp) hk90)
      refine r_aload_n rfl dX0_leastSet_42 rfl ?_
      refine r_iconst (v := 1) rfl dX0_leastSet_43 (by decide) ?_
      refine e_put 3 (fs' := [.ref 25, .ref 26, .int (nI c), .int 1, .int bs92, .int bz93]) rfl dX0_leastSet_44 (show 2 ≤ 24 ∧ 24 < 434 by decide) hS89 (KM_rf (Mod := [24]) _) (List.mem_singleton.mpr rfl) f94 (fp_X0_37 rfl _ (Or.inr rfl)) (Nat.le_of_ble_eq_true rfl) rfl (fun h96 hS97 _ hN98 f99 => ?_)
      have hk100 : KX [24] h88 h96 := KX_M (fun _ z => z) hN98
      have hF101 := KX_tr hF95 (KX_sb (l := [24]) (by first | decide | exact fun _ z => z | simp) hk100)
      refine r_aload_n rfl dX0_leastSet_47 rfl ?_
      refine r_getv 4 rfl dX0_leastSet_48 (show 2 ≤ 24 ∧ 24 < 434 by decide) f99 fl_X0_41 rfl ?_
      exact r_ret dX0_leastSet_51 (rt_i rfl) ⟨rfl, hS97, hF101, ⟨_, _, _, f99⟩, _, rfl⟩
set_option maxRecDepth 20000 in
set_option maxHeartbeats 1000000 in
theorem x_X11_needed {xs : Nat → Int32} {L d : Nat} {h : ev_H} {k c : Nat} {cc sc wr el : Int32} {x kn bs bz : Int32} (hS : SH h) (h2 : h 2 = c2 cc (nI k) sc wr el) (hk : k ≤ 40) (hc : c ≤ 16) (f24 : h 24 = c24 (nI c) kn bs bz) : EV xs L (d + 22) 0 0 M_X11_needed 434 h 0 [some (.ref 2), some (.int x)] [] (fun sz' h' r => sz' = 434 ∧ SH h' ∧ KX [24] h h' ∧ (∃ kn bs bz, h' 24 = c24 (nI c) kn bs bz) ∧ ∃ x : Int32, r = [.int x]) := by
  refine r_iload_n rfl dX11_needed_0 rfl ?_
  refine r_if_lt (tgt := 9) rfl rfl dX11_needed_1 (fun c51 => ?_) (fun c51 => ?_)
  · refine r_iconst (v := (-1)) rfl dX11_needed_9 (by decide) ?_
    refine r_goto (pc' := 24) rfl dX11_needed_10 ?_
    exact r_ret dX11_needed_24 (rt_i rfl) ⟨rfl, hS, (KX_rf (l := [24]) h), ⟨_, _, _, f24⟩, _, rfl⟩
  · refine r_iload_n rfl dX11_needed_4 rfl ?_
    refine r_iconst (v := 1) rfl dX11_needed_5 (by decide) ?_
    refine r_icmp_le (tgt := 13) rfl rfl dX11_needed_6 (fun c52 => ?_) (fun c52 => ?_)
    · refine r_iload_n rfl dX11_needed_13 rfl ?_
      refine r_aload_n rfl dX11_needed_14 rfl ?_
      refine r_getv 4 rfl dX11_needed_15 (show 2 ≤ 2 ∧ 2 < 434 by decide) h2 fl_X11_39 rfl ?_
      refine cl_X11_200 rfl rfl dX11_needed_18 (show 2 ≤ 24 ∧ 24 < 434 by decide).1 (show 2 ≤ 24 ∧ 24 < 434 by decide).2 f24 (Nat.le_of_ble_eq_true rfl) (x_X0_leastSet hS hc f24) ?_
      rintro _ h53 _ ⟨rfl, hS54, hk55, ⟨kn56, bs57, bz58, f59⟩, x60, rfl⟩
      have hF61 := KX_tr (KX_rf (l := [24]) h) (KX_sb (l := [24]) (by first | decide | exact fun _ z => z | simp) hk55)
      have f62 : h53 (2) = .inr (11, [.ref 3, .ref 5, .ref 12, .ref 13, .ref 24, .ref 93, .ref 95, .ref 96, .ref 97, .ref 98, .ref 99, .int cc, .int (nI k), .int sc, .int wr, .int el]) := (hk55 _ (by decide) nSP_2).trans h2
      refine cl_X11_189 rfl rfl dX11_needed_21 (Nat.le_of_ble_eq_true rfl) s_X11_sizeOrSet ?_
      rintro _ h63 _ ⟨rfl, e64, rfl⟩
      replace e64 := e64.symm
      subst e64
      exact r_ret dX11_needed_24 (rt_i rfl) ⟨rfl, hS54, hF61, ⟨_, _, _, f59⟩, _, rfl⟩
    · refine r_iconst (v := (-1)) rfl dX11_needed_9 (by decide) ?_
      refine r_goto (pc' := 24) rfl dX11_needed_10 ?_
      exact r_ret dX11_needed_24 (rt_i rfl) ⟨rfl, hS, (KX_rf (l := [24]) h), ⟨_, _, _, f24⟩, _, rfl⟩
