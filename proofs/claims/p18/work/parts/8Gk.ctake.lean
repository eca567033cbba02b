/-- the held worlds of the first k CLAUSES, as the class gathers them -/
def HDg (G : Nat → Int32) (k : Nat) (h : ev_H) : Prop := ∀ i, i < k → WD h (27 + 2 * i) (gwV (G (6 * i)) (G (6 * i + 1)) 255 8)
theorem HDg_f {G : Nat → Int32} {k : Nat} {h h' : ev_H} (hk : k ≤ 16) (hf : ∀ q, 14 ≤ q → q ≤ 58 → h' q = h q) (s : HDg G k h) : HDg G k h' := fun i hi => by
  obtain ⟨t, e⟩ := s i hi
  exact ⟨t, (hf _ (by omega) (by omega)).trans e⟩
theorem HDg_s {G : Nat → Int32} {k : Nat} {h h' : ev_H} (hk : K1 (27 + 2 * k) h h') (s : HDg G k h) (w : WD h' (27 + 2 * k) (gwV (G (6 * k)) (G (6 * k + 1)) 255 8)) : HDg G (k + 1) h' := fun i hi => by
  by_cases e : i = k
  · rw [e]; exact w
  · exact WD_1 hk (by omega) (s i (by omega))
set_option maxRecDepth 20000 in
set_option maxHeartbeats 1000000 in
theorem v_cl_z {xs : Nat → Int32} {L d : Nat} {h : ev_H} {h0 : ev_H} {c k : Nat} {G : Nat → Int32} {kn bs bz : Int32} (hS : SH h) (hc : c ≤ 16) (hck : c ≤ 40) (hF : KX [24] h0 h) (f24 : h 24 = c24 (nI c) kn bs bz) (hLN : LN c G h) (hg : HDg G k h) (hk : k = c) : EV xs L (d + 3) 0 0 M_X0_learn 434 h 12 [some (.ref 24), some (.ref 12), some (.int (nI c)), some (.int (nI k))] [] (fun sz' h' r => sz' = 434 ∧ SH h' ∧ KX [24] h0 h' ∧ (∃ bs bz, h' 24 = c24 (nI c) 0 bs bz) ∧ HDg G c h' ∧ r = []) := by
  refine r_iload_n rfl dX0_learn_12 rfl ?_
  refine r_aload_n rfl dX0_learn_13 rfl ?_
  refine r_getv 2 rfl dX0_learn_14 (show 2 ≤ 24 ∧ 24 < 434 by decide) f24 fl_X0_27 rfl ?_
  refine r_icmp_ge (tgt := 47) rfl rfl dX0_learn_17 (fun _ => ?_) (fun zc => absurd (show nI c ≤ nI k from nI_le (a := c) (b := k) (by omega) (by omega)) zc)
  refine r_aload_n rfl dX0_learn_47 rfl ?_
  refine r_iconst (v := 0) rfl dX0_learn_48 (by decide) ?_
  refine e_put 3 (fs' := [.ref 25, .ref 26, .int (nI c), .int 0, .int bs, .int bz]) rfl dX0_learn_49 (show 2 ≤ 24 ∧ 24 < 434 by decide) hS (KM_rf (Mod := [24]) _) (List.mem_singleton.mpr rfl) f24 (fp_X0_37 rfl _ (Or.inl rfl)) (Nat.le_of_ble_eq_true rfl) rfl (fun h51 hS52 _ hN53 f54 => ?_)
  have hk55 : KX [24] h h51 := KX_M (fun _ z => z) hN53
  have hF56 := KX_tr hF (KX_sb (l := [24]) (by first | decide | exact fun _ z => z | simp) hk55)
  have LN57 := LN_kx (by decide) hk55 (by omega) hLN
  exact r_ret dX0_learn_52 (rt_v rfl) ⟨rfl, hS52, hF56, ⟨_, _, f54⟩, (by rw [hk] at hg; exact fun i hi => WD_M hN53 (by simp <;> omega) (hg i hi)), rfl⟩
set_option maxRecDepth 20000 in
set_option maxHeartbeats 1000000 in
theorem v_cl_s {xs : Nat → Int32} {L d : Nat} {h : ev_H} {h0 : ev_H} {c k : Nat} {G : Nat → Int32} {kn bs bz : Int32} (hS : SH h) (hc : c ≤ 16) (hck : c ≤ 40) (hF : KX [24] h0 h) (f24 : h 24 = c24 (nI c) kn bs bz) (hLN : LN c G h) (hg : HDg G k h) (hk : k < c) (ih : ∀ (h' : ev_H), SH h' → KX [24] h0 h' → h' 24 = c24 (nI c) kn bs bz → LN c G h' → HDg G (k + 1) h' → EV xs L (d + 3) 0 0 M_X0_learn 434 h' 12 [some (.ref 24), some (.ref 12), some (.int (nI c)), some (.int (nI (k + 1)))] [] (fun sz' h' r => sz' = 434 ∧ SH h' ∧ KX [24] h0 h' ∧ (∃ bs bz, h' 24 = c24 (nI c) 0 bs bz) ∧ HDg G c h' ∧ r = [])) : EV xs L (d + 3) 0 0 M_X0_learn 434 h 12 [some (.ref 24), some (.ref 12), some (.int (nI c)), some (.int (nI k))] [] (fun sz' h' r => sz' = 434 ∧ SH h' ∧ KX [24] h0 h' ∧ (∃ bs bz, h' 24 = c24 (nI c) 0 bs bz) ∧ HDg G c h' ∧ r = []) := by
  refine r_iload_n rfl dX0_learn_12 rfl ?_
  refine r_aload_n rfl dX0_learn_13 rfl ?_
  refine r_getv 2 rfl dX0_learn_14 (show 2 ≤ 24 ∧ 24 < 434 by decide) f24 fl_X0_27 rfl ?_
  refine r_icmp_ge (tgt := 47) rfl rfl dX0_learn_17 (fun zc => absurd zc (show ¬ nI c ≤ nI k from nI_ge (a := k) (b := c) (by omega) (by omega))) (fun _ => ?_)
  refine r_iload_n rfl dX0_learn_20 rfl ?_
  refine r_aload_n rfl dX0_learn_21 rfl ?_
  refine r_alen (v := 40) rfl dX0_learn_22 (by decide) (by decide) hS.o12 (by decide) rfl ?_
  refine r_icmp_ge (tgt := 47) rfl rfl dX0_learn_23 (fun zc => absurd zc (show ¬ (40 : Int32) ≤ nI k from nI_ge (a := k) (b := 40) (by omega) (by decide))) (fun _ => ?_)
  refine r_aload_n rfl dX0_learn_26 rfl ?_
  refine r_iload_n rfl dX0_learn_27 rfl ?_
  refine r_aald (jn := k) (v := .ref (100 + 8 * k)) rfl dX0_learn_28 (show 2 ≤ 12 ∧ 12 < 434 by decide).1 (show 2 ≤ 12 ∧ 12 < 434 by decide).2 hS.o12 (by decide) (vp_in_nI (n := k) (by omega) (by decide)) (nI_clamp (n := k) (by omega)) (by show va_rf (if _ < _ then _ else _) = _; rw [if_pos (show k < 40 by omega)]; rfl) ?_
  refine r_aload_n rfl dX0_learn_29 rfl ?_
  refine r_getv 0 rfl dX0_learn_30 (show 2 ≤ 24 ∧ 24 < 434 by decide) f24 fl_X0_11 rfl ?_
  refine r_iload_n rfl dX0_learn_33 rfl ?_
  refine r_aald (jn := k) (v := .ref (27 + 2 * k)) rfl dX0_learn_34 (show 2 ≤ 25 ∧ 25 < 434 by decide).1 (show 2 ≤ 25 ∧ 25 < 434 by decide).2 hS.o25 (by decide) (vp_in_nI (n := k) (by omega) (by decide)) (nI_clamp (n := k) (by omega)) (by show va_rf (if _ < _ then _ else _) = _; rw [if_pos (show k < 16 by omega)]; rfl) ?_
  refine r_sipush (v := 255) rfl dX0_learn_35 (by decide) ?_
  refine cl_X0_31 rfl rfl dX0_learn_38 (show 2 ≤ 100 + 8 * k ∧ 100 + 8 * k < 434 by omega).1 (show 2 ≤ 100 + 8 * k ∧ 100 + 8 * k < 434 by omega).2 (hLN k (by omega)) (Nat.le_of_ble_eq_true rfl) (v_X3_gatherWorlds hS (i := k) (by omega) (wsAt_hold (j := k) (by omega)) (hLN k (by omega))) ?_
  rintro _ h51 _ ⟨rfl, hS52, k153, w53, rfl⟩
  have hk53 : KX [] h h51 := fun q _ hs => k153 q (fun z => hs ⟨_, wsAt_hold (j := k) (by omega), z⟩)
  have hF54 := KX_tr hF (KX_sb (l := [24]) (by first | decide | exact fun _ z => z | simp) hk53)
  have f55 : h51 (24) = .inr (0, [.ref 25, .ref 26, .int (nI c), .int kn, .int bs, .int bz]) := (hk53 _ (by decide) nSP_24).trans f24
  have LN56 := LN_kx (by decide) hk53 (by omega) hLN
  refine r_iinc (y := nI (k + 1)) (ls' := [some (.ref 24), some (.ref 12), some (.int (nI c)), some (.int (nI (k + 1)))]) rfl dX0_learn_41 rfl (nI_1 k) (Nat.le_of_ble_eq_true rfl) rfl ?_
  refine r_goto (pc' := 12) rfl dX0_learn_44 ?_
  exact ih h51 hS52 hF54 f55 LN56 (HDg_s k153 hg w53)
theorem v_cl {xs : Nat → Int32} {L d : Nat} {h0 : ev_H} {c : Nat} {G : Nat → Int32} {kn bs bz : Int32} (hc : c ≤ 16) (hck : c ≤ 40) : ∀ (n k : Nat) (h : ev_H), k + n = c → SH h → KX [24] h0 h → h 24 = c24 (nI c) kn bs bz → LN c G h → HDg G k h → EV xs L (d + 3) 0 0 M_X0_learn 434 h 12 [some (.ref 24), some (.ref 12), some (.int (nI c)), some (.int (nI k))] [] (fun sz' h' r => sz' = 434 ∧ SH h' ∧ KX [24] h0 h' ∧ (∃ bs bz, h' 24 = c24 (nI c) 0 bs bz) ∧ HDg G c h' ∧ r = []) := by
  intro n
  induction n with
  | zero => intro k h hk hS hF f24 hLN hg; exact v_cl_z hS hc hck hF f24 hLN hg (by omega)
  | succ n ih => intro k h hk hS hF f24 hLN hg; exact v_cl_s hS hc hck hF f24 hLN hg (by omega) (fun h' q1 q2 q3 q4 q5 => ih (k + 1) h' (by omega) q1 q2 q3 q4 q5)
set_option maxRecDepth 20000 in
set_option maxHeartbeats 1000000 in
theorem v_X0_learn {xs : Nat → Int32} {L d : Nat} {h : ev_H} {c : Nat} {G : Nat → Int32} {cc0 kn bs bz : Int32} (hS : SH h) (hc : c ≤ 16) (hck : c ≤ 40) (f24 : h 24 = c24 cc0 kn bs bz) (hLN : LN c G h) : EV xs L (d + 3) 0 0 M_X0_learn 434 h 0 [some (.ref 24), some (.ref 12), some (.int (nI c)), none] [] (fun sz' h' r => sz' = 434 ∧ SH h' ∧ KX [24] h h' ∧ (∃ bs bz, h' 24 = c24 (nI c) 0 bs bz) ∧ HDg G c h' ∧ r = []) := by
  refine r_aload_n rfl dX0_learn_0 rfl ?_
  refine r_iload_n rfl dX0_learn_1 rfl ?_
  refine r_bipush (v := 16) rfl dX0_learn_2 (by decide) ?_
  refine r_min rfl dX0_learn_4 (Nat.succ_pos _) (Nat.le_of_ble_eq_true rfl) mm_X0_21 mm_st mm_in mm_co ?_
  refine r_eqi (y := nI c) (if_neg (show ¬ (16 : Int32) < nI c from nI_nlt (a := 16) (b := c) (by omega) (by decide))) ?_
  refine e_put 2 (fs' := [.ref 25, .ref 26, .int (nI c), .int kn, .int bs, .int bz]) rfl dX0_learn_7 (show 2 ≤ 24 ∧ 24 < 434 by decide) hS (KM_rf (Mod := [24]) _) (List.mem_singleton.mpr rfl) f24 (fp_X0_27 rfl _) (Nat.le_of_ble_eq_true rfl) rfl (fun h51 hS52 _ hN53 f54 => ?_)
  have hk55 : KX [24] h h51 := KX_M (fun _ z => z) hN53
  have hF56 := KX_tr (KX_rf (l := [24]) h) (KX_sb (l := [24]) (by first | decide | exact fun _ z => z | simp) hk55)
  have LN57 := LN_kx (by decide) hk55 (by omega) hLN
  refine r_iconst (v := 0) rfl dX0_learn_10 (by decide) ?_
  refine r_istore_n (ls' := [some (.ref 24), some (.ref 12), some (.int (nI c)), some (.int 0)]) rfl dX0_learn_11 (Nat.le_of_ble_eq_true rfl) rfl ?_
  exact v_cl hc hck c 0 h51 (by omega) hS52 hF56 f54 LN57 (fun i hi => absurd hi (by omega))
/-- Sides' sets behind learn -/
def SDo (G : Nat → Int32) (c : Nat) (h : ev_H) : Prop := WD h 14 (aC G c) ∧ WD h 16 (aD G c) ∧ WD h 18 (sb4 (ltO G c &&& ltE G c) (aC G c)) ∧ WD h 20 (fun z => sb4 (ltO G c &&& ltE G c) (aD G c) z ^^^ (-1))
def SD4 (G : Nat → Int32) (c : Nat) (h : ev_H) : Prop := SDo G c h ∧ HDg G c h ∧ c ≤ 16
theorem WD_s {h h' : ev_H} {a : Nat} {V : Nat → Int64} (hf : ∀ q, 13 ≤ q → q ≤ 23 → h' q = h q) (ha : 13 ≤ a ∧ a ≤ 22) (w : WD h a V) : WD h' a V := by
  obtain ⟨t, e⟩ := w
  exact ⟨t, (hf _ (by omega) (by omega)).trans e⟩
theorem SDo_f {G : Nat → Int32} {c : Nat} {h h' : ev_H} (hf : ∀ q, 14 ≤ q → q ≤ 23 → h' q = h q) (s : SDo G c h) : SDo G c h' := by
  obtain ⟨⟨t1, e1⟩, ⟨t2, e2⟩, ⟨t3, e3⟩, ⟨t4, e4⟩⟩ := s
  exact ⟨⟨t1, (hf _ (by decide) (by decide)).trans e1⟩, ⟨t2, (hf _ (by decide) (by decide)).trans e2⟩, ⟨t3, (hf _ (by decide) (by decide)).trans e3⟩, ⟨t4, (hf _ (by decide) (by decide)).trans e4⟩⟩
theorem SD4_f {G : Nat → Int32} {c : Nat} {h h' : ev_H} (hf : ∀ q, 14 ≤ q → q ≤ 58 → h' q = h q) (s : SD4 G c h) : SD4 G c h' := ⟨SDo_f (fun q h1 h2 => hf q h1 (by omega)) s.1, HDg_f s.2.2 hf s.2.1, s.2.2⟩
theorem KX_G {h h' : ev_H} (hk : KG h h') : KX [13] h h' := fun q h1 hs => hk q (fun z => h1 (List.mem_singleton.mpr z)) (fun z => hs ⟨14, wsAt_14, z⟩) (fun z => hs ⟨16, wsAt_16, z⟩) (fun z => hs ⟨18, wsAt_18, z⟩) (fun z => hs ⟨20, wsAt_20, z⟩) (fun z => hs ⟨22, wsAt_22, z⟩)
def RCLb (k : Nat) : Bool := k == 1 || k == 12 || (decide (24 ≤ k) && decide (k < 93)) || (decide (100 ≤ k) && decide (k < 420))
theorem RCLb_d : ∀ k, k < 434 → 2 ≤ k → RCLb k = true → rfB RCLb (cs0 k) 40 = true := by decide +kernel
theorem RCLb_b : ∀ k, RCLb k = true → k < 434 := by
  intro k hk
  simp [RCLb] at hk
  omega
theorem RCLb_n {k : Nat} (h1 : 14 ≤ k) (h2 : k ≤ 23) : RCLb k = false := by
  simp [RCLb]
  omega
theorem okl_24 {c : Nat} : okl (fun k => RCLb k = true) [some (.ref 24), some (.ref 12), some (.int (nI c)), none] := fun j v hj => by
  match j, hj with
  | 0, hj => cases hj; intro b e; cases e; decide
  | 1, hj => cases hj; intro b e; cases e; decide
  | 2, hj => cases hj; intro b e; cases e
  | 3, hj => cases hj
  | j + 4, hj => simp at hj
set_option maxRecDepth 20000 in
set_option maxHeartbeats 1000000 in
theorem w_tc2_z {xs : Nat → Int32} {L d : Nat} {h : ev_H} {h0 : ev_H} {c k : Nat} {G : Nat → Int32} {lc sc wr el fs bs bz : Int32} (hS : SH h) (hc : c ≤ 16) (hck : c ≤ 40) (hF : KT h0 h) (h2 : h 2 = c2 (nI c) lc sc wr el) (f13 : h 13 = c13 (ltO G c) (ltE G c) 0 fs) (f24 : h 24 = c24 (nI c) 0 bs bz) (hLN : LN c G h) (hSC : SCk k G (ltO G c &&& ltE G c) h) (hSD : SD4 G c h) (hk : k = c) : EV xs L (d + 5) 0 0 M_X11_takeClauses 434 h 100 [some (.ref 2), some (.int (nI k))] [] (fun sz' h' r => sz' = 434 ∧ SH h' ∧ KT h0 h' ∧ h' 2 = c2 (nI c) (nI c) 0 (-9) (enF G c 0) ∧ LN c G h' ∧ (∃ fs, h' 13 = c13 (ltO G c) (ltE G c) 0 fs) ∧ (∃ bs bz, h' 24 = c24 (nI c) 0 bs bz) ∧ SCk c G (ltO G c &&& ltE G c) h' ∧ SD4 G c h' ∧ r = []) := by
  refine r_iload_n rfl dX11_takeClauses_100 rfl ?_
  refine r_aload_n rfl dX11_takeClauses_101 rfl ?_
  refine r_getv 11 rfl dX11_takeClauses_102 (show 2 ≤ 2 ∧ 2 < 434 by decide) h2 fl_X11_108 rfl ?_
  refine r_icmp_ge (tgt := 130) rfl rfl dX11_takeClauses_105 (fun _ => ?_) (fun zc => absurd (show nI c ≤ nI k from nI_le (a := c) (b := k) (by omega) (by omega)) zc)
  refine r_aload_n rfl dX11_takeClauses_130 rfl ?_
  refine r_getv 5 rfl dX11_takeClauses_131 (show 2 ≤ 2 ∧ 2 < 434 by decide) h2 fl_X11_46 rfl ?_
  obtain ⟨g51, hw52⟩ := hS.ws wsAt_93
  refine cl_X11_256 rfl rfl dX11_takeClauses_134 (show 2 ≤ 93 ∧ 93 < 434 by decide).1 (show 2 ≤ 93 ∧ 93 < 434 by decide).2 hw52.2.2.1 (Nat.le_of_ble_eq_true rfl) (s_X10_wipe hw52) ?_
  rintro _ h53 _ ⟨rfl, eh54, rfl⟩
  have hS55 := SH_p hS wsAt_93 eh54
  have hk56 : KX [] h h53 := KX_p wsAt_93 eh54
  have sc57 := SC_f (by omega) (fun q _ _ => K1_up eh54 q (by omega)) hSC
  have sd58 := SD4_f (fun q _ _ => K1_up eh54 q (by omega)) hSD
  have hF59 := KT_tr hF (KT_x (by decide) hk56)
  have f60 : h53 (2) = .inr (11, [.ref 3, .ref 5, .ref 12, .ref 13, .ref 24, .ref 93, .ref 95, .ref 96, .ref 97, .ref 98, .ref 99, .int (nI c), .int lc, .int sc, .int wr, .int el]) := (hk56 _ (by decide) nSP_2).trans h2
  have f61 : h53 (13) = .inr (7, [.ref 14, .ref 16, .ref 18, .ref 20, .ref 22, .int (ltO G c), .int (ltE G c), .int 0, .int fs]) := (hk56 _ (by decide) nSP_13).trans f13
  have f62 : h53 (24) = .inr (0, [.ref 25, .ref 26, .int (nI c), .int 0, .int bs, .int bz]) := (hk56 _ (by decide) nSP_24).trans f24
  have LN63 := LN_kx (by decide) hk56 (by omega) hLN
  refine r_aload_n rfl dX11_takeClauses_137 rfl ?_
  refine cl_X11_257 rfl rfl dX11_takeClauses_138 (show 2 ≤ 2 ∧ 2 < 434 by decide).1 (show 2 ≤ 2 ∧ 2 < 434 by decide).2 f60 (Nat.le_of_ble_eq_true rfl) (s_X11_forgetProofx hS55 f60) ?_
  rintro _ h64 _ ⟨rfl, hS65, hk66, f67, rfl⟩
  have hk68 : KX [2] h53 h64 := KX_M (fun _ z => z) hk66
  have sc69 := SC_f (by omega) (fun q _ _ => hk66 q (by simp <;> omega)) sc57
  have sd70 := SD4_f (fun q _ _ => hk66 q (by simp <;> omega)) sd58
  have hF71 := KT_tr hF59 (KT_x (by decide) hk68)
  have f72 : h64 (13) = .inr (7, [.ref 14, .ref 16, .ref 18, .ref 20, .ref 22, .int (ltO G c), .int (ltE G c), .int 0, .int fs]) := (hk68 _ (by decide) nSP_13).trans f61
  have f73 : h64 (24) = .inr (0, [.ref 25, .ref 26, .int (nI c), .int 0, .int bs, .int bz]) := (hk68 _ (by decide) nSP_24).trans f62
  have LN74 := LN_kx (by decide) hk68 (by omega) LN63
  refine r_aload_n rfl dX11_takeClauses_141 rfl ?_
  refine r_aload_n rfl dX11_takeClauses_142 rfl ?_
  refine cl_X11_260 rfl rfl dX11_takeClauses_143 (show 2 ≤ 2 ∧ 2 < 434 by decide).1 (show 2 ≤ 2 ∧ 2 < 434 by decide).2 f67 (Nat.le_of_ble_eq_true rfl) (x_X11_firstEmptyLine hS65 hck f67 LN74) ?_
  rintro _ h75 _ ⟨rfl, e76, rfl⟩
  replace e76 := e76.symm
  subst e76
  refine e_put 15 (fs' := [.ref 3, .ref 5, .ref 12, .ref 13, .ref 24, .ref 93, .ref 95, .ref 96, .ref 97, .ref 98, .ref 99, .int (nI c), .int (nI c), .int 0, .int (-9), .int (enF G c 0)]) rfl dX11_takeClauses_146 (show 2 ≤ 2 ∧ 2 < 434 by decide) hS65 (KM_rf (Mod := [2]) _) (List.mem_singleton.mpr rfl) f67 (fp_X11_86 rfl _) (Nat.le_of_ble_eq_true rfl) rfl (fun h78 hS79 _ hN80 f81 => ?_)
  have hk82 : KX [2] h64 h78 := KX_M (fun _ z => z) hN80
  have hF83 := KT_tr hF71 (KT_x (by decide) hk82)
  have f84 : h78 (13) = .inr (7, [.ref 14, .ref 16, .ref 18, .ref 20, .ref 22, .int (ltO G c), .int (ltE G c), .int 0, .int fs]) := (hk82 _ (by decide) nSP_13).trans f72
  have f85 : h78 (24) = .inr (0, [.ref 25, .ref 26, .int (nI c), .int 0, .int bs, .int bz]) := (hk82 _ (by decide) nSP_24).trans f73
  have LN86 := LN_kx (by decide) hk82 (by omega) LN74
  have sc87 := SC_f (by omega) (fun q _ _ => hN80 q (by simp <;> omega)) sc69
  have sd88 := SD4_f (fun q _ _ => hN80 q (by simp <;> omega)) sd70
  subst hk
  exact r_ret dX11_takeClauses_149 (rt_v rfl) ⟨rfl, hS79, hF83, f81, LN86, ⟨_, f84⟩, ⟨_, _, f85⟩, sc87, sd88, rfl⟩
set_option maxRecDepth 20000 in
set_option maxHeartbeats 1000000 in
theorem w_tc2_s {xs : Nat → Int32} {L d : Nat} {h : ev_H} {h0 : ev_H} {c k : Nat} {G : Nat → Int32} {lc sc wr el fs bs bz : Int32} (hS : SH h) (hc : c ≤ 16) (hck : c ≤ 40) (hF : KT h0 h) (h2 : h 2 = c2 (nI c) lc sc wr el) (f13 : h 13 = c13 (ltO G c) (ltE G c) 0 fs) (f24 : h 24 = c24 (nI c) 0 bs bz) (hLN : LN c G h) (hSC : SCk k G (ltO G c &&& ltE G c) h) (hSD : SD4 G c h) (hk : k < c) (ih : ∀ (h' : ev_H), SH h' → KT h0 h' → h' 2 = c2 (nI c) lc sc wr el → h' 13 = c13 (ltO G c) (ltE G c) 0 fs → h' 24 = c24 (nI c) 0 bs bz → LN c G h' → SCk (k + 1) G (ltO G c &&& ltE G c) h' → SD4 G c h' → EV xs L (d + 5) 0 0 M_X11_takeClauses 434 h' 100 [some (.ref 2), some (.int (nI (k + 1)))] [] (fun sz' h' r => sz' = 434 ∧ SH h' ∧ KT h0 h' ∧ h' 2 = c2 (nI c) (nI c) 0 (-9) (enF G c 0) ∧ LN c G h' ∧ (∃ fs, h' 13 = c13 (ltO G c) (ltE G c) 0 fs) ∧ (∃ bs bz, h' 24 = c24 (nI c) 0 bs bz) ∧ SCk c G (ltO G c &&& ltE G c) h' ∧ SD4 G c h' ∧ r = [])) : EV xs L (d + 5) 0 0 M_X11_takeClauses 434 h 100 [some (.ref 2), some (.int (nI k))] [] (fun sz' h' r => sz' = 434 ∧ SH h' ∧ KT h0 h' ∧ h' 2 = c2 (nI c) (nI c) 0 (-9) (enF G c 0) ∧ LN c G h' ∧ (∃ fs, h' 13 = c13 (ltO G c) (ltE G c) 0 fs) ∧ (∃ bs bz, h' 24 = c24 (nI c) 0 bs bz) ∧ SCk c G (ltO G c &&& ltE G c) h' ∧ SD4 G c h' ∧ r = []) := by
  refine r_iload_n rfl dX11_takeClauses_100 rfl ?_
  refine r_aload_n rfl dX11_takeClauses_101 rfl ?_
  refine r_getv 11 rfl dX11_takeClauses_102 (show 2 ≤ 2 ∧ 2 < 434 by decide) h2 fl_X11_108 rfl ?_
  refine r_icmp_ge (tgt := 130) rfl rfl dX11_takeClauses_105 (fun zc => absurd zc (show ¬ nI c ≤ nI k from nI_ge (a := k) (b := c) (by omega) (by omega))) (fun _ => ?_)
  refine r_aload_n rfl dX11_takeClauses_108 rfl ?_
  refine r_getv 2 rfl dX11_takeClauses_109 (show 2 ≤ 2 ∧ 2 < 434 by decide) h2 fl_X11_25 rfl ?_
  refine r_iload_n rfl dX11_takeClauses_112 rfl ?_
  refine r_aald (jn := k) (v := .ref (100 + 8 * k)) rfl dX11_takeClauses_113 (show 2 ≤ 12 ∧ 12 < 434 by decide).1 (show 2 ≤ 12 ∧ 12 < 434 by decide).2 hS.o12 (by decide) (vp_in_nI (n := k) (by omega) (by decide)) (nI_clamp (n := k) (by omega)) (by show va_rf (if _ < _ then _ else _) = _; rw [if_pos (show k < 40 by omega)]; rfl) ?_
  refine r_aload_n rfl dX11_takeClauses_114 rfl ?_
  refine r_getv 3 rfl dX11_takeClauses_115 (show 2 ≤ 2 ∧ 2 < 434 by decide) h2 fl_X11_32 rfl ?_
  refine cl_X11_214 rfl rfl dX11_takeClauses_118 (show 2 ≤ 13 ∧ 13 < 434 by decide).1 (show 2 ≤ 13 ∧ 13 < 434 by decide).2 f13 (Nat.le_of_ble_eq_true rfl) (x_X7_sharedLetters hS f13) ?_
  rintro _ h51 _ ⟨rfl, e52, rfl⟩
  replace e52 := e52.symm
  subst e52
  refine cl_X11_252 rfl rfl dX11_takeClauses_121 (show 2 ≤ 100 + 8 * k ∧ 100 + 8 * k < 434 by omega).1 (show 2 ≤ 100 + 8 * k ∧ 100 + 8 * k < 434 by omega).2 (hLN k (by omega)) (Nat.le_of_ble_eq_true rfl) (v_X3_sayAsClause hS (i := k) (by omega) (hLN k (by omega))) ?_
  rintro _ h54 _ ⟨rfl, hS55, hk56, w57, rfl⟩
  have hk58 : KX [] h h54 := K3_X (i := k) (by omega) hk56
  have sc59 := SC_s hSC hk56 w57
  have sd60 := SD4_f (fun q _ _ => hk56 q (by omega) (by omega) (by omega)) hSD
  have hF61 := KT_tr hF (KT_x (by decide) hk58)
  have f62 : h54 (2) = .inr (11, [.ref 3, .ref 5, .ref 12, .ref 13, .ref 24, .ref 93, .ref 95, .ref 96, .ref 97, .ref 98, .ref 99, .int (nI c), .int lc, .int sc, .int wr, .int el]) := (hk58 _ (by decide) nSP_2).trans h2
  have f63 : h54 (13) = .inr (7, [.ref 14, .ref 16, .ref 18, .ref 20, .ref 22, .int (ltO G c), .int (ltE G c), .int 0, .int fs]) := (hk58 _ (by decide) nSP_13).trans f13
  have f64 : h54 (24) = .inr (0, [.ref 25, .ref 26, .int (nI c), .int 0, .int bs, .int bz]) := (hk58 _ (by decide) nSP_24).trans f24
  have LN65 := LN_kx (by decide) hk58 (by omega) hLN
  refine r_iinc (y := nI (k + 1)) (ls' := [some (.ref 2), some (.int (nI (k + 1)))]) rfl dX11_takeClauses_124 rfl (nI_1 k) (Nat.le_of_ble_eq_true rfl) rfl ?_
  refine r_goto (pc' := 100) rfl dX11_takeClauses_127 ?_
  exact ih h54 hS55 hF61 f62 f63 f64 LN65 sc59 sd60
theorem w_tc2 {xs : Nat → Int32} {L d : Nat} {h0 : ev_H} {c : Nat} {G : Nat → Int32} {lc sc wr el fs bs bz : Int32} (hc : c ≤ 16) : ∀ (n k : Nat) (h : ev_H), k + n = c → SH h → KT h0 h → h 2 = c2 (nI c) lc sc wr el → h 13 = c13 (ltO G c) (ltE G c) 0 fs → h 24 = c24 (nI c) 0 bs bz → LN c G h → SCk k G (ltO G c &&& ltE G c) h → SD4 G c h → EV xs L (d + 5) 0 0 M_X11_takeClauses 434 h 100 [some (.ref 2), some (.int (nI k))] [] (fun sz' h' r => sz' = 434 ∧ SH h' ∧ KT h0 h' ∧ h' 2 = c2 (nI c) (nI c) 0 (-9) (enF G c 0) ∧ LN c G h' ∧ (∃ fs, h' 13 = c13 (ltO G c) (ltE G c) 0 fs) ∧ (∃ bs bz, h' 24 = c24 (nI c) 0 bs bz) ∧ SCk c G (ltO G c &&& ltE G c) h' ∧ SD4 G c h' ∧ r = []) := by
  intro n
  induction n with
  | zero => intro k h hk hS hF h2 f13 f24 hLN hSC hSD; exact w_tc2_z hS hc (by omega) hF h2 f13 f24 hLN hSC hSD (by omega)
  | succ n ih => intro k h hk hS hF h2 f13 f24 hLN hSC hSD; exact w_tc2_s hS hc (by omega) hF h2 f13 f24 hLN hSC hSD (by omega) (fun h' q1 q2 q3 q4 q5 q6 q7 q8 => ih (k + 1) h' (by omega) q1 q2 q3 q4 q5 q6 q7 q8)
set_option maxRecDepth 20000 in
set_option maxHeartbeats 1000000 in
theorem w_tc1_z {xs : Nat → Int32} {L d : Nat} {h : ev_H} {h0 : ev_H} {c k : Nat} {G : Nat → Int32} {lc sc wr el : Int32} (hS : SH h) (hc : c ≤ 16) (hck : c ≤ 40) (hF : KT h0 h) (h2 : h 2 = c2 (nI c) lc sc wr el) (hLN : LN c G h) (hk : k = c) : EV xs L (d + 5) 0 0 M_X11_takeClauses 434 h 21 [some (.ref 2), some (.int (nI k))] [] (fun sz' h' r => sz' = 434 ∧ SH h' ∧ KT h0 h' ∧ h' 2 = c2 (nI c) (nI c) 0 (-9) (enF G c 0) ∧ LN c G h' ∧ (∃ fs, h' 13 = c13 (ltO G c) (ltE G c) 0 fs) ∧ (∃ bs bz, h' 24 = c24 (nI c) 0 bs bz) ∧ SCk c G (ltO G c &&& ltE G c) h' ∧ SD4 G c h' ∧ r = []) := by
  refine r_iload_n rfl dX11_takeClauses_21 rfl ?_
  refine r_aload_n rfl dX11_takeClauses_22 rfl ?_
  refine r_getv 11 rfl dX11_takeClauses_23 (show 2 ≤ 2 ∧ 2 < 434 by decide) h2 fl_X11_108 rfl ?_
  refine r_icmp_ge (tgt := 68) rfl rfl dX11_takeClauses_26 (fun _ => ?_) (fun zc => absurd (show nI c ≤ nI k from nI_le (a := c) (b := k) (by omega) (by omega)) zc)
  refine r_aload_n rfl dX11_takeClauses_68 rfl ?_
  refine r_getv 3 rfl dX11_takeClauses_69 (show 2 ≤ 2 ∧ 2 < 434 by decide) h2 fl_X11_32 rfl ?_
  refine r_aload_n rfl dX11_takeClauses_72 rfl ?_
  refine r_getv 2 rfl dX11_takeClauses_73 (show 2 ≤ 2 ∧ 2 < 434 by decide) h2 fl_X11_25 rfl ?_
  refine r_aload_n rfl dX11_takeClauses_76 rfl ?_
  refine r_getv 11 rfl dX11_takeClauses_77 (show 2 ≤ 2 ∧ 2 < 434 by decide) h2 fl_X11_108 rfl ?_
  obtain ⟨y51, y52, y53, y54, f55⟩ := hS.o13
  refine cl_X11_247 rfl rfl dX11_takeClauses_80 (show 2 ≤ 13 ∧ 13 < 434 by decide).1 (show 2 ≤ 13 ∧ 13 < 434 by decide).2 f55 (Nat.le_of_ble_eq_true rfl) (v_X7_learn hS hck f55 hLN) ?_
  rintro _ h56 _ ⟨rfl, hS57, kg58, ⟨fs59, f60⟩, w61, w62, w63, w64, rfl⟩
  have hk65 : KX [13] h h56 := KX_G kg58
  have sd66 : SDo G c h56 := ⟨w61, w62, w63, w64⟩
  have hF67 := KT_tr hF (KT_x (by decide) hk65)
  have f68 : h56 (2) = .inr (11, [.ref 3, .ref 5, .ref 12, .ref 13, .ref 24, .ref 93, .ref 95, .ref 96, .ref 97, .ref 98, .ref 99, .int (nI c), .int lc, .int sc, .int wr, .int el]) := (hk65 _ (by decide) nSP_2).trans h2
  have LN69 := LN_kx (by decide) hk65 (by omega) hLN
  refine r_aload_n rfl dX11_takeClauses_83 rfl ?_
  refine r_getv 4 rfl dX11_takeClauses_84 (show 2 ≤ 2 ∧ 2 < 434 by decide) f68 fl_X11_39 rfl ?_
  refine r_aload_n rfl dX11_takeClauses_87 rfl ?_
  refine r_getv 2 rfl dX11_takeClauses_88 (show 2 ≤ 2 ∧ 2 < 434 by decide) f68 fl_X11_25 rfl ?_
  refine r_aload_n rfl dX11_takeClauses_91 rfl ?_
  refine r_getv 11 rfl dX11_takeClauses_92 (show 2 ≤ 2 ∧ 2 < 434 by decide) f68 fl_X11_108 rfl ?_
  obtain ⟨y70, y71, y72, y73, f74⟩ := hS57.o24
  refine cl_X11_251 rfl rfl dX11_takeClauses_95 (show 2 ≤ 24 ∧ 24 < 434 by decide).1 (show 2 ≤ 24 ∧ 24 < 434 by decide).2 f74 (Nat.le_of_ble_eq_true rfl) (EV.shKR rfl RCLb_b RCLb_d (v_X0_learn hS57 hc hck f74 LN69) hS57 okl_24) ?_
  rintro _ h75 _ ⟨⟨rfl, hS76, hk77, ⟨b78, z79, f80⟩, hg80, rfl⟩, -, -, kr81⟩
  have sd82 : SD4 G c h75 := ⟨SDo_f (fun q h1 h2 => kr81 q (RCLb_n h1 h2)) sd66, hg80, hc⟩
  have hF83 := KT_tr hF67 (KT_x (by decide) hk77)
  have f84 : h75 (2) = .inr (11, [.ref 3, .ref 5, .ref 12, .ref 13, .ref 24, .ref 93, .ref 95, .ref 96, .ref 97, .ref 98, .ref 99, .int (nI c), .int lc, .int sc, .int wr, .int el]) := (hk77 _ (by decide) nSP_2).trans f68
  have f85 : h75 (13) = .inr (7, [.ref 14, .ref 16, .ref 18, .ref 20, .ref 22, .int (ltO G c), .int (ltE G c), .int 0, .int fs59]) := (hk77 _ (by decide) nSP_13).trans f60
  have LN86 := LN_kx (by decide) hk77 (by omega) LN69
  refine r_iconst (v := 0) rfl dX11_takeClauses_98 (by decide) ?_
  refine r_istore_n (ls' := [some (.ref 2), some (.int 0)]) rfl dX11_takeClauses_99 (Nat.le_of_ble_eq_true rfl) rfl ?_
  exact w_tc2 hc c 0 h75 (by omega) hS76 hF83 f84 f85 f80 LN86 (fun i hi => absurd hi (by omega)) sd82
set_option maxRecDepth 20000 in
set_option maxHeartbeats 1000000 in
theorem w_tc1_s {xs : Nat → Int32} {L d : Nat} {h : ev_H} {h0 : ev_H} {c k : Nat} {lc sc wr el cr pl tu sr : Int32} {A B C : Nat → Int32} (hS : SH h) (hc : c ≤ 16) (hck : c ≤ 40) (hF : KT h0 h) (h2 : h 2 = c2 (nI c) lc sc wr el) (h5 : h 5 = c5 cr pl tu sr) (h6 : h 6 = cI 16 A) (h7 : h 7 = cI 16 B) (h8 : h 8 = cI 16 C) (hLN : LN k (clG A B C) h) (hk : k < c) (ih : ∀ (h' : ev_H), SH h' → KT h0 h' → h' 2 = c2 (nI c) lc sc wr el → h' 5 = c5 cr pl tu sr → h' 6 = cI 16 A → h' 7 = cI 16 B → h' 8 = cI 16 C → LN (k + 1) (clG A B C) h' → EV xs L (d + 5) 0 0 M_X11_takeClauses 434 h' 21 [some (.ref 2), some (.int (nI (k + 1)))] [] (fun sz' h' r => sz' = 434 ∧ SH h' ∧ KT h0 h' ∧ h' 2 = c2 (nI c) (nI c) 0 (-9) (enF (clG A B C) c 0) ∧ LN c (clG A B C) h' ∧ (∃ fs, h' 13 = c13 (ltO (clG A B C) c) (ltE (clG A B C) c) 0 fs) ∧ (∃ bs bz, h' 24 = c24 (nI c) 0 bs bz) ∧ SCk c (clG A B C) (ltO (clG A B C) c &&& ltE (clG A B C) c) h' ∧ SD4 (clG A B C) c h' ∧ r = [])) : EV xs L (d + 5) 0 0 M_X11_takeClauses 434 h 21 [some (.ref 2), some (.int (nI k))] [] (fun sz' h' r => sz' = 434 ∧ SH h' ∧ KT h0 h' ∧ h' 2 = c2 (nI c) (nI c) 0 (-9) (enF (clG A B C) c 0) ∧ LN c (clG A B C) h' ∧ (∃ fs, h' 13 = c13 (ltO (clG A B C) c) (ltE (clG A B C) c) 0 fs) ∧ (∃ bs bz, h' 24 = c24 (nI c) 0 bs bz) ∧ SCk c (clG A B C) (ltO (clG A B C) c &&& ltE (clG A B C) c) h' ∧ SD4 (clG A B C) c h' ∧ r = []) := by
  refine r_iload_n rfl dX11_takeClauses_21 rfl ?_
  refine r_aload_n rfl dX11_takeClauses_22 rfl ?_
  refine r_getv 11 rfl dX11_takeClauses_23 (show 2 ≤ 2 ∧ 2 < 434 by decide) h2 fl_X11_108 rfl ?_
  refine r_icmp_ge (tgt := 68) rfl rfl dX11_takeClauses_26 (fun zc => absurd zc (show ¬ nI c ≤ nI k from nI_ge (a := k) (b := c) (by omega) (by omega))) (fun _ => ?_)
  refine r_aload_n rfl dX11_takeClauses_29 rfl ?_
  refine r_getv 2 rfl dX11_takeClauses_30 (show 2 ≤ 2 ∧ 2 < 434 by decide) h2 fl_X11_25 rfl ?_
  refine r_iload_n rfl dX11_takeClauses_33 rfl ?_
  refine r_aald (jn := k) (v := .ref (100 + 8 * k)) rfl dX11_takeClauses_34 (show 2 ≤ 12 ∧ 12 < 434 by decide).1 (show 2 ≤ 12 ∧ 12 < 434 by decide).2 hS.o12 (by decide) (vp_in_nI (n := k) (by omega) (by decide)) (nI_clamp (n := k) (by omega)) (by show va_rf (if _ < _ then _ else _) = _; rw [if_pos (show k < 40 by omega)]; rfl) ?_
  refine r_aload_n rfl dX11_takeClauses_35 rfl ?_
  refine r_getv 1 rfl dX11_takeClauses_36 (show 2 ≤ 2 ∧ 2 < 434 by decide) h2 fl_X11_19 rfl ?_
  refine r_iload_n rfl dX11_takeClauses_39 rfl ?_
  refine cl_X11_234 rfl rfl dX11_takeClauses_40 (show 2 ≤ 5 ∧ 5 < 434 by decide).1 (show 2 ≤ 5 ∧ 5 < 434 by decide).2 h5 (Nat.le_of_ble_eq_true rfl) (s_X4_sideOf hS h5 h6 (k := k) (by omega)) ?_
  rintro _ h51 _ ⟨rfl, e52, rfl⟩
  replace e52 := e52.symm
  subst e52
  refine r_aload_n rfl dX11_takeClauses_43 rfl ?_
  refine r_getv 1 rfl dX11_takeClauses_44 (show 2 ≤ 2 ∧ 2 < 434 by decide) h2 fl_X11_19 rfl ?_
  refine r_iload_n rfl dX11_takeClauses_47 rfl ?_
  refine cl_X11_237 rfl rfl dX11_takeClauses_48 (show 2 ≤ 5 ∧ 5 < 434 by decide).1 (show 2 ≤ 5 ∧ 5 < 434 by decide).2 h5 (Nat.le_of_ble_eq_true rfl) (s_X4_plainOf hS h5 h7 (k := k) (by omega)) ?_
  rintro _ h53 _ ⟨rfl, e54, rfl⟩
  replace e54 := e54.symm
  subst e54
  refine r_aload_n rfl dX11_takeClauses_51 rfl ?_
  refine r_getv 1 rfl dX11_takeClauses_52 (show 2 ≤ 2 ∧ 2 < 434 by decide) h2 fl_X11_19 rfl ?_
  refine r_iload_n rfl dX11_takeClauses_55 rfl ?_
  refine cl_X11_240 rfl rfl dX11_takeClauses_56 (show 2 ≤ 5 ∧ 5 < 434 by decide).1 (show 2 ≤ 5 ∧ 5 < 434 by decide).2 h5 (Nat.le_of_ble_eq_true rfl) (s_X4_turnedOf hS h5 h8 (k := k) (by omega)) ?_
  rintro _ h55 _ ⟨rfl, e56, rfl⟩
  replace e56 := e56.symm
  subst e56
  obtain ⟨y57, y58, y59, y60, y61, y62, f63⟩ := hS.ln (i := k) (by omega)
  refine cl_X11_243 rfl rfl dX11_takeClauses_59 (show 2 ≤ 100 + 8 * k ∧ 100 + 8 * k < 434 by omega).1 (show 2 ≤ 100 + 8 * k ∧ 100 + 8 * k < 434 by omega).2 f63 (Nat.le_of_ble_eq_true rfl) (x_X3_becomeClause hS (i := k) (by omega) f63) ?_
  rintro _ h64 _ ⟨rfl, hS65, hk66, f67, rfl⟩
  have hF68 := KT_tr hF (KT_l (i := k) (by omega) hk66)
  have f69 : h64 (2) = .inr (11, [.ref 3, .ref 5, .ref 12, .ref 13, .ref 24, .ref 93, .ref 95, .ref 96, .ref 97, .ref 98, .ref 99, .int (nI c), .int lc, .int sc, .int wr, .int el]) := (hk66 _ (by simp <;> omega) nSP_2).trans h2
  have f70 : h64 (5) = .inr (4, [.ref 6, .ref 7, .ref 8, .int cr, .int pl, .int tu, .ref 9, .ref 10, .ref 11, .int sr]) := (hk66 _ (by simp <;> omega) nSP_5).trans h5
  have f71 : h64 (6) = .inl (0, 16, .inl A) := (hk66 _ (by simp <;> omega) nSP_6).trans h6
  have f72 : h64 (7) = .inl (0, 16, .inl B) := (hk66 _ (by simp <;> omega) nSP_7).trans h7
  have f73 : h64 (8) = .inl (0, 16, .inl C) := (hk66 _ (by simp <;> omega) nSP_8).trans h8
  refine r_iinc (y := nI (k + 1)) (ls' := [some (.ref 2), some (.int (nI (k + 1)))]) rfl dX11_takeClauses_62 rfl (nI_1 k) (Nat.le_of_ble_eq_true rfl) rfl ?_
  refine r_goto (pc' := 21) rfl dX11_takeClauses_65 ?_
  exact ih h64 hS65 hF68 f69 f70 f71 f72 f73 (LN_s (by omega) hLN hk66 (by rw [clG_0, clG_1, clG_2, clG_3 A B C k 3 (by decide), clG_3 A B C k 4 (by decide), clG_3 A B C k 5 (by decide)]; exact f67))
theorem w_tc1 {xs : Nat → Int32} {L d : Nat} {h0 : ev_H} {c : Nat} {lc sc wr el cr pl tu sr : Int32} {A B C : Nat → Int32} (hc : c ≤ 16) : ∀ (n k : Nat) (h : ev_H), k + n = c → SH h → KT h0 h → h 2 = c2 (nI c) lc sc wr el → h 5 = c5 cr pl tu sr → h 6 = cI 16 A → h 7 = cI 16 B → h 8 = cI 16 C → LN k (clG A B C) h → EV xs L (d + 5) 0 0 M_X11_takeClauses 434 h 21 [some (.ref 2), some (.int (nI k))] [] (fun sz' h' r => sz' = 434 ∧ SH h' ∧ KT h0 h' ∧ h' 2 = c2 (nI c) (nI c) 0 (-9) (enF (clG A B C) c 0) ∧ LN c (clG A B C) h' ∧ (∃ fs, h' 13 = c13 (ltO (clG A B C) c) (ltE (clG A B C) c) 0 fs) ∧ (∃ bs bz, h' 24 = c24 (nI c) 0 bs bz) ∧ SCk c (clG A B C) (ltO (clG A B C) c &&& ltE (clG A B C) c) h' ∧ SD4 (clG A B C) c h' ∧ r = []) := by
  intro n
  induction n with
  | zero => intro k h hk hS hF h2 h5 h6 h7 h8 hLN; obtain rfl : k = c := (by omega); exact w_tc1_z hS hc (by omega) hF h2 hLN rfl
  | succ n ih => intro k h hk hS hF h2 h5 h6 h7 h8 hLN; exact w_tc1_s hS hc (by omega) hF h2 h5 h6 h7 h8 hLN (by omega) (fun h' q1 q2 q3 q4 q5 q6 q7 q8 => ih (k + 1) h' (by omega) q1 q2 q3 q4 q5 q6 q7 q8)
set_option maxRecDepth 20000 in
set_option maxHeartbeats 1000000 in
theorem w_X11_takeClauses {xs : Nat → Int32} {L d : Nat} {h : ev_H} {c : Nat} {cc lc sc wr el pl tu sr : Int32} {A B C : Nat → Int32} (hS : SH h) (hc : c ≤ 16) (h2 : h 2 = c2 cc lc sc wr el) (h5 : h 5 = c5 (nI c) pl tu sr) (h6 : h 6 = cI 16 A) (h7 : h 7 = cI 16 B) (h8 : h 8 = cI 16 C) : EV xs L (d + 5) 0 0 M_X11_takeClauses 434 h 0 [some (.ref 2), none] [] (fun sz' h' r => sz' = 434 ∧ SH h' ∧ KT h h' ∧ h' 2 = c2 (nI c) (nI c) 0 (-9) (enF (clG A B C) c 0) ∧ LN c (clG A B C) h' ∧ (∃ fs, h' 13 = c13 (ltO (clG A B C) c) (ltE (clG A B C) c) 0 fs) ∧ (∃ bs bz, h' 24 = c24 (nI c) 0 bs bz) ∧ SCk c (clG A B C) (ltO (clG A B C) c &&& ltE (clG A B C) c) h' ∧ SD4 (clG A B C) c h' ∧ r = []) := by
  refine r_aload_n rfl dX11_takeClauses_0 rfl ?_
  refine r_aload_n rfl dX11_takeClauses_1 rfl ?_
  refine r_getv 1 rfl dX11_takeClauses_2 (show 2 ≤ 2 ∧ 2 < 434 by decide) h2 fl_X11_19 rfl ?_
  refine cl_X11_226 rfl rfl dX11_takeClauses_5 (show 2 ≤ 5 ∧ 5 < 434 by decide).1 (show 2 ≤ 5 ∧ 5 < 434 by decide).2 h5 (Nat.le_of_ble_eq_true rfl) (s_X4_clausesRead hS h5) ?_
  rintro _ h51 _ ⟨rfl, e52, rfl⟩
  replace e52 := e52.symm
  subst e52
  refine r_aload_n rfl dX11_takeClauses_8 rfl ?_
  refine r_getv 2 rfl dX11_takeClauses_9 (show 2 ≤ 2 ∧ 2 < 434 by decide) h2 fl_X11_25 rfl ?_
  refine r_alen (v := 40) rfl dX11_takeClauses_12 (by decide) (by decide) hS.o12 (by decide) rfl ?_
  refine r_min rfl dX11_takeClauses_13 (Nat.succ_pos _) (Nat.le_of_ble_eq_true rfl) mm_X11_229 mm_st mm_in mm_co ?_
  refine r_eqi (y := nI c) (if_neg (show ¬ (40 : Int32) < nI c from nI_nlt (a := 40) (b := c) (by omega) (by decide))) ?_
  refine e_put 11 (fs' := [.ref 3, .ref 5, .ref 12, .ref 13, .ref 24, .ref 93, .ref 95, .ref 96, .ref 97, .ref 98, .ref 99, .int (nI c), .int lc, .int sc, .int wr, .int el]) rfl dX11_takeClauses_16 (show 2 ≤ 2 ∧ 2 < 434 by decide) hS (KM_rf (Mod := [2]) _) (List.mem_singleton.mpr rfl) h2 (fp_X11_108 rfl _) (Nat.le_of_ble_eq_true rfl) rfl (fun h53 hS54 _ hN55 f56 => ?_)
  have hk57 : KX [2] h h53 := KX_M (fun _ z => z) hN55
  have hF58 := KT_tr (KT_rf h) (KT_x (by decide) hk57)
  have f59 : h53 (5) = .inr (4, [.ref 6, .ref 7, .ref 8, .int (nI c), .int pl, .int tu, .ref 9, .ref 10, .ref 11, .int sr]) := (hk57 _ (by decide) nSP_5).trans h5
  have f60 : h53 (6) = .inl (0, 16, .inl A) := (hk57 _ (by decide) nSP_6).trans h6
  have f61 : h53 (7) = .inl (0, 16, .inl B) := (hk57 _ (by decide) nSP_7).trans h7
  have f62 : h53 (8) = .inl (0, 16, .inl C) := (hk57 _ (by decide) nSP_8).trans h8
  refine r_iconst (v := 0) rfl dX11_takeClauses_19 (by decide) ?_
  refine r_istore_n (ls' := [some (.ref 2), some (.int 0)]) rfl dX11_takeClauses_20 (Nat.le_of_ble_eq_true rfl) rfl ?_
  exact w_tc1 hc c 0 h53 (by omega) hS54 hF58 f56 f59 f60 f61 f62 (fun i hi => absurd hi (by omega))
