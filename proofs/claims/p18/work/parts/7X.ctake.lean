theorem K3_X {i : Nat} {l : List Nat} {h h' : ev_H} (hi : i < 40) (hk : K3 i h h') : KX l h h' := fun k _ hs => hk k (fun z => hs ⟨102 + 8 * i + 2 * 0, wsAt_ln hi (by decide), by omega⟩) (fun z => hs ⟨102 + 8 * i + 2 * 1, wsAt_ln hi (by decide), by omega⟩) (fun z => hs ⟨102 + 8 * i + 2 * 2, wsAt_ln hi (by decide), by omega⟩)
/-- what the first k CLAUSES say, by the class -/
def SCk (k : Nat) (G : Nat → Int32) (m : Int32) (h : ev_H) : Prop := ∀ i, i < k → ∀ w, w < 3 → WD h (102 + 8 * i + 2 * w) (scV (G (6 * i + 2)) (G (6 * i)) (G (6 * i + 1)) m w)
theorem WD_f {h h' : ev_H} {a : Nat} {V : Nat → Int64} (hf : ∀ q, 102 ≤ q → q < 420 → h' q = h q) (ha : 102 ≤ a ∧ a + 1 < 420) (w : WD h a V) : WD h' a V := by
  obtain ⟨t, e⟩ := w
  exact ⟨t, (hf _ (by omega) (by omega)).trans e⟩
theorem SC_f {h h' : ev_H} {k : Nat} {G : Nat → Int32} {m : Int32} (hk : k ≤ 40) (hf : ∀ q, 102 ≤ q → q < 420 → h' q = h q) (h1 : SCk k G m h) : SCk k G m h' := fun i hi w hw => WD_f hf (by omega) (h1 i hi w hw)
theorem SC_s {h h' : ev_H} {k : Nat} {G : Nat → Int32} {m : Int32} (h1 : SCk k G m h) (h3 : K3 k h h') (hw : ∀ w, w < 3 → WD h' (102 + 8 * k + 2 * w) (scV (G (6 * k + 2)) (G (6 * k)) (G (6 * k + 1)) m w)) : SCk (k + 1) G m h' := fun i hi w hw' => by
  by_cases e : i = k
  · subst e; exact hw w hw'
  · exact WD_3 h3 (by omega) (by omega) (by omega) (h1 i (by omega) w hw')
set_option maxRecDepth 20000 in
set_option maxHeartbeats 1000000 in
theorem v_tc2_z {xs : Nat → Int32} {L d : Nat} {h : ev_H} {h0 : ev_H} {c k : Nat} {G : Nat → Int32} {lc sc wr el fs bs bz : Int32} (hS : SH h) (hc : c ≤ 16) (hck : c ≤ 40) (hF : KT h0 h) (h2 : h 2 = c2 (nI c) lc sc wr el) (f13 : h 13 = c13 (ltO G c) (ltE G c) 0 fs) (f24 : h 24 = c24 (nI c) 0 bs bz) (hLN : LN c G h) (hSC : SCk k G (ltO G c &&& ltE G c) h) (hk : k = c) : EV xs L (d + 5) 0 0 M_X11_takeClauses 434 h 100 [some (.ref 2), some (.int (nI k))] [] (fun sz' h' r => sz' = 434 ∧ SH h' ∧ KT h0 h' ∧ h' 2 = c2 (nI c) (nI c) 0 (-9) (enF G c 0) ∧ LN c G h' ∧ (∃ fs, h' 13 = c13 (ltO G c) (ltE G c) 0 fs) ∧ (∃ bs bz, h' 24 = c24 (nI c) 0 bs bz) ∧ SCk c G (ltO G c &&& ltE G c) h' ∧ r = []) := by
  refine r_iload_n rfl dX11_takeClauses_100 rfl ?_
  refine r_aload_n rfl dX11_takeClauses_101 rfl ?_
  refine r_getv 11 rfl dX11_takeClauses_102 (show 2 ≤ 2 ∧ 2 < 434 by decide) h2 fl_X11_108 rfl ?_
  refine r_icmp_ge (tgt := 130) rfl rfl dX11_takeClauses_105 (fun _ => ?_) (fun zc => absurd (show nI c ≤ nI k from nI_le (a := c) (b := k) (by omega) (by omega)) zc)
  refine r_aload_n rfl dX11_takeClauses_130 rfl ?_
  refine r_getv 5 rfl dX11_takeClauses_131 (show 2 ≤ 2 ∧ 2 < 434 by decide) h2 fl_X11_46 rfl ?_
  obtain ⟨g51, hw52⟩ := hS.ws wsAt_93
  refine cl_X11_256 rfl rfl dX11_takeClauses_134 (show 2 ≤ 93 ∧ 93 < 434 by decide).1 (show 2 ≤ 93 ∧ 93 < 434 by decide).2 hw52.2.2.1 (Nat.le_of_ble_eq_true rfl) (s_X10_wipe hw52) ?_
  rintro _ h53 _ ⟨rfl, eh54, rfl⟩
  have hS55 := SH_p hS wsAt_93 eh54
  have hk56 : KX [] h h53 := KX_p wsAt_93 eh54
  have sc57 := SC_f (by omega) (fun q _ _ => K1_up eh54 q (by omega)) hSC
  have hF58 := KT_tr hF (KT_x (by decide) hk56)
  have f59 : h53 (2) = .inr (11, [.ref 3, .ref 5, .ref 12, .ref 13, .ref 24, .ref 93, .ref 95, .ref 96, .ref 97, .ref 98, .ref 99, .int (nI c), .int lc, .int sc, .int wr, .int el]) := (hk56 _ (by decide) nSP_2).trans h2
  have f60 : h53 (13) = .inr (7, [.ref 14, .ref 16, .ref 18, .ref 20, .ref 22, .int (ltO G c), .int (ltE G c), .int 0, .int fs]) := (hk56 _ (by decide) nSP_13).trans f13
  have f61 : h53 (24) = .inr (0, [.ref 25, .ref 26, .int (nI c), .int 0, .int bs, .int bz]) := (hk56 _ (by decide) nSP_24).trans f24
  have LN62 := LN_kx (by decide) hk56 (by omega) hLN
  refine r_aload_n rfl dX11_takeClauses_137 rfl ?_
  refine cl_X11_257 rfl rfl dX11_takeClauses_138 (show 2 ≤ 2 ∧ 2 < 434 by decide).1 (show 2 ≤ 2 ∧ 2 < 434 by decide).2 f59 (Nat.le_of_ble_eq_true rfl) (s_X11_forgetProofx hS55 f59) ?_
  rintro _ h63 _ ⟨rfl, hS64, hk65, f66, rfl⟩
  have hk67 : KX [2] h53 h63 := KX_M (fun _ z => z) hk65
  have sc68 := SC_f (by omega) (fun q _ _ => hk65 q (by simp <;> omega)) sc57
  have hF69 := KT_tr hF58 (KT_x (by decide) hk67)
  have f70 : h63 (13) = .inr (7, [.ref 14, .ref 16, .ref 18, .ref 20, .ref 22, .int (ltO G c), .int (ltE G c), .int 0, .int fs]) := (hk67 _ (by decide) nSP_13).trans f60
  have f71 : h63 (24) = .inr (0, [.ref 25, .ref 26, .int (nI c), .int 0, .int bs, .int bz]) := (hk67 _ (by decide) nSP_24).trans f61
  have LN72 := LN_kx (by decide) hk67 (by omega) LN62
  refine r_aload_n rfl dX11_takeClauses_141 rfl ?_
  refine r_aload_n rfl dX11_takeClauses_142 rfl ?_
  refine cl_X11_260 rfl rfl dX11_takeClauses_143 (show 2 ≤ 2 ∧ 2 < 434 by decide).1 (show 2 ≤ 2 ∧ 2 < 434 by decide).2 f66 (Nat.le_of_ble_eq_true rfl) (x_X11_firstEmptyLine hS64 hck f66 LN72) ?_
  rintro _ h73 _ ⟨rfl, e74, rfl⟩
  replace e74 := e74.symm
  subst e74
  refine e_put 15 (fs' := [.ref 3, .ref 5, .ref 12, .ref 13, .ref 24, .ref 93, .ref 95, .ref 96, .ref 97, .ref 98, .ref 99, .int (nI c), .int (nI c), .int 0, .int (-9), .int (enF G c 0)]) rfl dX11_takeClauses_146 (show 2 ≤ 2 ∧ 2 < 434 by decide) hS64 (KM_rf (Mod := [2]) _) (List.mem_singleton.mpr rfl) f66 (fp_X11_86 rfl _) (Nat.le_of_ble_eq_true rfl) rfl (fun h76 hS77 _ hN78 f79 => ?_)
  have hk80 : KX [2] h63 h76 := KX_M (fun _ z => z) hN78
  have hF81 := KT_tr hF69 (KT_x (by decide) hk80)
  have f82 : h76 (13) = .inr (7, [.ref 14, .ref 16, .ref 18, .ref 20, .ref 22, .int (ltO G c), .int (ltE G c), .int 0, .int fs]) := (hk80 _ (by decide) nSP_13).trans f70
  have f83 : h76 (24) = .inr (0, [.ref 25, .ref 26, .int (nI c), .int 0, .int bs, .int bz]) := (hk80 _ (by decide) nSP_24).trans f71
  have LN84 := LN_kx (by decide) hk80 (by omega) LN72
  have sc85 := SC_f (by omega) (fun q _ _ => hN78 q (by simp <;> omega)) sc68
  subst hk
  exact r_ret dX11_takeClauses_149 (rt_v rfl) ⟨rfl, hS77, hF81, f79, LN84, ⟨_, f82⟩, ⟨_, _, f83⟩, sc85, rfl⟩
set_option maxRecDepth 20000 in
set_option maxHeartbeats 1000000 in
theorem v_tc2_s {xs : Nat → Int32} {L d : Nat} {h : ev_H} {h0 : ev_H} {c k : Nat} {G : Nat → Int32} {lc sc wr el fs bs bz : Int32} (hS : SH h) (hc : c ≤ 16) (hck : c ≤ 40) (hF : KT h0 h) (h2 : h 2 = c2 (nI c) lc sc wr el) (f13 : h 13 = c13 (ltO G c) (ltE G c) 0 fs) (f24 : h 24 = c24 (nI c) 0 bs bz) (hLN : LN c G h) (hSC : SCk k G (ltO G c &&& ltE G c) h) (hk : k < c) (ih : ∀ (h' : ev_H), SH h' → KT h0 h' → h' 2 = c2 (nI c) lc sc wr el → h' 13 = c13 (ltO G c) (ltE G c) 0 fs → h' 24 = c24 (nI c) 0 bs bz → LN c G h' → SCk (k + 1) G (ltO G c &&& ltE G c) h' → EV xs L (d + 5) 0 0 M_X11_takeClauses 434 h' 100 [some (.ref 2), some (.int (nI (k + 1)))] [] (fun sz' h' r => sz' = 434 ∧ SH h' ∧ KT h0 h' ∧ h' 2 = c2 (nI c) (nI c) 0 (-9) (enF G c 0) ∧ LN c G h' ∧ (∃ fs, h' 13 = c13 (ltO G c) (ltE G c) 0 fs) ∧ (∃ bs bz, h' 24 = c24 (nI c) 0 bs bz) ∧ SCk c G (ltO G c &&& ltE G c) h' ∧ r = [])) : EV xs L (d + 5) 0 0 M_X11_takeClauses 434 h 100 [some (.ref 2), some (.int (nI k))] [] (fun sz' h' r => sz' = 434 ∧ SH h' ∧ KT h0 h' ∧ h' 2 = c2 (nI c) (nI c) 0 (-9) (enF G c 0) ∧ LN c G h' ∧ (∃ fs, h' 13 = c13 (ltO G c) (ltE G c) 0 fs) ∧ (∃ bs bz, h' 24 = c24 (nI c) 0 bs bz) ∧ SCk c G (ltO G c &&& ltE G c) h' ∧ r = []) := by
  refine r_iload_n rfl dX11_takeClauses_100 rfl ?_
  refine r_aload_n rfl dX11_takeClauses_101 rfl ?_
  refine r_getv 11 rfl dX11_takeClauses_102 (show 2 ≤ 2 ∧ 2 < 434 by decide) h2 fl_X11_108 rfl ?_
  refine r_icmp_ge (tgt := 130) rfl rfl dX11_takeClauses_105 (fun zc => absurd zc (show ¬ nI c ≤ nI k from nI_ge (a := k) (b := c) (by omega) (by omega))) (fun _ => ?_)
  refine r_aload_n rfl dX11_takeClauses_108 rfl ?_
  refine r_getv 2 rfl dX11_takeClauses_109 (show 2 ≤ 2 ∧ 2 < 434 by decide) h2 fl_X11_25 rfl ?_
  refine r_iload_n rfl dX11_takeClauses_112 rfl ?_
  refine r_aald (jn := k) (v := .ref (100 + 8 * k)) rfl dX11_takeClauses_113 (show 2 ≤ 12 ∧ 12 < 434 by decide).1 (show 2 ≤ 12 ∧ 12 < 434 by decide).2 hS.o12 (by decide) (vp_in_nI (n := k) (by omega) (by decide)) (nI_clamp (n := k) (by omega)) (by show va_rf (if _ < _ then _ else _) = _; rw [if_pos (show k < 40 by omega)]; rfl) ?_
  refine r_aload_n rfl dX11_takeClauses_114 rfl ?_
  refine r_getv 3 rfl dX11_takeClauses_115 (show 2 ≤ 2 ∧ 2 < 434 by decide) h2 fl_X11_32 rfl ?_
  refine cl_X11_214 rfl rfl dX11_takeClauses_118 (show 2 ≤ 13 ∧ 13 < 434 by decide).1 (show 2 ≤ 13 ∧ 13 < 434 by decide).2 f13 (Nat.le_of_ble_eq_true rfl) (x_X7_sharedLetters hS f13) ?_
  rintro _ h51 _ ⟨rfl, e52, rfl⟩
  replace e52 := e52.symm
  subst e52
  refine cl_X11_252 rfl rfl dX11_takeClauses_121 (show 2 ≤ 100 + 8 * k ∧ 100 + 8 * k < 434 by omega).1 (show 2 ≤ 100 + 8 * k ∧ 100 + 8 * k < 434 by omega).2 (hLN k (by omega)) (Nat.le_of_ble_eq_true rfl) (v_X3_sayAsClause hS (i := k) (by omega) (hLN k (by omega))) ?_
  rintro _ h54 _ ⟨rfl, hS55, hk56, w57, rfl⟩
  have hk58 : KX [] h h54 := K3_X (i := k) (by omega) hk56
  have sc59 := SC_s hSC hk56 w57
  have hF60 := KT_tr hF (KT_x (by decide) hk58)
  have f61 : h54 (2) = .inr (11, [.ref 3, .ref 5, .ref 12, .ref 13, .ref 24, .ref 93, .ref 95, .ref 96, .ref 97, .ref 98, .ref 99, .int (nI c), .int lc, .int sc, .int wr, .int el]) := (hk58 _ (by decide) nSP_2).trans h2
  have f62 : h54 (13) = .inr (7, [.ref 14, .ref 16, .ref 18, .ref 20, .ref 22, .int (ltO G c), .int (ltE G c), .int 0, .int fs]) := (hk58 _ (by decide) nSP_13).trans f13
  have f63 : h54 (24) = .inr (0, [.ref 25, .ref 26, .int (nI c), .int 0, .int bs, .int bz]) := (hk58 _ (by decide) nSP_24).trans f24
  have LN64 := LN_kx (by decide) hk58 (by omega) hLN
  refine r_iinc (y := nI (k + 1)) (ls' := [some (.ref 2), some (.int (nI (k + 1)))]) rfl dX11_takeClauses_124 rfl (nI_1 k) (Nat.le_of_ble_eq_true rfl) rfl ?_
  refine r_goto (pc' := 100) rfl dX11_takeClauses_127 ?_
  exact ih h54 hS55 hF60 f61 f62 f63 LN64 sc59
theorem v_tc2 {xs : Nat → Int32} {L d : Nat} {h0 : ev_H} {c : Nat} {G : Nat → Int32} {lc sc wr el fs bs bz : Int32} (hc : c ≤ 16) : ∀ (n k : Nat) (h : ev_H), k + n = c → SH h → KT h0 h → h 2 = c2 (nI c) lc sc wr el → h 13 = c13 (ltO G c) (ltE G c) 0 fs → h 24 = c24 (nI c) 0 bs bz → LN c G h → SCk k G (ltO G c &&& ltE G c) h → EV xs L (d + 5) 0 0 M_X11_takeClauses 434 h 100 [some (.ref 2), some (.int (nI k))] [] (fun sz' h' r => sz' = 434 ∧ SH h' ∧ KT h0 h' ∧ h' 2 = c2 (nI c) (nI c) 0 (-9) (enF G c 0) ∧ LN c G h' ∧ (∃ fs, h' 13 = c13 (ltO G c) (ltE G c) 0 fs) ∧ (∃ bs bz, h' 24 = c24 (nI c) 0 bs bz) ∧ SCk c G (ltO G c &&& ltE G c) h' ∧ r = []) := by
  intro n
  induction n with
  | zero => intro k h hk hS hF h2 f13 f24 hLN hSC; exact v_tc2_z hS hc (by omega) hF h2 f13 f24 hLN hSC (by omega)
  | succ n ih => intro k h hk hS hF h2 f13 f24 hLN hSC; exact v_tc2_s hS hc (by omega) hF h2 f13 f24 hLN hSC (by omega) (fun h' q1 q2 q3 q4 q5 q6 q7 => ih (k + 1) h' (by omega) q1 q2 q3 q4 q5 q6 q7)
set_option maxRecDepth 20000 in
set_option maxHeartbeats 1000000 in
theorem v_tc1_z {xs : Nat → Int32} {L d : Nat} {h : ev_H} {h0 : ev_H} {c k : Nat} {G : Nat → Int32} {lc sc wr el : Int32} (hS : SH h) (hc : c ≤ 16) (hck : c ≤ 40) (hF : KT h0 h) (h2 : h 2 = c2 (nI c) lc sc wr el) (hLN : LN c G h) (hk : k = c) : EV xs L (d + 5) 0 0 M_X11_takeClauses 434 h 21 [some (.ref 2), some (.int (nI k))] [] (fun sz' h' r => sz' = 434 ∧ SH h' ∧ KT h0 h' ∧ h' 2 = c2 (nI c) (nI c) 0 (-9) (enF G c 0) ∧ LN c G h' ∧ (∃ fs, h' 13 = c13 (ltO G c) (ltE G c) 0 fs) ∧ (∃ bs bz, h' 24 = c24 (nI c) 0 bs bz) ∧ SCk c G (ltO G c &&& ltE G c) h' ∧ r = []) := by
  refine r_iload_n rfl dX11_takeClauses_21 rfl ?_
  refine r_aload_n rfl dX11_takeClauses_22 rfl ?_
  refine r_getv 11 rfl dX11_takeClauses_23 (show 2 ≤ 2 ∧ 2 < 434 by decide) h2 fl_X11_108 rfl ?_
  refine r_icmp_ge (tgt := 68) rfl rfl dX11_takeClauses_26 (fun _ => ?_) (fun zc => absurd (show nI c ≤ nI k from nI_le (a := c) (b := k) (by omega) (by omega)) zc)
  refine r_aload_n rfl dX11_takeClauses_68 rfl ?_
  refine r_getv 3 rfl dX11_takeClauses_69 (show 2 ≤ 2 ∧ 2 < 434 by decide) h2 fl_X11_32 rfl ?_
  refine r_aload_n rfl dX11_takeClauses_72 rfl ?_
  refine r_getv 2 rfl dX11_takeClauses_73 (show 2 ≤ 2 ∧ 2 < 434 by decide) h2 fl_X11_25 rfl ?_
  refine r_aload_n rfl dX11_takeClauses_76 rfl ?_
  refine r_getv 11 rfl dX11_takeClauses_77 (show 2 ≤ 2 ∧ 2 < 434 by decide) h2 fl_X11_108 rfl ?_
  obtain ⟨y51, y52, y53, y54, f55⟩ := hS.o13
  refine cl_X11_247 rfl rfl dX11_takeClauses_80 (show 2 ≤ 13 ∧ 13 < 434 by decide).1 (show 2 ≤ 13 ∧ 13 < 434 by decide).2 f55 (Nat.le_of_ble_eq_true rfl) (x_X7_learn hS hck f55 hLN) ?_
  rintro _ h56 _ ⟨rfl, hS57, hk58, ⟨fs59, f60⟩, rfl⟩
  have hF61 := KT_tr hF (KT_x (by decide) hk58)
  have f62 : h56 (2) = .inr (11, [.ref 3, .ref 5, .ref 12, .ref 13, .ref 24, .ref 93, .ref 95, .ref 96, .ref 97, .ref 98, .ref 99, .int (nI c), .int lc, .int sc, .int wr, .int el]) := (hk58 _ (by decide) nSP_2).trans h2
  have LN63 := LN_kx (by decide) hk58 (by omega) hLN
  refine r_aload_n rfl dX11_takeClauses_83 rfl ?_
  refine r_getv 4 rfl dX11_takeClauses_84 (show 2 ≤ 2 ∧ 2 < 434 by decide) f62 fl_X11_39 rfl ?_
  refine r_aload_n rfl dX11_takeClauses_87 rfl ?_
  refine r_getv 2 rfl dX11_takeClauses_88 (show 2 ≤ 2 ∧ 2 < 434 by decide) f62 fl_X11_25 rfl ?_
  refine r_aload_n rfl dX11_takeClauses_91 rfl ?_
  refine r_getv 11 rfl dX11_takeClauses_92 (show 2 ≤ 2 ∧ 2 < 434 by decide) f62 fl_X11_108 rfl ?_
  obtain ⟨y64, y65, y66, y67, f68⟩ := hS57.o24
  refine cl_X11_251 rfl rfl dX11_takeClauses_95 (show 2 ≤ 24 ∧ 24 < 434 by decide).1 (show 2 ≤ 24 ∧ 24 < 434 by decide).2 f68 (Nat.le_of_ble_eq_true rfl) (x_X0_learn hS57 hc hck f68 LN63) ?_
  rintro _ h69 _ ⟨rfl, hS70, hk71, ⟨b72, z73, f74⟩, rfl⟩
  have hF75 := KT_tr hF61 (KT_x (by decide) hk71)
  have f76 : h69 (2) = .inr (11, [.ref 3, .ref 5, .ref 12, .ref 13, .ref 24, .ref 93, .ref 95, .ref 96, .ref 97, .ref 98, .ref 99, .int (nI c), .int lc, .int sc, .int wr, .int el]) := (hk71 _ (by decide) nSP_2).trans f62
  have f77 : h69 (13) = .inr (7, [.ref 14, .ref 16, .ref 18, .ref 20, .ref 22, .int (ltO G c), .int (ltE G c), .int 0, .int fs59]) := (hk71 _ (by decide) nSP_13).trans f60
  have LN78 := LN_kx (by decide) hk71 (by omega) LN63
  refine r_iconst (v := 0) rfl dX11_takeClauses_98 (by decide) ?_
  refine r_istore_n (ls' := [some (.ref 2), some (.int 0)]) rfl dX11_takeClauses_99 (Nat.le_of_ble_eq_true rfl) rfl ?_
  exact v_tc2 hc c 0 h69 (by omega) hS70 hF75 f76 f77 f74 LN78 (fun i hi => absurd hi (by omega))
set_option maxRecDepth 20000 in
set_option maxHeartbeats 1000000 in
theorem v_tc1_s {xs : Nat → Int32} {L d : Nat} {h : ev_H} {h0 : ev_H} {c k : Nat} {lc sc wr el cr pl tu sr : Int32} {A B C : Nat → Int32} (hS : SH h) (hc : c ≤ 16) (hck : c ≤ 40) (hF : KT h0 h) (h2 : h 2 = c2 (nI c) lc sc wr el) (h5 : h 5 = c5 cr pl tu sr) (h6 : h 6 = cI 16 A) (h7 : h 7 = cI 16 B) (h8 : h 8 = cI 16 C) (hLN : LN k (clG A B C) h) (hk : k < c) (ih : ∀ (h' : ev_H), SH h' → KT h0 h' → h' 2 = c2 (nI c) lc sc wr el → h' 5 = c5 cr pl tu sr → h' 6 = cI 16 A → h' 7 = cI 16 B → h' 8 = cI 16 C → LN (k + 1) (clG A B C) h' → EV xs L (d + 5) 0 0 M_X11_takeClauses 434 h' 21 [some (.ref 2), some (.int (nI (k + 1)))] [] (fun sz' h' r => sz' = 434 ∧ SH h' ∧ KT h0 h' ∧ h' 2 = c2 (nI c) (nI c) 0 (-9) (enF (clG A B C) c 0) ∧ LN c (clG A B C) h' ∧ (∃ fs, h' 13 = c13 (ltO (clG A B C) c) (ltE (clG A B C) c) 0 fs) ∧ (∃ bs bz, h' 24 = c24 (nI c) 0 bs bz) ∧ SCk c (clG A B C) (ltO (clG A B C) c &&& ltE (clG A B C) c) h' ∧ r = [])) : EV xs L (d + 5) 0 0 M_X11_takeClauses 434 h 21 [some (.ref 2), some (.int (nI k))] [] (fun sz' h' r => sz' = 434 ∧ SH h' ∧ KT h0 h' ∧ h' 2 = c2 (nI c) (nI c) 0 (-9) (enF (clG A B C) c 0) ∧ LN c (clG A B C) h' ∧ (∃ fs, h' 13 = c13 (ltO (clG A B C) c) (ltE (clG A B C) c) 0 fs) ∧ (∃ bs bz, h' 24 = c24 (nI c) 0 bs bz) ∧ SCk c (clG A B C) (ltO (clG A B C) c &&& ltE (clG A B C) c) h' ∧ r = []) := by
  refine r_iload_n rfl dX11_takeClauses_21 rfl ?_
  refine r_aload_n rfl dX11_takeClauses_22 rfl ?_
  refine r_getv 11 rfl dX11_takeClauses_23 (show 2 ≤ 2 ∧ 2 < 434 by decide) h2 fl_X11_108 rfl ?_
  refine r_icmp_ge (tgt := 68) rfl rfl dX11_takeClauses_26 (fun zc => absurd zc (show ¬ nI c ≤ nI k from nI_ge (a := k) (b := c) (by omega) (by omega))) (fun _ => ?_)
  refine r_aload_n rfl dX11_takeClauses_29 rfl ?_
  refine r_getv 2 rfl dX11_takeClauses_30 (show 2 ≤ 2 ∧ 2 < 434 by decide) h2 fl_X11_25 rfl ?_
  refine r_iload_n rfl dX11_takeClauses_33 rfl ?_
  refine r_aald (jn := k) (v := .ref (100 + 8 * k)) rfl dX11_takeClauses_34 (show 2 ≤ 12 ∧ 12 < 434 by decide).1 (show 2 ≤ 12 ∧ 12 < 434 by decide).2 hS.o12 (by decide) (vp_in_nI (n := k) (by omega) (by decide)) (nI_clamp (n := k) (by omega)) (by show va_rf (if _ < _ then _ else _) = _; rw [if_pos (show k < 40 by omega)]; rfl) ?_
  refine r_aload_n rfl dX11_takeClauses_35 rfl ?_
  refine r_getv 1 rfl dX11_takeClauses_36 (show 2 ≤ 2 ∧ 2 < 434 by decide) h2 fl_X11_19 rfl ?_
  refine r_iload_n rfl dX11_takeClauses_39 rfl ?_
  refine cl_X11_234 rfl rfl dX11_takeClauses_40 (show 2 ≤ 5 ∧ 5 < 434 by decide).1 (show 2 ≤ 5 ∧ 5 < 434 by decide).2 h5 (Nat.le_of_ble_eq_true rfl) (s_X4_sideOf hS h5 h6 (k := k) (by omega)) ?_
  rintro _ h51 _ ⟨rfl, e52, rfl⟩
  replace e52 := e52.symm
  subst e52
  refine r_aload_n rfl dX11_takeClauses_43 rfl ?_
  refine r_getv 1 rfl dX11_takeClauses_44 (show 2 ≤ 2 ∧ 2 < 434 by decide) h2 fl_X11_19 rfl ?_
  refine r_iload_n rfl dX11_takeClauses_47 rfl ?_
  refine cl_X11_237 rfl rfl dX11_takeClauses_48 (show 2 ≤ 5 ∧ 5 < 434 by decide).1 (show 2 ≤ 5 ∧ 5 < 434 by decide).2 h5 (Nat.le_of_ble_eq_true rfl) (s_X4_plainOf hS h5 h7 (k := k) (by omega)) ?_
  rintro _ h53 _ ⟨rfl, e54, rfl⟩
  replace e54 := e54.symm
  subst e54
  refine r_aload_n rfl dX11_takeClauses_51 rfl ?_
  refine r_getv 1 rfl dX11_takeClauses_52 (show 2 ≤ 2 ∧ 2 < 434 by decide) h2 fl_X11_19 rfl ?_
  refine r_iload_n rfl dX11_takeClauses_55 rfl ?_
  refine cl_X11_240 rfl rfl dX11_takeClauses_56 (show 2 ≤ 5 ∧ 5 < 434 by decide).1 (show 2 ≤ 5 ∧ 5 < 434 by decide).2 h5 (Nat.le_of_ble_eq_true rfl) (s_X4_turnedOf hS h5 h8 (k := k) (by omega)) ?_
  rintro _ h55 _ ⟨rfl, e56, rfl⟩
  replace e56 := e56.symm
  subst e56
  obtain ⟨y57, y58, y59, y60, y61, y62, f63⟩ := hS.ln (i := k) (by omega)
  refine cl_X11_243 rfl rfl dX11_takeClauses_59 (show 2 ≤ 100 + 8 * k ∧ 100 + 8 * k < 434 by omega).1 (show 2 ≤ 100 + 8 * k ∧ 100 + 8 * k < 434 by omega).2 f63 (Nat.le_of_ble_eq_true rfl) (x_X3_becomeClause hS (i := k) (by omega) f63) ?_
  rintro _ h64 _ ⟨rfl, hS65, hk66, f67, rfl⟩
  have hF68 := KT_tr hF (KT_l (i := k) (by omega) hk66)
  have f69 : h64 (2) = .inr (11, [.ref 3, .ref 5, .ref 12, .ref 13, .ref 24, .ref 93, .ref 95, .ref 96, .ref 97, .ref 98, .ref 99, .int (nI c), .int lc, .int sc, .int wr, .int el]) := (hk66 _ (by simp <;> omega) nSP_2).trans h2
  have f70 : h64 (5) = .inr (4, [.ref 6, .ref 7, .ref 8, .int cr, .int pl, .int tu, .ref 9, .ref 10, .ref 11, .int sr]) := (hk66 _ (by simp <;> omega) nSP_5).trans h5
  have f71 : h64 (6) = .inl (0, 16, .inl A) := (hk66 _ (by simp <;> omega) nSP_6).trans h6
  have f72 : h64 (7) = .inl (0, 16, .inl B) := (hk66 _ (by simp <;> omega) nSP_7).trans h7
  have f73 : h64 (8) = .inl (0, 16, .inl C) := (hk66 _ (by simp <;> omega) nSP_8).trans h8
  refine r_iinc (y := nI (k + 1)) (ls' := [some (.ref 2), some (.int (nI (k + 1)))]) rfl dX11_takeClauses_62 rfl (nI_1 k) (Nat.le_of_ble_eq_true rfl) rfl ?_
  refine r_goto (pc' := 21) rfl dX11_takeClauses_65 ?_
  exact ih h64 hS65 hF68 f69 f70 f71 f72 f73 (LN_s (by omega) hLN hk66 (by rw [clG_0, clG_1, clG_2, clG_3 A B C k 3 (by decide), clG_3 A B C k 4 (by decide), clG_3 A B C k 5 (by decide)]; exact f67))
theorem v_tc1 {xs : Nat → Int32} {L d : Nat} {h0 : ev_H} {c : Nat} {lc sc wr el cr pl tu sr : Int32} {A B C : Nat → Int32} (hc : c ≤ 16) : ∀ (n k : Nat) (h : ev_H), k + n = c → SH h → KT h0 h → h 2 = c2 (nI c) lc sc wr el → h 5 = c5 cr pl tu sr → h 6 = cI 16 A → h 7 = cI 16 B → h 8 = cI 16 C → LN k (clG A B C) h → EV xs L (d + 5) 0 0 M_X11_takeClauses 434 h 21 [some (.ref 2), some (.int (nI k))] [] (fun sz' h' r => sz' = 434 ∧ SH h' ∧ KT h0 h' ∧ h' 2 = c2 (nI c) (nI c) 0 (-9) (enF (clG A B C) c 0) ∧ LN c (clG A B C) h' ∧ (∃ fs, h' 13 = c13 (ltO (clG A B C) c) (ltE (clG A B C) c) 0 fs) ∧ (∃ bs bz, h' 24 = c24 (nI c) 0 bs bz) ∧ SCk c (clG A B C) (ltO (clG A B C) c &&& ltE (clG A B C) c) h' ∧ r = []) := by
  intro n
  induction n with
  | zero => intro k h hk hS hF h2 h5 h6 h7 h8 hLN; obtain rfl : k = c := (by omega); exact v_tc1_z hS hc (by omega) hF h2 hLN rfl
  | succ n ih => intro k h hk hS hF h2 h5 h6 h7 h8 hLN; exact v_tc1_s hS hc (by omega) hF h2 h5 h6 h7 h8 hLN (by omega) (fun h' q1 q2 q3 q4 q5 q6 q7 q8 => ih (k + 1) h' (by omega) q1 q2 q3 q4 q5 q6 q7 q8)
set_option maxRecDepth 20000 in
set_option maxHeartbeats 1000000 in
theorem v_X11_takeClauses {xs : Nat → Int32} {L d : Nat} {h : ev_H} {c : Nat} {cc lc sc wr el pl tu sr : Int32} {A B C : Nat → Int32} (hS : SH h) (hc : c ≤ 16) (h2 : h 2 = c2 cc lc sc wr el) (h5 : h 5 = c5 (nI c) pl tu sr) (h6 : h 6 = cI 16 A) (h7 : h 7 = cI 16 B) (h8 : h 8 = cI 16 C) : EV xs L (d + 5) 0 0 M_X11_takeClauses 434 h 0 [some (.ref 2), none] [] (fun sz' h' r => sz' = 434 ∧ SH h' ∧ KT h h' ∧ h' 2 = c2 (nI c) (nI c) 0 (-9) (enF (clG A B C) c 0) ∧ LN c (clG A B C) h' ∧ (∃ fs, h' 13 = c13 (ltO (clG A B C) c) (ltE (clG A B C) c) 0 fs) ∧ (∃ bs bz, h' 24 = c24 (nI c) 0 bs bz) ∧ SCk c (clG A B C) (ltO (clG A B C) c &&& ltE (clG A B C) c) h' ∧ r = []) := by
  refine r_aload_n rfl dX11_takeClauses_0 rfl ?_
  refine r_aload_n rfl dX11_takeClauses_1 rfl ?_
  refine r_getv 1 rfl dX11_takeClauses_2 (show 2 ≤ 2 ∧ 2 < 434 by decide) h2 fl_X11_19 rfl ?_
  refine cl_X11_226 rfl rfl dX11_takeClauses_5 (show 2 ≤ 5 ∧ 5 < 434 by decide).1 (show 2 ≤ 5 ∧ 5 < 434 by decide).2 h5 (Nat.le_of_ble_eq_true rfl) (s_X4_clausesRead hS h5) ?_
  rintro _ h51 _ ⟨rfl, e52, rfl⟩
  replace e52 := e52.symm
  subst e52
  refine r_aload_n rfl dX11_takeClauses_8 rfl ?_
  refine r_getv 2 rfl dX11_takeClauses_9 (show 2 ≤ 2 ∧ 2 < 434 by decide) h2 fl_X11_25 rfl ?_
  refine r_alen (v := 40) rfl dX11_takeClauses_12 (by decide) (by decide) hS.o12 (by decide) rfl ?_
  refine r_min rfl dX11_takeClauses_13 (Nat.succ_pos _) (Nat.le_of_ble_eq_true rfl) mm_X11_229 mm_st mm_in mm_co ?_
  refine r_eqi (y := nI c) (if_neg (show ¬ (40 : Int32) < nI c from nI_nlt (a := 40) (b := c) (by omega) (by decide))) ?_
  refine e_put 11 (fs' := [.ref 3, .ref 5, .ref 12, .ref 13, .ref 24, .ref 93, .ref 95, .ref 96, .ref 97, .ref 98, .ref 99, .int (nI c), .int lc, .int sc, .int wr, .int el]) rfl dX11_takeClauses_16 (show 2 ≤ 2 ∧ 2 < 434 by decide) hS (KM_rf (Mod := [2]) _) (List.mem_singleton.mpr rfl) h2 (fp_X11_108 rfl _) (Nat.le_of_ble_eq_true rfl) rfl (fun h53 hS54 _ hN55 f56 => ?_)
  have hk57 : KX [2] h h53 := KX_M (fun _ z => z) hN55
  have hF58 := KT_tr (KT_rf h) (KT_x (by decide) hk57)
  have f59 : h53 (5) = .inr (4, [.ref 6, .ref 7, .ref 8, .int (nI c), .int pl, .int tu, .ref 9, .ref 10, .ref 11, .int sr]) := (hk57 _ (by decide) nSP_5).trans h5
  have f60 : h53 (6) = .inl (0, 16, .inl A) := (hk57 _ (by decide) nSP_6).trans h6
  have f61 : h53 (7) = .inl (0, 16, .inl B) := (hk57 _ (by decide) nSP_7).trans h7
  have f62 : h53 (8) = .inl (0, 16, .inl C) := (hk57 _ (by decide) nSP_8).trans h8
  refine r_iconst (v := 0) rfl dX11_takeClauses_19 (by decide) ?_
  refine r_istore_n (ls' := [some (.ref 2), some (.int 0)]) rfl dX11_takeClauses_20 (Nat.le_of_ble_eq_true rfl) rfl ?_
  exact v_tc1 hc c 0 h53 (by omega) hS54 hF58 f56 f59 f60 f61 f62 (fun i hi => absurd hi (by omega))
