/-- Sides' cells are as they were -/
def KQd (h h' : ev_H) : Prop := ∀ q, 13 ≤ q → q ≤ 58 → h' q = h q
theorem KQd_rf (h : ev_H) : KQd h h := fun _ _ _ => rfl
theorem KQd_tr {a b c : ev_H} (h1 : KQd a b) (h2 : KQd b c) : KQd a c := fun q x y => (h2 q x y).trans (h1 q x y)
set_option maxRecDepth 20000 in
set_option maxHeartbeats 1000000 in
theorem w_X11_makeLine {xs : Nat → Int32} {L d : Nat} {h : ev_H} {k s a b : Nat} {z cc sc wr el cr pl tu sr lo lt fk fs : Int32} {A B C G : Nat → Int32} {Y : Nat → Int64} (hS : SH h) (hck : k ≤ 40) (hk : k < 40) (h2 : h 2 = c2 cc (nI k) sc wr el) (h5 : h 5 = c5 cr pl tu sr) (h9 : h 9 = cI 24 A) (h10 : h 10 = cI 24 B) (h11 : h 11 = cI 24 C) (hs : s < 24) (ha : a < k) (hb : b < k) (hA : A s = nI a) (hB : B s = nI b) (hC : C s = z) (hLN : LN k G h) (h13 : h 13 = c13 lo lt fk fs) (hSW : SWc k Y h) : EV xs L (d + 3) 0 0 M_X11_makeLine 434 h 0 [some (.ref 2), some (.int (nI s)), none, none, none, none, none, none] [] (fun sz' h' r => sz' = 434 ∧ SH h' ∧ KT h h' ∧ KQd h h' ∧ h' 2 = c2 cc (nI k) sc wr el ∧ h' 13 = h 13 ∧ h' 24 = h 24 ∧ ((cuK G a b z ∧ LN (k + 1) (cuG G k a b z) h' ∧ SWc k Y h' ∧ (∀ w, w < 3 → WD h' (102 + 8 * k + 2 * w) (cuV (own lo lt z) z w (fun p => Y (160 * w + 4 * a + p)) (fun p => Y (160 * w + 4 * b + p)))) ∧ r = [.int 1]) ∨ (¬ cuK G a b z ∧ LN k G h' ∧ SWc k Y h' ∧ r = [.int 0]))) := by
  refine r_aload_n rfl dX11_makeLine_0 rfl ?_
  refine r_getv 1 rfl dX11_makeLine_1 (show 2 ≤ 2 ∧ 2 < 434 by decide) h2 fl_X11_19 rfl ?_
  refine r_iload_n rfl dX11_makeLine_4 rfl ?_
  refine cl_X11_269 rfl rfl dX11_makeLine_5 (show 2 ≤ 5 ∧ 5 < 434 by decide).1 (show 2 ≤ 5 ∧ 5 < 434 by decide).2 h5 (Nat.le_of_ble_eq_true rfl) (s_X4_firstOf hS h5 h9 (k := s) (by omega)) ?_
  rintro _ h51 _ ⟨rfl, e52, rfl⟩
  replace e52 := e52.symm
  subst e52
  refine r_eqi (y := nI a) hA ?_
  refine r_istore_n (ls' := [some (.ref 2), some (.int (nI s)), some (.int (nI a)), none, none, none, none, none]) rfl dX11_makeLine_8 (Nat.le_of_ble_eq_true rfl) rfl ?_
  refine r_aload_n rfl dX11_makeLine_9 rfl ?_
  refine r_getv 1 rfl dX11_makeLine_10 (show 2 ≤ 2 ∧ 2 < 434 by decide) h2 fl_X11_19 rfl ?_
  refine r_iload_n rfl dX11_makeLine_13 rfl ?_
  refine cl_X11_272 rfl rfl dX11_makeLine_14 (show 2 ≤ 5 ∧ 5 < 434 by decide).1 (show 2 ≤ 5 ∧ 5 < 434 by decide).2 h5 (Nat.le_of_ble_eq_true rfl) (s_X4_secondOf hS h5 h10 (k := s) (by omega)) ?_
  rintro _ h53 _ ⟨rfl, e54, rfl⟩
  replace e54 := e54.symm
  subst e54
  refine r_eqi (y := nI b) hB ?_
  refine r_istore_n (ls' := [some (.ref 2), some (.int (nI s)), some (.int (nI a)), some (.int (nI b)), none, none, none, none]) rfl dX11_makeLine_17 (Nat.le_of_ble_eq_true rfl) rfl ?_
  refine r_aload_n rfl dX11_makeLine_18 rfl ?_
  refine r_getv 1 rfl dX11_makeLine_19 (show 2 ≤ 2 ∧ 2 < 434 by decide) h2 fl_X11_19 rfl ?_
  refine r_iload_n rfl dX11_makeLine_22 rfl ?_
  refine cl_X11_275 rfl rfl dX11_makeLine_23 (show 2 ≤ 5 ∧ 5 < 434 by decide).1 (show 2 ≤ 5 ∧ 5 < 434 by decide).2 h5 (Nat.le_of_ble_eq_true rfl) (s_X4_letterOf hS h5 h11 (k := s) (by omega)) ?_
  rintro _ h55 _ ⟨rfl, e56, rfl⟩
  replace e56 := e56.symm
  subst e56
  refine r_eqi (y := z) hC ?_
  refine r_istore (ls' := [some (.ref 2), some (.int (nI s)), some (.int (nI a)), some (.int (nI b)), some (.int z), none, none, none]) rfl dX11_makeLine_26 (Nat.le_of_ble_eq_true rfl) rfl ?_
  refine r_aload_n rfl dX11_makeLine_28 rfl ?_
  refine r_iload_n rfl dX11_makeLine_29 rfl ?_
  refine cl_X11_121 rfl rfl dX11_makeLine_30 (show 2 ≤ 2 ∧ 2 < 434 by decide).1 (show 2 ≤ 2 ∧ 2 < 434 by decide).2 h2 (Nat.le_of_ble_eq_true rfl) (x_lineAt_in hS h2 (by omega) (n := a) (by omega)) ?_
  rintro _ h57 _ ⟨rfl, e58, rfl⟩
  replace e58 := e58.symm
  subst e58
  refine r_astore (ls' := [some (.ref 2), some (.int (nI s)), some (.int (nI a)), some (.int (nI b)), some (.int z), some (.ref (100 + 8 * a)), none, none]) rfl dX11_makeLine_33 (Nat.le_of_ble_eq_true rfl) rfl ?_
  refine r_aload_n rfl dX11_makeLine_35 rfl ?_
  refine r_iload_n rfl dX11_makeLine_36 rfl ?_
  refine cl_X11_121 rfl rfl dX11_makeLine_37 (show 2 ≤ 2 ∧ 2 < 434 by decide).1 (show 2 ≤ 2 ∧ 2 < 434 by decide).2 h2 (Nat.le_of_ble_eq_true rfl) (x_lineAt_in hS h2 (by omega) (n := b) (by omega)) ?_
  rintro _ h59 _ ⟨rfl, e60, rfl⟩
  replace e60 := e60.symm
  subst e60
  refine r_astore (ls' := [some (.ref 2), some (.int (nI s)), some (.int (nI a)), some (.int (nI b)), some (.int z), some (.ref (100 + 8 * a)), some (.ref (100 + 8 * b)), none]) rfl dX11_makeLine_40 (Nat.le_of_ble_eq_true rfl) rfl ?_
  refine r_aload rfl dX11_makeLine_42 rfl ?_
  refine r_ifnull rfl (by decide) dX11_makeLine_44 ?_
  refine r_aload rfl dX11_makeLine_47 rfl ?_
  refine r_ifnull rfl (by decide) dX11_makeLine_49 ?_
  refine r_aload_n rfl dX11_makeLine_52 rfl ?_
  refine r_getv 12 rfl dX11_makeLine_53 (show 2 ≤ 2 ∧ 2 < 434 by decide) h2 fl_X11_118 rfl ?_
  refine r_aload_n rfl dX11_makeLine_56 rfl ?_
  refine r_getv 2 rfl dX11_makeLine_57 (show 2 ≤ 2 ∧ 2 < 434 by decide) h2 fl_X11_25 rfl ?_
  refine r_alen (v := 40) rfl dX11_makeLine_60 (by decide) (by decide) hS.o12 (by decide) rfl ?_
  refine r_icmp_lt (tgt := 66) rfl rfl dX11_makeLine_61 (fun _ => ?_) (fun zc => absurd (show nI k < (40 : Int32) from nI_lt (a := k) (b := 40) (by omega) (by decide)) zc)
  refine r_aload_n rfl dX11_makeLine_66 rfl ?_
  refine r_getv 2 rfl dX11_makeLine_67 (show 2 ≤ 2 ∧ 2 < 434 by decide) h2 fl_X11_25 rfl ?_
  refine r_aload_n rfl dX11_makeLine_70 rfl ?_
  refine r_getv 12 rfl dX11_makeLine_71 (show 2 ≤ 2 ∧ 2 < 434 by decide) h2 fl_X11_118 rfl ?_
  refine r_aald (jn := k) (v := .ref (100 + 8 * k)) rfl dX11_makeLine_74 (show 2 ≤ 12 ∧ 12 < 434 by decide).1 (show 2 ≤ 12 ∧ 12 < 434 by decide).2 hS.o12 (by decide) (vp_in_nI (n := k) (by omega) (by decide)) (nI_clamp (n := k) (by omega)) (by show va_rf (if _ < _ then _ else _) = _; rw [if_pos (show k < 40 by omega)]; rfl) ?_
  refine r_astore (ls' := [some (.ref 2), some (.int (nI s)), some (.int (nI a)), some (.int (nI b)), some (.int z), some (.ref (100 + 8 * a)), some (.ref (100 + 8 * b)), some (.ref (100 + 8 * k))]) rfl dX11_makeLine_75 (Nat.le_of_ble_eq_true rfl) rfl ?_
  refine r_aload rfl dX11_makeLine_77 rfl ?_
  refine r_aload rfl dX11_makeLine_79 rfl ?_
  refine r_aload rfl dX11_makeLine_81 rfl ?_
  refine r_iload rfl dX11_makeLine_83 rfl ?_
  obtain ⟨y61, y62, y63, y64, y65, y66, f67⟩ := hS.ln (i := k) (by omega)
  obtain ⟨y68, y69, y70, y71, y72, y73, f74⟩ := hS.ln (i := k) (by omega)
  refine cl_X11_278 rfl rfl dX11_makeLine_85 (show 2 ≤ 100 + 8 * k ∧ 100 + 8 * k < 434 by omega).1 (show 2 ≤ 100 + 8 * k ∧ 100 + 8 * k < 434 by omega).2 f67 (Nat.le_of_ble_eq_true rfl) (v_X3_becomeCut hS (i := k) (j := a) (m := b) (by omega) f74 (by omega) (by omega) (hLN a (by omega)) (hLN b (by omega)) (by omega) (by omega)) ?_
  rintro _ h75 _ ⟨rfl, hS76, hk77, km78, ⟨c79, f80, rfl⟩ | ⟨c79, f80, rfl⟩⟩
  · have LN81 : LN k G h75 := fun i hi => (hk77 _ (by simp <;> omega) (nSP_ln (by omega))).trans (hLN i hi)
    have sw82 := SW_M km78 hSW
    have kq83 := KQd_tr (KQd_rf h) (fun q _ _ => km78 q (by simp <;> omega))
    have hF84 := KT_tr (KT_rf h) (KT_l (i := k) (by omega) hk77)
    have f85 : h75 (2) = .inr (11, [.ref 3, .ref 5, .ref 12, .ref 13, .ref 24, .ref 93, .ref 95, .ref 96, .ref 97, .ref 98, .ref 99, .int cc, .int (nI k), .int sc, .int wr, .int el]) := (hk77 _ (by simp <;> omega) nSP_2).trans h2
    have f86 : h75 (5) = .inr (4, [.ref 6, .ref 7, .ref 8, .int cr, .int pl, .int tu, .ref 9, .ref 10, .ref 11, .int sr]) := (hk77 _ (by simp <;> omega) nSP_5).trans h5
    have f87 : h75 (9) = .inl (0, 24, .inl A) := (hk77 _ (by simp <;> omega) nSP_9).trans h9
    have f88 : h75 (10) = .inl (0, 24, .inl B) := (hk77 _ (by simp <;> omega) nSP_10).trans h10
    have f89 : h75 (11) = .inl (0, 24, .inl C) := (hk77 _ (by simp <;> omega) nSP_11).trans h11
    have f90 : h75 (13) = h 13 := (hk77 _ (by simp <;> omega) nSP_13).trans rfl
    have f91 : h75 (24) = h 24 := (hk77 _ (by simp <;> omega) nSP_24).trans rfl
    refine r_if_ne (tgt := 93) rfl rfl dX11_makeLine_88 (fun _ => ?_) (fun zc => absurd zc (by decide))
    refine r_aload rfl dX11_makeLine_93 rfl ?_
    refine r_iload_n rfl dX11_makeLine_95 rfl ?_
    refine r_iload_n rfl dX11_makeLine_96 rfl ?_
    refine r_iload rfl dX11_makeLine_97 rfl ?_
    refine cl_X11_282 rfl rfl dX11_makeLine_99 (show 2 ≤ 100 + 8 * k ∧ 100 + 8 * k < 434 by omega).1 (show 2 ≤ 100 + 8 * k ∧ 100 + 8 * k < 434 by omega).2 f80 (Nat.le_of_ble_eq_true rfl) (v_X3_rememberCut hS76 (i := k) (by omega) f80) ?_
    rintro _ h92 _ ⟨rfl, hS93, hk94, km95, f96, rfl⟩
    have LN97 : LN k G h92 := fun i hi => (hk94 _ (by simp <;> omega) (nSP_ln (by omega))).trans (LN81 i hi)
    have sw98 := SW_M km95 sw82
    have kq99 := KQd_tr kq83 (fun q _ _ => km95 q (by simp <;> omega))
    have hF100 := KT_tr hF84 (KT_l (i := k) (by omega) hk94)
    have f101 : h92 (2) = .inr (11, [.ref 3, .ref 5, .ref 12, .ref 13, .ref 24, .ref 93, .ref 95, .ref 96, .ref 97, .ref 98, .ref 99, .int cc, .int (nI k), .int sc, .int wr, .int el]) := (hk94 _ (by simp <;> omega) nSP_2).trans f85
    have f102 : h92 (5) = .inr (4, [.ref 6, .ref 7, .ref 8, .int cr, .int pl, .int tu, .ref 9, .ref 10, .ref 11, .int sr]) := (hk94 _ (by simp <;> omega) nSP_5).trans f86
    have f103 : h92 (9) = .inl (0, 24, .inl A) := (hk94 _ (by simp <;> omega) nSP_9).trans f87
    have f104 : h92 (10) = .inl (0, 24, .inl B) := (hk94 _ (by simp <;> omega) nSP_10).trans f88
    have f105 : h92 (11) = .inl (0, 24, .inl C) := (hk94 _ (by simp <;> omega) nSP_11).trans f89
    have f106 : h92 (13) = h 13 := (hk94 _ (by simp <;> omega) nSP_13).trans f90
    have f107 : h92 (24) = h 24 := (hk94 _ (by simp <;> omega) nSP_24).trans f91
    refine r_aload rfl dX11_makeLine_102 rfl ?_
    refine r_aload rfl dX11_makeLine_104 rfl ?_
    refine r_aload rfl dX11_makeLine_106 rfl ?_
    refine r_aload_n rfl dX11_makeLine_108 rfl ?_
    refine r_getv 3 rfl dX11_makeLine_109 (show 2 ≤ 2 ∧ 2 < 434 by decide) f101 fl_X11_32 rfl ?_
    refine r_iload rfl dX11_makeLine_112 rfl ?_
    refine cl_X11_129 rfl rfl dX11_makeLine_114 (show 2 ≤ 13 ∧ 13 < 434 by decide).1 (show 2 ≤ 13 ∧ 13 < 434 by decide).2 (f106.trans h13) (Nat.le_of_ble_eq_true rfl) (x_X7_ownerOf hS93 (f106.trans h13)) ?_
    rintro _ h108 _ ⟨rfl, e109, rfl⟩
    replace e109 := e109.symm
    subst e109
    refine cl_X11_285 rfl rfl dX11_makeLine_117 (show 2 ≤ 100 + 8 * k ∧ 100 + 8 * k < 434 by omega).1 (show 2 ≤ 100 + 8 * k ∧ 100 + 8 * k < 434 by omega).2 f96 (Nat.le_of_ble_eq_true rfl) (v_X3_sayAsCut hS93 (i := k) (j := a) (m := b) (A := fun w p => Y (160 * w + 4 * a + p)) (B := fun w p => Y (160 * w + 4 * b + p)) (c := own lo lt z) (by omega) f96 (by omega) (by omega) (LN97 a (by omega)) (LN97 b (by omega)) (by omega) (by omega) (by omega) (by omega) (sw98 a (by omega)) (sw98 b (by omega)) (own4 lo lt z)) ?_
    rintro _ h111 _ ⟨rfl, hS112, hk113, w114, rfl⟩
    have hk115 : KX [] h92 h111 := K3_X (i := k) (by omega) hk113
    have f116 := (hk115 (100 + 8 * k) (by simp) (nSP_ln (by omega))).trans f96
    have sw117 := SW_3 hk113 sw98
    have kq118 := KQd_tr kq99 (fun q _ _ => hk113 q (by omega) (by omega) (by omega))
    have hF119 := KT_tr hF100 (KT_x (by decide) hk115)
    have f120 : h111 (2) = .inr (11, [.ref 3, .ref 5, .ref 12, .ref 13, .ref 24, .ref 93, .ref 95, .ref 96, .ref 97, .ref 98, .ref 99, .int cc, .int (nI k), .int sc, .int wr, .int el]) := (hk115 _ (by decide) nSP_2).trans f101
    have f121 : h111 (5) = .inr (4, [.ref 6, .ref 7, .ref 8, .int cr, .int pl, .int tu, .ref 9, .ref 10, .ref 11, .int sr]) := (hk115 _ (by decide) nSP_5).trans f102
    have f122 : h111 (9) = .inl (0, 24, .inl A) := (hk115 _ (by decide) nSP_9).trans f103
    have f123 : h111 (10) = .inl (0, 24, .inl B) := (hk115 _ (by decide) nSP_10).trans f104
    have f124 : h111 (11) = .inl (0, 24, .inl C) := (hk115 _ (by decide) nSP_11).trans f105
    have f125 : h111 (13) = h 13 := (hk115 _ (by decide) nSP_13).trans f106
    have f126 : h111 (24) = h 24 := (hk115 _ (by decide) nSP_24).trans f107
    have LN127 := LN_kx (by decide) hk115 (by omega) LN97
    refine r_iconst (v := 1) rfl dX11_makeLine_120 (by decide) ?_
    exact r_ret dX11_makeLine_121 (rt_z rfl (Or.inr rfl)) ⟨rfl, hS112, hF119, kq118, f120, f125, f126, Or.inl ⟨c79, LN_cu (by omega) LN127 (fun _ _ => rfl) f116, sw117, w114, rfl⟩⟩
  · have LN128 : LN k G h75 := fun i hi => (hk77 _ (by simp <;> omega) (nSP_ln (by omega))).trans (hLN i hi)
    have sw129 := SW_M km78 hSW
    have kq130 := KQd_tr (KQd_rf h) (fun q _ _ => km78 q (by simp <;> omega))
    have hF131 := KT_tr (KT_rf h) (KT_l (i := k) (by omega) hk77)
    have f132 : h75 (2) = .inr (11, [.ref 3, .ref 5, .ref 12, .ref 13, .ref 24, .ref 93, .ref 95, .ref 96, .ref 97, .ref 98, .ref 99, .int cc, .int (nI k), .int sc, .int wr, .int el]) := (hk77 _ (by simp <;> omega) nSP_2).trans h2
    have f133 : h75 (5) = .inr (4, [.ref 6, .ref 7, .ref 8, .int cr, .int pl, .int tu, .ref 9, .ref 10, .ref 11, .int sr]) := (hk77 _ (by simp <;> omega) nSP_5).trans h5
    have f134 : h75 (9) = .inl (0, 24, .inl A) := (hk77 _ (by simp <;> omega) nSP_9).trans h9
    have f135 : h75 (10) = .inl (0, 24, .inl B) := (hk77 _ (by simp <;> omega) nSP_10).trans h10
    have f136 : h75 (11) = .inl (0, 24, .inl C) := (hk77 _ (by simp <;> omega) nSP_11).trans h11
    have f137 : h75 (13) = h 13 := (hk77 _ (by simp <;> omega) nSP_13).trans rfl
    have f138 : h75 (24) = h 24 := (hk77 _ (by simp <;> omega) nSP_24).trans rfl
    refine r_if_ne (tgt := 93) rfl rfl dX11_makeLine_88 (fun zc => absurd zc (by decide)) (fun _ => ?_)
    refine r_iconst (v := 0) rfl dX11_makeLine_91 (by decide) ?_
    exact r_ret dX11_makeLine_92 (rt_z rfl (Or.inl rfl)) ⟨rfl, hS76, hF131, kq130, f132, f137, f138, Or.inr ⟨c79, LN128, sw129, rfl⟩⟩
