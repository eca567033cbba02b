theorem x_lineAt_in {xs : Nat → Int32} {L d : Nat} {h : ev_H} {k n : Nat} {cc sc wr el : Int32} (hS : SH h) (h2 : h 2 = c2 cc (nI k) sc wr el) (hk : k ≤ 40) (hn : n < k) : EV xs L (d + 0) 0 0 M_X11_lineAt 434 h 0 [some (.ref 2), some (.int (nI n))] [] (fun sz' h' r => sz' = 434 ∧ h' = h ∧ r = [.ref (100 + 8 * n)]) := by
  refine EV.post ?_ (x_X11_lineAt (x := nI n) hS h2 hk)
  rintro _ h' _ ⟨rfl, rfl, ⟨q, hq, e, rfl⟩ | ⟨hno, rfl⟩⟩
  · rw [(nI_eq (by omega) (by omega)).mp e]; exact ⟨rfl, rfl, rfl⟩
  · exact absurd rfl (hno n hn)
/-- the numbers with LINE k made by a cut of LINES a and b at the LETTER z -/
def cuG (G : Nat → Int32) (k a b : Nat) (z : Int32) : Nat → Int32 := upd (upd (upd (upd (upd (upd G (6 * k) (cutP (G (6 * a)) (G (6 * b)) (1 <<< (z &&& 31)))) (6 * k + 1) (cutT (G (6 * a + 1)) (G (6 * b + 1)) (1 <<< (z &&& 31)))) (6 * k + 2) 0) (6 * k + 3) (nI a)) (6 * k + 4) (nI b)) (6 * k + 5) z
abbrev cuK (G : Nat → Int32) (a b : Nat) (z : Int32) : Prop := cutK (G (6 * a)) (G (6 * a + 1)) (G (6 * b)) (G (6 * b + 1)) (1 <<< (z &&& 31))
theorem cuG_lo {G : Nat → Int32} {k a b x : Nat} {z : Int32} (hx : x < 6 * k) : cuG G k a b z x = G x := by
  unfold cuG
  rw [pk_un (by omega), pk_un (by omega), pk_un (by omega), pk_un (by omega), pk_un (by omega), pk_un (by omega)]
theorem cuG_0 {G : Nat → Int32} {k a b : Nat} {z : Int32} : cuG G k a b z (6 * k) = cutP (G (6 * a)) (G (6 * b)) (1 <<< (z &&& 31)) := by
  unfold cuG
  rw [pk_un (by omega), pk_un (by omega), pk_un (by omega), pk_un (by omega), pk_un (by omega), pk_us]
theorem cuG_1 {G : Nat → Int32} {k a b : Nat} {z : Int32} : cuG G k a b z (6 * k + 1) = cutT (G (6 * a + 1)) (G (6 * b + 1)) (1 <<< (z &&& 31)) := by
  unfold cuG
  rw [pk_un (by omega), pk_un (by omega), pk_un (by omega), pk_un (by omega), pk_us]
theorem cuG_2 {G : Nat → Int32} {k a b : Nat} {z : Int32} : cuG G k a b z (6 * k + 2) = 0 := by
  unfold cuG
  rw [pk_un (by omega), pk_un (by omega), pk_un (by omega), pk_us]
theorem cuG_3 {G : Nat → Int32} {k a b : Nat} {z : Int32} : cuG G k a b z (6 * k + 3) = nI a := by
  unfold cuG
  rw [pk_un (by omega), pk_un (by omega), pk_us]
theorem cuG_4 {G : Nat → Int32} {k a b : Nat} {z : Int32} : cuG G k a b z (6 * k + 4) = nI b := by
  unfold cuG
  rw [pk_un (by omega), pk_us]
theorem cuG_5 {G : Nat → Int32} {k a b : Nat} {z : Int32} : cuG G k a b z (6 * k + 5) = z := by
  unfold cuG
  rw [pk_us]
theorem LN_cu {k a b : Nat} {G : Nat → Int32} {z : Int32} {h h' : ev_H} (hk : k < 40) (hL : LN k G h) (hf : ∀ i, i < k → h' (100 + 8 * i) = h (100 + 8 * i)) (hx : h' (100 + 8 * k) = cLn k (cutP (G (6 * a)) (G (6 * b)) (1 <<< (z &&& 31))) (cutT (G (6 * a + 1)) (G (6 * b + 1)) (1 <<< (z &&& 31))) 0 (nI a) (nI b) z) : LN (k + 1) (cuG G k a b z) h' := fun i hi => by
  by_cases e : i = k
  · subst e
    rw [hx, cuG_0, cuG_1, cuG_2, cuG_3, cuG_4, cuG_5]
  · rw [hf i (by omega), hL i (by omega), cuG_lo (by omega), cuG_lo (by omega), cuG_lo (by omega), cuG_lo (by omega), cuG_lo (by omega), cuG_lo (by omega)]
set_option maxRecDepth 20000 in
set_option maxHeartbeats 1000000 in
theorem x_X11_makeLine {xs : Nat → Int32} {L d : Nat} {h : ev_H} {k s a b : Nat} {z cc sc wr el cr pl tu sr : Int32} {A B C G : Nat → Int32} (hS : SH h) (hck : k ≤ 40) (hk : k < 40) (h2 : h 2 = c2 cc (nI k) sc wr el) (h5 : h 5 = c5 cr pl tu sr) (h9 : h 9 = cI 24 A) (h10 : h 10 = cI 24 B) (h11 : h 11 = cI 24 C) (hs : s < 24) (ha : a < k) (hb : b < k) (hA : A s = nI a) (hB : B s = nI b) (hC : C s = z) (hLN : LN k G h) : EV xs L (d + 3) 0 0 M_X11_makeLine 434 h 0 [some (.ref 2), some (.int (nI s)), none, none, none, none, none, none] [] (fun sz' h' r => sz' = 434 ∧ SH h' ∧ KT h h' ∧ h' 2 = c2 cc (nI k) sc wr el ∧ h' 13 = h 13 ∧ h' 24 = h 24 ∧ ((cuK G a b z ∧ LN (k + 1) (cuG G k a b z) h' ∧ r = [.int 1]) ∨ (¬ cuK G a b z ∧ LN k G h' ∧ r = [.int 0]))) := by
  refine r_aload_n rfl dX11_makeLine_0 rfl ?_
  refine r_getv 1 rfl dX11_makeLine_1 (show 2 ≤ 2 ∧ 2 < 434 by decide) h2 fl_X11_19 rfl ?_
  refine r_iload_n rfl dX11_makeLine_4 rfl ?_
  refine cl_X11_269 rfl rfl dX11_makeLine_5 (show 2 ≤ 5 ∧ 5 < 434 by decide).1 (show 2 ≤ 5 ∧ 5 < 434 by decide).2 h5 (Nat.le_of_ble_eq_true rfl) (s_X4_firstOf hS h5 h9 (k := s) (by omega)) ?_
  rintro _ h51 _ ⟨rfl, e52, rfl⟩
  replace e52 := e52.symm
  subst e52
  refine r_eqi (y := nI a) hA ?_
  refine r_istore_n (ls' := [some (.ref 2), some (.int (nI s)), some (.int (nI a)), none, none, none, none, none]) rfl dX11_makeLine_8 (Nat.le_of_ble_eq_true rfl) rfl ?_
  refine r_aload_n rfl dX11_makeLine_9 rfl ?_
  refine r_getv 1 rfl dX11_makeLine_10 (show 2 ≤ 2 ∧ 2 < 434 by decide) h2 fl_X11_19 rfl ?_
  refine r_iload_n rfl dX11_makeLine_13 rfl ?_
  refine cl_X11_272 rfl rfl dX11_makeLine_14 (show 2 ≤ 5 ∧ 5 < 434 by decide).1 (show 2 ≤ 5 ∧ 5 < 434 by decide).2 h5 (Nat.le_of_ble_eq_true rfl) (s_X4_secondOf hS h5 h10 (k := s) (by omega)) ?_
  rintro _ h53 _ ⟨rfl, e54, rfl⟩
  replace e54 := e54.symm
  subst e54
  refine r_eqi (y := nI b) hB ?_
  refine r_istore_n (ls' := [some (.ref 2), some (.int (nI s)), some (.int (nI a)), some (.int (nI b)), none, none, none, none]) rfl dX11_makeLine_17 (Nat.le_of_ble_eq_true rfl) rfl ?_
  refine r_aload_n rfl dX11_makeLine_18 rfl ?_
  refine r_getv 1 rfl dX11_makeLine_19 (show 2 ≤ 2 ∧ 2 < 434 by decide) h2 fl_X11_19 rfl ?_
  refine r_iload_n rfl dX11_makeLine_22 rfl ?_
  refine cl_X11_275 rfl rfl dX11_makeLine_23 (show 2 ≤ 5 ∧ 5 < 434 by decide).1 (show 2 ≤ 5 ∧ 5 < 434 by decide).2 h5 (Nat.le_of_ble_eq_true rfl) (s_X4_letterOf hS h5 h11 (k := s) (by omega)) ?_
  rintro _ h55 _ ⟨rfl, e56, rfl⟩
  replace e56 := e56.symm
  subst e56
  refine r_eqi (y := z) hC ?_
  refine r_istore (ls' := [some (.ref 2), some (.int (nI s)), some (.int (nI a)), some (.int (nI b)), some (.int z), none, none, none]) rfl dX11_makeLine_26 (Nat.le_of_ble_eq_true rfl) rfl ?_
  refine r_aload_n rfl dX11_makeLine_28 rfl ?_
  refine r_iload_n rfl dX11_makeLine_29 rfl ?_
  refine cl_X11_121 rfl rfl dX11_makeLine_30 (show 2 ≤ 2 ∧ 2 < 434 by decide).1 (show 2 ≤ 2 ∧ 2 < 434 by decide).2 h2 (Nat.le_of_ble_eq_true rfl) (x_lineAt_in hS h2 (by omega) (n := a) (by omega)) ?_
  rintro _ h57 _ ⟨rfl, e58, rfl⟩
  replace e58 := e58.symm
  subst e58
  refine r_astore (ls' := [some (.ref 2), some (.int (nI s)), some (.int (nI a)), some (.int (nI b)), some (.int z), some (.ref (100 + 8 * a)), none, none]) rfl dX11_makeLine_33 (Nat.le_of_ble_eq_true rfl) rfl ?_
  refine r_aload_n rfl dX11_makeLine_35 rfl ?_
  refine r_iload_n rfl dX11_makeLine_36 rfl ?_
  refine cl_X11_121 rfl rfl dX11_makeLine_37 (show 2 ≤ 2 ∧ 2 < 434 by decide).1 (show 2 ≤ 2 ∧ 2 < 434 by decide).2 h2 (Nat.le_of_ble_eq_true rfl) (x_lineAt_in hS h2 (by omega) (n := b) (by omega)) ?_
  rintro _ h59 _ ⟨rfl, e60, rfl⟩
  replace e60 := e60.symm
  subst e60
  refine r_astore (ls' := [some (.ref 2), some (.int (nI s)), some (.int (nI a)), some (.int (nI b)), some (.int z), some (.ref (100 + 8 * a)), some (.ref (100 + 8 * b)), none]) rfl dX11_makeLine_40 (Nat.le_of_ble_eq_true rfl) rfl ?_
  refine r_aload rfl dX11_makeLine_42 rfl ?_
  refine r_ifnull rfl (by decide) dX11_makeLine_44 ?_
  refine r_aload rfl dX11_makeLine_47 rfl ?_
  refine r_ifnull rfl (by decide) dX11_makeLine_49 ?_
  refine r_aload_n rfl dX11_makeLine_52 rfl ?_
  refine r_getv 12 rfl dX11_makeLine_53 (show 2 ≤ 2 ∧ 2 < 434 by decide) h2 fl_X11_118 rfl ?_
  refine r_aload_n rfl dX11_makeLine_56 rfl ?_
  refine r_getv 2 rfl dX11_makeLine_57 (show 2 ≤ 2 ∧ 2 < 434 by decide) h2 fl_X11_25 rfl ?_
  refine r_alen (v := 40) rfl dX11_makeLine_60 (by decide) (by decide) hS.o12 (by decide) rfl ?_
  refine r_icmp_lt (tgt := 66) rfl rfl dX11_makeLine_61 (fun _ => ?_) (fun zc => absurd (show nI k < (40 : Int32) from nI_lt (a := k) (b := 40) (by omega) (by decide)) zc)
  refine r_aload_n rfl dX11_makeLine_66 rfl ?_
  refine r_getv 2 rfl dX11_makeLine_67 (show 2 ≤ 2 ∧ 2 < 434 by decide) h2 fl_X11_25 rfl ?_
  refine r_aload_n rfl dX11_makeLine_70 rfl ?_
  refine r_getv 12 rfl dX11_makeLine_71 (show 2 ≤ 2 ∧ 2 < 434 by decide) h2 fl_X11_118 rfl ?_
  refine r_aald (jn := k) (v := .ref (100 + 8 * k)) rfl dX11_makeLine_74 (show 2 ≤ 12 ∧ 12 < 434 by decide).1 (show 2 ≤ 12 ∧ 12 < 434 by decide).2 hS.o12 (by decide) (vp_in_nI (n := k) (by omega) (by decide)) (nI_clamp (n := k) (by omega)) (by show va_rf (if _ < _ then _ else _) = _; rw [if_pos (show k < 40 by omega)]; rfl) ?_
  refine r_astore (ls' := [some (.ref 2), some (.int (nI s)), some (.int (nI a)), some (.int (nI b)), some (.int z), some (.ref (100 + 8 * a)), some (.ref (100 + 8 * b)), some (.ref (100 + 8 * k))]) rfl dX11_makeLine_75 (Nat.le_of_ble_eq_true rfl) rfl ?_
  refine r_aload rfl dX11_makeLine_77 rfl ?_
  refine r_aload rfl dX11_makeLine_79 rfl ?_
  refine r_aload rfl dX11_makeLine_81 rfl ?_
  refine r_iload rfl dX11_makeLine_83 rfl ?_
  obtain ⟨y61, y62, y63, y64, y65, y66, f67⟩ := hS.ln (i := k) (by omega)
  obtain ⟨y68, y69, y70, y71, y72, y73, f74⟩ := hS.ln (i := k) (by omega)
  refine cl_X11_278 rfl rfl dX11_makeLine_85 (show 2 ≤ 100 + 8 * k ∧ 100 + 8 * k < 434 by omega).1 (show 2 ≤ 100 + 8 * k ∧ 100 + 8 * k < 434 by omega).2 f67 (Nat.le_of_ble_eq_true rfl) (x_X3_becomeCut hS (i := k) (j := a) (m := b) (by omega) f74 (by omega) (by omega) (hLN a (by omega)) (hLN b (by omega)) (by omega) (by omega)) ?_
  rintro _ h75 _ ⟨rfl, hS76, hk77, ⟨c78, f79, rfl⟩ | ⟨c78, f79, rfl⟩⟩
  · have LN80 : LN k G h75 := fun i hi => (hk77 _ (by simp <;> omega) (nSP_ln (by omega))).trans (hLN i hi)
    have hF81 := KT_tr (KT_rf h) (KT_l (i := k) (by omega) hk77)
    have f82 : h75 (2) = .inr (11, [.ref 3, .ref 5, .ref 12, .ref 13, .ref 24, .ref 93, .ref 95, .ref 96, .ref 97, .ref 98, .ref 99, .int cc, .int (nI k), .int sc, .int wr, .int el]) := (hk77 _ (by simp <;> omega) nSP_2).trans h2
    have f83 : h75 (5) = .inr (4, [.ref 6, .ref 7, .ref 8, .int cr, .int pl, .int tu, .ref 9, .ref 10, .ref 11, .int sr]) := (hk77 _ (by simp <;> omega) nSP_5).trans h5
    have f84 : h75 (9) = .inl (0, 24, .inl A) := (hk77 _ (by simp <;> omega) nSP_9).trans h9
    have f85 : h75 (10) = .inl (0, 24, .inl B) := (hk77 _ (by simp <;> omega) nSP_10).trans h10
    have f86 : h75 (11) = .inl (0, 24, .inl C) := (hk77 _ (by simp <;> omega) nSP_11).trans h11
    have f87 : h75 (13) = h 13 := (hk77 _ (by simp <;> omega) nSP_13).trans rfl
    have f88 : h75 (24) = h 24 := (hk77 _ (by simp <;> omega) nSP_24).trans rfl
    refine r_if_ne (tgt := 93) rfl rfl dX11_makeLine_88 (fun _ => ?_) (fun zc => absurd zc (by decide))
    refine r_aload rfl dX11_makeLine_93 rfl ?_
    refine r_iload_n rfl dX11_makeLine_95 rfl ?_
    refine r_iload_n rfl dX11_makeLine_96 rfl ?_
    refine r_iload rfl dX11_makeLine_97 rfl ?_
    refine cl_X11_282 rfl rfl dX11_makeLine_99 (show 2 ≤ 100 + 8 * k ∧ 100 + 8 * k < 434 by omega).1 (show 2 ≤ 100 + 8 * k ∧ 100 + 8 * k < 434 by omega).2 f79 (Nat.le_of_ble_eq_true rfl) (x_X3_rememberCut hS76 (i := k) (by omega) f79) ?_
    rintro _ h89 _ ⟨rfl, hS90, hk91, f92, rfl⟩
    have LN93 : LN k G h89 := fun i hi => (hk91 _ (by simp <;> omega) (nSP_ln (by omega))).trans (LN80 i hi)
    have hF94 := KT_tr hF81 (KT_l (i := k) (by omega) hk91)
    have f95 : h89 (2) = .inr (11, [.ref 3, .ref 5, .ref 12, .ref 13, .ref 24, .ref 93, .ref 95, .ref 96, .ref 97, .ref 98, .ref 99, .int cc, .int (nI k), .int sc, .int wr, .int el]) := (hk91 _ (by simp <;> omega) nSP_2).trans f82
    have f96 : h89 (5) = .inr (4, [.ref 6, .ref 7, .ref 8, .int cr, .int pl, .int tu, .ref 9, .ref 10, .ref 11, .int sr]) := (hk91 _ (by simp <;> omega) nSP_5).trans f83
    have f97 : h89 (9) = .inl (0, 24, .inl A) := (hk91 _ (by simp <;> omega) nSP_9).trans f84
    have f98 : h89 (10) = .inl (0, 24, .inl B) := (hk91 _ (by simp <;> omega) nSP_10).trans f85
    have f99 : h89 (11) = .inl (0, 24, .inl C) := (hk91 _ (by simp <;> omega) nSP_11).trans f86
    have f100 : h89 (13) = h 13 := (hk91 _ (by simp <;> omega) nSP_13).trans f87
    have f101 : h89 (24) = h 24 := (hk91 _ (by simp <;> omega) nSP_24).trans f88
    refine r_aload rfl dX11_makeLine_102 rfl ?_
    refine r_aload rfl dX11_makeLine_104 rfl ?_
    refine r_aload rfl dX11_makeLine_106 rfl ?_
    refine r_aload_n rfl dX11_makeLine_108 rfl ?_
    refine r_getv 3 rfl dX11_makeLine_109 (show 2 ≤ 2 ∧ 2 < 434 by decide) f95 fl_X11_32 rfl ?_
    refine r_iload rfl dX11_makeLine_112 rfl ?_
    obtain ⟨y102, y103, y104, y105, f106⟩ := hS90.o13
    refine cl_X11_129 rfl rfl dX11_makeLine_114 (show 2 ≤ 13 ∧ 13 < 434 by decide).1 (show 2 ≤ 13 ∧ 13 < 434 by decide).2 f106 (Nat.le_of_ble_eq_true rfl) (x_X7_ownerOf hS90 f106) ?_
    rintro _ h107 _ ⟨rfl, e108, rfl⟩
    replace e108 := e108.symm
    subst e108
    refine cl_X11_285 rfl rfl dX11_makeLine_117 (show 2 ≤ 100 + 8 * k ∧ 100 + 8 * k < 434 by omega).1 (show 2 ≤ 100 + 8 * k ∧ 100 + 8 * k < 434 by omega).2 f92 (Nat.le_of_ble_eq_true rfl) (x_X3_sayAsCut hS90 (i := k) (j := a) (m := b) (by omega) f92 (by omega) (by omega) (LN93 a (by omega)) (LN93 b (by omega)) (by omega) (by omega)) ?_
    rintro _ h110 _ ⟨rfl, hS111, hk112, rfl⟩
    have f113 := (hk112 (100 + 8 * k) (by simp) (nSP_ln (by omega))).trans f92
    have hF114 := KT_tr hF94 (KT_x (by decide) hk112)
    have f115 : h110 (2) = .inr (11, [.ref 3, .ref 5, .ref 12, .ref 13, .ref 24, .ref 93, .ref 95, .ref 96, .ref 97, .ref 98, .ref 99, .int cc, .int (nI k), .int sc, .int wr, .int el]) := (hk112 _ (by decide) nSP_2).trans f95
    have f116 : h110 (5) = .inr (4, [.ref 6, .ref 7, .ref 8, .int cr, .int pl, .int tu, .ref 9, .ref 10, .ref 11, .int sr]) := (hk112 _ (by decide) nSP_5).trans f96
    have f117 : h110 (9) = .inl (0, 24, .inl A) := (hk112 _ (by decide) nSP_9).trans f97
    have f118 : h110 (10) = .inl (0, 24, .inl B) := (hk112 _ (by decide) nSP_10).trans f98
    have f119 : h110 (11) = .inl (0, 24, .inl C) := (hk112 _ (by decide) nSP_11).trans f99
    have f120 : h110 (13) = h 13 := (hk112 _ (by decide) nSP_13).trans f100
    have f121 : h110 (24) = h 24 := (hk112 _ (by decide) nSP_24).trans f101
    have LN122 := LN_kx (by decide) hk112 (by omega) LN93
    refine r_iconst (v := 1) rfl dX11_makeLine_120 (by decide) ?_
    exact r_ret dX11_makeLine_121 (rt_z rfl (Or.inr rfl)) ⟨rfl, hS111, hF114, f115, f120, f121, Or.inl ⟨c78, LN_cu (by omega) LN122 (fun _ _ => rfl) f113, rfl⟩⟩
  · have LN123 : LN k G h75 := fun i hi => (hk77 _ (by simp <;> omega) (nSP_ln (by omega))).trans (hLN i hi)
    have hF124 := KT_tr (KT_rf h) (KT_l (i := k) (by omega) hk77)
    have f125 : h75 (2) = .inr (11, [.ref 3, .ref 5, .ref 12, .ref 13, .ref 24, .ref 93, .ref 95, .ref 96, .ref 97, .ref 98, .ref 99, .int cc, .int (nI k), .int sc, .int wr, .int el]) := (hk77 _ (by simp <;> omega) nSP_2).trans h2
    have f126 : h75 (5) = .inr (4, [.ref 6, .ref 7, .ref 8, .int cr, .int pl, .int tu, .ref 9, .ref 10, .ref 11, .int sr]) := (hk77 _ (by simp <;> omega) nSP_5).trans h5
    have f127 : h75 (9) = .inl (0, 24, .inl A) := (hk77 _ (by simp <;> omega) nSP_9).trans h9
    have f128 : h75 (10) = .inl (0, 24, .inl B) := (hk77 _ (by simp <;> omega) nSP_10).trans h10
    have f129 : h75 (11) = .inl (0, 24, .inl C) := (hk77 _ (by simp <;> omega) nSP_11).trans h11
    have f130 : h75 (13) = h 13 := (hk77 _ (by simp <;> omega) nSP_13).trans rfl
    have f131 : h75 (24) = h 24 := (hk77 _ (by simp <;> omega) nSP_24).trans rfl
    refine r_if_ne (tgt := 93) rfl rfl dX11_makeLine_88 (fun zc => absurd zc (by decide)) (fun _ => ?_)
    refine r_iconst (v := 0) rfl dX11_makeLine_91 (by decide) ?_
    exact r_ret dX11_makeLine_92 (rt_z rfl (Or.inl rfl)) ⟨rfl, hS76, hF124, f125, f130, f131, Or.inr ⟨c78, LN123, rfl⟩⟩
