/-- what takeSteps leaves, with what LINES say -/
def t9Q (h0 : ev_H) (c t : Nat) (R : Nat × Int32 × (Nat → Int32)) : ev_Q := fun sz' h' r => sz' = 434 ∧ SH h' ∧ KT h0 h' ∧ KQd h0 h' ∧ h' 2 = c2 (nI c) (nI (c + R.1)) (nI t) R.2.1 (enF R.2.2 (c + R.1) 0) ∧ LN (c + R.1) R.2.2 h' ∧ h' 13 = h0 13 ∧ h' 24 = h0 24 ∧ (∃ Y, SV c (c + R.1) R.2.2 Y ∧ SWc (c + R.1) Y h') ∧ r = []
set_option maxRecDepth 20000 in
set_option maxHeartbeats 1000000 in
theorem w_ts_z {xs : Nat → Int32} {L d : Nat} {h : ev_H} {h0 : ev_H} {c t s : Nat} {el cr pl tu sr : Int32} {A B C G : Nat → Int32} {lo lt fk fs : Int32} {Y : Nat → Int64} (hS : SH h) (hc : c ≤ 16) (ht : t ≤ 24) (hF : KT h0 h) (h2 : h 2 = c2 (nI c) (nI (c + s)) (nI t) (-9) el) (h5 : h 5 = c5 cr pl tu sr) (h9 : h 9 = cI 24 A) (h10 : h 10 = cI 24 B) (h11 : h 11 = cI 24 C) (h13 : h 13 = h0 13) (h24 : h 24 = h0 24) (hSB : SB c t A B) (hLN : LN (c + s) G h) (hKQ : KQd h0 h) (h13e : h0 13 = c13 lo lt fk fs) (hlo : ltO G c = lo) (hlt : ltE G c = lt) (hG : GV c s G) (hV : SV c (c + s) G Y) (hSW : SWc (c + s) Y h) (hC : SC t C) (hst : s = t) (hck : c + s ≤ 40) : EV xs L (d + 4) 0 0 M_X11_takeSteps 434 h 17 [some (.ref 2), some (.int (nI s))] [] (t9Q h0 c t (mkL c A B C 0 s G)) := by
  refine r_iload_n rfl dX11_takeSteps_17 rfl ?_
  refine r_aload_n rfl dX11_takeSteps_18 rfl ?_
  refine r_getv 13 rfl dX11_takeSteps_19 (show 2 ≤ 2 ∧ 2 < 434 by decide) h2 fl_X11_211 rfl ?_
  refine r_icmp_ge (tgt := 66) rfl rfl dX11_takeSteps_22 (fun _ => ?_) (fun zc => absurd (show nI t ≤ nI s from nI_le (a := t) (b := s) (by omega) (by omega)) zc)
  refine r_aload_n rfl dX11_takeSteps_66 rfl ?_
  refine r_aload_n rfl dX11_takeSteps_67 rfl ?_
  refine cl_X11_260 rfl rfl dX11_takeSteps_68 (show 2 ≤ 2 ∧ 2 < 434 by decide).1 (show 2 ≤ 2 ∧ 2 < 434 by decide).2 h2 (Nat.le_of_ble_eq_true rfl) (x_X11_firstEmptyLine hS (by omega) h2 hLN) ?_
  rintro _ h51 _ ⟨rfl, e52, rfl⟩
  replace e52 := e52.symm
  subst e52
  refine e_put 15 (fs' := [.ref 3, .ref 5, .ref 12, .ref 13, .ref 24, .ref 93, .ref 95, .ref 96, .ref 97, .ref 98, .ref 99, .int (nI c), .int (nI (c + s)), .int (nI t), .int (-9), .int (enF G (c + s) 0)]) rfl dX11_takeSteps_71 (show 2 ≤ 2 ∧ 2 < 434 by decide) hS (KM_rf (Mod := [2]) _) (List.mem_singleton.mpr rfl) h2 (fp_X11_86 rfl _) (Nat.le_of_ble_eq_true rfl) rfl (fun h53 hS54 _ hN55 f56 => ?_)
  have hk57 : KX [2] h h53 := KX_M (fun _ z => z) hN55
  have hF58 := KT_tr hF (KT_x (by decide) hk57)
  have f59 : h53 (5) = .inr (4, [.ref 6, .ref 7, .ref 8, .int cr, .int pl, .int tu, .ref 9, .ref 10, .ref 11, .int sr]) := (hk57 _ (by decide) nSP_5).trans h5
  have f60 : h53 (9) = .inl (0, 24, .inl A) := (hk57 _ (by decide) nSP_9).trans h9
  have f61 : h53 (10) = .inl (0, 24, .inl B) := (hk57 _ (by decide) nSP_10).trans h10
  have f62 : h53 (11) = .inl (0, 24, .inl C) := (hk57 _ (by decide) nSP_11).trans h11
  have f63 : h53 (13) = h0 13 := (hk57 _ (by decide) nSP_13).trans h13
  have f64 : h53 (24) = h0 24 := (hk57 _ (by decide) nSP_24).trans h24
  have LN65 := LN_kx (by decide) hk57 (by omega) hLN
  have sw66 := SW_f (by omega) (fun q _ _ => hN55 q (by simp <;> omega)) hSW
  have kq67 := KQd_tr hKQ (fun q _ _ => hN55 q (by simp <;> omega))
  have e68 : mkL c A B C 0 s G = (s, -9, G) := rfl
  exact r_ret dX11_takeSteps_74 (rt_v rfl) (by rw [e68]; exact ⟨rfl, hS54, hF58, kq67, f56, LN65, f63, f64, ⟨Y, hV, sw66⟩, rfl⟩)
set_option maxRecDepth 20000 in
set_option maxHeartbeats 1000000 in
theorem w_ts_s {xs : Nat → Int32} {L d : Nat} {h : ev_H} {h0 : ev_H} {c t s : Nat} {el cr pl tu sr : Int32} {A B C G : Nat → Int32} {lo lt fk fs : Int32} {Y : Nat → Int64} {n : Nat} (hS : SH h) (hc : c ≤ 16) (ht : t ≤ 24) (hF : KT h0 h) (h2 : h 2 = c2 (nI c) (nI (c + s)) (nI t) (-9) el) (h5 : h 5 = c5 cr pl tu sr) (h9 : h 9 = cI 24 A) (h10 : h 10 = cI 24 B) (h11 : h 11 = cI 24 C) (h13 : h 13 = h0 13) (h24 : h 24 = h0 24) (hSB : SB c t A B) (hLN : LN (c + s) G h) (hKQ : KQd h0 h) (h13e : h0 13 = c13 lo lt fk fs) (hlo : ltO G c = lo) (hlt : ltE G c = lt) (hG : GV c s G) (hV : SV c (c + s) G Y) (hSW : SWc (c + s) Y h) (hC : SC t C) (hst : s + (n + 1) = t) (hck : c + s ≤ 40) (ih : ∀ (h' : ev_H) (G' : Nat → Int32) (Y' : Nat → Int64), SH h' → KT h0 h' → h' 2 = c2 (nI c) (nI (c + (s + 1))) (nI t) (-9) el → h' 5 = c5 cr pl tu sr → h' 9 = cI 24 A → h' 10 = cI 24 B → h' 11 = cI 24 C → h' 13 = h0 13 → h' 24 = h0 24 → LN (c + (s + 1)) G' h' → KQd h0 h' → ltO G' c = lo → ltE G' c = lt → GV c (s + 1) G' → SV c (c + (s + 1)) G' Y' → SWc (c + (s + 1)) Y' h' → EV xs L (d + 4) 0 0 M_X11_takeSteps 434 h' 17 [some (.ref 2), some (.int (nI (s + 1)))] [] (t9Q h0 c t (mkL c A B C n (s + 1) G'))) : EV xs L (d + 4) 0 0 M_X11_takeSteps 434 h 17 [some (.ref 2), some (.int (nI s))] [] (t9Q h0 c t (mkL c A B C (n + 1) s G)) := by
  refine r_iload_n rfl dX11_takeSteps_17 rfl ?_
  refine r_aload_n rfl dX11_takeSteps_18 rfl ?_
  refine r_getv 13 rfl dX11_takeSteps_19 (show 2 ≤ 2 ∧ 2 < 434 by decide) h2 fl_X11_211 rfl ?_
  refine r_icmp_ge (tgt := 66) rfl rfl dX11_takeSteps_22 (fun zc => absurd zc (show ¬ nI t ≤ nI s from nI_ge (a := s) (b := t) (by omega) (by omega))) (fun _ => ?_)
  refine r_aload_n rfl dX11_takeSteps_25 rfl ?_
  refine r_getv 14 rfl dX11_takeSteps_26 (show 2 ≤ 2 ∧ 2 < 434 by decide) h2 fl_X11_82 rfl ?_
  refine r_bipush (v := (-9)) rfl dX11_takeSteps_29 (by decide) ?_
  refine r_icmp_ne (tgt := 66) rfl rfl dX11_takeSteps_31 (fun zc => absurd zc (by decide)) (fun _ => ?_)
  refine r_aload_n rfl dX11_takeSteps_34 rfl ?_
  refine r_iload_n rfl dX11_takeSteps_35 rfl ?_
  obtain ⟨⟨a1, ha1, ea1⟩, ⟨b1, hb1, eb1⟩⟩ := hSB s (by omega)
  obtain ⟨z1, hz1, ez1⟩ := hC s (by omega)
  refine cl_X11_266 rfl rfl dX11_takeSteps_36 (show 2 ≤ 2 ∧ 2 < 434 by decide).1 (show 2 ≤ 2 ∧ 2 < 434 by decide).2 h2 (Nat.le_of_ble_eq_true rfl) (w_X11_makeLine hS (by omega) (by omega) h2 h5 h9 h10 h11 (by omega) ha1 hb1 ea1 eb1 rfl hLN (h13.trans h13e) hSW) ?_
  rintro _ h51 _ ⟨rfl, hS52, hk53, kq61, f54, f55, f56, ⟨c57, LN58, sw59, nw60, rfl⟩ | ⟨c57, LN58, sw59, rfl⟩⟩
  · have hF62 := KT_tr hF hk53
    have kq63 := KQd_tr hKQ kq61
    have c57q : cuK G (A s).toNatClampNeg (B s).toNatClampNeg (C s) := by rw [ea1, eb1, nI_clamp (by omega), nI_clamp (by omega)]; exact c57
    have f64 : h51 5 = .inr (4, [.ref 6, .ref 7, .ref 8, .int cr, .int pl, .int tu, .ref 9, .ref 10, .ref 11, .int sr]) := (hk53 5 (by decide) nSP_5 (by intro i hi; omega)).trans h5
    have f65 : h51 9 = .inl (0, 24, .inl A) := (hk53 9 (by decide) nSP_9 (by intro i hi; omega)).trans h9
    have f66 : h51 10 = .inl (0, 24, .inl B) := (hk53 10 (by decide) nSP_10 (by intro i hi; omega)).trans h10
    have f67 : h51 11 = .inl (0, 24, .inl C) := (hk53 11 (by decide) nSP_11 (by intro i hi; omega)).trans h11
    have f68 : h51 13 = h0 13 := f55.trans h13
    have f69 : h51 24 = h0 24 := f56.trans h24
    have sw70 : SWc (c + (s + 1)) (exY Y (c + s) (fun w => cuV (own lo lt (C s)) (C s) w (fun p => Y (160 * w + 4 * a1 + p)) (fun p => Y (160 * w + 4 * b1 + p)))) h51 := SW_ex (k := c + s) (by omega) sw59 nw60
    refine r_if_eq (tgt := 55) rfl rfl dX11_takeSteps_39 (fun zc => absurd zc (by decide)) (fun _ => ?_)
    refine r_aload_n rfl dX11_takeSteps_42 rfl ?_
    refine r_dup rfl dX11_takeSteps_43 rfl ?_
    refine r_getv 12 rfl dX11_takeSteps_44 (show 2 ≤ 2 ∧ 2 < 434 by decide) f54 fl_X11_118 rfl ?_
    refine r_iconst (v := 1) rfl dX11_takeSteps_47 (by decide) ?_
    refine r_iadd rfl dX11_takeSteps_48 ?_
    refine r_eqi (y := nI ((c + s) + 1)) (show (nI (c + s)) + 1 = nI ((c + s) + 1) from nI_add (c + s) 1) ?_
    refine e_put 12 (fs' := [.ref 3, .ref 5, .ref 12, .ref 13, .ref 24, .ref 93, .ref 95, .ref 96, .ref 97, .ref 98, .ref 99, .int (nI c), .int (nI ((c + s) + 1)), .int (nI t), .int (-9), .int el]) rfl dX11_takeSteps_49 (show 2 ≤ 2 ∧ 2 < 434 by decide) hS52 (KM_rf (Mod := [2]) _) (List.mem_singleton.mpr rfl) f54 (fp_X11_118 rfl _) (Nat.le_of_ble_eq_true rfl) rfl (fun h71 hS72 _ hN73 f74 => ?_)
    have hk75 : KX [2] h51 h71 := KX_M (fun _ z => z) hN73
    have hF76 := KT_tr hF62 (KT_x (by decide) hk75)
    have f77 : h71 (5) = .inr (4, [.ref 6, .ref 7, .ref 8, .int cr, .int pl, .int tu, .ref 9, .ref 10, .ref 11, .int sr]) := (hk75 _ (by decide) nSP_5).trans f64
    have f78 : h71 (9) = .inl (0, 24, .inl A) := (hk75 _ (by decide) nSP_9).trans f65
    have f79 : h71 (10) = .inl (0, 24, .inl B) := (hk75 _ (by decide) nSP_10).trans f66
    have f80 : h71 (11) = .inl (0, 24, .inl C) := (hk75 _ (by decide) nSP_11).trans f67
    have f81 : h71 (13) = h0 13 := (hk75 _ (by decide) nSP_13).trans f68
    have f82 : h71 (24) = h0 24 := (hk75 _ (by decide) nSP_24).trans f69
    have LN83 := LN_kx (by decide) hk75 (by omega) LN58
    have sw84 := SW_f (by omega) (fun q _ _ => hN73 q (by simp <;> omega)) sw70
    have kq85 := KQd_tr kq63 (fun q _ _ => hN73 q (by simp <;> omega))
    refine r_goto (pc' := 60) rfl dX11_takeSteps_52 ?_
    refine r_iinc (y := nI (s + 1)) (ls' := [some (.ref 2), some (.int (nI (s + 1)))]) rfl dX11_takeSteps_60 rfl (nI_1 s) (Nat.le_of_ble_eq_true rfl) rfl ?_
    refine r_goto (pc' := 17) rfl dX11_takeSteps_63 ?_
    rw [show mkL c A B C (n + 1) s G = mkL c A B C n (s + 1) (cuG G (c + s) (A s).toNatClampNeg (B s).toNatClampNeg (C s)) from by rw [mkL, if_pos c57q]]
    have hLN1 : LN (c + (s + 1)) (cuG G (c + s) (A s).toNatClampNeg (B s).toNatClampNeg (C s)) h71 := by rw [ea1, eb1, nI_clamp (by omega), nI_clamp (by omega)]; exact LN83
    have hV1 : SV c (c + (s + 1)) (cuG G (c + s) (A s).toNatClampNeg (B s).toNatClampNeg (C s)) (exY Y (c + s) (fun w => cuV (own lo lt (C s)) (C s) w (fun p => Y (160 * w + 4 * a1 + p)) (fun p => Y (160 * w + 4 * b1 + p)))) := by rw [ea1, eb1, nI_clamp (by omega), nI_clamp (by omega)]; rw [ez1]; exact SV_ex hc (by omega) ha1 hb1 hz1 hG hlo hlt hV
    have hG1 : GV c (s + 1) (cuG G (c + s) (A s).toNatClampNeg (B s).toNatClampNeg (C s)) := by rw [ea1, eb1, nI_clamp (by omega), nI_clamp (by omega)]; rw [ez1]; exact GV_cu hG ha1 hb1 hz1
    exact ih h71 _ _ hS72 hF76 f74 f77 f78 f79 f80 f81 f82 hLN1 kq85 ((ltO_cg c (fun x hx => cuG_lo (by omega))).trans hlo) ((ltE_cg c (fun x hx => cuG_lo (by omega))).trans hlt) hG1 hV1 sw84
  · have hF86 := KT_tr hF hk53
    have kq87 := KQd_tr hKQ kq61
    have c57q : ¬ cuK G (A s).toNatClampNeg (B s).toNatClampNeg (C s) := by rw [ea1, eb1, nI_clamp (by omega), nI_clamp (by omega)]; exact c57
    have f88 : h51 5 = .inr (4, [.ref 6, .ref 7, .ref 8, .int cr, .int pl, .int tu, .ref 9, .ref 10, .ref 11, .int sr]) := (hk53 5 (by decide) nSP_5 (by intro i hi; omega)).trans h5
    have f89 : h51 9 = .inl (0, 24, .inl A) := (hk53 9 (by decide) nSP_9 (by intro i hi; omega)).trans h9
    have f90 : h51 10 = .inl (0, 24, .inl B) := (hk53 10 (by decide) nSP_10 (by intro i hi; omega)).trans h10
    have f91 : h51 11 = .inl (0, 24, .inl C) := (hk53 11 (by decide) nSP_11 (by intro i hi; omega)).trans h11
    have f92 : h51 13 = h0 13 := f55.trans h13
    have f93 : h51 24 = h0 24 := f56.trans h24
    refine r_if_eq (tgt := 55) rfl rfl dX11_takeSteps_39 (fun _ => ?_) (fun zc => absurd zc (by decide))
    refine r_aload_n rfl dX11_takeSteps_55 rfl ?_
    refine r_iload_n rfl dX11_takeSteps_56 rfl ?_
    refine e_put 14 (fs' := [.ref 3, .ref 5, .ref 12, .ref 13, .ref 24, .ref 93, .ref 95, .ref 96, .ref 97, .ref 98, .ref 99, .int (nI c), .int (nI (c + s)), .int (nI t), .int (nI s), .int el]) rfl dX11_takeSteps_57 (show 2 ≤ 2 ∧ 2 < 434 by decide) hS52 (KM_rf (Mod := [2]) _) (List.mem_singleton.mpr rfl) f54 (fp_X11_82 rfl _) (Nat.le_of_ble_eq_true rfl) rfl (fun h94 hS95 _ hN96 f97 => ?_)
    have hk98 : KX [2] h51 h94 := KX_M (fun _ z => z) hN96
    have hF99 := KT_tr hF86 (KT_x (by decide) hk98)
    have f100 : h94 (5) = .inr (4, [.ref 6, .ref 7, .ref 8, .int cr, .int pl, .int tu, .ref 9, .ref 10, .ref 11, .int sr]) := (hk98 _ (by decide) nSP_5).trans f88
    have f101 : h94 (9) = .inl (0, 24, .inl A) := (hk98 _ (by decide) nSP_9).trans f89
    have f102 : h94 (10) = .inl (0, 24, .inl B) := (hk98 _ (by decide) nSP_10).trans f90
    have f103 : h94 (11) = .inl (0, 24, .inl C) := (hk98 _ (by decide) nSP_11).trans f91
    have f104 : h94 (13) = h0 13 := (hk98 _ (by decide) nSP_13).trans f92
    have f105 : h94 (24) = h0 24 := (hk98 _ (by decide) nSP_24).trans f93
    have LN106 := LN_kx (by decide) hk98 (by omega) LN58
    have sw107 := SW_f (by omega) (fun q _ _ => hN96 q (by simp <;> omega)) sw59
    have kq108 := KQd_tr kq87 (fun q _ _ => hN96 q (by simp <;> omega))
    refine r_iinc (y := nI (s + 1)) (ls' := [some (.ref 2), some (.int (nI (s + 1)))]) rfl dX11_takeSteps_60 rfl (nI_1 s) (Nat.le_of_ble_eq_true rfl) rfl ?_
    refine r_goto (pc' := 17) rfl dX11_takeSteps_63 ?_
    refine r_iload_n rfl dX11_takeSteps_17 rfl ?_
    refine r_aload_n rfl dX11_takeSteps_18 rfl ?_
    refine r_getv 13 rfl dX11_takeSteps_19 (show 2 ≤ 2 ∧ 2 < 434 by decide) f97 fl_X11_211 rfl ?_
    refine r_icmp_ge (tgt := 66) rfl rfl dX11_takeSteps_22 (fun c109 => ?_) (fun c109 => ?_)
    · have q110 : t ≤ (s + 1) := (nI_leI (a := t) (b := s + 1) (by omega) (by omega)).mp c109
      refine r_aload_n rfl dX11_takeSteps_66 rfl ?_
      refine r_aload_n rfl dX11_takeSteps_67 rfl ?_
      refine cl_X11_260 rfl rfl dX11_takeSteps_68 (show 2 ≤ 2 ∧ 2 < 434 by decide).1 (show 2 ≤ 2 ∧ 2 < 434 by decide).2 f97 (Nat.le_of_ble_eq_true rfl) (x_X11_firstEmptyLine hS95 (by omega) f97 LN106) ?_
      rintro _ h111 _ ⟨rfl, e112, rfl⟩
      replace e112 := e112.symm
      subst e112
      refine e_put 15 (fs' := [.ref 3, .ref 5, .ref 12, .ref 13, .ref 24, .ref 93, .ref 95, .ref 96, .ref 97, .ref 98, .ref 99, .int (nI c), .int (nI (c + s)), .int (nI t), .int (nI s), .int (enF G (c + s) 0)]) rfl dX11_takeSteps_71 (show 2 ≤ 2 ∧ 2 < 434 by decide) hS95 (KM_rf (Mod := [2]) _) (List.mem_singleton.mpr rfl) f97 (fp_X11_86 rfl _) (Nat.le_of_ble_eq_true rfl) rfl (fun h113 hS114 _ hN115 f116 => ?_)
      have hk117 : KX [2] h94 h113 := KX_M (fun _ z => z) hN115
      have hF118 := KT_tr hF99 (KT_x (by decide) hk117)
      have f119 : h113 (5) = .inr (4, [.ref 6, .ref 7, .ref 8, .int cr, .int pl, .int tu, .ref 9, .ref 10, .ref 11, .int sr]) := (hk117 _ (by decide) nSP_5).trans f100
      have f120 : h113 (9) = .inl (0, 24, .inl A) := (hk117 _ (by decide) nSP_9).trans f101
      have f121 : h113 (10) = .inl (0, 24, .inl B) := (hk117 _ (by decide) nSP_10).trans f102
      have f122 : h113 (11) = .inl (0, 24, .inl C) := (hk117 _ (by decide) nSP_11).trans f103
      have f123 : h113 (13) = h0 13 := (hk117 _ (by decide) nSP_13).trans f104
      have f124 : h113 (24) = h0 24 := (hk117 _ (by decide) nSP_24).trans f105
      have LN125 := LN_kx (by decide) hk117 (by omega) LN106
      have sw126 := SW_f (by omega) (fun q _ _ => hN115 q (by simp <;> omega)) sw107
      have kq127 := KQd_tr kq108 (fun q _ _ => hN115 q (by simp <;> omega))
      have e128 : mkL c A B C (n + 1) s G = (s, nI s, G) := by rw [mkL, if_neg c57q]
      exact r_ret dX11_takeSteps_74 (rt_v rfl) (by rw [e128]; exact ⟨rfl, hS114, hF118, kq127, f116, LN125, f123, f124, ⟨Y, hV, sw126⟩, rfl⟩)
    · have q129 : ¬ t ≤ (s + 1) := fun z => c109 ((nI_leI (a := t) (b := s + 1) (by omega) (by omega)).mpr z)
      refine r_aload_n rfl dX11_takeSteps_25 rfl ?_
      refine r_getv 14 rfl dX11_takeSteps_26 (show 2 ≤ 2 ∧ 2 < 434 by decide) f97 fl_X11_82 rfl ?_
      refine r_bipush (v := (-9)) rfl dX11_takeSteps_29 (by decide) ?_
      refine r_icmp_ne (tgt := 66) rfl rfl dX11_takeSteps_31 (fun _ => ?_) (fun zc => absurd zc (show ¬ nI s = -9 from fun z => nI_pos (n := s) (by omega) (by rw [z]; decide)))
      refine r_aload_n rfl dX11_takeSteps_66 rfl ?_
      refine r_aload_n rfl dX11_takeSteps_67 rfl ?_
      refine cl_X11_260 rfl rfl dX11_takeSteps_68 (show 2 ≤ 2 ∧ 2 < 434 by decide).1 (show 2 ≤ 2 ∧ 2 < 434 by decide).2 f97 (Nat.le_of_ble_eq_true rfl) (x_X11_firstEmptyLine hS95 (by omega) f97 LN106) ?_
      rintro _ h130 _ ⟨rfl, e131, rfl⟩
      replace e131 := e131.symm
      subst e131
      refine e_put 15 (fs' := [.ref 3, .ref 5, .ref 12, .ref 13, .ref 24, .ref 93, .ref 95, .ref 96, .ref 97, .ref 98, .ref 99, .int (nI c), .int (nI (c + s)), .int (nI t), .int (nI s), .int (enF G (c + s) 0)]) rfl dX11_takeSteps_71 (show 2 ≤ 2 ∧ 2 < 434 by decide) hS95 (KM_rf (Mod := [2]) _) (List.mem_singleton.mpr rfl) f97 (fp_X11_86 rfl _) (Nat.le_of_ble_eq_true rfl) rfl (fun h132 hS133 _ hN134 f135 => ?_)
      have hk136 : KX [2] h94 h132 := KX_M (fun _ z => z) hN134
      have hF137 := KT_tr hF99 (KT_x (by decide) hk136)
      have f138 : h132 (5) = .inr (4, [.ref 6, .ref 7, .ref 8, .int cr, .int pl, .int tu, .ref 9, .ref 10, .ref 11, .int sr]) := (hk136 _ (by decide) nSP_5).trans f100
      have f139 : h132 (9) = .inl (0, 24, .inl A) := (hk136 _ (by decide) nSP_9).trans f101
      have f140 : h132 (10) = .inl (0, 24, .inl B) := (hk136 _ (by decide) nSP_10).trans f102
      have f141 : h132 (11) = .inl (0, 24, .inl C) := (hk136 _ (by decide) nSP_11).trans f103
      have f142 : h132 (13) = h0 13 := (hk136 _ (by decide) nSP_13).trans f104
      have f143 : h132 (24) = h0 24 := (hk136 _ (by decide) nSP_24).trans f105
      have LN144 := LN_kx (by decide) hk136 (by omega) LN106
      have sw145 := SW_f (by omega) (fun q _ _ => hN134 q (by simp <;> omega)) sw107
      have kq146 := KQd_tr kq108 (fun q _ _ => hN134 q (by simp <;> omega))
      have e147 : mkL c A B C (n + 1) s G = (s, nI s, G) := by rw [mkL, if_neg c57q]
      exact r_ret dX11_takeSteps_74 (rt_v rfl) (by rw [e147]; exact ⟨rfl, hS133, hF137, kq146, f135, LN144, f142, f143, ⟨Y, hV, sw145⟩, rfl⟩)
theorem w_ts {xs : Nat → Int32} {L d : Nat} {h0 : ev_H} {c t : Nat} {el cr pl tu sr lo lt fk fs : Int32} {A B C : Nat → Int32} (hc : c ≤ 16) (ht : t ≤ 24) (hSB : SB c t A B) (h13e : h0 13 = c13 lo lt fk fs) (hC : SC t C) : ∀ (n s : Nat) (h : ev_H) (G : Nat → Int32) (Y : Nat → Int64), s + n = t → SH h → KT h0 h → h 2 = c2 (nI c) (nI (c + s)) (nI t) (-9) el → h 5 = c5 cr pl tu sr → h 9 = cI 24 A → h 10 = cI 24 B → h 11 = cI 24 C → h 13 = h0 13 → h 24 = h0 24 → LN (c + s) G h → KQd h0 h → ltO G c = lo → ltE G c = lt → GV c s G → SV c (c + s) G Y → SWc (c + s) Y h → EV xs L (d + 4) 0 0 M_X11_takeSteps 434 h 17 [some (.ref 2), some (.int (nI s))] [] (t9Q h0 c t (mkL c A B C n s G)) := by
  intro n
  induction n with
  | zero => intro s h G Y hs hS hF h2 h5 h9 h10 h11 h13 h24 hLN hKQ hlo hlt hG hV hSW; exact w_ts_z hS hc ht hF h2 h5 h9 h10 h11 h13 h24 hSB hLN hKQ h13e hlo hlt hG hV hSW hC (by omega) (by omega)
  | succ n ih => intro s h G Y hs hS hF h2 h5 h9 h10 h11 h13 h24 hLN hKQ hlo hlt hG hV hSW; exact w_ts_s hS hc ht hF h2 h5 h9 h10 h11 h13 h24 hSB hLN hKQ h13e hlo hlt hG hV hSW hC hs (by omega) (fun h' G' Y' q1 q2 q3 q4 q5 q6 q7 q8 q9 q10 q11 q12 q13 q14 q15 q16 => ih (s + 1) h' G' Y' (by omega) q1 q2 q3 q4 q5 q6 q7 q8 q9 q10 q11 q12 q13 q14 q15 q16)
set_option maxRecDepth 20000 in
set_option maxHeartbeats 1000000 in
theorem w_X11_takeSteps {xs : Nat → Int32} {L d : Nat} {h : ev_H} {c t : Nat} {lc sc wr el cr pl tu lo lt fk fs : Int32} {A B C G : Nat → Int32} {Y : Nat → Int64} (hS : SH h) (hc : c ≤ 16) (hck : c ≤ 40) (ht : t ≤ 24) (h2 : h 2 = c2 (nI c) lc sc wr el) (h5 : h 5 = c5 cr pl tu (nI t)) (h9 : h 9 = cI 24 A) (h10 : h 10 = cI 24 B) (h11 : h 11 = cI 24 C) (hSB : SB c t A B) (hLN : LN c G h) (h13 : h 13 = c13 lo lt fk fs) (hlo : ltO G c = lo) (hlt : ltE G c = lt) (hG : GV c 0 G) (hV : SV c c G Y) (hSW : SWc c Y h) (hC : SC t C) : EV xs L (d + 4) 0 0 M_X11_takeSteps 434 h 0 [some (.ref 2), none] [] (t9Q h c t (mkL c A B C t 0 G)) := by
  refine r_aload_n rfl dX11_takeSteps_0 rfl ?_
  refine cl_X11_257 rfl rfl dX11_takeSteps_1 (show 2 ≤ 2 ∧ 2 < 434 by decide).1 (show 2 ≤ 2 ∧ 2 < 434 by decide).2 h2 (Nat.le_of_ble_eq_true rfl) (s_X11_forgetProofx hS h2) ?_
  rintro _ h51 _ ⟨rfl, hS52, hk53, f54, rfl⟩
  have hk55 : KX [2] h h51 := KX_M (fun _ z => z) hk53
  have sw56 := SW_f (by omega) (fun q _ _ => hk53 q (by simp <;> omega)) hSW
  have kq57 := KQd_tr (KQd_rf h) (fun q _ _ => hk53 q (by simp <;> omega))
  have hF58 := KT_tr (KT_rf h) (KT_x (by decide) hk55)
  have f59 : h51 (5) = .inr (4, [.ref 6, .ref 7, .ref 8, .int cr, .int pl, .int tu, .ref 9, .ref 10, .ref 11, .int (nI t)]) := (hk55 _ (by decide) nSP_5).trans h5
  have f60 : h51 (9) = .inl (0, 24, .inl A) := (hk55 _ (by decide) nSP_9).trans h9
  have f61 : h51 (10) = .inl (0, 24, .inl B) := (hk55 _ (by decide) nSP_10).trans h10
  have f62 : h51 (11) = .inl (0, 24, .inl C) := (hk55 _ (by decide) nSP_11).trans h11
  have f63 : h51 (13) = h 13 := (hk55 _ (by decide) nSP_13).trans rfl
  have f64 : h51 (24) = h 24 := (hk55 _ (by decide) nSP_24).trans rfl
  have LN65 := LN_kx (by decide) hk55 (by omega) hLN
  refine r_aload_n rfl dX11_takeSteps_4 rfl ?_
  refine r_aload_n rfl dX11_takeSteps_5 rfl ?_
  refine r_getv 1 rfl dX11_takeSteps_6 (show 2 ≤ 2 ∧ 2 < 434 by decide) f54 fl_X11_19 rfl ?_
  refine cl_X11_263 rfl rfl dX11_takeSteps_9 (show 2 ≤ 5 ∧ 5 < 434 by decide).1 (show 2 ≤ 5 ∧ 5 < 434 by decide).2 f59 (Nat.le_of_ble_eq_true rfl) (s_X4_stepsRead hS52 f59) ?_
  rintro _ h66 _ ⟨rfl, e67, rfl⟩
  replace e67 := e67.symm
  subst e67
  refine e_put 13 (fs' := [.ref 3, .ref 5, .ref 12, .ref 13, .ref 24, .ref 93, .ref 95, .ref 96, .ref 97, .ref 98, .ref 99, .int (nI c), .int (nI c), .int (nI t), .int (-9), .int el]) rfl dX11_takeSteps_12 (show 2 ≤ 2 ∧ 2 < 434 by decide) hS52 (KM_rf (Mod := [2]) _) (List.mem_singleton.mpr rfl) f54 (fp_X11_211 rfl _) (Nat.le_of_ble_eq_true rfl) rfl (fun h68 hS69 _ hN70 f71 => ?_)
  have hk72 : KX [2] h51 h68 := KX_M (fun _ z => z) hN70
  have hF73 := KT_tr hF58 (KT_x (by decide) hk72)
  have f74 : h68 (5) = .inr (4, [.ref 6, .ref 7, .ref 8, .int cr, .int pl, .int tu, .ref 9, .ref 10, .ref 11, .int (nI t)]) := (hk72 _ (by decide) nSP_5).trans f59
  have f75 : h68 (9) = .inl (0, 24, .inl A) := (hk72 _ (by decide) nSP_9).trans f60
  have f76 : h68 (10) = .inl (0, 24, .inl B) := (hk72 _ (by decide) nSP_10).trans f61
  have f77 : h68 (11) = .inl (0, 24, .inl C) := (hk72 _ (by decide) nSP_11).trans f62
  have f78 : h68 (13) = h 13 := (hk72 _ (by decide) nSP_13).trans f63
  have f79 : h68 (24) = h 24 := (hk72 _ (by decide) nSP_24).trans f64
  have LN80 := LN_kx (by decide) hk72 (by omega) LN65
  have sw81 := SW_f (by omega) (fun q _ _ => hN70 q (by simp <;> omega)) sw56
  have kq82 := KQd_tr kq57 (fun q _ _ => hN70 q (by simp <;> omega))
  refine r_iconst (v := 0) rfl dX11_takeSteps_15 (by decide) ?_
  refine r_istore_n (ls' := [some (.ref 2), some (.int 0)]) rfl dX11_takeSteps_16 (Nat.le_of_ble_eq_true rfl) rfl ?_
  exact w_ts hc ht hSB h13 hC t 0 h68 G Y (by omega) hS69 hF73 f71 f74 f75 f76 f77 f78 f79 LN80 kq82 hlo hlt hG hV sw81
