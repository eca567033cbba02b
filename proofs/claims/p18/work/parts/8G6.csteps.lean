/-- what takeSteps leaves, with what LINES say -/
def t8Q (h0 : ev_H) (c t : Nat) (R : Nat × Int32 × (Nat → Int32)) : ev_Q := fun sz' h' r => sz' = 434 ∧ SH h' ∧ KT h0 h' ∧ h' 2 = c2 (nI c) (nI (c + R.1)) (nI t) R.2.1 (enF R.2.2 (c + R.1) 0) ∧ LN (c + R.1) R.2.2 h' ∧ h' 13 = h0 13 ∧ h' 24 = h0 24 ∧ (∃ Y, SV c (c + R.1) R.2.2 Y ∧ SWc (c + R.1) Y h') ∧ r = []
set_option maxRecDepth 20000 in
set_option maxHeartbeats 1000000 in
theorem v_ts_z {xs : Nat → Int32} {L d : Nat} {h : ev_H} {h0 : ev_H} {c t s : Nat} {el cr pl tu sr : Int32} {A B C G : Nat → Int32} {lo lt fk fs : Int32} {Y : Nat → Int64} (hS : SH h) (hc : c ≤ 16) (ht : t ≤ 24) (hF : KT h0 h) (h2 : h 2 = c2 (nI c) (nI (c + s)) (nI t) (-9) el) (h5 : h 5 = c5 cr pl tu sr) (h9 : h 9 = cI 24 A) (h10 : h 10 = cI 24 B) (h11 : h 11 = cI 24 C) (h13 : h 13 = h0 13) (h24 : h 24 = h0 24) (hSB : SB c t A B) (hLN : LN (c + s) G h) (h13e : h0 13 = c13 lo lt fk fs) (hlo : ltO G c = lo) (hlt : ltE G c = lt) (hG : GV c s G) (hV : SV c (c + s) G Y) (hSW : SWc (c + s) Y h) (hC : SC t C) (hst : s = t) (hck : c + s ≤ 40) : EV xs L (d + 4) 0 0 M_X11_takeSteps 434 h 17 [some (.ref 2), some (.int (nI s))] [] (t8Q h0 c t (mkL c A B C 0 s G)) := by
  refine r_iload_n rfl dX11_takeSteps_17 rfl ?_
  refine r_aload_n rfl dX11_takeSteps_18 rfl ?_
  refine r_getv 13 rfl dX11_takeSteps_19 (show 2 ≤ 2 ∧ 2 < 434 by decide) h2 fl_X11_211 rfl ?_
  refine r_icmp_ge (tgt := 66) rfl rfl dX11_takeSteps_22 (fun _ => ?_) (fun zc => absurd (show nI t ≤ nI s from nI_le (a := t) (b := s) (by omega) (by omega)) zc)
  refine r_aload_n rfl dX11_takeSteps_66 rfl ?_
  refine r_aload_n rfl dX11_takeSteps_67 rfl ?_
  refine cl_X11_260 rfl rfl dX11_takeSteps_68 (show 2 ≤ 2 ∧ 2 < 434 by decide).1 (show 2 ≤ 2 ∧ 2 < 434 by decide).2 h2 (Nat.le_of_ble_eq_true rfl) (x_X11_firstEmptyLine hS (by omega) h2 hLN) ?_
  rintro _ h51 _ ⟨rfl, e52, rfl⟩
  replace e52 := e52.symm
  subst e52
  refine e_put 15 (fs' := [.ref 3, .ref 5, .ref 12, .ref 13, .ref 24, .ref 93, .ref 95, .ref 96, .ref 97, .ref 98, .ref 99, .int (nI c), .int (nI (c + s)), .int (nI t), .int (-9), .int (enF G (c + s) 0)]) rfl dX11_takeSteps_71 (show 2 ≤ 2 ∧ 2 < 434 by decide) hS (KM_rf (Mod := [2]) _) (List.mem_singleton.mpr rfl) h2 (fp_X11_86 rfl _) (Nat.le_of_ble_eq_true rfl) rfl (fun h53 hS54 _ hN55 f56 => ?_)
  have hk57 : KX [2] h h53 := KX_M (fun _ z => z) hN55
  have hF58 := KT_tr hF (KT_x (by decide) hk57)
  have f59 : h53 (5) = .inr (4, [.ref 6, .ref 7, .ref 8, .int cr, .int pl, .int tu, .ref 9, .ref 10, .ref 11, .int sr]) := (hk57 _ (by decide) nSP_5).trans h5
  have f60 : h53 (9) = .inl (0, 24, .inl A) := (hk57 _ (by decide) nSP_9).trans h9
  have f61 : h53 (10) = .inl (0, 24, .inl B) := (hk57 _ (by decide) nSP_10).trans h10
  have f62 : h53 (11) = .inl (0, 24, .inl C) := (hk57 _ (by decide) nSP_11).trans h11
  have f63 : h53 (13) = h0 13 := (hk57 _ (by decide) nSP_13).trans h13
  have f64 : h53 (24) = h0 24 := (hk57 _ (by decide) nSP_24).trans h24
  have LN65 := LN_kx (by decide) hk57 (by omega) hLN
  have sw66 := SW_f (by omega) (fun q _ _ => hN55 q (by simp <;> omega)) hSW
  have e67 : mkL c A B C 0 s G = (s, -9, G) := rfl
  exact r_ret dX11_takeSteps_74 (rt_v rfl) (by rw [e67]; exact ⟨rfl, hS54, hF58, f56, LN65, f63, f64, ⟨Y, hV, sw66⟩, rfl⟩)
set_option maxRecDepth 20000 in
set_option maxHeartbeats 1000000 in
theorem v_ts_s {xs : Nat → Int32} {L d : Nat} {h : ev_H} {h0 : ev_H} {c t s : Nat} {el cr pl tu sr : Int32} {A B C G : Nat → Int32} {lo lt fk fs : Int32} {Y : Nat → Int64} {n : Nat} (hS : SH h) (hc : c ≤ 16) (ht : t ≤ 24) (hF : KT h0 h) (h2 : h 2 = c2 (nI c) (nI (c + s)) (nI t) (-9) el) (h5 : h 5 = c5 cr pl tu sr) (h9 : h 9 = cI 24 A) (h10 : h 10 = cI 24 B) (h11 : h 11 = cI 24 C) (h13 : h 13 = h0 13) (h24 : h 24 = h0 24) (hSB : SB c t A B) (hLN : LN (c + s) G h) (h13e : h0 13 = c13 lo lt fk fs) (hlo : ltO G c = lo) (hlt : ltE G c = lt) (hG : GV c s G) (hV : SV c (c + s) G Y) (hSW : SWc (c + s) Y h) (hC : SC t C) (hst : s + (n + 1) = t) (hck : c + s ≤ 40) (ih : ∀ (h' : ev_H) (G' : Nat → Int32) (Y' : Nat → Int64), SH h' → KT h0 h' → h' 2 = c2 (nI c) (nI (c + (s + 1))) (nI t) (-9) el → h' 5 = c5 cr pl tu sr → h' 9 = cI 24 A → h' 10 = cI 24 B → h' 11 = cI 24 C → h' 13 = h0 13 → h' 24 = h0 24 → LN (c + (s + 1)) G' h' → ltO G' c = lo → ltE G' c = lt → GV c (s + 1) G' → SV c (c + (s + 1)) G' Y' → SWc (c + (s + 1)) Y' h' → EV xs L (d + 4) 0 0 M_X11_takeSteps 434 h' 17 [some (.ref 2), some (.int (nI (s + 1)))] [] (t8Q h0 c t (mkL c A B C n (s + 1) G'))) : EV xs L (d + 4) 0 0 M_X11_takeSteps 434 h 17 [some (.ref 2), some (.int (nI s))] [] (t8Q h0 c t (mkL c A B C (n + 1) s G)) := by
  refine r_iload_n rfl dX11_takeSteps_17 rfl ?_
  refine r_aload_n rfl dX11_takeSteps_18 rfl ?_
  refine r_getv 13 rfl dX11_takeSteps_19 (show 2 ≤ 2 ∧ 2 < 434 by decide) h2 fl_X11_211 rfl ?_
  refine r_icmp_ge (tgt := 66) rfl rfl dX11_takeSteps_22 (fun zc => absurd zc (show ¬ nI t ≤ nI s from nI_ge (a := s) (b := t) (by omega) (by omega))) (fun _ => ?_)
  refine r_aload_n rfl dX11_takeSteps_25 rfl ?_
  refine r_getv 14 rfl dX11_takeSteps_26 (show 2 ≤ 2 ∧ 2 < 434 by decide) h2 fl_X11_82 rfl ?_
  refine r_bipush (v := (-9)) rfl dX11_takeSteps_29 (by decide) ?_
  refine r_icmp_ne (tgt := 66) rfl rfl dX11_takeSteps_31 (fun zc => absurd zc (by decide)) (fun _ => ?_)
  refine r_aload_n rfl dX11_takeSteps_34 rfl ?_
  refine r_iload_n rfl dX11_takeSteps_35 rfl ?_
  obtain ⟨⟨a1, ha1, ea1⟩, ⟨b1, hb1, eb1⟩⟩ := hSB s (by omega)
  obtain ⟨z1, hz1, ez1⟩ := hC s (by omega)
  refine cl_X11_266 rfl rfl dX11_takeSteps_36 (show 2 ≤ 2 ∧ 2 < 434 by decide).1 (show 2 ≤ 2 ∧ 2 < 434 by decide).2 h2 (Nat.le_of_ble_eq_true rfl) (v_X11_makeLine hS (by omega) (by omega) h2 h5 h9 h10 h11 (by omega) ha1 hb1 ea1 eb1 rfl hLN (h13.trans h13e) hSW) ?_
  rintro _ h51 _ ⟨rfl, hS52, hk53, f54, f55, f56, ⟨c57, LN58, sw59, nw60, rfl⟩ | ⟨c57, LN58, sw59, rfl⟩⟩
  · have hF61 := KT_tr hF hk53
    have c57q : cuK G (A s).toNatClampNeg (B s).toNatClampNeg (C s) := by rw [ea1, eb1, nI_clamp (by omega), nI_clamp (by omega)]; exact c57
    have f62 : h51 5 = .inr (4, [.ref 6, .ref 7, .ref 8, .int cr, .int pl, .int tu, .ref 9, .ref 10, .ref 11, .int sr]) := (hk53 5 (by decide) nSP_5 (by intro i hi; omega)).trans h5
    have f63 : h51 9 = .inl (0, 24, .inl A) := (hk53 9 (by decide) nSP_9 (by intro i hi; omega)).trans h9
    have f64 : h51 10 = .inl (0, 24, .inl B) := (hk53 10 (by decide) nSP_10 (by intro i hi; omega)).trans h10
    have f65 : h51 11 = .inl (0, 24, .inl C) := (hk53 11 (by decide) nSP_11 (by intro i hi; omega)).trans h11
    have f66 : h51 13 = h0 13 := f55.trans h13
    have f67 : h51 24 = h0 24 := f56.trans h24
    have sw68 : SWc (c + (s + 1)) (exY Y (c + s) (fun w => cuV (own lo lt (C s)) (C s) w (fun p => Y (160 * w + 4 * a1 + p)) (fun p => Y (160 * w + 4 * b1 + p)))) h51 := SW_ex (k := c + s) (by omega) sw59 nw60
    refine r_if_eq (tgt := 55) rfl rfl dX11_takeSteps_39 (fun zc => absurd zc (by decide)) (fun _ => ?_)
    refine r_aload_n rfl dX11_takeSteps_42 rfl ?_
    refine r_dup rfl dX11_takeSteps_43 rfl ?_
    refine r_getv 12 rfl dX11_takeSteps_44 (show 2 ≤ 2 ∧ 2 < 434 by decide) f54 fl_X11_118 rfl ?_
    refine r_iconst (v := 1) rfl dX11_takeSteps_47 (by decide) ?_
    refine r_iadd rfl dX11_takeSteps_48 ?_
    refine r_eqi (y := nI ((c + s) + 1)) (show (nI (c + s)) + 1 = nI ((c + s) + 1) from nI_add (c + s) 1) ?_
    refine e_put 12 (fs' := [.ref 3, .ref 5, .ref 12, .ref 13, .ref 24, .ref 93, .ref 95, .ref 96, .ref 97, .ref 98, .ref 99, .int (nI c), .int (nI ((c + s) + 1)), .int (nI t), .int (-9), .int el]) rfl dX11_takeSteps_49 (show 2 ≤ 2 ∧ 2 < 434 by decide) hS52 (KM_rf (Mod := [2]) _) (List.mem_singleton.mpr rfl) f54 (fp_X11_118 rfl _) (Nat.le_of_ble_eq_true rfl) rfl (fun h69 hS70 _ hN71 f72 => ?_)
    have hk73 : KX [2] h51 h69 := KX_M (fun _ z => z) hN71
    have hF74 := KT_tr hF61 (KT_x (by decide) hk73)
    have f75 : h69 (5) = .inr (4, [.ref 6, .ref 7, .ref 8, .int cr, .int pl, .int tu, .ref 9, .ref 10, .ref 11, .int sr]) := (hk73 _ (by decide) nSP_5).trans f62
    have f76 : h69 (9) = .inl (0, 24, .inl A) := (hk73 _ (by decide) nSP_9).trans f63
    have f77 : h69 (10) = .inl (0, 24, .inl B) := (hk73 _ (by decide) nSP_10).trans f64
    have f78 : h69 (11) = .inl (0, 24, .inl C) := (hk73 _ (by decide) nSP_11).trans f65
    have f79 : h69 (13) = h0 13 := (hk73 _ (by decide) nSP_13).trans f66
    have f80 : h69 (24) = h0 24 := (hk73 _ (by decide) nSP_24).trans f67
    have LN81 := LN_kx (by decide) hk73 (by omega) LN58
    have sw82 := SW_f (by omega) (fun q _ _ => hN71 q (by simp <;> omega)) sw68
    refine r_goto (pc' := 60) rfl dX11_takeSteps_52 ?_
    refine r_iinc (y := nI (s + 1)) (ls' := [some (.ref 2), some (.int (nI (s + 1)))]) rfl dX11_takeSteps_60 rfl (nI_1 s) (Nat.le_of_ble_eq_true rfl) rfl ?_
    refine r_goto (pc' := 17) rfl dX11_takeSteps_63 ?_
    rw [show mkL c A B C (n + 1) s G = mkL c A B C n (s + 1) (cuG G (c + s) (A s).toNatClampNeg (B s).toNatClampNeg (C s)) from by rw [mkL, if_pos c57q]]
    have hLN1 : LN (c + (s + 1)) (cuG G (c + s) (A s).toNatClampNeg (B s).toNatClampNeg (C s)) h69 := by rw [ea1, eb1, nI_clamp (by omega), nI_clamp (by omega)]; exact LN81
    have hV1 : SV c (c + (s + 1)) (cuG G (c + s) (A s).toNatClampNeg (B s).toNatClampNeg (C s)) (exY Y (c + s) (fun w => cuV (own lo lt (C s)) (C s) w (fun p => Y (160 * w + 4 * a1 + p)) (fun p => Y (160 * w + 4 * b1 + p)))) := by rw [ea1, eb1, nI_clamp (by omega), nI_clamp (by omega)]; rw [ez1]; exact SV_ex hc (by omega) ha1 hb1 hz1 hG hlo hlt hV
    have hG1 : GV c (s + 1) (cuG G (c + s) (A s).toNatClampNeg (B s).toNatClampNeg (C s)) := by rw [ea1, eb1, nI_clamp (by omega), nI_clamp (by omega)]; rw [ez1]; exact GV_cu hG ha1 hb1 hz1
    exact ih h69 _ _ hS70 hF74 f72 f75 f76 f77 f78 f79 f80 hLN1 ((ltO_cg c (fun x hx => cuG_lo (by omega))).trans hlo) ((ltE_cg c (fun x hx => cuG_lo (by omega))).trans hlt) hG1 hV1 sw82
  · have hF83 := KT_tr hF hk53
    have c57q : ¬ cuK G (A s).toNatClampNeg (B s).toNatClampNeg (C s) := by rw [ea1, eb1, nI_clamp (by omega), nI_clamp (by omega)]; exact c57
    have f84 : h51 5 = .inr (4, [.ref 6, .ref 7, .ref 8, .int cr, .int pl, .int tu, .ref 9, .ref 10, .ref 11, .int sr]) := (hk53 5 (by decide) nSP_5 (by intro i hi; omega)).trans h5
    have f85 : h51 9 = .inl (0, 24, .inl A) := (hk53 9 (by decide) nSP_9 (by intro i hi; omega)).trans h9
    have f86 : h51 10 = .inl (0, 24, .inl B) := (hk53 10 (by decide) nSP_10 (by intro i hi; omega)).trans h10
    have f87 : h51 11 = .inl (0, 24, .inl C) := (hk53 11 (by decide) nSP_11 (by intro i hi; omega)).trans h11
    have f88 : h51 13 = h0 13 := f55.trans h13
    have f89 : h51 24 = h0 24 := f56.trans h24
    refine r_if_eq (tgt := 55) rfl rfl dX11_takeSteps_39 (fun _ => ?_) (fun zc => absurd zc (by decide))
    refine r_aload_n rfl dX11_takeSteps_55 rfl ?_
    refine r_iload_n rfl dX11_takeSteps_56 rfl ?_
    refine e_put 14 (fs' := [.ref 3, .ref 5, .ref 12, .ref 13, .ref 24, .ref 93, .ref 95, .ref 96, .ref 97, .ref 98, .ref 99, .int (nI c), .int (nI (c + s)), .int (nI t), .int (nI s), .int el]) rfl dX11_takeSteps_57 (show 2 ≤ 2 ∧ 2 < 434 by decide) hS52 (KM_rf (Mod := [2]) _) (List.mem_singleton.mpr rfl) f54 (fp_X11_82 rfl _) (Nat.le_of_ble_eq_true rfl) rfl (fun h90 hS91 _ hN92 f93 => ?_)
    have hk94 : KX [2] h51 h90 := KX_M (fun _ z => z) hN92
    have hF95 := KT_tr hF83 (KT_x (by decide) hk94)
    have f96 : h90 (5) = .inr (4, [.ref 6, .ref 7, .ref 8, .int cr, .int pl, .int tu, .ref 9, .ref 10, .ref 11, .int sr]) := (hk94 _ (by decide) nSP_5).trans f84
    have f97 : h90 (9) = .inl (0, 24, .inl A) := (hk94 _ (by decide) nSP_9).trans f85
    have f98 : h90 (10) = .inl (0, 24, .inl B) := (hk94 _ (by decide) nSP_10).trans f86
    have f99 : h90 (11) = .inl (0, 24, .inl C) := (hk94 _ (by decide) nSP_11).trans f87
    have f100 : h90 (13) = h0 13 := (hk94 _ (by decide) nSP_13).trans f88
    have f101 : h90 (24) = h0 24 := (hk94 _ (by decide) nSP_24).trans f89
    have LN102 := LN_kx (by decide) hk94 (by omega) LN58
    have sw103 := SW_f (by omega) (fun q _ _ => hN92 q (by simp <;> omega)) sw59
    refine r_iinc (y := nI (s + 1)) (ls' := [some (.ref 2), some (.int (nI (s + 1)))]) rfl dX11_takeSteps_60 rfl (nI_1 s) (Nat.le_of_ble_eq_true rfl) rfl ?_
    refine r_goto (pc' := 17) rfl dX11_takeSteps_63 ?_
    refine r_iload_n rfl dX11_takeSteps_17 rfl ?_
    refine r_aload_n rfl dX11_takeSteps_18 rfl ?_
    refine r_getv 13 rfl dX11_takeSteps_19 (show 2 ≤ 2 ∧ 2 < 434 by decide) f93 fl_X11_211 rfl ?_
    refine r_icmp_ge (tgt := 66) rfl rfl dX11_takeSteps_22 (fun c104 => ?_) (fun c104 => ?_)
    · have q105 : t ≤ (s + 1) := (nI_leI (a := t) (b := s + 1) (by omega) (by omega)).mp c104
      refine r_aload_n rfl dX11_takeSteps_66 rfl ?_
      refine r_aload_n rfl dX11_takeSteps_67 rfl ?_
      refine cl_X11_260 rfl rfl dX11_takeSteps_68 (show 2 ≤ 2 ∧ 2 < 434 by decide).1 (show 2 ≤ 2 ∧ 2 < 434 by decide).2 f93 (Nat.le_of_ble_eq_true rfl) (x_X11_firstEmptyLine hS91 (by omega) f93 LN102) ?_
      rintro _ h106 _ ⟨rfl, e107, rfl⟩
      replace e107 := e107.symm
      subst e107
      refine e_put 15 (fs' := [.ref 3, .ref 5, .ref 12, .ref 13, .ref 24, .ref 93, .ref 95, .ref 96, .ref 97, .ref 98, .ref 99, .int (nI c), .int (nI (c + s)), .int (nI t), .int (nI s), .int (enF G (c + s) 0)]) rfl dX11_takeSteps_71 (show 2 ≤ 2 ∧ 2 < 434 by decide) hS91 (KM_rf (Mod := [2]) _) (List.mem_singleton.mpr rfl) f93 (fp_X11_86 rfl _) (Nat.le_of_ble_eq_true rfl) rfl (fun h108 hS109 _ hN110 f111 => ?_)
      have hk112 : KX [2] h90 h108 := KX_M (fun _ z => z) hN110
      have hF113 := KT_tr hF95 (KT_x (by decide) hk112)
      have f114 : h108 (5) = .inr (4, [.ref 6, .ref 7, .ref 8, .int cr, .int pl, .int tu, .ref 9, .ref 10, .ref 11, .int sr]) := (hk112 _ (by decide) nSP_5).trans f96
      have f115 : h108 (9) = .inl (0, 24, .inl A) := (hk112 _ (by decide) nSP_9).trans f97
      have f116 : h108 (10) = .inl (0, 24, .inl B) := (hk112 _ (by decide) nSP_10).trans f98
      have f117 : h108 (11) = .inl (0, 24, .inl C) := (hk112 _ (by decide) nSP_11).trans f99
      have f118 : h108 (13) = h0 13 := (hk112 _ (by decide) nSP_13).trans f100
      have f119 : h108 (24) = h0 24 := (hk112 _ (by decide) nSP_24).trans f101
      have LN120 := LN_kx (by decide) hk112 (by omega) LN102
      have sw121 := SW_f (by omega) (fun q _ _ => hN110 q (by simp <;> omega)) sw103
      have e122 : mkL c A B C (n + 1) s G = (s, nI s, G) := by rw [mkL, if_neg c57q]
      exact r_ret dX11_takeSteps_74 (rt_v rfl) (by rw [e122]; exact ⟨rfl, hS109, hF113, f111, LN120, f118, f119, ⟨Y, hV, sw121⟩, rfl⟩)
    · have q123 : ¬ t ≤ (s + 1) := fun z => c104 ((nI_leI (a := t) (b := s + 1) (by omega) (by omega)).mpr z)
      refine r_aload_n rfl dX11_takeSteps_25 rfl ?_
      refine r_getv 14 rfl dX11_takeSteps_26 (show 2 ≤ 2 ∧ 2 < 434 by decide) f93 fl_X11_82 rfl ?_
      refine r_bipush (v := (-9)) rfl dX11_takeSteps_29 (by decide) ?_
      refine r_icmp_ne (tgt := 66) rfl rfl dX11_takeSteps_31 (fun _ => ?_) (fun zc => absurd zc (show ¬ nI s = -9 from fun z => nI_pos (n := s) (by omega) (by rw [z]; decide)))
      refine r_aload_n rfl dX11_takeSteps_66 rfl ?_
      refine r_aload_n rfl dX11_takeSteps_67 rfl ?_
      refine cl_X11_260 rfl rfl dX11_takeSteps_68 (show 2 ≤ 2 ∧ 2 < 434 by decide).1 (show 2 ≤ 2 ∧ 2 < 434 by decide).2 f93 (Nat.le_of_ble_eq_true rfl) (x_X11_firstEmptyLine hS91 (by omega) f93 LN102) ?_
      rintro _ h124 _ ⟨rfl, e125, rfl⟩
      replace e125 := e125.symm
      subst e125
      refine e_put 15 (fs' := [.ref 3, .ref 5, .ref 12, .ref 13, .ref 24, .ref 93, .ref 95, .ref 96, .ref 97, .ref 98, .ref 99, .int (nI c), .int (nI (c + s)), .int (nI t), .int (nI s), .int (enF G (c + s) 0)]) rfl dX11_takeSteps_71 (show 2 ≤ 2 ∧ 2 < 434 by decide) hS91 (KM_rf (Mod := [2]) _) (List.mem_singleton.mpr rfl) f93 (fp_X11_86 rfl _) (Nat.le_of_ble_eq_true rfl) rfl (fun h126 hS127 _ hN128 f129 => ?_)
      have hk130 : KX [2] h90 h126 := KX_M (fun _ z => z) hN128
      have hF131 := KT_tr hF95 (KT_x (by decide) hk130)
      have f132 : h126 (5) = .inr (4, [.ref 6, .ref 7, .ref 8, .int cr, .int pl, .int tu, .ref 9, .ref 10, .ref 11, .int sr]) := (hk130 _ (by decide) nSP_5).trans f96
      have f133 : h126 (9) = .inl (0, 24, .inl A) := (hk130 _ (by decide) nSP_9).trans f97
      have f134 : h126 (10) = .inl (0, 24, .inl B) := (hk130 _ (by decide) nSP_10).trans f98
      have f135 : h126 (11) = .inl (0, 24, .inl C) := (hk130 _ (by decide) nSP_11).trans f99
      have f136 : h126 (13) = h0 13 := (hk130 _ (by decide) nSP_13).trans f100
      have f137 : h126 (24) = h0 24 := (hk130 _ (by decide) nSP_24).trans f101
      have LN138 := LN_kx (by decide) hk130 (by omega) LN102
      have sw139 := SW_f (by omega) (fun q _ _ => hN128 q (by simp <;> omega)) sw103
      have e140 : mkL c A B C (n + 1) s G = (s, nI s, G) := by rw [mkL, if_neg c57q]
      exact r_ret dX11_takeSteps_74 (rt_v rfl) (by rw [e140]; exact ⟨rfl, hS127, hF131, f129, LN138, f136, f137, ⟨Y, hV, sw139⟩, rfl⟩)
theorem v_ts {xs : Nat → Int32} {L d : Nat} {h0 : ev_H} {c t : Nat} {el cr pl tu sr lo lt fk fs : Int32} {A B C : Nat → Int32} (hc : c ≤ 16) (ht : t ≤ 24) (hSB : SB c t A B) (h13e : h0 13 = c13 lo lt fk fs) (hC : SC t C) : ∀ (n s : Nat) (h : ev_H) (G : Nat → Int32) (Y : Nat → Int64), s + n = t → SH h → KT h0 h → h 2 = c2 (nI c) (nI (c + s)) (nI t) (-9) el → h 5 = c5 cr pl tu sr → h 9 = cI 24 A → h 10 = cI 24 B → h 11 = cI 24 C → h 13 = h0 13 → h 24 = h0 24 → LN (c + s) G h → ltO G c = lo → ltE G c = lt → GV c s G → SV c (c + s) G Y → SWc (c + s) Y h → EV xs L (d + 4) 0 0 M_X11_takeSteps 434 h 17 [some (.ref 2), some (.int (nI s))] [] (t8Q h0 c t (mkL c A B C n s G)) := by
  intro n
  induction n with
  | zero => intro s h G Y hs hS hF h2 h5 h9 h10 h11 h13 h24 hLN hlo hlt hG hV hSW; exact v_ts_z hS hc ht hF h2 h5 h9 h10 h11 h13 h24 hSB hLN h13e hlo hlt hG hV hSW hC (by omega) (by omega)
  | succ n ih => intro s h G Y hs hS hF h2 h5 h9 h10 h11 h13 h24 hLN hlo hlt hG hV hSW; exact v_ts_s hS hc ht hF h2 h5 h9 h10 h11 h13 h24 hSB hLN h13e hlo hlt hG hV hSW hC hs (by omega) (fun h' G' Y' q1 q2 q3 q4 q5 q6 q7 q8 q9 q10 q11 q12 q13 q14 q15 => ih (s + 1) h' G' Y' (by omega) q1 q2 q3 q4 q5 q6 q7 q8 q9 q10 q11 q12 q13 q14 q15)
set_option maxRecDepth 20000 in
set_option maxHeartbeats 1000000 in
theorem v_X11_takeSteps {xs : Nat → Int32} {L d : Nat} {h : ev_H} {c t : Nat} {lc sc wr el cr pl tu lo lt fk fs : Int32} {A B C G : Nat → Int32} {Y : Nat → Int64} (hS : SH h) (hc : c ≤ 16) (hck : c ≤ 40) (ht : t ≤ 24) (h2 : h 2 = c2 (nI c) lc sc wr el) (h5 : h 5 = c5 cr pl tu (nI t)) (h9 : h 9 = cI 24 A) (h10 : h 10 = cI 24 B) (h11 : h 11 = cI 24 C) (hSB : SB c t A B) (hLN : LN c G h) (h13 : h 13 = c13 lo lt fk fs) (hlo : ltO G c = lo) (hlt : ltE G c = lt) (hG : GV c 0 G) (hV : SV c c G Y) (hSW : SWc c Y h) (hC : SC t C) : EV xs L (d + 4) 0 0 M_X11_takeSteps 434 h 0 [some (.ref 2), none] [] (t8Q h c t (mkL c A B C t 0 G)) := by
  refine r_aload_n rfl dX11_takeSteps_0 rfl ?_
  refine cl_X11_257 rfl rfl dX11_takeSteps_1 (show 2 ≤ 2 ∧ 2 < 434 by decide).1 (show 2 ≤ 2 ∧ 2 < 434 by decide).2 h2 (Nat.le_of_ble_eq_true rfl) (s_X11_forgetProofx hS h2) ?_
  rintro _ h51 _ ⟨rfl, hS52, hk53, f54, rfl⟩
  have hk55 : KX [2] h h51 := KX_M (fun _ z => z) hk53
  have sw56 := SW_f (by omega) (fun q _ _ => hk53 q (by simp <;> omega)) hSW
  have hF57 := KT_tr (KT_rf h) (KT_x (by decide) hk55)
  have f58 : h51 (5) = .inr (4, [.ref 6, .ref 7, .ref 8, .int cr, .int pl, .int tu, .ref 9, .ref 10, .ref 11, .int (nI t)]) := (hk55 _ (by decide) nSP_5).trans h5
  have f59 : h51 (9) = .inl (0, 24, .inl A) := (hk55 _ (by decide) nSP_9).trans h9
  have f60 : h51 (10) = .inl (0, 24, .inl B) := (hk55 _ (by decide) nSP_10).trans h10
  have f61 : h51 (11) = .inl (0, 24, .inl C) := (hk55 _ (by decide) nSP_11).trans h11
  have f62 : h51 (13) = h 13 := (hk55 _ (by decide) nSP_13).trans rfl
  have f63 : h51 (24) = h 24 := (hk55 _ (by decide) nSP_24).trans rfl
  have LN64 := LN_kx (by decide) hk55 (by omega) hLN
  refine r_aload_n rfl dX11_takeSteps_4 rfl ?_
  refine r_aload_n rfl dX11_takeSteps_5 rfl ?_
  refine r_getv 1 rfl dX11_takeSteps_6 (show 2 ≤ 2 ∧ 2 < 434 by decide) f54 fl_X11_19 rfl ?_
  refine cl_X11_263 rfl rfl dX11_takeSteps_9 (show 2 ≤ 5 ∧ 5 < 434 by decide).1 (show 2 ≤ 5 ∧ 5 < 434 by decide).2 f58 (Nat.le_of_ble_eq_true rfl) (s_X4_stepsRead hS52 f58) ?_
  rintro _ h65 _ ⟨rfl, e66, rfl⟩
  replace e66 := e66.symm
  subst e66
  refine e_put 13 (fs' := [.ref 3, .ref 5, .ref 12, .ref 13, .ref 24, .ref 93, .ref 95, .ref 96, .ref 97, .ref 98, .ref 99, .int (nI c), .int (nI c), .int (nI t), .int (-9), .int el]) rfl dX11_takeSteps_12 (show 2 ≤ 2 ∧ 2 < 434 by decide) hS52 (KM_rf (Mod := [2]) _) (List.mem_singleton.mpr rfl) f54 (fp_X11_211 rfl _) (Nat.le_of_ble_eq_true rfl) rfl (fun h67 hS68 _ hN69 f70 => ?_)
  have hk71 : KX [2] h51 h67 := KX_M (fun _ z => z) hN69
  have hF72 := KT_tr hF57 (KT_x (by decide) hk71)
  have f73 : h67 (5) = .inr (4, [.ref 6, .ref 7, .ref 8, .int cr, .int pl, .int tu, .ref 9, .ref 10, .ref 11, .int (nI t)]) := (hk71 _ (by decide) nSP_5).trans f58
  have f74 : h67 (9) = .inl (0, 24, .inl A) := (hk71 _ (by decide) nSP_9).trans f59
  have f75 : h67 (10) = .inl (0, 24, .inl B) := (hk71 _ (by decide) nSP_10).trans f60
  have f76 : h67 (11) = .inl (0, 24, .inl C) := (hk71 _ (by decide) nSP_11).trans f61
  have f77 : h67 (13) = h 13 := (hk71 _ (by decide) nSP_13).trans f62
  have f78 : h67 (24) = h 24 := (hk71 _ (by decide) nSP_24).trans f63
  have LN79 := LN_kx (by decide) hk71 (by omega) LN64
  have sw80 := SW_f (by omega) (fun q _ _ => hN69 q (by simp <;> omega)) sw56
  refine r_iconst (v := 0) rfl dX11_takeSteps_15 (by decide) ?_
  refine r_istore_n (ls' := [some (.ref 2), some (.int 0)]) rfl dX11_takeSteps_16 (Nat.le_of_ble_eq_true rfl) rfl ?_
  exact v_ts hc ht hSB h13 hC t 0 h67 G Y (by omega) hS68 hF72 f70 f73 f74 f75 f76 f77 f78 LN79 hlo hlt hG hV sw80
