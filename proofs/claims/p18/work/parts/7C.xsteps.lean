/-- what STEPS make, from STEP s on: how many LINES, the wrong one, the numbers -/
def mkL (c : Nat) (A B C : Nat → Int32) : Nat → Nat → (Nat → Int32) → Nat × Int32 × (Nat → Int32)
  | 0, s, G => (s, -9, G)
  | n + 1, s, G => if cuK G (A s).toNatClampNeg (B s).toNatClampNeg (C s) then mkL c A B C n (s + 1) (cuG G (c + s) (A s).toNatClampNeg (B s).toNatClampNeg (C s)) else (s, nI s, G)
theorem mkL_le (c : Nat) (A B C : Nat → Int32) : ∀ (n s : Nat) (G : Nat → Int32), (mkL c A B C n s G).1 ≤ s + n
  | 0, s, G => Nat.le_refl _
  | n + 1, s, G => by
    unfold mkL
    split
    · have := mkL_le c A B C n (s + 1) (cuG G (c + s) (A s).toNatClampNeg (B s).toNatClampNeg (C s)); omega
    · exact Nat.le_add_right _ _
/-- what takeSteps leaves -/
def tkQ (h0 : ev_H) (c t : Nat) (R : Nat × Int32 × (Nat → Int32)) : ev_Q := fun sz' h' r => sz' = 434 ∧ SH h' ∧ KT h0 h' ∧ h' 2 = c2 (nI c) (nI (c + R.1)) (nI t) R.2.1 (enF R.2.2 (c + R.1) 0) ∧ LN (c + R.1) R.2.2 h' ∧ h' 13 = h0 13 ∧ h' 24 = h0 24 ∧ r = []
set_option maxRecDepth 20000 in
set_option maxHeartbeats 1000000 in
theorem x_ts_z {xs : Nat → Int32} {L d : Nat} {h : ev_H} {h0 : ev_H} {c t s : Nat} {el cr pl tu sr : Int32} {A B C G : Nat → Int32} (hS : SH h) (hc : c ≤ 16) (ht : t ≤ 24) (hF : KT h0 h) (h2 : h 2 = c2 (nI c) (nI (c + s)) (nI t) (-9) el) (h5 : h 5 = c5 cr pl tu sr) (h9 : h 9 = cI 24 A) (h10 : h 10 = cI 24 B) (h11 : h 11 = cI 24 C) (h13 : h 13 = h0 13) (h24 : h 24 = h0 24) (hSB : SB c t A B) (hLN : LN (c + s) G h) (hst : s = t) (hck : c + s ≤ 40) : EV xs L (d + 4) 0 0 M_X11_takeSteps 434 h 17 [some (.ref 2), some (.int (nI s))] [] (tkQ h0 c t (mkL c A B C 0 s G)) := by
  refine r_iload_n rfl dX11_takeSteps_17 rfl ?_
  refine r_aload_n rfl dX11_takeSteps_18 rfl ?_
  refine r_getv 13 rfl dX11_takeSteps_19 (show 2 ≤ 2 ∧ 2 < 434 by decide) h2 fl_X11_211 rfl ?_
  refine r_icmp_ge (tgt := 66) rfl rfl dX11_takeSteps_22 (fun _ => ?_) (fun zc => absurd (show nI t ≤ nI s from nI_le (a := t) (b := s) (by omega) (by omega)) zc)
  refine r_aload_n rfl dX11_takeSteps_66 rfl ?_
  refine r_aload_n rfl dX11_takeSteps_67 rfl ?_
  refine cl_X11_260 rfl rfl dX11_takeSteps_68 (show 2 ≤ 2 ∧ 2 < 434 by decide).1 (show 2 ≤ 2 ∧ 2 < 434 by decide).2 h2 (Nat.le_of_ble_eq_true rfl) (x_X11_firstEmptyLine hS (by omega) h2 hLN) ?_
  rintro _ h51 _ ⟨rfl, e52, rfl⟩
  replace e52 := e52.symm
  subst e52
  refine e_put 15 (fs' := [.ref 3, .ref 5, .ref 12, .ref 13, .ref 24, .ref 93, .ref 95, .ref 96, .ref 97, .ref 98, .ref 99, .int (nI c), .int (nI (c + s)), .int (nI t), .int (-9), .int (enF G (c + s) 0)]) rfl dX11_takeSteps_71 (show 2 ≤ 2 ∧ 2 < 434 by decide) hS (KM_rf (Mod := [2]) _) (List.mem_singleton.mpr rfl) h2 (fp_X11_86 rfl _) (Nat.le_of_ble_eq_true rfl) rfl (fun h53 hS54 _ hN55 f56 => ?_)
  have hk57 : KX [2] h h53 := KX_M (fun _ z => z) hN55
  have hF58 := KT_tr hF (KT_x (by decide) hk57)
  have f59 : h53 (5) = .inr (4, [.ref 6, .ref 7, .ref 8, .int cr, .int pl, .int tu, .ref 9, .ref 10, .ref 11, .int sr]) := (hk57 _ (by decide) nSP_5).trans h5
  have f60 : h53 (9) = .inl (0, 24, .inl A) := (hk57 _ (by decide) nSP_9).trans h9
  have f61 : h53 (10) = .inl (0, 24, .inl B) := (hk57 _ (by decide) nSP_10).trans h10
  have f62 : h53 (11) = .inl (0, 24, .inl C) := (hk57 _ (by decide) nSP_11).trans h11
  have f63 : h53 (13) = h0 13 := (hk57 _ (by decide) nSP_13).trans h13
  have f64 : h53 (24) = h0 24 := (hk57 _ (by decide) nSP_24).trans h24
  have LN65 := LN_kx (by decide) hk57 (by omega) hLN
  have e66 : mkL c A B C 0 s G = (s, -9, G) := rfl
  exact r_ret dX11_takeSteps_74 (rt_v rfl) (by rw [e66]; exact ⟨rfl, hS54, hF58, f56, LN65, f63, f64, rfl⟩)
set_option maxRecDepth 20000 in
set_option maxHeartbeats 1000000 in
theorem x_ts_s {xs : Nat → Int32} {L d : Nat} {h : ev_H} {h0 : ev_H} {c t s : Nat} {el cr pl tu sr : Int32} {A B C G : Nat → Int32} {n : Nat} (hS : SH h) (hc : c ≤ 16) (ht : t ≤ 24) (hF : KT h0 h) (h2 : h 2 = c2 (nI c) (nI (c + s)) (nI t) (-9) el) (h5 : h 5 = c5 cr pl tu sr) (h9 : h 9 = cI 24 A) (h10 : h 10 = cI 24 B) (h11 : h 11 = cI 24 C) (h13 : h 13 = h0 13) (h24 : h 24 = h0 24) (hSB : SB c t A B) (hLN : LN (c + s) G h) (hst : s + (n + 1) = t) (hck : c + s ≤ 40) (ih : ∀ (h' : ev_H) (G' : Nat → Int32), SH h' → KT h0 h' → h' 2 = c2 (nI c) (nI (c + (s + 1))) (nI t) (-9) el → h' 5 = c5 cr pl tu sr → h' 9 = cI 24 A → h' 10 = cI 24 B → h' 11 = cI 24 C → h' 13 = h0 13 → h' 24 = h0 24 → LN (c + (s + 1)) G' h' → EV xs L (d + 4) 0 0 M_X11_takeSteps 434 h' 17 [some (.ref 2), some (.int (nI (s + 1)))] [] (tkQ h0 c t (mkL c A B C n (s + 1) G'))) : EV xs L (d + 4) 0 0 M_X11_takeSteps 434 h 17 [some (.ref 2), some (.int (nI s))] [] (tkQ h0 c t (mkL c A B C (n + 1) s G)) := by
  refine r_iload_n rfl dX11_takeSteps_17 rfl ?_
  refine r_aload_n rfl dX11_takeSteps_18 rfl ?_
  refine r_getv 13 rfl dX11_takeSteps_19 (show 2 ≤ 2 ∧ 2 < 434 by decide) h2 fl_X11_211 rfl ?_
  refine r_icmp_ge (tgt := 66) rfl rfl dX11_takeSteps_22 (fun zc => absurd zc (show ¬ nI t ≤ nI s from nI_ge (a := s) (b := t) (by omega) (by omega))) (fun _ => ?_)
  refine r_aload_n rfl dX11_takeSteps_25 rfl ?_
  refine r_getv 14 rfl dX11_takeSteps_26 (show 2 ≤ 2 ∧ 2 < 434 by decide) h2 fl_X11_82 rfl ?_
  refine r_bipush (v := (-9)) rfl dX11_takeSteps_29 (by decide) ?_
  refine r_icmp_ne (tgt := 66) rfl rfl dX11_takeSteps_31 (fun zc => absurd zc (by decide)) (fun _ => ?_)
  refine r_aload_n rfl dX11_takeSteps_34 rfl ?_
  refine r_iload_n rfl dX11_takeSteps_35 rfl ?_
  obtain ⟨⟨a1, ha1, ea1⟩, ⟨b1, hb1, eb1⟩⟩ := hSB s (by omega)
  refine cl_X11_266 rfl rfl dX11_takeSteps_36 (show 2 ≤ 2 ∧ 2 < 434 by decide).1 (show 2 ≤ 2 ∧ 2 < 434 by decide).2 h2 (Nat.le_of_ble_eq_true rfl) (x_X11_makeLine hS (by omega) (by omega) h2 h5 h9 h10 h11 (by omega) ha1 hb1 ea1 eb1 rfl hLN) ?_
  rintro _ h51 _ ⟨rfl, hS52, hk53, f54, f55, f56, ⟨c57, LN58, rfl⟩ | ⟨c57, LN58, rfl⟩⟩
  · have hF59 := KT_tr hF hk53
    have c57q : cuK G (A s).toNatClampNeg (B s).toNatClampNeg (C s) := by rw [ea1, eb1, nI_clamp (by omega), nI_clamp (by omega)]; exact c57
    have f60 : h51 5 = .inr (4, [.ref 6, .ref 7, .ref 8, .int cr, .int pl, .int tu, .ref 9, .ref 10, .ref 11, .int sr]) := (hk53 5 (by decide) nSP_5 (by intro i hi; omega)).trans h5
    have f61 : h51 9 = .inl (0, 24, .inl A) := (hk53 9 (by decide) nSP_9 (by intro i hi; omega)).trans h9
    have f62 : h51 10 = .inl (0, 24, .inl B) := (hk53 10 (by decide) nSP_10 (by intro i hi; omega)).trans h10
    have f63 : h51 11 = .inl (0, 24, .inl C) := (hk53 11 (by decide) nSP_11 (by intro i hi; omega)).trans h11
    have f64 : h51 13 = h0 13 := f55.trans h13
    have f65 : h51 24 = h0 24 := f56.trans h24
    refine r_if_eq (tgt := 55) rfl rfl dX11_takeSteps_39 (fun zc => absurd zc (by decide)) (fun _ => ?_)
    refine r_aload_n rfl dX11_takeSteps_42 rfl ?_
    refine r_dup rfl dX11_takeSteps_43 rfl ?_
    refine r_getv 12 rfl dX11_takeSteps_44 (show 2 ≤ 2 ∧ 2 < 434 by decide) f54 fl_X11_118 rfl ?_
    refine r_iconst (v := 1) rfl dX11_takeSteps_47 (by decide) ?_
    refine r_iadd rfl dX11_takeSteps_48 ?_
    refine r_eqi (y := nI ((c + s) + 1)) (show (nI (c + s)) + 1 = nI ((c + s) + 1) from nI_add (c + s) 1) ?_
    refine e_put 12 (fs' := [.ref 3, .ref 5, .ref 12, .ref 13, .ref 24, .ref 93, .ref 95, .ref 96, .ref 97, .ref 98, .ref 99, .int (nI c), .int (nI ((c + s) + 1)), .int (nI t), .int (-9), .int el]) rfl dX11_takeSteps_49 (show 2 ≤ 2 ∧ 2 < 434 by decide) hS52 (KM_rf (Mod := [2]) _) (List.mem_singleton.mpr rfl) f54 (fp_X11_118 rfl _) (Nat.le_of_ble_eq_true rfl) rfl (fun h66 hS67 _ hN68 f69 => ?_)
    have hk70 : KX [2] h51 h66 := KX_M (fun _ z => z) hN68
    have hF71 := KT_tr hF59 (KT_x (by decide) hk70)
    have f72 : h66 (5) = .inr (4, [.ref 6, .ref 7, .ref 8, .int cr, .int pl, .int tu, .ref 9, .ref 10, .ref 11, .int sr]) := (hk70 _ (by decide) nSP_5).trans f60
    have f73 : h66 (9) = .inl (0, 24, .inl A) := (hk70 _ (by decide) nSP_9).trans f61
    have f74 : h66 (10) = .inl (0, 24, .inl B) := (hk70 _ (by decide) nSP_10).trans f62
    have f75 : h66 (11) = .inl (0, 24, .inl C) := (hk70 _ (by decide) nSP_11).trans f63
    have f76 : h66 (13) = h0 13 := (hk70 _ (by decide) nSP_13).trans f64
    have f77 : h66 (24) = h0 24 := (hk70 _ (by decide) nSP_24).trans f65
    have LN78 := LN_kx (by decide) hk70 (by omega) LN58
    refine r_goto (pc' := 60) rfl dX11_takeSteps_52 ?_
    refine r_iinc (y := nI (s + 1)) (ls' := [some (.ref 2), some (.int (nI (s + 1)))]) rfl dX11_takeSteps_60 rfl (nI_1 s) (Nat.le_of_ble_eq_true rfl) rfl ?_
    refine r_goto (pc' := 17) rfl dX11_takeSteps_63 ?_
    rw [show mkL c A B C (n + 1) s G = mkL c A B C n (s + 1) (cuG G (c + s) (A s).toNatClampNeg (B s).toNatClampNeg (C s)) from by rw [mkL, if_pos c57q]]
    have hLN1 : LN (c + (s + 1)) (cuG G (c + s) (A s).toNatClampNeg (B s).toNatClampNeg (C s)) h66 := by rw [ea1, eb1, nI_clamp (by omega), nI_clamp (by omega)]; exact LN78
    exact ih h66 _ hS67 hF71 f69 f72 f73 f74 f75 f76 f77 hLN1
  · have hF79 := KT_tr hF hk53
    have c57q : ¬ cuK G (A s).toNatClampNeg (B s).toNatClampNeg (C s) := by rw [ea1, eb1, nI_clamp (by omega), nI_clamp (by omega)]; exact c57
    have f80 : h51 5 = .inr (4, [.ref 6, .ref 7, .ref 8, .int cr, .int pl, .int tu, .ref 9, .ref 10, .ref 11, .int sr]) := (hk53 5 (by decide) nSP_5 (by intro i hi; omega)).trans h5
    have f81 : h51 9 = .inl (0, 24, .inl A) := (hk53 9 (by decide) nSP_9 (by intro i hi; omega)).trans h9
    have f82 : h51 10 = .inl (0, 24, .inl B) := (hk53 10 (by decide) nSP_10 (by intro i hi; omega)).trans h10
    have f83 : h51 11 = .inl (0, 24, .inl C) := (hk53 11 (by decide) nSP_11 (by intro i hi; omega)).trans h11
    have f84 : h51 13 = h0 13 := f55.trans h13
    have f85 : h51 24 = h0 24 := f56.trans h24
    refine r_if_eq (tgt := 55) rfl rfl dX11_takeSteps_39 (fun _ => ?_) (fun zc => absurd zc (by decide))
    refine r_aload_n rfl dX11_takeSteps_55 rfl ?_
    refine r_iload_n rfl dX11_takeSteps_56 rfl ?_
    refine e_put 14 (fs' := [.ref 3, .ref 5, .ref 12, .ref 13, .ref 24, .ref 93, .ref 95, .ref 96, .ref 97, .ref 98, .ref 99, .int (nI c), .int (nI (c + s)), .int (nI t), .int (nI s), .int el]) rfl dX11_takeSteps_57 (show 2 ≤ 2 ∧ 2 < 434 by decide) hS52 (KM_rf (Mod := [2]) _) (List.mem_singleton.mpr rfl) f54 (fp_X11_82 rfl _) (Nat.le_of_ble_eq_true rfl) rfl (fun h86 hS87 _ hN88 f89 => ?_)
    have hk90 : KX [2] h51 h86 := KX_M (fun _ z => z) hN88
    have hF91 := KT_tr hF79 (KT_x (by decide) hk90)
    have f92 : h86 (5) = .inr (4, [.ref 6, .ref 7, .ref 8, .int cr, .int pl, .int tu, .ref 9, .ref 10, .ref 11, .int sr]) := (hk90 _ (by decide) nSP_5).trans f80
    have f93 : h86 (9) = .inl (0, 24, .inl A) := (hk90 _ (by decide) nSP_9).trans f81
    have f94 : h86 (10) = .inl (0, 24, .inl B) := (hk90 _ (by decide) nSP_10).trans f82
    have f95 : h86 (11) = .inl (0, 24, .inl C) := (hk90 _ (by decide) nSP_11).trans f83
    have f96 : h86 (13) = h0 13 := (hk90 _ (by decide) nSP_13).trans f84
    have f97 : h86 (24) = h0 24 := (hk90 _ (by decide) nSP_24).trans f85
    have LN98 := LN_kx (by decide) hk90 (by omega) LN58
    refine r_iinc (y := nI (s + 1)) (ls' := [some (.ref 2), some (.int (nI (s + 1)))]) rfl dX11_takeSteps_60 rfl (nI_1 s) (Nat.le_of_ble_eq_true rfl) rfl ?_
    refine r_goto (pc' := 17) rfl dX11_takeSteps_63 ?_
    refine r_iload_n rfl dX11_takeSteps_17 rfl ?_
    refine r_aload_n rfl dX11_takeSteps_18 rfl ?_
    refine r_getv 13 rfl dX11_takeSteps_19 (show 2 ≤ 2 ∧ 2 < 434 by decide) f89 fl_X11_211 rfl ?_
    refine r_icmp_ge (tgt := 66) rfl rfl dX11_takeSteps_22 (fun c99 => ?_) (fun c99 => ?_)
    · have q100 : t ≤ (s + 1) := (nI_leI (a := t) (b := s + 1) (by omega) (by omega)).mp c99
      refine r_aload_n rfl dX11_takeSteps_66 rfl ?_
      refine r_aload_n rfl dX11_takeSteps_67 rfl ?_
      refine cl_X11_260 rfl rfl dX11_takeSteps_68 (show 2 ≤ 2 ∧ 2 < 434 by decide).1 (show 2 ≤ 2 ∧ 2 < 434 by decide).2 f89 (Nat.le_of_ble_eq_true rfl) (x_X11_firstEmptyLine hS87 (by omega) f89 LN98) ?_
      rintro _ h101 _ ⟨rfl, e102, rfl⟩
      replace e102 := e102.symm
      subst e102
      refine e_put 15 (fs' := [.ref 3, .ref 5, .ref 12, .ref 13, .ref 24, .ref 93, .ref 95, .ref 96, .ref 97, .ref 98, .ref 99, .int (nI c), .int (nI (c + s)), .int (nI t), .int (nI s), .int (enF G (c + s) 0)]) rfl dX11_takeSteps_71 (show 2 ≤ 2 ∧ 2 < 434 by decide) hS87 (KM_rf (Mod := [2]) _) (List.mem_singleton.mpr rfl) f89 (fp_X11_86 rfl _) (Nat.le_of_ble_eq_true rfl) rfl (fun h103 hS104 _ hN105 f106 => ?_)
      have hk107 : KX [2] h86 h103 := KX_M (fun _ z => z) hN105
      have hF108 := KT_tr hF91 (KT_x (by decide) hk107)
      have f109 : h103 (5) = .inr (4, [.ref 6, .ref 7, .ref 8, .int cr, .int pl, .int tu, .ref 9, .ref 10, .ref 11, .int sr]) := (hk107 _ (by decide) nSP_5).trans f92
      have f110 : h103 (9) = .inl (0, 24, .inl A) := (hk107 _ (by decide) nSP_9).trans f93
      have f111 : h103 (10) = .inl (0, 24, .inl B) := (hk107 _ (by decide) nSP_10).trans f94
      have f112 : h103 (11) = .inl (0, 24, .inl C) := (hk107 _ (by decide) nSP_11).trans f95
      have f113 : h103 (13) = h0 13 := (hk107 _ (by decide) nSP_13).trans f96
      have f114 : h103 (24) = h0 24 := (hk107 _ (by decide) nSP_24).trans f97
      have LN115 := LN_kx (by decide) hk107 (by omega) LN98
      have e116 : mkL c A B C (n + 1) s G = (s, nI s, G) := by rw [mkL, if_neg c57q]
      exact r_ret dX11_takeSteps_74 (rt_v rfl) (by rw [e116]; exact ⟨rfl, hS104, hF108, f106, LN115, f113, f114, rfl⟩)
    · have q117 : ¬ t ≤ (s + 1) := fun z => c99 ((nI_leI (a := t) (b := s + 1) (by omega) (by omega)).mpr z)
      refine r_aload_n rfl dX11_takeSteps_25 rfl ?_
      refine r_getv 14 rfl dX11_takeSteps_26 (show 2 ≤ 2 ∧ 2 < 434 by decide) f89 fl_X11_82 rfl ?_
      refine r_bipush (v := (-9)) rfl dX11_takeSteps_29 (by decide) ?_
      refine r_icmp_ne (tgt := 66) rfl rfl dX11_takeSteps_31 (fun _ => ?_) (fun zc => absurd zc (show ¬ nI s = -9 from fun z => nI_pos (n := s) (by omega) (by rw [z]; decide)))
      refine r_aload_n rfl dX11_takeSteps_66 rfl ?_
      refine r_aload_n rfl dX11_takeSteps_67 rfl ?_
      refine cl_X11_260 rfl rfl dX11_takeSteps_68 (show 2 ≤ 2 ∧ 2 < 434 by decide).1 (show 2 ≤ 2 ∧ 2 < 434 by decide).2 f89 (Nat.le_of_ble_eq_true rfl) (x_X11_firstEmptyLine hS87 (by omega) f89 LN98) ?_
      rintro _ h118 _ ⟨rfl, e119, rfl⟩
      replace e119 := e119.symm
      subst e119
      refine e_put 15 (fs' := [.ref 3, .ref 5, .ref 12, .ref 13, .ref 24, .ref 93, .ref 95, .ref 96, .ref 97, .ref 98, .ref 99, .int (nI c), .int (nI (c + s)), .int (nI t), .int (nI s), .int (enF G (c + s) 0)]) rfl dX11_takeSteps_71 (show 2 ≤ 2 ∧ 2 < 434 by decide) hS87 (KM_rf (Mod := [2]) _) (List.mem_singleton.mpr rfl) f89 (fp_X11_86 rfl _) (Nat.le_of_ble_eq_true rfl) rfl (fun h120 hS121 _ hN122 f123 => ?_)
      have hk124 : KX [2] h86 h120 := KX_M (fun _ z => z) hN122
      have hF125 := KT_tr hF91 (KT_x (by decide) hk124)
      have f126 : h120 (5) = .inr (4, [.ref 6, .ref 7, .ref 8, .int cr, .int pl, .int tu, .ref 9, .ref 10, .ref 11, .int sr]) := (hk124 _ (by decide) nSP_5).trans f92
      have f127 : h120 (9) = .inl (0, 24, .inl A) := (hk124 _ (by decide) nSP_9).trans f93
      have f128 : h120 (10) = .inl (0, 24, .inl B) := (hk124 _ (by decide) nSP_10).trans f94
      have f129 : h120 (11) = .inl (0, 24, .inl C) := (hk124 _ (by decide) nSP_11).trans f95
      have f130 : h120 (13) = h0 13 := (hk124 _ (by decide) nSP_13).trans f96
      have f131 : h120 (24) = h0 24 := (hk124 _ (by decide) nSP_24).trans f97
      have LN132 := LN_kx (by decide) hk124 (by omega) LN98
      have e133 : mkL c A B C (n + 1) s G = (s, nI s, G) := by rw [mkL, if_neg c57q]
      exact r_ret dX11_takeSteps_74 (rt_v rfl) (by rw [e133]; exact ⟨rfl, hS121, hF125, f123, LN132, f130, f131, rfl⟩)
theorem x_ts {xs : Nat → Int32} {L d : Nat} {h0 : ev_H} {c t : Nat} {el cr pl tu sr : Int32} {A B C : Nat → Int32} (hc : c ≤ 16) (ht : t ≤ 24) (hSB : SB c t A B) : ∀ (n s : Nat) (h : ev_H) (G : Nat → Int32), s + n = t → SH h → KT h0 h → h 2 = c2 (nI c) (nI (c + s)) (nI t) (-9) el → h 5 = c5 cr pl tu sr → h 9 = cI 24 A → h 10 = cI 24 B → h 11 = cI 24 C → h 13 = h0 13 → h 24 = h0 24 → LN (c + s) G h → EV xs L (d + 4) 0 0 M_X11_takeSteps 434 h 17 [some (.ref 2), some (.int (nI s))] [] (tkQ h0 c t (mkL c A B C n s G)) := by
  intro n
  induction n with
  | zero => intro s h G hs hS hF h2 h5 h9 h10 h11 h13 h24 hLN; exact x_ts_z hS hc ht hF h2 h5 h9 h10 h11 h13 h24 hSB hLN (by omega) (by omega)
  | succ n ih => intro s h G hs hS hF h2 h5 h9 h10 h11 h13 h24 hLN; exact x_ts_s hS hc ht hF h2 h5 h9 h10 h11 h13 h24 hSB hLN hs (by omega) (fun h' G' q1 q2 q3 q4 q5 q6 q7 q8 q9 q10 => ih (s + 1) h' G' (by omega) q1 q2 q3 q4 q5 q6 q7 q8 q9 q10)
set_option maxRecDepth 20000 in
set_option maxHeartbeats 1000000 in
theorem x_X11_takeSteps {xs : Nat → Int32} {L d : Nat} {h : ev_H} {c t : Nat} {lc sc wr el cr pl tu : Int32} {A B C G : Nat → Int32} (hS : SH h) (hc : c ≤ 16) (hck : c ≤ 40) (ht : t ≤ 24) (h2 : h 2 = c2 (nI c) lc sc wr el) (h5 : h 5 = c5 cr pl tu (nI t)) (h9 : h 9 = cI 24 A) (h10 : h 10 = cI 24 B) (h11 : h 11 = cI 24 C) (hSB : SB c t A B) (hLN : LN c G h) : EV xs L (d + 4) 0 0 M_X11_takeSteps 434 h 0 [some (.ref 2), none] [] (tkQ h c t (mkL c A B C t 0 G)) := by
  refine r_aload_n rfl dX11_takeSteps_0 rfl ?_
  refine cl_X11_257 rfl rfl dX11_takeSteps_1 (show 2 ≤ 2 ∧ 2 < 434 by decide).1 (show 2 ≤ 2 ∧ 2 < 434 by decide).2 h2 (Nat.le_of_ble_eq_true rfl) (s_X11_forgetProofx hS h2) ?_
  rintro _ h51 _ ⟨rfl, hS52, hk53, f54, rfl⟩
  have hk55 : KX [2] h h51 := KX_M (fun _ z => z) hk53
  have hF56 := KT_tr (KT_rf h) (KT_x (by decide) hk55)
  have f57 : h51 (5) = .inr (4, [.ref 6, .ref 7, .ref 8, .int cr, .int pl, .int tu, .ref 9, .ref 10, .ref 11, .int (nI t)]) := (hk55 _ (by decide) nSP_5).trans h5
  have f58 : h51 (9) = .inl (0, 24, .inl A) := (hk55 _ (by decide) nSP_9).trans h9
  have f59 : h51 (10) = .inl (0, 24, .inl B) := (hk55 _ (by decide) nSP_10).trans h10
  have f60 : h51 (11) = .inl (0, 24, .inl C) := (hk55 _ (by decide) nSP_11).trans h11
  have f61 : h51 (13) = h 13 := (hk55 _ (by decide) nSP_13).trans rfl
  have f62 : h51 (24) = h 24 := (hk55 _ (by decide) nSP_24).trans rfl
  have LN63 := LN_kx (by decide) hk55 (by omega) hLN
  refine r_aload_n rfl dX11_takeSteps_4 rfl ?_
  refine r_aload_n rfl dX11_takeSteps_5 rfl ?_
  refine r_getv 1 rfl dX11_takeSteps_6 (show 2 ≤ 2 ∧ 2 < 434 by decide) f54 fl_X11_19 rfl ?_
  refine cl_X11_263 rfl rfl dX11_takeSteps_9 (show 2 ≤ 5 ∧ 5 < 434 by decide).1 (show 2 ≤ 5 ∧ 5 < 434 by decide).2 f57 (Nat.le_of_ble_eq_true rfl) (s_X4_stepsRead hS52 f57) ?_
  rintro _ h64 _ ⟨rfl, e65, rfl⟩
  replace e65 := e65.symm
  subst e65
  refine e_put 13 (fs' := [.ref 3, .ref 5, .ref 12, .ref 13, .ref 24, .ref 93, .ref 95, .ref 96, .ref 97, .ref 98, .ref 99, .int (nI c), .int (nI c), .int (nI t), .int (-9), .int el]) rfl dX11_takeSteps_12 (show 2 ≤ 2 ∧ 2 < 434 by decide) hS52 (KM_rf (Mod := [2]) _) (List.mem_singleton.mpr rfl) f54 (fp_X11_211 rfl _) (Nat.le_of_ble_eq_true rfl) rfl (fun h66 hS67 _ hN68 f69 => ?_)
  have hk70 : KX [2] h51 h66 := KX_M (fun _ z => z) hN68
  have hF71 := KT_tr hF56 (KT_x (by decide) hk70)
  have f72 : h66 (5) = .inr (4, [.ref 6, .ref 7, .ref 8, .int cr, .int pl, .int tu, .ref 9, .ref 10, .ref 11, .int (nI t)]) := (hk70 _ (by decide) nSP_5).trans f57
  have f73 : h66 (9) = .inl (0, 24, .inl A) := (hk70 _ (by decide) nSP_9).trans f58
  have f74 : h66 (10) = .inl (0, 24, .inl B) := (hk70 _ (by decide) nSP_10).trans f59
  have f75 : h66 (11) = .inl (0, 24, .inl C) := (hk70 _ (by decide) nSP_11).trans f60
  have f76 : h66 (13) = h 13 := (hk70 _ (by decide) nSP_13).trans f61
  have f77 : h66 (24) = h 24 := (hk70 _ (by decide) nSP_24).trans f62
  have LN78 := LN_kx (by decide) hk70 (by omega) LN63
  refine r_iconst (v := 0) rfl dX11_takeSteps_15 (by decide) ?_
  refine r_istore_n (ls' := [some (.ref 2), some (.int 0)]) rfl dX11_takeSteps_16 (Nat.le_of_ble_eq_true rfl) rfl ?_
  exact x_ts hc ht hSB t 0 h66 G (by omega) hS67 hF71 f69 f72 f73 f74 f75 f76 f77 LN78
