set_option maxRecDepth 20000 in
set_option maxHeartbeats 1000000 in
theorem w_X11_clauses {xs : Nat → Int32} {L d : Nat} {h : ev_H} {f g : Nat → Int32} {n c m t : Nat} {wr el pp ss kk vv cr pl tu sr kn bs bz : Int32} {A B C G : Nat → Int32} {Y : Nat → Int64} (hS : SH h) (hX : TXR f g n) (hc : c ≤ 16) (hm : m ≤ 24) (h2 : h 2 = c2 (nI c) (nI (c + m)) (nI t) wr el) (h3 : h 3 = c3 (nI n) pp ss kk vv) (h4 : h 4 = c4 f) (h5 : h 5 = c5 cr pl tu sr) (h24 : h 24 = c24 (nI c) kn bs bz) (hLN : LN (c + m) G h) (h6 : h 6 = cI 16 A) (h7 : h 7 = cI 16 B) (h8 : h 8 = cI 16 C) (hSW : SWc (c + m) Y h) : EV xs L (d + 7) 0 0 M_X11_clauses 434 h 0 [some (.ref 2), none] [] (fun sz' h' r => sz' = 434 ∧ SH h' ∧ KV h h' ∧ (((csL f n 16 0 0 A B C).1 = -1 ∧ r = [.int (nI (csL f n 16 0 0 A B C).2.1)] ∧ h' 2 = c2 (nI (csL f n 16 0 0 A B C).2.1) (nI (csL f n 16 0 0 A B C).2.1) 0 (-9) (enF (clG (csL f n 16 0 0 A B C).2.2.1 (csL f n 16 0 0 A B C).2.2.2.1 (csL f n 16 0 0 A B C).2.2.2.2) (csL f n 16 0 0 A B C).2.1 0) ∧ (∃ p s k v, h' 3 = c3 0 p s k v) ∧ LN (csL f n 16 0 0 A B C).2.1 (clG (csL f n 16 0 0 A B C).2.2.1 (csL f n 16 0 0 A B C).2.2.2.1 (csL f n 16 0 0 A B C).2.2.2.2) h' ∧ (∃ fs, h' 13 = c13 (ltO (clG (csL f n 16 0 0 A B C).2.2.1 (csL f n 16 0 0 A B C).2.2.2.1 (csL f n 16 0 0 A B C).2.2.2.2) (csL f n 16 0 0 A B C).2.1) (ltE (clG (csL f n 16 0 0 A B C).2.2.1 (csL f n 16 0 0 A B C).2.2.2.1 (csL f n 16 0 0 A B C).2.2.2.2) (csL f n 16 0 0 A B C).2.1) 0 fs) ∧ (∃ bs bz, h' 24 = c24 (nI (csL f n 16 0 0 A B C).2.1) 0 bs bz) ∧ SCk (csL f n 16 0 0 A B C).2.1 (clG (csL f n 16 0 0 A B C).2.2.1 (csL f n 16 0 0 A B C).2.2.2.1 (csL f n 16 0 0 A B C).2.2.2.2) (ltO (clG (csL f n 16 0 0 A B C).2.2.1 (csL f n 16 0 0 A B C).2.2.2.1 (csL f n 16 0 0 A B C).2.2.2.2) (csL f n 16 0 0 A B C).2.1 &&& ltE (clG (csL f n 16 0 0 A B C).2.2.1 (csL f n 16 0 0 A B C).2.2.2.1 (csL f n 16 0 0 A B C).2.2.2.2) (csL f n 16 0 0 A B C).2.1) h' ∧ SD4 (clG (csL f n 16 0 0 A B C).2.2.1 (csL f n 16 0 0 A B C).2.2.2.1 (csL f n 16 0 0 A B C).2.2.2.2) (csL f n 16 0 0 A B C).2.1 h') ∨ (¬ (csL f n 16 0 0 A B C).1 = -1 ∧ r = [.int (-10 - (csL f n 16 0 0 A B C).1)] ∧ h' 2 = c2 (nI c) (nI (c + m)) (nI t) wr el ∧ (∃ p s k v, h' 3 = c3 (nI n) p s k v) ∧ LN (c + m) G h' ∧ h' 13 = h 13 ∧ h' 24 = c24 (nI c) kn bs bz ∧ SWc (c + m) Y h' ∧ KQd h h'))) := by
  refine r_aload_n rfl dX11_clauses_0 rfl ?_
  refine r_getv 1 rfl dX11_clauses_1 (show 2 ≤ 2 ∧ 2 < 434 by decide) h2 fl_X11_19 rfl ?_
  refine r_aload_n rfl dX11_clauses_4 rfl ?_
  refine r_getv 0 rfl dX11_clauses_5 (show 2 ≤ 2 ∧ 2 < 434 by decide) h2 fl_X11_12 rfl ?_
  refine cl_X11_101 rfl rfl dX11_clauses_8 (show 2 ≤ 5 ∧ 5 < 434 by decide).1 (show 2 ≤ 5 ∧ 5 < 434 by decide).2 h5 (Nat.le_of_ble_eq_true rfl) (s_X4_readClauses hS hX.1 h3 h4 h5 h6 h7 h8 hX) ?_
  rintro _ h51 _ ⟨rfl, hS52, hk53, rfl, ⟨p54, s55, k56, v57, f58⟩, g59, g60⟩
  have sw61 := SW_f (by omega) (fun q _ _ => hk53 q (fun z => by simp only [List.mem_cons, List.not_mem_nil, or_false] at z; omega)) hSW
  have kq62 := KQd_tr (KQd_rf h) (fun q _ _ => hk53 q (fun z => by simp only [List.mem_cons, List.not_mem_nil, or_false] at z; omega))
  have hF63 := KV_tr (KV_rf h) (KV_M (by decide) hk53)
  have f64 : h51 2 = .inr (11, [.ref 3, .ref 5, .ref 12, .ref 13, .ref 24, .ref 93, .ref 95, .ref 96, .ref 97, .ref 98, .ref 99, .int (nI c), .int (nI (c + m)), .int (nI t), .int wr, .int el]) := (hk53 2 (by decide)).trans h2
  have f65 : h51 4 = .inl (2, 300, .inl f) := (hk53 4 (by decide)).trans h4
  have f66 : h51 24 = c24 (nI c) kn bs bz := (hk53 24 (by decide)).trans h24
  have f67 : h51 13 = h 13 := (hk53 13 (by decide)).trans rfl
  have LN68 := LN_M (by decide) hk53 hLN
  refine r_topi (fun x69 e70 => ?_)
  refine r_istore_n (ls' := [some (.ref 2), some (.int x69)]) rfl dX11_clauses_11 (Nat.le_of_ble_eq_true rfl) rfl ?_
  refine r_iload_n rfl dX11_clauses_12 rfl ?_
  refine r_iconst (v := (-1)) rfl dX11_clauses_13 (by decide) ?_
  refine r_icmp_eq (tgt := 22) rfl rfl dX11_clauses_14 (fun c71 => ?_) (fun c71 => ?_)
  · have c71r := e70.symm.trans c71
    obtain ⟨⟨a72, b73, f74⟩, f75, f76, f77⟩ := g60 c71r
    refine r_aload_n rfl dX11_clauses_22 rfl ?_
    refine r_getv 0 rfl dX11_clauses_23 (show 2 ≤ 2 ∧ 2 < 434 by decide) f64 fl_X11_12 rfl ?_
    obtain ⟨y78, y79, y80, y81, y82, f83⟩ := hS52.o3
    refine cl_X11_98 rfl rfl dX11_clauses_26 (show 2 ≤ 3 ∧ 3 < 434 by decide).1 (show 2 ≤ 3 ∧ 3 < 434 by decide).2 f83 (Nat.le_of_ble_eq_true rfl) ((s_X8_wipe f58).sh hS52) ?_
    rintro _ h84 _ ⟨⟨rfl, eh86, rfl⟩, -, hS85, -⟩
    have hk87 : KM [3] h51 h84 := by rw [eh86]; exact KM_up (KM_rf _) (by decide)
    have f88 : h84 3 = .inr (8, [.ref 4, .int 0, .int p54, .int s55, .int k56, .int v57]) := by rw [eh86]; exact va_up_self _ _ _
    have sw89 := SW_f (by omega) (fun q _ _ => hk87 q (fun z => by simp only [List.mem_cons, List.not_mem_nil, or_false] at z; omega)) sw61
    have kq90 := KQd_tr kq62 (fun q _ _ => hk87 q (fun z => by simp only [List.mem_cons, List.not_mem_nil, or_false] at z; omega))
    have hF91 := KV_tr hF63 (KV_M (by decide) hk87)
    have f92 : h84 2 = .inr (11, [.ref 3, .ref 5, .ref 12, .ref 13, .ref 24, .ref 93, .ref 95, .ref 96, .ref 97, .ref 98, .ref 99, .int (nI c), .int (nI (c + m)), .int (nI t), .int wr, .int el]) := (hk87 2 (by decide)).trans f64
    have f93 : h84 4 = .inl (2, 300, .inl f) := (hk87 4 (by decide)).trans f65
    have f94 : h84 24 = c24 (nI c) kn bs bz := (hk87 24 (by decide)).trans f66
    have f95 : h84 13 = h 13 := (hk87 13 (by decide)).trans f67
    have f96 : h84 5 = .inr (4, [.ref 6, .ref 7, .ref 8, .int (nI ((csL f n 16 0 0 A B C).2.1)), .int a72, .int b73, .ref 9, .ref 10, .ref 11, .int sr]) := (hk87 5 (by decide)).trans f74
    have f97 : h84 6 = .inl (0, 16, .inl ((csL f n 16 0 0 A B C).2.2.1)) := (hk87 6 (by decide)).trans f75
    have f98 : h84 7 = .inl (0, 16, .inl ((csL f n 16 0 0 A B C).2.2.2.1)) := (hk87 7 (by decide)).trans f76
    have f99 : h84 8 = .inl (0, 16, .inl ((csL f n 16 0 0 A B C).2.2.2.2)) := (hk87 8 (by decide)).trans f77
    have LN100 := LN_M (by decide) hk87 LN68
    refine r_aload_n rfl dX11_clauses_29 rfl ?_
    refine cl_X11_105 rfl rfl dX11_clauses_30 (show 2 ≤ 2 ∧ 2 < 434 by decide).1 (show 2 ≤ 2 ∧ 2 < 434 by decide).2 f92 (Nat.le_of_ble_eq_true rfl) (w_X11_takeClauses hS85 (csL_le f n 16 0 0 A B C) f92 f96 f97 f98 f99) ?_
    rintro _ h101 _ ⟨rfl, hS102, hk103, f104, LN105, f106, f107, sc108, sd112, rfl⟩
    have hF113 := KV_tr hF91 (KV_T hk103)
    have f114 : h101 3 = .inr (8, [.ref 4, .int 0, .int p54, .int s55, .int k56, .int v57]) := (hk103 3 (by decide) nSP_3 (by intro i hi; omega)).trans f88
    have f115 : h101 4 = .inl (2, 300, .inl f) := (hk103 4 (by decide) nSP_4 (by intro i hi; omega)).trans f93
    refine r_aload_n rfl dX11_clauses_33 rfl ?_
    refine r_getv 11 rfl dX11_clauses_34 (show 2 ≤ 2 ∧ 2 < 434 by decide) f104 fl_X11_108 rfl ?_
    exact r_ret dX11_clauses_37 (rt_i rfl) ⟨rfl, hS102, hF113, Or.inl ⟨c71r, rfl, f104, ⟨_, _, _, _, f114⟩, LN105, f106, f107, sc108, sd112⟩⟩
  · have c71r : ¬ (csL f n 16 0 0 A B C).1 = -1 := fun z => c71 (e70.trans z)
    refine r_bipush (v := (-10)) rfl dX11_clauses_17 (by decide) ?_
    refine r_iload_n rfl dX11_clauses_19 rfl ?_
    refine r_isub rfl dX11_clauses_20 ?_
    subst e70
    exact r_ret dX11_clauses_21 (rt_i rfl) ⟨rfl, hS52, hF63, Or.inr ⟨c71r, rfl, f64, ⟨_, _, _, _, f58⟩, LN68, f67, f66, sw61, kq62⟩⟩
set_option maxRecDepth 20000 in
set_option maxHeartbeats 1000000 in
theorem w_X11_proof {xs : Nat → Int32} {L d : Nat} {h : ev_H} {f g : Nat → Int32} {n c m t : Nat} {wr el pp ss kk vv cr pl tu sr kn bs bz : Int32} {A B C G : Nat → Int32} {lo lt fk fs : Int32} {Y : Nat → Int64} (hS : SH h) (hX : TXR f g n) (hc : c ≤ 16) (hm : m ≤ 24) (h2 : h 2 = c2 (nI c) (nI (c + m)) (nI t) wr el) (h3 : h 3 = c3 (nI n) pp ss kk vv) (h4 : h 4 = c4 f) (h5 : h 5 = c5 cr pl tu sr) (h24 : h 24 = c24 (nI c) kn bs bz) (hLN : LN (c + m) G h) (h9 : h 9 = cI 24 A) (h10 : h 10 = cI 24 B) (h11 : h 11 = cI 24 C) (h13 : h 13 = c13 lo lt fk fs) (hlo : ltO G c = lo) (hlt : ltE G c = lt) (hG : GV c 0 G) (hV : SV c c G Y) (hSW : SWc (c + m) Y h) : EV xs L (d + 7) 0 0 M_X11_proof 434 h 0 [some (.ref 2), none] [] (fun sz' h' r => sz' = 434 ∧ SH h' ∧ KV h h' ∧ (((stL f n c 24 0 0 A B C).1 = -1 ∧ r = [.int (nI (mkL c (stL f n c 24 0 0 A B C).2.2.1 (stL f n c 24 0 0 A B C).2.2.2.1 (stL f n c 24 0 0 A B C).2.2.2.2 (stL f n c 24 0 0 A B C).2.1 0 G).1)] ∧ h' 2 = c2 (nI c) (nI (c + (mkL c (stL f n c 24 0 0 A B C).2.2.1 (stL f n c 24 0 0 A B C).2.2.2.1 (stL f n c 24 0 0 A B C).2.2.2.2 (stL f n c 24 0 0 A B C).2.1 0 G).1)) (nI (stL f n c 24 0 0 A B C).2.1) (mkL c (stL f n c 24 0 0 A B C).2.2.1 (stL f n c 24 0 0 A B C).2.2.2.1 (stL f n c 24 0 0 A B C).2.2.2.2 (stL f n c 24 0 0 A B C).2.1 0 G).2.1 (enF (mkL c (stL f n c 24 0 0 A B C).2.2.1 (stL f n c 24 0 0 A B C).2.2.2.1 (stL f n c 24 0 0 A B C).2.2.2.2 (stL f n c 24 0 0 A B C).2.1 0 G).2.2 (c + (mkL c (stL f n c 24 0 0 A B C).2.2.1 (stL f n c 24 0 0 A B C).2.2.2.1 (stL f n c 24 0 0 A B C).2.2.2.2 (stL f n c 24 0 0 A B C).2.1 0 G).1) 0) ∧ (∃ p s k v, h' 3 = c3 0 p s k v) ∧ LN (c + (mkL c (stL f n c 24 0 0 A B C).2.2.1 (stL f n c 24 0 0 A B C).2.2.2.1 (stL f n c 24 0 0 A B C).2.2.2.2 (stL f n c 24 0 0 A B C).2.1 0 G).1) (mkL c (stL f n c 24 0 0 A B C).2.2.1 (stL f n c 24 0 0 A B C).2.2.2.1 (stL f n c 24 0 0 A B C).2.2.2.2 (stL f n c 24 0 0 A B C).2.1 0 G).2.2 h' ∧ h' 13 = h 13 ∧ h' 24 = c24 (nI c) kn bs bz ∧ (∃ Y, SV c (c + (mkL c (stL f n c 24 0 0 A B C).2.2.1 (stL f n c 24 0 0 A B C).2.2.2.1 (stL f n c 24 0 0 A B C).2.2.2.2 (stL f n c 24 0 0 A B C).2.1 0 G).1) (mkL c (stL f n c 24 0 0 A B C).2.2.1 (stL f n c 24 0 0 A B C).2.2.2.1 (stL f n c 24 0 0 A B C).2.2.2.2 (stL f n c 24 0 0 A B C).2.1 0 G).2.2 Y ∧ SWc (c + (mkL c (stL f n c 24 0 0 A B C).2.2.1 (stL f n c 24 0 0 A B C).2.2.2.1 (stL f n c 24 0 0 A B C).2.2.2.2 (stL f n c 24 0 0 A B C).2.1 0 G).1) Y h') ∧ KQd h h') ∨ (¬ (stL f n c 24 0 0 A B C).1 = -1 ∧ r = [.int (-10 - (stL f n c 24 0 0 A B C).1)] ∧ h' 2 = c2 (nI c) (nI (c + m)) (nI t) wr el ∧ (∃ p s k v, h' 3 = c3 (nI n) p s k v) ∧ LN (c + m) G h' ∧ h' 13 = h 13 ∧ h' 24 = c24 (nI c) kn bs bz ∧ SWc (c + m) Y h' ∧ KQd h h'))) := by
  refine r_aload_n rfl dX11_proof_0 rfl ?_
  refine r_getv 1 rfl dX11_proof_1 (show 2 ≤ 2 ∧ 2 < 434 by decide) h2 fl_X11_19 rfl ?_
  refine r_aload_n rfl dX11_proof_4 rfl ?_
  refine r_getv 0 rfl dX11_proof_5 (show 2 ≤ 2 ∧ 2 < 434 by decide) h2 fl_X11_12 rfl ?_
  refine r_aload_n rfl dX11_proof_8 rfl ?_
  refine r_getv 11 rfl dX11_proof_9 (show 2 ≤ 2 ∧ 2 < 434 by decide) h2 fl_X11_108 rfl ?_
  refine cl_X11_111 rfl rfl dX11_proof_12 (show 2 ≤ 5 ∧ 5 < 434 by decide).1 (show 2 ≤ 5 ∧ 5 < 434 by decide).2 h5 (Nat.le_of_ble_eq_true rfl) (s_X4_readSteps hS hX.1 h3 h4 h5 h9 h10 h11) ?_
  rintro _ h51 _ ⟨rfl, hS52, hk53, rfl, ⟨p54, s55, k56, v57, f58⟩, g59, g60⟩
  have sw61 := SW_f (by omega) (fun q _ _ => hk53 q (fun z => by simp only [List.mem_cons, List.not_mem_nil, or_false] at z; omega)) hSW
  have kq62 := KQd_tr (KQd_rf h) (fun q _ _ => hk53 q (fun z => by simp only [List.mem_cons, List.not_mem_nil, or_false] at z; omega))
  have hF63 := KV_tr (KV_rf h) (KV_M (by decide) hk53)
  have f64 : h51 2 = .inr (11, [.ref 3, .ref 5, .ref 12, .ref 13, .ref 24, .ref 93, .ref 95, .ref 96, .ref 97, .ref 98, .ref 99, .int (nI c), .int (nI (c + m)), .int (nI t), .int wr, .int el]) := (hk53 2 (by decide)).trans h2
  have f65 : h51 4 = .inl (2, 300, .inl f) := (hk53 4 (by decide)).trans h4
  have f66 : h51 24 = c24 (nI c) kn bs bz := (hk53 24 (by decide)).trans h24
  have f67 : h51 13 = h 13 := (hk53 13 (by decide)).trans rfl
  have LN68 := LN_M (by decide) hk53 hLN
  refine r_topi (fun x69 e70 => ?_)
  refine r_istore_n (ls' := [some (.ref 2), some (.int x69)]) rfl dX11_proof_15 (Nat.le_of_ble_eq_true rfl) rfl ?_
  refine r_iload_n rfl dX11_proof_16 rfl ?_
  refine r_iconst (v := (-1)) rfl dX11_proof_17 (by decide) ?_
  refine r_icmp_eq (tgt := 26) rfl rfl dX11_proof_18 (fun c71 => ?_) (fun c71 => ?_)
  · have c71r := e70.symm.trans c71
    obtain ⟨f74, f75, f76, f77⟩ := g60 c71r
    have hbd0 := stL_bd hX hc 24 0 0 A B C (Nat.zero_le n) (by decide) (fun j z => absurd z (by omega))
    have hbd : (stL f n c 24 0 0 A B C).2.1 ≤ 24 ∧ _ := hbd0
    have LN78 : LN c G h51 := fun i hi => LN68 i (by omega)
    refine r_aload_n rfl dX11_proof_26 rfl ?_
    refine r_getv 0 rfl dX11_proof_27 (show 2 ≤ 2 ∧ 2 < 434 by decide) f64 fl_X11_12 rfl ?_
    obtain ⟨y79, y80, y81, y82, y83, f84⟩ := hS52.o3
    refine cl_X11_98 rfl rfl dX11_proof_30 (show 2 ≤ 3 ∧ 3 < 434 by decide).1 (show 2 ≤ 3 ∧ 3 < 434 by decide).2 f84 (Nat.le_of_ble_eq_true rfl) ((s_X8_wipe f58).sh hS52) ?_
    rintro _ h85 _ ⟨⟨rfl, eh87, rfl⟩, -, hS86, -⟩
    have hk88 : KM [3] h51 h85 := by rw [eh87]; exact KM_up (KM_rf _) (by decide)
    have f89 : h85 3 = .inr (8, [.ref 4, .int 0, .int p54, .int s55, .int k56, .int v57]) := by rw [eh87]; exact va_up_self _ _ _
    have sw90 := SW_f (by omega) (fun q _ _ => hk88 q (fun z => by simp only [List.mem_cons, List.not_mem_nil, or_false] at z; omega)) sw61
    have kq91 := KQd_tr kq62 (fun q _ _ => hk88 q (fun z => by simp only [List.mem_cons, List.not_mem_nil, or_false] at z; omega))
    have hF92 := KV_tr hF63 (KV_M (by decide) hk88)
    have f93 : h85 2 = .inr (11, [.ref 3, .ref 5, .ref 12, .ref 13, .ref 24, .ref 93, .ref 95, .ref 96, .ref 97, .ref 98, .ref 99, .int (nI c), .int (nI (c + m)), .int (nI t), .int wr, .int el]) := (hk88 2 (by decide)).trans f64
    have f94 : h85 4 = .inl (2, 300, .inl f) := (hk88 4 (by decide)).trans f65
    have f95 : h85 24 = c24 (nI c) kn bs bz := (hk88 24 (by decide)).trans f66
    have f96 : h85 13 = h 13 := (hk88 13 (by decide)).trans f67
    have f97 : h85 5 = .inr (4, [.ref 6, .ref 7, .ref 8, .int cr, .int pl, .int tu, .ref 9, .ref 10, .ref 11, .int (nI ((stL f n c 24 0 0 A B C).2.1))]) := (hk88 5 (by decide)).trans f74
    have f98 : h85 9 = .inl (0, 24, .inl ((stL f n c 24 0 0 A B C).2.2.1)) := (hk88 9 (by decide)).trans f75
    have f99 : h85 10 = .inl (0, 24, .inl ((stL f n c 24 0 0 A B C).2.2.2.1)) := (hk88 10 (by decide)).trans f76
    have f100 : h85 11 = .inl (0, 24, .inl ((stL f n c 24 0 0 A B C).2.2.2.2)) := (hk88 11 (by decide)).trans f77
    have LN101 := LN_M (by decide) hk88 LN78
    refine r_aload_n rfl dX11_proof_33 rfl ?_
    have hsc := stL_sc (c := c) hX 24 0 0 A B C (Nat.zero_le n) (fun j z => absurd z (by omega))
    refine cl_X11_115 rfl rfl dX11_proof_34 (show 2 ≤ 2 ∧ 2 < 434 by decide).1 (show 2 ≤ 2 ∧ 2 < 434 by decide).2 f93 (Nat.le_of_ble_eq_true rfl) (w_X11_takeSteps hS86 hc (by omega) hbd.1 f93 f97 f98 f99 f100 hbd.2 LN101 (f96.trans h13) hlo hlt hG hV (fun i hi => sw90 i (by omega)) hsc) ?_
    rintro _ h102 _ ⟨rfl, hS103, hk104, kq113, f105, LN106, f107, f108, sc109, rfl⟩
    have kq114 := KQd_tr kq91 kq113
    have hF115 := KV_tr hF92 (KV_T hk104)
    have f116 : h102 3 = .inr (8, [.ref 4, .int 0, .int p54, .int s55, .int k56, .int v57]) := (hk104 3 (by decide) nSP_3 (by intro i hi; omega)).trans f89
    have f117 : h102 4 = .inl (2, 300, .inl f) := (hk104 4 (by decide) nSP_4 (by intro i hi; omega)).trans f94
    refine r_aload_n rfl dX11_proof_37 rfl ?_
    refine r_getv 12 rfl dX11_proof_38 (show 2 ≤ 2 ∧ 2 < 434 by decide) f105 fl_X11_118 rfl ?_
    refine r_aload_n rfl dX11_proof_41 rfl ?_
    refine r_getv 11 rfl dX11_proof_42 (show 2 ≤ 2 ∧ 2 < 434 by decide) f105 fl_X11_108 rfl ?_
    refine r_isub rfl dX11_proof_45 ?_
    have hle := mkL_le c (stL f n c 24 0 0 A B C).2.2.1 (stL f n c 24 0 0 A B C).2.2.2.1 (stL f n c 24 0 0 A B C).2.2.2.2 (stL f n c 24 0 0 A B C).2.1 0 G
    have hb1 := hbd.1
    exact r_ret dX11_proof_46 (rt_i rfl) ⟨rfl, hS103, hF115, Or.inl ⟨c71r, by rw [pk_sub (by omega), show c + (mkL c (stL f n c 24 0 0 A B C).2.2.1 (stL f n c 24 0 0 A B C).2.2.2.1 (stL f n c 24 0 0 A B C).2.2.2.2 (stL f n c 24 0 0 A B C).2.1 0 G).1 - c = (mkL c (stL f n c 24 0 0 A B C).2.2.1 (stL f n c 24 0 0 A B C).2.2.2.1 (stL f n c 24 0 0 A B C).2.2.2.2 (stL f n c 24 0 0 A B C).2.1 0 G).1 by omega]; rfl, f105, ⟨_, _, _, _, f116⟩, LN106, (f107.trans f96), (f108.trans f95), sc109, kq114⟩⟩
  · have c71r : ¬ (stL f n c 24 0 0 A B C).1 = -1 := fun z => c71 (e70.trans z)
    refine r_bipush (v := (-10)) rfl dX11_proof_21 (by decide) ?_
    refine r_iload_n rfl dX11_proof_23 rfl ?_
    refine r_isub rfl dX11_proof_24 ?_
    subst e70
    exact r_ret dX11_proof_25 (rt_i rfl) ⟨rfl, hS52, hF63, Or.inr ⟨c71r, rfl, f64, ⟨_, _, _, _, f58⟩, LN68, f67, f66, sw61, kq62⟩⟩
