/-- what proof's second loop leaves, with all that LINES hold and say -/
def mzQ (h0 : ev_H) (tr : Int64) (nx tk pl va : Int32) (c t : Nat) (R : Nat × Int32 × (Nat → Int32)) : ev_Q := fun sz' h' r => sz' = 434 ∧ SH h' ∧ KM [420, 422, 424, 425, 426] h0 h' ∧ r = [.int (nI R.1)] ∧ h' 420 = c420 0 tr 0 nx tk pl va (-1) (nI c) (nI R.1) (nI t) R.2.1 ∧ h' 422 = cI 240 R.2.2 ∧ ∃ H Y, h' 425 = cL 160 H ∧ HV (c + R.1) R.2.2 H ∧ h' 426 = cL 480 Y ∧ SV c (c + R.1) R.2.2 Y
set_option maxRecDepth 20000 in
set_option maxHeartbeats 1000000 in
theorem z_pm_z {xs : Nat → Int32} {L d : Nat} {h : ev_H} {h0 : ev_H} {tr : Int64} {nx tk pl va x : Int32} {c t s : Nat} {E A B C G : Nat → Int32} {H Y : Nat → Int64} (hS : SH h) (hF : KM [420, 422, 424, 425, 426] h0 h) (h5 : h 420 = c420 0 tr 0 nx tk pl va (-1) (nI c) (nI s) (nI t) (-9)) (h22 : h 422 = cI 240 G) (h24 : h 424 = cI 72 E) (h25 : h 425 = cL 160 H) (h26 : h 426 = cL 480 Y) (hG : GV c s G) (hH : HV (c + s) G H) (hY : SV c (c + s) G Y) (hc : c ≤ 16) (ht : t ≤ 24) (hE : ER t E A B C) (hB : SB c t A B) (hC : SC t C) (hst : s = t) : EV xs L (d + 3) 0 0 M_X12_proof 434 h 96 [some (.ref 420), some (.int x), some (.int (nI s))] [] (mzQ h0 tr nx tk pl va c t (mkL c A B C 0 s G)) := by
  refine r_iload_n rfl dX12_proof_96 rfl ?_
  refine r_aload_n rfl dX12_proof_97 rfl ?_
  refine r_getv 11 rfl dX12_proof_98 (show 2 ≤ 420 ∧ 420 < 434 by decide) h5 fl_X12_118 rfl ?_
  refine r_icmp_ge (tgt := 137) rfl rfl dX12_proof_101 (fun _ => ?_) (fun zc => absurd (show nI t ≤ nI s from nI_le (a := t) (b := s) (by omega) (by omega)) zc)
  refine r_aload_n rfl dX12_proof_137 rfl ?_
  refine r_getv 10 rfl dX12_proof_138 (show 2 ≤ 420 ∧ 420 < 434 by decide) h5 fl_X12_115 rfl ?_
  have e51 : mkL c A B C 0 s G = (s, -9, G) := rfl
  exact r_ret dX12_proof_141 (rt_i rfl) (by rw [e51]; exact ⟨rfl, hS, hF, rfl, h5, h22, H, Y, h25, hH, h26, hY⟩)
set_option maxRecDepth 20000 in
set_option maxHeartbeats 1000000 in
theorem z_pm_s {xs : Nat → Int32} {L d : Nat} {h : ev_H} {h0 : ev_H} {tr : Int64} {nx tk pl va x : Int32} {c t s : Nat} {E A B C G : Nat → Int32} {H Y : Nat → Int64} {n : Nat} (hS : SH h) (hF : KM [420, 422, 424, 425, 426] h0 h) (h5 : h 420 = c420 0 tr 0 nx tk pl va (-1) (nI c) (nI s) (nI t) (-9)) (h22 : h 422 = cI 240 G) (h24 : h 424 = cI 72 E) (h25 : h 425 = cL 160 H) (h26 : h 426 = cL 480 Y) (hG : GV c s G) (hH : HV (c + s) G H) (hY : SV c (c + s) G Y) (hc : c ≤ 16) (ht : t ≤ 24) (hE : ER t E A B C) (hB : SB c t A B) (hC : SC t C) (hst : s + (n + 1) = t) (ih : ∀ (h' : ev_H) (G' : Nat → Int32) (H' Y' : Nat → Int64), SH h' → KM [420, 422, 424, 425, 426] h0 h' → h' 420 = c420 0 tr 0 nx tk pl va (-1) (nI c) (nI (s + 1)) (nI t) (-9) → h' 422 = cI 240 G' → h' 424 = cI 72 E → h' 425 = cL 160 H' → h' 426 = cL 480 Y' → GV c (s + 1) G' → HV (c + (s + 1)) G' H' → SV c (c + (s + 1)) G' Y' → EV xs L (d + 3) 0 0 M_X12_proof 434 h' 96 [some (.ref 420), some (.int x), some (.int (nI (s + 1)))] [] (mzQ h0 tr nx tk pl va c t (mkL c A B C n (s + 1) G'))) : EV xs L (d + 3) 0 0 M_X12_proof 434 h 96 [some (.ref 420), some (.int x), some (.int (nI s))] [] (mzQ h0 tr nx tk pl va c t (mkL c A B C (n + 1) s G)) := by
  refine r_iload_n rfl dX12_proof_96 rfl ?_
  refine r_aload_n rfl dX12_proof_97 rfl ?_
  refine r_getv 11 rfl dX12_proof_98 (show 2 ≤ 420 ∧ 420 < 434 by decide) h5 fl_X12_118 rfl ?_
  refine r_icmp_ge (tgt := 137) rfl rfl dX12_proof_101 (fun zc => absurd zc (show ¬ nI t ≤ nI s from nI_ge (a := s) (b := t) (by omega) (by omega))) (fun _ => ?_)
  refine r_aload_n rfl dX12_proof_104 rfl ?_
  refine r_getv 12 rfl dX12_proof_105 (show 2 ≤ 420 ∧ 420 < 434 by decide) h5 fl_X12_13 rfl ?_
  refine r_bipush (v := (-9)) rfl dX12_proof_108 (by decide) ?_
  refine r_icmp_ne (tgt := 137) rfl rfl dX12_proof_110 (fun zc => absurd zc (by decide)) (fun _ => ?_)
  refine r_aload_n rfl dX12_proof_113 rfl ?_
  refine r_aload_n rfl dX12_proof_114 rfl ?_
  refine r_iload_n rfl dX12_proof_115 rfl ?_
  obtain ⟨⟨i1, hi1, ei1⟩, ⟨j1, hj1, ej1⟩⟩ := hB s (by omega)
  obtain ⟨d1, d2, d3⟩ := hE s (by omega)
  obtain ⟨z1, hz1, ez1⟩ := hC s (by omega)
  refine cl_X12_150 rfl rfl dX12_proof_116 (show 2 ≤ 420 ∧ 420 < 434 by decide).1 (show 2 ≤ 420 ∧ 420 < 434 by decide).2 h5 (Nat.le_of_ble_eq_true rfl) (z_X12_makes hS h5 hc (by omega) (by omega) (by omega) hi1 hj1 h22 h24 h25 h26 (d1.trans ei1) (d2.trans ej1) d3) ?_
  rintro _ h51 _ ⟨rfl, hS52, hK53, ⟨c58, f54, f55, f56, f57, rfl⟩ | ⟨c58, f54, f55, f56, f57, rfl⟩⟩
  · have hF59 := KM_tr hF (KM_sb (by decide) hK53)
    have c58q : cuK G (A s).toNatClampNeg (B s).toNatClampNeg (C s) := by rw [ei1, ej1, nI_clamp (by omega), nI_clamp (by omega)]; exact c58
    have f60 : h51 424 = .inl (0, 72, .inl E) := (hK53 424 (by decide)).trans h24
    refine r_if_eq (tgt := 127) rfl rfl dX12_proof_119 (fun zc => absurd zc (by decide)) (fun _ => ?_)
    refine r_bipush (v := (-9)) rfl dX12_proof_122 (by decide) ?_
    refine r_goto (pc' := 128) rfl dX12_proof_124 ?_
    refine e_put 12 (fs' := [.int 0, .long tr, .ref 421, .int 0, .int nx, .int tk, .int pl, .int va, .int (-1), .int (nI c), .int (nI (s + 1)), .int (nI t), .int (-9), .ref 422, .ref 423, .ref 424, .ref 425, .ref 426, .ref 427, .ref 428, .ref 429, .ref 430, .ref 431, .ref 432, .ref 433]) rfl dX12_proof_128 (show 2 ≤ 420 ∧ 420 < 434 by decide) hS52 hF59 (by decide) f54 (fp_X12_13 rfl _) (Nat.le_of_ble_eq_true rfl) rfl (fun h61 hS62 hF63 hN64 f65 => ?_)
    have f66 : h61 424 = .inl (0, 72, .inl E) := (hN64 424 (by decide)).trans f60
    have f67 : h61 422 = .inl (0, 240, .inl (cuG G (c + s) i1 j1 (C s))) := (hN64 422 (by decide)).trans f55
    have f68 : h61 425 = .inl (1, 160, .inr (.inl (hwR H (c + s) (soB ((cuG G (c + s) i1 j1 (C s)) (6 * (c + s))) ((cuG G (c + s) i1 j1 (C s)) (6 * (c + s) + 1))) 256))) := (hN64 425 (by decide)).trans f56
    have f69 : h61 426 = .inl (1, 480, .inr (.inl (mkY (decide (¬ ltM (cuG G (c + s) i1 j1 (C s)) 1 c &&& (1 <<< (C s &&& 31)) = 0)) (decide (¬ ltM (cuG G (c + s) i1 j1 (C s)) 2 c &&& (1 <<< (C s &&& 31)) = 0)) (1 <<< (C s &&& 31)) Y (c + s) i1 j1))) := (hN64 426 (by decide)).trans f57
    refine r_iinc (y := nI (s + 1)) (ls' := [some (.ref 420), some (.int x), some (.int (nI (s + 1)))]) rfl dX12_proof_131 rfl (nI_1 s) (Nat.le_of_ble_eq_true rfl) rfl ?_
    refine r_goto (pc' := 96) rfl dX12_proof_134 ?_
    rw [show mkL c A B C (n + 1) s G = mkL c A B C n (s + 1) (cuG G (c + s) i1 j1 (C s)) from by rw [mkL, if_pos c58q, ei1, ej1, nI_clamp (by omega), nI_clamp (by omega)]]
    exact ih h61 _ _ _ hS62 hF63 f65 f67 f66 f68 f69 (by rw [ez1]; exact GV_cu hG hi1 hj1 hz1) (HV_s (fun x hx => cuG_lo hx) hH) (by rw [ez1]; exact SV_mk hc (by omega) hi1 hj1 hz1 hG hY)
  · have hF70 := KM_tr hF (KM_sb (by decide) hK53)
    have c58q : ¬ cuK G (A s).toNatClampNeg (B s).toNatClampNeg (C s) := by rw [ei1, ej1, nI_clamp (by omega), nI_clamp (by omega)]; exact c58
    have f71 : h51 424 = .inl (0, 72, .inl E) := (hK53 424 (by decide)).trans h24
    refine r_if_eq (tgt := 127) rfl rfl dX12_proof_119 (fun _ => ?_) (fun zc => absurd zc (by decide))
    refine r_iload_n rfl dX12_proof_127 rfl ?_
    refine e_put 12 (fs' := [.int 0, .long tr, .ref 421, .int 0, .int nx, .int tk, .int pl, .int va, .int (-1), .int (nI c), .int (nI s), .int (nI t), .int (nI s), .ref 422, .ref 423, .ref 424, .ref 425, .ref 426, .ref 427, .ref 428, .ref 429, .ref 430, .ref 431, .ref 432, .ref 433]) rfl dX12_proof_128 (show 2 ≤ 420 ∧ 420 < 434 by decide) hS52 hF70 (by decide) f54 (fp_X12_13 rfl _) (Nat.le_of_ble_eq_true rfl) rfl (fun h72 hS73 hF74 hN75 f76 => ?_)
    have f77 : h72 424 = .inl (0, 72, .inl E) := (hN75 424 (by decide)).trans f71
    have f78 : h72 422 = .inl (0, 240, .inl G) := (hN75 422 (by decide)).trans f55
    have f79 : h72 425 = .inl (1, 160, .inr (.inl H)) := (hN75 425 (by decide)).trans f56
    have f80 : h72 426 = .inl (1, 480, .inr (.inl Y)) := (hN75 426 (by decide)).trans f57
    refine r_iinc (y := nI (s + 1)) (ls' := [some (.ref 420), some (.int x), some (.int (nI (s + 1)))]) rfl dX12_proof_131 rfl (nI_1 s) (Nat.le_of_ble_eq_true rfl) rfl ?_
    refine r_goto (pc' := 96) rfl dX12_proof_134 ?_
    refine r_iload_n rfl dX12_proof_96 rfl ?_
    refine r_aload_n rfl dX12_proof_97 rfl ?_
    refine r_getv 11 rfl dX12_proof_98 (show 2 ≤ 420 ∧ 420 < 434 by decide) f76 fl_X12_118 rfl ?_
    refine r_icmp_ge (tgt := 137) rfl rfl dX12_proof_101 (fun c81 => ?_) (fun c81 => ?_)
    · refine r_aload_n rfl dX12_proof_137 rfl ?_
      refine r_getv 10 rfl dX12_proof_138 (show 2 ≤ 420 ∧ 420 < 434 by decide) f76 fl_X12_115 rfl ?_
      have e82 : mkL c A B C (n + 1) s G = (s, nI s, G) := by rw [mkL, if_neg c58q]
      exact r_ret dX12_proof_141 (rt_i rfl) (by rw [e82]; exact ⟨rfl, hS73, hF74, rfl, f76, f78, H, Y, f79, hH, f80, hY⟩)
    · refine r_aload_n rfl dX12_proof_104 rfl ?_
      refine r_getv 12 rfl dX12_proof_105 (show 2 ≤ 420 ∧ 420 < 434 by decide) f76 fl_X12_13 rfl ?_
      refine r_bipush (v := (-9)) rfl dX12_proof_108 (by decide) ?_
      refine r_icmp_ne (tgt := 137) rfl rfl dX12_proof_110 (fun _ => ?_) (fun zc => absurd zc (show ¬ nI s = -9 from fun z => nI_pos (n := s) (by omega) (by rw [z]; decide)))
      refine r_aload_n rfl dX12_proof_137 rfl ?_
      refine r_getv 10 rfl dX12_proof_138 (show 2 ≤ 420 ∧ 420 < 434 by decide) f76 fl_X12_115 rfl ?_
      have e83 : mkL c A B C (n + 1) s G = (s, nI s, G) := by rw [mkL, if_neg c58q]
      exact r_ret dX12_proof_141 (rt_i rfl) (by rw [e83]; exact ⟨rfl, hS73, hF74, rfl, f76, f78, H, Y, f79, hH, f80, hY⟩)
theorem z_pm {xs : Nat → Int32} {L d : Nat} {h0 : ev_H} {tr : Int64} {nx tk pl va x : Int32} {c t : Nat} {E A B C : Nat → Int32} (hc : c ≤ 16) (ht : t ≤ 24) (hE : ER t E A B C) (hB : SB c t A B) (hC : SC t C) : ∀ (n s : Nat) (h : ev_H) (G : Nat → Int32) (H Y : Nat → Int64), s + n = t → SH h → KM [420, 422, 424, 425, 426] h0 h → h 420 = c420 0 tr 0 nx tk pl va (-1) (nI c) (nI s) (nI t) (-9) → h 422 = cI 240 G → h 424 = cI 72 E → h 425 = cL 160 H → h 426 = cL 480 Y → GV c s G → HV (c + s) G H → SV c (c + s) G Y → EV xs L (d + 3) 0 0 M_X12_proof 434 h 96 [some (.ref 420), some (.int x), some (.int (nI s))] [] (mzQ h0 tr nx tk pl va c t (mkL c A B C n s G)) := by
  intro n
  induction n with
  | zero => intro s h G H Y hs hS hF h5 h22 h24 h25 h26 hG hH hY; exact z_pm_z hS hF h5 h22 h24 h25 h26 hG hH hY hc ht hE hB hC (by omega)
  | succ n ih => intro s h G H Y hs hS hF h5 h22 h24 h25 h26 hG hH hY; exact z_pm_s hS hF h5 h22 h24 h25 h26 hG hH hY hc ht hE hB hC hs (fun h' G' H' Y' q1 q2 q3 q4 q5 q6 q7 q8 q9 q10 => ih (s + 1) h' G' H' Y' (by omega) q1 q2 q3 q4 q5 q6 q7 q8 q9 q10)
set_option maxRecDepth 20000 in
set_option maxHeartbeats 1000000 in
theorem z_proof_t {xs : Nat → Int32} {L d : Nat} {h : ev_H} {tr : Int64} {ty nx tk pl va md ss wg : Int32} {c t : Nat} {E A B C G : Nat → Int32} {H Y : Nat → Int64} (hS : SH h) (h5 : h 420 = c420 0 tr ty nx tk pl va (-1) (nI c) md ss wg) (h22 : h 422 = cI 240 G) (h24 : h 424 = cI 72 E) (h25 : h 425 = cL 160 H) (h26 : h 426 = cL 480 Y) (hG : GV c 0 G) (hH : HV c G H) (hY : SV c c G Y) (hc : c ≤ 16) (ht : t ≤ 24) (hE : ER t E A B C) (hB : SB c t A B) (hC : SC t C) : EV xs L (d + 3) 0 0 M_X12_proof 434 h 58 [some (.ref 420), some (.int (nI t)), none] [] (mzQ h tr nx tk pl va c t (mkL c A B C t 0 G)) := by
  refine r_aload_n rfl dX12_proof_58 rfl ?_
  refine cl_X12_92 rfl rfl dX12_proof_59 (show 2 ≤ 420 ∧ 420 < 434 by decide).1 (show 2 ≤ 420 ∧ 420 < 434 by decide).2 h5 (Nat.le_of_ble_eq_true rfl) (s_X12_isWell1 hS h5) ?_
  rintro _ h51 _ ⟨rfl, e52, rfl⟩
  replace e52 := e52.symm
  subst e52
  refine r_if_ne (tgt := 73) rfl rfl dX12_proof_62 (fun _ => ?_) (fun zc => absurd zc (by decide))
  refine r_aload_n rfl dX12_proof_73 rfl ?_
  refine r_iload_n rfl dX12_proof_74 rfl ?_
  refine e_put 11 (fs' := [.int 0, .long tr, .ref 421, .int ty, .int nx, .int tk, .int pl, .int va, .int (-1), .int (nI c), .int md, .int (nI t), .int wg, .ref 422, .ref 423, .ref 424, .ref 425, .ref 426, .ref 427, .ref 428, .ref 429, .ref 430, .ref 431, .ref 432, .ref 433]) rfl dX12_proof_75 (show 2 ≤ 420 ∧ 420 < 434 by decide) hS (KM_rf (Mod := [420, 422, 424, 425, 426]) h) (by decide) h5 (fp_X12_118 rfl _) (Nat.le_of_ble_eq_true rfl) rfl (fun h53 hS54 hF55 hN56 f57 => ?_)
  have f58 : h53 422 = .inl (0, 240, .inl G) := (hN56 422 (by decide)).trans h22
  have f59 : h53 424 = .inl (0, 72, .inl E) := (hN56 424 (by decide)).trans h24
  have f60 : h53 425 = .inl (1, 160, .inr (.inl H)) := (hN56 425 (by decide)).trans h25
  have f61 : h53 426 = .inl (1, 480, .inr (.inl Y)) := (hN56 426 (by decide)).trans h26
  refine r_aload_n rfl dX12_proof_78 rfl ?_
  refine r_iconst (v := 0) rfl dX12_proof_79 (by decide) ?_
  refine e_put 10 (fs' := [.int 0, .long tr, .ref 421, .int ty, .int nx, .int tk, .int pl, .int va, .int (-1), .int (nI c), .int 0, .int (nI t), .int wg, .ref 422, .ref 423, .ref 424, .ref 425, .ref 426, .ref 427, .ref 428, .ref 429, .ref 430, .ref 431, .ref 432, .ref 433]) rfl dX12_proof_80 (show 2 ≤ 420 ∧ 420 < 434 by decide) hS54 hF55 (by decide) f57 (fp_X12_115 rfl _) (Nat.le_of_ble_eq_true rfl) rfl (fun h62 hS63 hF64 hN65 f66 => ?_)
  have f67 : h62 422 = .inl (0, 240, .inl G) := (hN65 422 (by decide)).trans f58
  have f68 : h62 424 = .inl (0, 72, .inl E) := (hN65 424 (by decide)).trans f59
  have f69 : h62 425 = .inl (1, 160, .inr (.inl H)) := (hN65 425 (by decide)).trans f60
  have f70 : h62 426 = .inl (1, 480, .inr (.inl Y)) := (hN65 426 (by decide)).trans f61
  refine r_aload_n rfl dX12_proof_83 rfl ?_
  refine r_bipush (v := (-9)) rfl dX12_proof_84 (by decide) ?_
  refine e_put 12 (fs' := [.int 0, .long tr, .ref 421, .int ty, .int nx, .int tk, .int pl, .int va, .int (-1), .int (nI c), .int 0, .int (nI t), .int (-9), .ref 422, .ref 423, .ref 424, .ref 425, .ref 426, .ref 427, .ref 428, .ref 429, .ref 430, .ref 431, .ref 432, .ref 433]) rfl dX12_proof_86 (show 2 ≤ 420 ∧ 420 < 434 by decide) hS63 hF64 (by decide) f66 (fp_X12_13 rfl _) (Nat.le_of_ble_eq_true rfl) rfl (fun h71 hS72 hF73 hN74 f75 => ?_)
  have f76 : h71 422 = .inl (0, 240, .inl G) := (hN74 422 (by decide)).trans f67
  have f77 : h71 424 = .inl (0, 72, .inl E) := (hN74 424 (by decide)).trans f68
  have f78 : h71 425 = .inl (1, 160, .inr (.inl H)) := (hN74 425 (by decide)).trans f69
  have f79 : h71 426 = .inl (1, 480, .inr (.inl Y)) := (hN74 426 (by decide)).trans f70
  refine r_aload_n rfl dX12_proof_89 rfl ?_
  refine r_iconst (v := 0) rfl dX12_proof_90 (by decide) ?_
  refine e_put 3 (fs' := [.int 0, .long tr, .ref 421, .int 0, .int nx, .int tk, .int pl, .int va, .int (-1), .int (nI c), .int 0, .int (nI t), .int (-9), .ref 422, .ref 423, .ref 424, .ref 425, .ref 426, .ref 427, .ref 428, .ref 429, .ref 430, .ref 431, .ref 432, .ref 433]) rfl dX12_proof_91 (show 2 ≤ 420 ∧ 420 < 434 by decide) hS72 hF73 (by decide) f75 (fp_X12_64 rfl _) (Nat.le_of_ble_eq_true rfl) rfl (fun h80 hS81 hF82 hN83 f84 => ?_)
  have f85 : h80 422 = .inl (0, 240, .inl G) := (hN83 422 (by decide)).trans f76
  have f86 : h80 424 = .inl (0, 72, .inl E) := (hN83 424 (by decide)).trans f77
  have f87 : h80 425 = .inl (1, 160, .inr (.inl H)) := (hN83 425 (by decide)).trans f78
  have f88 : h80 426 = .inl (1, 480, .inr (.inl Y)) := (hN83 426 (by decide)).trans f79
  refine r_iconst (v := 0) rfl dX12_proof_94 (by decide) ?_
  refine r_istore_n (ls' := [some (.ref 420), some (.int (nI t)), some (.int 0)]) rfl dX12_proof_95 (Nat.le_of_ble_eq_true rfl) rfl ?_
  exact z_pm hc ht hE hB hC t 0 h80 G H Y (by omega) hS81 hF82 f84 f85 f86 f87 f88 hG hH hY
set_option maxRecDepth 20000 in
set_option maxHeartbeats 1000000 in
theorem z_X12_proof {xs : Nat → Int32} {L d : Nat} {h : ev_H} {th : Int32} {tr : Int64} {nx tk pl va fa md ss wg : Int32} {f g : Nat → Int32} {n c : Nat} {E A B C G : Nat → Int32} {H Y : Nat → Int64} (hS : SH h) (hX : TXR f g n) (h5 : h 420 = c420 th tr (nI n) nx tk pl va fa (nI c) md ss wg) (h6 : h 421 = c421 g) (h22 : h 422 = cI 240 G) (h7 : h 424 = cI 72 E) (h25 : h 425 = cL 160 H) (h26 : h 426 = cL 480 Y) (hG : GV c 0 G) (hH : HV c G H) (hY : SV c c G Y) (hc : c ≤ 16) : EV xs L (d + 5) 0 0 M_X12_proof 434 h 0 [some (.ref 420), none, none] [] (fun sz' h' r => sz' = 434 ∧ SH h' ∧ KM [420, 422, 424, 425, 426] h h' ∧ (((stL f n c 24 0 0 A B C).1 = -1 ∧ (stL f n c 24 0 0 A B C).2.1 ≤ 24 ∧ r = [.int (nI (mkL c (stL f n c 24 0 0 A B C).2.2.1 (stL f n c 24 0 0 A B C).2.2.2.1 (stL f n c 24 0 0 A B C).2.2.2.2 (stL f n c 24 0 0 A B C).2.1 0 G).1)] ∧ (∃ nx tk pl va, h' 420 = c420 0 tr 0 nx tk pl va (-1) (nI c) (nI (mkL c (stL f n c 24 0 0 A B C).2.2.1 (stL f n c 24 0 0 A B C).2.2.2.1 (stL f n c 24 0 0 A B C).2.2.2.2 (stL f n c 24 0 0 A B C).2.1 0 G).1) (nI (stL f n c 24 0 0 A B C).2.1) (mkL c (stL f n c 24 0 0 A B C).2.2.1 (stL f n c 24 0 0 A B C).2.2.2.1 (stL f n c 24 0 0 A B C).2.2.2.2 (stL f n c 24 0 0 A B C).2.1 0 G).2.1) ∧ h' 422 = cI 240 (mkL c (stL f n c 24 0 0 A B C).2.2.1 (stL f n c 24 0 0 A B C).2.2.2.1 (stL f n c 24 0 0 A B C).2.2.2.2 (stL f n c 24 0 0 A B C).2.1 0 G).2.2 ∧ ∃ H Y, h' 425 = cL 160 H ∧ HV (c + (mkL c (stL f n c 24 0 0 A B C).2.2.1 (stL f n c 24 0 0 A B C).2.2.2.1 (stL f n c 24 0 0 A B C).2.2.2.2 (stL f n c 24 0 0 A B C).2.1 0 G).1) (mkL c (stL f n c 24 0 0 A B C).2.2.1 (stL f n c 24 0 0 A B C).2.2.2.1 (stL f n c 24 0 0 A B C).2.2.2.2 (stL f n c 24 0 0 A B C).2.1 0 G).2.2 H ∧ h' 426 = cL 480 Y ∧ SV c (c + (mkL c (stL f n c 24 0 0 A B C).2.2.1 (stL f n c 24 0 0 A B C).2.2.2.1 (stL f n c 24 0 0 A B C).2.2.2.2 (stL f n c 24 0 0 A B C).2.1 0 G).1) (mkL c (stL f n c 24 0 0 A B C).2.2.1 (stL f n c 24 0 0 A B C).2.2.2.1 (stL f n c 24 0 0 A B C).2.2.2.2 (stL f n c 24 0 0 A B C).2.1 0 G).2.2 Y) ∨ (∃ q, q ≤ 300 ∧ (stL f n c 24 0 0 A B C).1 = nI q ∧ r = [.int (-10 - nI q)] ∧ (∃ nx tk pl va, h' 420 = c420 0 tr (nI n) nx tk pl va (nI q) (nI c) md ss wg) ∧ h' 422 = cI 240 G ∧ h' 425 = cL 160 H ∧ h' 426 = cL 480 Y))) := by
  refine r_aload_n rfl dX12_proof_0 rfl ?_
  refine r_iconst (v := 0) rfl dX12_proof_1 (by decide) ?_
  refine e_put 0 (fs' := [.int 0, .long tr, .ref 421, .int (nI n), .int nx, .int tk, .int pl, .int va, .int fa, .int (nI c), .int md, .int ss, .int wg, .ref 422, .ref 423, .ref 424, .ref 425, .ref 426, .ref 427, .ref 428, .ref 429, .ref 430, .ref 431, .ref 432, .ref 433]) rfl dX12_proof_2 (show 2 ≤ 420 ∧ 420 < 434 by decide) hS (KM_rf (Mod := [420, 422, 424, 425, 426]) h) (by decide) h5 (fp_X12_57 rfl _) (Nat.le_of_ble_eq_true rfl) rfl (fun h51 hS52 hF53 hN54 f55 => ?_)
  have f56 : h51 421 = .inl (0, 300, .inl g) := (hN54 421 (by decide)).trans h6
  have f57 : h51 422 = .inl (0, 240, .inl G) := (hN54 422 (by decide)).trans h22
  have f58 : h51 424 = .inl (0, 72, .inl E) := (hN54 424 (by decide)).trans h7
  have f59 : h51 425 = .inl (1, 160, .inr (.inl H)) := (hN54 425 (by decide)).trans h25
  have f60 : h51 426 = .inl (1, 480, .inr (.inl Y)) := (hN54 426 (by decide)).trans h26
  refine r_iconst (v := 0) rfl dX12_proof_5 (by decide) ?_
  refine r_istore_n (ls' := [some (.ref 420), some (.int 0), none]) rfl dX12_proof_6 (Nat.le_of_ble_eq_true rfl) rfl ?_
  refine r_aload_n rfl dX12_proof_7 rfl ?_
  refine cl_X12_106 rfl rfl dX12_proof_8 (show 2 ≤ 420 ∧ 420 < 434 by decide).1 (show 2 ≤ 420 ∧ 420 < 434 by decide).2 f55 (Nat.le_of_ble_eq_true rfl) (s_X12_begins hS52 hX f55 f56) ?_
  rintro _ h61 _ ⟨rfl, hS62, hK63, ⟨w66, f64, hw67⟩, rfl⟩
  have hF65 := KM_tr hF53 (KM_sb (by decide) hK63)
  have hl68 := (rdS_le f (Nat.zero_le n)).2
  have f69 : h61 421 = .inl (0, 300, .inl g) := (hK63 421 (by decide)).trans f56
  have f70 : h61 422 = .inl (0, 240, .inl G) := (hK63 422 (by decide)).trans f57
  have f71 : h61 424 = .inl (0, 72, .inl E) := (hK63 424 (by decide)).trans f58
  have f72 : h61 425 = .inl (1, 160, .inr (.inl H)) := (hK63 425 (by decide)).trans f59
  have f73 : h61 426 = .inl (1, 480, .inr (.inl Y)) := (hK63 426 (by decide)).trans f60
  have hbd := stL_bd hX hc 24 0 0 A B C (Nat.zero_le n) (by decide) (fun j z => absurd z (by omega))
  have hsc := stL_sc (c := c) hX 24 0 0 A B C (Nat.zero_le n) (fun j z => absurd z (by omega))
  refine s_X12_proof_loop (h0 := h61) (RES := (stL f n c 24 0 0 A B C)) hX ?_ ?_ 24 0 0 A B C _ E h61 rfl (Nat.zero_le n) hS62 (KM_rf _) f64 hw67 f69 f71 (fun j z => absurd z (by omega)) rfl
  · intro h1 D' nx1 tk1 pl1 va1 hS1 hF1 g5 g7 hr hD hle
    refine EV.post ?_ (z_proof_t (d := d + 2) hS1 g5 ((hF1 422 (by decide)).trans f70) g7 ((hF1 425 (by decide)).trans f72) ((hF1 426 (by decide)).trans f73) hG hH hY hc hle hD hbd.2 hsc)
    rintro a1 a2 a3 ⟨b1, b2, b3, b4, b5, b6, b7⟩
    exact ⟨b1, b2, KM_tr hF65 (KM_tr (KM_sb (by decide) hF1) b3), Or.inl ⟨hr, hle, b4, ⟨_, _, _, _, b5⟩, b6, b7⟩⟩
  · intro h1 x nx1 tk1 pl1 va1 q hS1 hF1 g5 hq hr
    refine EV.post ?_ (s_X12_proof_fault (d := d + 4) hS1 g5 (by omega))
    rintro a1 a2 a3 ⟨b1, b2, b3, b4, b5⟩
    subst b4
    exact ⟨b1, b2, KM_tr hF65 (KM_sb (by decide) hF1), Or.inr ⟨q, hq, hr, b5, ⟨_, _, _, _, g5⟩, ((hF1 422 (by decide)).trans f70), ((hF1 425 (by decide)).trans f72), ((hF1 426 (by decide)).trans f73)⟩⟩
