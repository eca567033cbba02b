theorem k5_clauses {xs : Nat → Int32} {L d : Nat} {h : ev_H} {n c m t : Nat} {wr : Int32} {s : Int64} {f g G : Nat → Int32} (hS : SH h) (hI : IC5 n c m t wr s f G h) (hX : TXR f g n) (hc : c ≤ 16) (hm : m ≤ 24) : EV xs L (d + 7) 0 0 M_X11_clauses 434 h 0 [some (.ref 2), none] [] (fun sz' h' r => sz' = 434 ∧ SH h' ∧ KU h h' ∧ r = [.int (clR f n)] ∧ ((csF f n = -1 ∧ IC5 0 (csN f n) 0 0 (-9) s f (csG f n) h') ∨ (¬ csF f n = -1 ∧ IC5 n c m t wr s f G h'))) := by
  obtain ⟨h2, ⟨p, q, k, w, h3⟩, h4, ⟨fk, fs, h13, hfk⟩, ⟨kn, bs, bz, h24, hnk⟩, h95, hL, hD, hH9, Y, hV, hW⟩ := id hI
  obtain ⟨y1, y2, y3, y4, h5⟩ := hS.o5
  obtain ⟨A, h6⟩ := hS.ia6
  obtain ⟨B, h7⟩ := hS.ia7
  obtain ⟨C, h8⟩ := hS.ia8
  refine EV.post ?_ (w_X11_clauses hS hX hc hm h2 h3 h4 h5 h24 hL h6 h7 h8 hW)
  have ar := csL_arr f n 16 0 0 A B C z0 z0 z0 (fun j hj => absurd hj (by omega)) (fun j hj => absurd hj (by omega)) (fun j hj => absurd hj (by omega))
  obtain ⟨i1, i2⟩ := csL_ind f n 16 0 0 A B C z0 z0 z0
  rintro _ h' _ ⟨rfl, hs, hk, hcase⟩
  have g4 : h' 4 = c4 f := (hk 4 (by decide) (nSP_4) (fun i hi => by omega)).trans h4
  have g95 : h' 95 = .inr (9, [.long s]) := (hk 95 (by decide) (nSP_95) (fun i hi => by omega)).trans h95
  have gu : KU h h' := fun k hk2 => hk k (fun z => by simp only [List.mem_cons, List.not_mem_nil, or_false] at z; omega) (nSP_m hk2) (fun i hi => by omega)
  rw [i2] at ar
  rw [i1, i2] at hcase
  change ((csF f n = -1 ∧ _) ∨ (¬ csF f n = -1 ∧ _)) at hcase
  rcases hcase with ⟨e, hr, g2, g3, gL, ⟨_, g13⟩, ⟨_, _, g24⟩, gC, gS⟩ | ⟨e, hr, g2, g3, gL, g13, g24, gW, gQ⟩
  · refine ⟨rfl, hs, gu, by unfold clR; rw [if_pos e]; exact hr, Or.inl ⟨e, ?_⟩⟩
    have hl := csN_le f n
    refine IC5.cg hl (fun x hx => clG_cg ar x hx) ?_
    have hgv := GV_cg (fun x hx => (clG_cg ar x hx).symm) (GV_cl hX)
    exact ⟨g2, g3, g4, ⟨_, _, g13, Or.inl rfl⟩, ⟨_, _, _, g24, Or.inl rfl⟩, g95, gL, SD_mk hgv (shN_ok hgv).2 (lt_sh hgv) gS.1.1 gS.1.2.1 gS.1.2.2.1 gS.1.2.2.2, ⟨HD_mk hgv gS.2.1, gS.2.2⟩, _, SV_cl hl hgv, SW_cl (show csN f n ≤ 40 by omega) gC⟩
  · exact ⟨rfl, hs, gu, by unfold clR; rw [if_neg e]; exact hr, Or.inr ⟨e, g2, g3, g4, ⟨_, _, g13.trans h13, hfk⟩, ⟨_, _, _, g24, hnk⟩, g95, gL, SDc_f (fun q h1 h2 => gQ q h1 (by omega)) hD, HDx_f (fun q h1 h2 => gQ q (by omega) (by omega)) hH9, Y, hV, gW⟩⟩
theorem j5_clauses {xs : Nat → Int32} {L d : Nat} {h : ev_H} {n c m t : Nat} {wr : Int32} {s : Int64} {f g G : Nat → Int32} (hS : SH h) (hI : IM5 n c m t wr s g G h) (hX : TXR f g n) : EV xs L (d + 5) 0 0 M_X12_clauses 434 h 0 [some (.ref 420), none, none] [] (fun sz' h' r => sz' = 434 ∧ SH h' ∧ KD h h' ∧ r = [.int (clR f n)] ∧ ((csF f n = -1 ∧ ∃ G', (∀ x, x < 6 * csN f n → G' x = csG f n x) ∧ IM5 0 (csN f n) 0 0 (-9) s g G' h') ∨ (¬ csF f n = -1 ∧ IM5 n c m t wr s g G h'))) := by
  obtain ⟨⟨th, nx, tk, pl, va, fa, h5⟩, h6, h22, hB, H, Y, h25, hH, h26, hY⟩ := id hI
  obtain ⟨D, h7⟩ := hS.li LI_423
  obtain ⟨T, h31⟩ := hS.la LA_431
  obtain ⟨O1, T1, S1, W1, e7, e8, e9, e0, hp4⟩ := id hB
  have hgc := GV_cl hX
  refine EV.post ?_ (zz_X12_clauses (A := z0) (B := z0) (C := z0) (l := shN (csG f n) (csN f n)) hS hX h5 h6 h22 h7 h25 h26 h31 e7 e8 e9 e0 (shN_ok hgc).2 (shN_ok hgc).1)
  rintro _ h' _ ⟨rfl, hs, hk, hcase⟩
  have g6 : h' 421 = c421 g := (hk 421 (by decide)).trans h6
  change ((csF f n = -1 ∧ _) ∨ (∃ q, q ≤ 300 ∧ csF f n = nI q ∧ _)) at hcase
  rcases hcase with ⟨e, -, hr, ⟨a1, a2, a3, a4, g5⟩, G', g22, hG, ⟨H', Y', g25, hH', g26, hY'⟩, gB⟩ | ⟨q, hq, e, hr, ⟨a1, a2, a3, a4, g5⟩, g22, g25, g26, g27, g28, g29, g30⟩
  · exact ⟨rfl, hs, KD_M (by decide) hk, by unfold clR; rw [if_pos e]; exact hr, Or.inl ⟨e, G', hG, ⟨_, _, _, _, _, _, g5⟩, g6, g22, (by have e9q : shN G' (csN f n) = shN (csG f n) (csN f n) := shN_cg hG; rw [e9q]; exact gB), H', Y', g25, hH', g26, hY'⟩⟩
  · have e' : ¬ csF f n = -1 := by rw [e]; exact nI_nm1 (by omega)
    exact ⟨rfl, hs, KD_M (by decide) hk, by unfold clR; rw [if_neg e', e]; exact hr, Or.inr ⟨e', ⟨_, _, _, _, _, _, g5⟩, g6, g22, BR_f (g27.trans e7.symm) (g28.trans e8.symm) (g29.trans e9.symm) (g30.trans e0.symm) hB, H, Y, g25, hH, g26, hY⟩⟩
/-- what proof answers -/
def prR (f : Nat → Int32) (n c : Nat) (G : Nat → Int32) : Int32 := if stF f n c = -1 then nI (stM f n c G).1 else -10 - stF f n c
theorem k5_proof {xs : Nat → Int32} {L d : Nat} {h : ev_H} {n c m t : Nat} {wr : Int32} {s : Int64} {f g G : Nat → Int32} (hS : SH h) (hI : IC5 n c m t wr s f G h) (hX : TXR f g n) (hc : c ≤ 16) (hm : m ≤ 24) (hG : GV c m G) : EV xs L (d + 7) 0 0 M_X11_proof 434 h 0 [some (.ref 2), none] [] (fun sz' h' r => sz' = 434 ∧ SH h' ∧ KU h h' ∧ r = [.int (prR f n c G)] ∧ ((stF f n c = -1 ∧ IC5 0 c (stM f n c G).1 (stN f n c) (stM f n c G).2.1 s f (stM f n c G).2.2 h') ∨ (¬ stF f n c = -1 ∧ IC5 n c m t wr s f G h'))) := by
  obtain ⟨h2, ⟨p, q, k, w, h3⟩, h4, ⟨fk, fs, h13, hfk⟩, ⟨kn, bs, bz, h24, hnk⟩, h95, hL, hD, hH9, Y, hV, hW⟩ := id hI
  obtain ⟨y1, y2, y3, y4, h5⟩ := hS.o5
  obtain ⟨A, h9⟩ := hS.ia9
  obtain ⟨B, h10⟩ := hS.ia10
  obtain ⟨C, h11⟩ := hS.ia11
  refine EV.post ?_ (w_X11_proof hS hX hc hm h2 h3 h4 h5 h24 hL h9 h10 h11 h13 rfl rfl ⟨fun i hi => hG.1 i (by omega), hG.2.1, fun i h1 hi => absurd hi (by omega)⟩ (fun i hi => hV i (by omega)) hW)
  have ar := stL_arr f n c 24 0 0 A B C z0 z0 z0 (fun j hj => absurd hj (by omega)) (fun j hj => absurd hj (by omega)) (fun j hj => absurd hj (by omega))
  obtain ⟨i1, i2⟩ := stL_ind f n c 24 0 0 A B C z0 z0 z0
  rintro _ h' _ ⟨rfl, hs, hk, hcase⟩
  have g4 : h' 4 = c4 f := (hk 4 (by decide) (nSP_4) (fun i hi => by omega)).trans h4
  have g95 : h' 95 = .inr (9, [.long s]) := (hk 95 (by decide) (nSP_95) (fun i hi => by omega)).trans h95
  have gu : KU h h' := fun k hk2 => hk k (fun z => by simp only [List.mem_cons, List.not_mem_nil, or_false] at z; omega) (nSP_m hk2) (fun i hi => by omega)
  rw [i2] at ar
  have e : mkL c (stL f n c 24 0 0 A B C).2.2.1 (stL f n c 24 0 0 A B C).2.2.2.1 (stL f n c 24 0 0 A B C).2.2.2.2 (stL f n c 24 0 0 A B C).2.1 0 G = stM f n c G := by
    unfold stM
    rw [i2]
    exact mkL_cg _ 0 G (fun j hj => ar j (by omega))
  rw [e, i1, i2] at hcase
  change ((stF f n c = -1 ∧ _) ∨ (¬ stF f n c = -1 ∧ _)) at hcase
  rcases hcase with ⟨e, hr, g2, g3, gL, g13, g24, ⟨Y', hV', gW⟩, gQ⟩ | ⟨e, hr, g2, g3, gL, g13, g24, gW, gQ⟩
  · exact ⟨rfl, hs, gu, by unfold prR; rw [if_pos e]; exact hr, Or.inl ⟨e, g2, g3, g4, ⟨fk, fs, by rw [ltO_cg c (fun x hx => stM_lo f n c G x hx), ltE_cg c (fun x hx => stM_lo f n c G x hx)]; exact g13.trans h13, by rw [ltO_cg c (fun x hx => stM_lo f n c G x hx), ltE_cg c (fun x hx => stM_lo f n c G x hx), fwB_cg (fun x hx => stM_lo f n c G x hx) 256]; exact hfk⟩, ⟨kn, bs, bz, g24, by rw [ndA_cg (fun x hx => stM_lo f n c G x hx)]; exact hnk⟩, g95, gL, (by rw [shN_cg (fun q hq => stM_lo f n c G q hq)]; exact SDc_cg (fun q hq => (stM_lo f n c G q hq).symm) (SDc_f (fun q h1 h2 => gQ q h1 (by omega)) hD)), HDx_cg (fun q hq => (stM_lo f n c G q hq).symm) (HDx_f (fun q h1 h2 => gQ q (by omega) (by omega)) hH9), Y', hV', gW⟩⟩
  · exact ⟨rfl, hs, gu, by unfold prR; rw [if_neg e]; exact hr, Or.inr ⟨e, g2, g3, g4, ⟨_, _, g13.trans h13, hfk⟩, ⟨_, _, _, g24, hnk⟩, g95, gL, SDc_f (fun q h1 h2 => gQ q h1 (by omega)) hD, HDx_f (fun q h1 h2 => gQ q (by omega) (by omega)) hH9, Y, hV, gW⟩⟩
theorem j5_proof {xs : Nat → Int32} {L d : Nat} {h : ev_H} {n c m t : Nat} {wr : Int32} {s : Int64} {f g G : Nat → Int32} (hS : SH h) (hI : IM5 n c m t wr s g G h) (hX : TXR f g n) (hc : c ≤ 16) (hG : GV c m G) : EV xs L (d + 5) 0 0 M_X12_proof 434 h 0 [some (.ref 420), none, none] [] (fun sz' h' r => sz' = 434 ∧ SH h' ∧ KD h h' ∧ r = [.int (prR f n c G)] ∧ ((stF f n c = -1 ∧ stN f n c ≤ 24 ∧ IM5 0 c (stM f n c G).1 (stN f n c) (stM f n c G).2.1 s g (stM f n c G).2.2 h') ∨ (¬ stF f n c = -1 ∧ IM5 n c m t wr s g G h'))) := by
  obtain ⟨⟨th, nx, tk, pl, va, fa, h5⟩, h6, h22, hB, H, Y, h25, hH, h26, hY⟩ := id hI
  obtain ⟨D, h7⟩ := hS.li LI_424
  refine EV.post ?_ (z_X12_proof (A := z0) (B := z0) (C := z0) hS hX h5 h6 h22 h7 h25 h26 ⟨fun i hi => hG.1 i (by omega), hG.2.1, fun i h1 hi => absurd hi (by omega)⟩ (fun i hi => hH i (by omega)) (fun i hi => hY i (by omega)) hc)
  rintro _ h' _ ⟨rfl, hs, hk, hcase⟩
  have g6 : h' 421 = c421 g := (hk 421 (by decide)).trans h6
  change ((stF f n c = -1 ∧ _) ∨ (∃ q, q ≤ 300 ∧ stF f n c = nI q ∧ _)) at hcase
  rcases hcase with ⟨e, hN, hr, ⟨a1, a2, a3, a4, g5⟩, g22, H', Y', g25, hH', g26, hY'⟩ | ⟨q, hq, e, hr, ⟨a1, a2, a3, a4, g5⟩, g22, g25, g26⟩
  · exact ⟨rfl, hs, KD_M (by decide) hk, by unfold prR; rw [if_pos e]; exact hr, Or.inl ⟨e, hN, ⟨_, _, _, _, _, _, g5⟩, g6, g22, (by rw [shN_cg (fun q hq => stM_lo f n c G q hq)]; exact BR_cg (fun q hq => (stM_lo f n c G q hq).symm) (BR_f (hk 427 (by decide)) (hk 428 (by decide)) (hk 429 (by decide)) (hk 430 (by decide)) hB)), H', Y', g25, hH', g26, hY'⟩⟩
  · have e' : ¬ stF f n c = -1 := by rw [e]; exact nI_nm1 (by omega)
    exact ⟨rfl, hs, KD_M (by decide) hk, by unfold prR; rw [if_neg e', e]; exact hr, Or.inr ⟨e', ⟨_, _, _, _, _, _, g5⟩, g6, g22, BR_f (hk 427 (by decide)) (hk 428 (by decide)) (hk 429 (by decide)) (hk 430 (by decide)) hB, H, Y, g25, hH, g26, hY⟩⟩
