theorem k5_clauses {xs : Nat → Int32} {L d : Nat} {h : ev_H} {n c m t : Nat} {wr : Int32} {s : Int64} {f g G : Nat → Int32} (hS : SH h) (hI : IC5 n c m t wr s f G h) (hX : TXR f g n) (hc : c ≤ 16) (hm : m ≤ 24) : EV xs L (d + 7) 0 0 M_X11_clauses 434 h 0 [some (.ref 2), none] [] (fun sz' h' r => sz' = 434 ∧ SH h' ∧ KU h h' ∧ r = [.int (clR f n)] ∧ ((csF f n = -1 ∧ IC5 0 (csN f n) 0 0 (-9) s f (csG f n) h') ∨ (¬ csF f n = -1 ∧ IC5 n c m t wr s f G h'))) := by
  obtain ⟨h2, ⟨p, q, k, w, h3⟩, h4, ⟨fk, fs, h13⟩, ⟨kn, bs, bz, h24⟩, h95, hL⟩ := id hI
  obtain ⟨y1, y2, y3, y4, h5⟩ := hS.o5
  obtain ⟨A, h6⟩ := hS.ia6
  obtain ⟨B, h7⟩ := hS.ia7
  obtain ⟨C, h8⟩ := hS.ia8
  refine EV.post ?_ (x_X11_clauses hS hX hc hm h2 h3 h4 h5 h24 hL h6 h7 h8)
  have ar := csL_arr f n 16 0 0 A B C z0 z0 z0 (fun j hj => absurd hj (by omega)) (fun j hj => absurd hj (by omega)) (fun j hj => absurd hj (by omega))
  obtain ⟨i1, i2⟩ := csL_ind f n 16 0 0 A B C z0 z0 z0
  rintro _ h' _ ⟨rfl, hs, hk, hcase⟩
  have g4 : h' 4 = c4 f := (hk 4 (by decide) (nSP_4) (fun i hi => by omega)).trans h4
  have g95 : h' 95 = .inr (9, [.long s]) := (hk 95 (by decide) (nSP_95) (fun i hi => by omega)).trans h95
  have gu : KU h h' := fun k hk2 => hk k (fun z => by simp only [List.mem_cons, List.not_mem_nil, or_false] at z; omega) (nSP_m hk2) (fun i hi => by omega)
  rw [i2] at ar
  rw [i1, i2] at hcase
  change ((csF f n = -1 ∧ _) ∨ (¬ csF f n = -1 ∧ _)) at hcase
  rcases hcase with ⟨e, hr, g2, g3, gL, ⟨_, g13⟩, ⟨_, _, g24⟩⟩ | ⟨e, hr, g2, g3, gL, g13, g24⟩
  · refine ⟨rfl, hs, gu, by unfold clR; rw [if_pos e]; exact hr, Or.inl ⟨e, ?_⟩⟩
    refine IC5.cg (fun x hx => clG_cg ar x hx) ?_
    exact ⟨g2, g3, g4, ⟨_, _, g13⟩, ⟨_, _, _, g24⟩, g95, gL⟩
  · exact ⟨rfl, hs, gu, by unfold clR; rw [if_neg e]; exact hr, Or.inr ⟨e, g2, g3, g4, ⟨_, _, g13.trans h13⟩, ⟨_, _, _, g24⟩, g95, gL⟩⟩
theorem j5_clauses {xs : Nat → Int32} {L d : Nat} {h : ev_H} {n c m t : Nat} {wr : Int32} {s : Int64} {f g G : Nat → Int32} (hS : SH h) (hI : IM5 n c m t wr s g G h) (hX : TXR f g n) : EV xs L (d + 5) 0 0 M_X12_clauses 434 h 0 [some (.ref 420), none, none] [] (fun sz' h' r => sz' = 434 ∧ SH h' ∧ KD h h' ∧ r = [.int (clR f n)] ∧ ((csF f n = -1 ∧ ∃ G', (∀ x, x < 6 * csN f n → G' x = csG f n x) ∧ IM5 0 (csN f n) 0 0 (-9) s g G' h') ∨ (¬ csF f n = -1 ∧ IM5 n c m t wr s g G h'))) := by
  obtain ⟨⟨th, nx, tk, pl, va, fa, h5⟩, h6, h22⟩ := id hI
  obtain ⟨D, h7⟩ := hS.li LI_423
  refine EV.post ?_ (y_X12_clauses (A := z0) (B := z0) (C := z0) hS hX h5 h6 h22 h7)
  rintro _ h' _ ⟨rfl, hs, hk, hcase⟩
  have g6 : h' 421 = c421 g := (hk 421 (by decide)).trans h6
  change ((csF f n = -1 ∧ _) ∨ (∃ q, q ≤ 300 ∧ csF f n = nI q ∧ _)) at hcase
  rcases hcase with ⟨e, -, hr, ⟨a1, a2, a3, a4, g5⟩, G', g22, hG⟩ | ⟨q, hq, e, hr, ⟨a1, a2, a3, a4, g5⟩, g22⟩
  · exact ⟨rfl, hs, KD_M (by decide) hk, by unfold clR; rw [if_pos e]; exact hr, Or.inl ⟨e, G', hG, ⟨_, _, _, _, _, _, g5⟩, g6, g22⟩⟩
  · have e' : ¬ csF f n = -1 := by rw [e]; exact nI_nm1 (by omega)
    exact ⟨rfl, hs, KD_M (by decide) hk, by unfold clR; rw [if_neg e', e]; exact hr, Or.inr ⟨e', ⟨_, _, _, _, _, _, g5⟩, g6, g22⟩⟩
/-- what proof answers -/
def prR (f : Nat → Int32) (n c : Nat) (G : Nat → Int32) : Int32 := if stF f n c = -1 then nI (stM f n c G).1 else -10 - stF f n c
theorem k5_proof {xs : Nat → Int32} {L d : Nat} {h : ev_H} {n c m t : Nat} {wr : Int32} {s : Int64} {f g G : Nat → Int32} (hS : SH h) (hI : IC5 n c m t wr s f G h) (hX : TXR f g n) (hc : c ≤ 16) (hm : m ≤ 24) : EV xs L (d + 7) 0 0 M_X11_proof 434 h 0 [some (.ref 2), none] [] (fun sz' h' r => sz' = 434 ∧ SH h' ∧ KU h h' ∧ r = [.int (prR f n c G)] ∧ ((stF f n c = -1 ∧ IC5 0 c (stM f n c G).1 (stN f n c) (stM f n c G).2.1 s f (stM f n c G).2.2 h') ∨ (¬ stF f n c = -1 ∧ IC5 n c m t wr s f G h'))) := by
  obtain ⟨h2, ⟨p, q, k, w, h3⟩, h4, ⟨fk, fs, h13⟩, ⟨kn, bs, bz, h24⟩, h95, hL⟩ := id hI
  obtain ⟨y1, y2, y3, y4, h5⟩ := hS.o5
  obtain ⟨A, h9⟩ := hS.ia9
  obtain ⟨B, h10⟩ := hS.ia10
  obtain ⟨C, h11⟩ := hS.ia11
  refine EV.post ?_ (x_X11_proof hS hX hc hm h2 h3 h4 h5 h24 hL h9 h10 h11)
  have ar := stL_arr f n c 24 0 0 A B C z0 z0 z0 (fun j hj => absurd hj (by omega)) (fun j hj => absurd hj (by omega)) (fun j hj => absurd hj (by omega))
  obtain ⟨i1, i2⟩ := stL_ind f n c 24 0 0 A B C z0 z0 z0
  rintro _ h' _ ⟨rfl, hs, hk, hcase⟩
  have g4 : h' 4 = c4 f := (hk 4 (by decide) (nSP_4) (fun i hi => by omega)).trans h4
  have g95 : h' 95 = .inr (9, [.long s]) := (hk 95 (by decide) (nSP_95) (fun i hi => by omega)).trans h95
  have gu : KU h h' := fun k hk2 => hk k (fun z => by simp only [List.mem_cons, List.not_mem_nil, or_false] at z; omega) (nSP_m hk2) (fun i hi => by omega)
  rw [i2] at ar
  have e : mkL c (stL f n c 24 0 0 A B C).2.2.1 (stL f n c 24 0 0 A B C).2.2.2.1 (stL f n c 24 0 0 A B C).2.2.2.2 (stL f n c 24 0 0 A B C).2.1 0 G = stM f n c G := by
    unfold stM
    rw [i2]
    exact mkL_cg _ 0 G (fun j hj => ar j (by omega))
  rw [e, i1, i2] at hcase
  change ((stF f n c = -1 ∧ _) ∨ (¬ stF f n c = -1 ∧ _)) at hcase
  rcases hcase with ⟨e, hr, g2, g3, gL, g13, g24⟩ | ⟨e, hr, g2, g3, gL, g13, g24⟩
  · exact ⟨rfl, hs, gu, by unfold prR; rw [if_pos e]; exact hr, Or.inl ⟨e, g2, g3, g4, ⟨_, _, by rw [ltO_cg c (fun x hx => stM_lo f n c G x hx), ltE_cg c (fun x hx => stM_lo f n c G x hx)]; exact g13.trans h13⟩, ⟨_, _, _, g24⟩, g95, gL⟩⟩
  · exact ⟨rfl, hs, gu, by unfold prR; rw [if_neg e]; exact hr, Or.inr ⟨e, g2, g3, g4, ⟨_, _, g13.trans h13⟩, ⟨_, _, _, g24⟩, g95, gL⟩⟩
theorem j5_proof {xs : Nat → Int32} {L d : Nat} {h : ev_H} {n c m t : Nat} {wr : Int32} {s : Int64} {f g G : Nat → Int32} (hS : SH h) (hI : IM5 n c m t wr s g G h) (hX : TXR f g n) (hc : c ≤ 16) : EV xs L (d + 5) 0 0 M_X12_proof 434 h 0 [some (.ref 420), none, none] [] (fun sz' h' r => sz' = 434 ∧ SH h' ∧ KD h h' ∧ r = [.int (prR f n c G)] ∧ ((stF f n c = -1 ∧ stN f n c ≤ 24 ∧ IM5 0 c (stM f n c G).1 (stN f n c) (stM f n c G).2.1 s g (stM f n c G).2.2 h') ∨ (¬ stF f n c = -1 ∧ IM5 n c m t wr s g G h'))) := by
  obtain ⟨⟨th, nx, tk, pl, va, fa, h5⟩, h6, h22⟩ := id hI
  obtain ⟨D, h7⟩ := hS.li LI_424
  refine EV.post ?_ (y_X12_proof (A := z0) (B := z0) (C := z0) hS hX h5 h6 h22 h7 hc)
  rintro _ h' _ ⟨rfl, hs, hk, hcase⟩
  have g6 : h' 421 = c421 g := (hk 421 (by decide)).trans h6
  change ((stF f n c = -1 ∧ _) ∨ (∃ q, q ≤ 300 ∧ stF f n c = nI q ∧ _)) at hcase
  rcases hcase with ⟨e, hN, hr, ⟨a1, a2, a3, a4, g5⟩, g22⟩ | ⟨q, hq, e, hr, ⟨a1, a2, a3, a4, g5⟩, g22⟩
  · exact ⟨rfl, hs, KD_M (by decide) hk, by unfold prR; rw [if_pos e]; exact hr, Or.inl ⟨e, hN, ⟨_, _, _, _, _, _, g5⟩, g6, g22⟩⟩
  · have e' : ¬ stF f n c = -1 := by rw [e]; exact nI_nm1 (by omega)
    exact ⟨rfl, hs, KD_M (by decide) hk, by unfold prR; rw [if_neg e', e]; exact hr, Or.inr ⟨e', ⟨_, _, _, _, _, _, g5⟩, g6, g22⟩⟩
