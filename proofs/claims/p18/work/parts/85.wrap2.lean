theorem lm_type {xs : Nat → Int32} {L d : Nat} {h : ev_H} {n c m : Nat} {g : Nat → Int32} {v : Int64} {x : Int32} (hS : SH h) (hI : IMs n c m g h) (hn : n ≤ 300) : EV xs L (d + 1) 0 0 M_X12_type 434 h 0 [some (.ref 420), some (.long v), none, some (.int x), none] [] (fun sz' h' r => sz' = 434 ∧ SH h' ∧ IMs (n + tyO x n) c m (mpb v (tyO x n) n g) h' ∧ KD h h' ∧ r = [.int (tyR x n)]) := by
  obtain ⟨⟨th, tr, nx, tk, pl, va, fa, ss, wg, h5⟩, h6⟩ := id hI
  refine EV.post ?_ ((s_X12_type hn h5 h6).sh hS)
  rintro _ h' _ ⟨⟨rfl, hcase⟩, -, hs, -⟩
  rcases hcase with ⟨hb, e, rfl⟩ | ⟨j, hj, rfl, ⟨hz, g3, g4, gk, rfl⟩ | ⟨hz, e, rfl⟩⟩
  · rw [(tyO_b x n hb).1, (tyO_b x n hb).2]
    refine ⟨rfl, hs, ⟨⟨_, _, _, _, _, _, _, _, _, by rw [e]; exact va_up_self _ _ _⟩, by rw [e, va_up_ne _ _ (by decide)]; exact h6⟩, fun k hk => by rw [e]; exact va_up_ne _ _ (by omega), rfl⟩
  · rw [((tyO_j hj).1 hz).1, ((tyO_j hj).1 hz).2]
    exact ⟨rfl, hs, ⟨⟨_, _, _, _, _, _, _, _, _, g3⟩, g4⟩, fun k hk => gk k (by omega) (by omega), rfl⟩
  · rw [((tyO_j hj).2 hz).1, ((tyO_j hj).2 hz).2]
    refine ⟨rfl, hs, ⟨⟨_, _, _, _, _, _, _, _, _, by rw [e]; exact va_up_self _ _ _⟩, by rw [e, va_up_ne _ _ (by decide)]; exact h6⟩, fun k hk => by rw [e]; exact va_up_ne _ _ (by omega), rfl⟩
theorem lc_clear {xs : Nat → Int32} {L d : Nat} {h : ev_H} {n c : Nat} {f : Nat → Int32} (hS : SH h) (hI : ICs n c f h) (hn : n ≤ 300) : EV xs L (d + 1) 0 0 M_X11_clear 434 h 0 [some (.ref 2), none] [] (fun sz' h' r => sz' = 434 ∧ SH h' ∧ ICs 0 c f h' ∧ KU h h' ∧ r = [.int (nI n)]) := by
  obtain ⟨⟨lc, sc, wr, el, h2⟩, ⟨p, s, k, w, h3⟩, h4, ⟨cc0, hcc, kn, bs, bz, h24⟩⟩ := id hI
  refine EV.post ?_ ((s_X11_clear hn h2 h3 h4).sh hS)
  rintro _ h' _ ⟨⟨rfl, e, rfl⟩, -, hs, -⟩
  refine ⟨rfl, hs, ⟨⟨_, _, _, _, by rw [e, va_up_ne _ _ (by decide)]; exact h2⟩, ⟨_, _, _, _, by rw [e]; exact va_up_self _ _ _⟩, by rw [e, va_up_ne _ _ (by decide)]; exact h4, ⟨cc0, hcc, kn, bs, bz, by rw [e, va_up_ne _ _ (by decide)]; exact h24⟩⟩, fun k hk => by rw [e]; exact va_up_ne _ _ (by omega), rfl⟩
theorem lm_clear {xs : Nat → Int32} {L d : Nat} {h : ev_H} {n c m : Nat} {g : Nat → Int32} (hS : SH h) (hI : IMs n c m g h) : EV xs L (d + 0) 0 0 M_X12_clear 434 h 0 [some (.ref 420), none] [] (fun sz' h' r => sz' = 434 ∧ SH h' ∧ IMs 0 c m g h' ∧ KD h h' ∧ r = [.int (nI n)]) := by
  obtain ⟨⟨th, tr, nx, tk, pl, va, fa, ss, wg, h5⟩, h6⟩ := id hI
  refine EV.post ?_ ((s_X12_clear h5).sh hS)
  rintro _ h' _ ⟨⟨rfl, e, rfl⟩, -, hs, -⟩
  exact ⟨rfl, hs, ⟨⟨_, _, _, _, _, _, _, _, _, by rw [e]; exact va_up_self _ _ _⟩, by rw [e, va_up_ne _ _ (by decide)]; exact h6⟩, fun k hk => by rw [e]; exact va_up_ne _ _ (by omega), rfl⟩
theorem csL_ind (f : Nat → Int32) (n : Nat) : ∀ (r p i : Nat) (A B C A' B' C' : Nat → Int32), (csL f n r p i A B C).1 = (csL f n r p i A' B' C').1 ∧ (csL f n r p i A B C).2.1 = (csL f n r p i A' B' C').2.1
  | 0, p, i, A, B, C, A', B', C' => ⟨rfl, rfl⟩
  | r + 1, p, i, A, B, C, A', B', C' => by
    rw [csL, csL]
    split
    · exact ⟨rfl, rfl⟩
    · split
      · split
        · exact csL_ind f n r _ _ _ _ _ _ _ _
        · exact ⟨rfl, rfl⟩
      · exact ⟨rfl, rfl⟩
theorem stL_ind (f : Nat → Int32) (n c : Nat) : ∀ (r p i : Nat) (A B C A' B' C' : Nat → Int32), (stL f n c r p i A B C).1 = (stL f n c r p i A' B' C').1 ∧ (stL f n c r p i A B C).2.1 = (stL f n c r p i A' B' C').2.1
  | 0, p, i, A, B, C, A', B', C' => ⟨rfl, rfl⟩
  | r + 1, p, i, A, B, C, A', B', C' => by
    rw [stL, stL]
    split
    · exact ⟨rfl, rfl⟩
    · split
      · exact stL_ind f n c r _ _ _ _ _ _ _ _
      · exact ⟨rfl, rfl⟩
/-- the fault of a text of CLAUSES (-1: none), and how many there are; of STEPS -/
def csF (f : Nat → Int32) (n : Nat) : Int32 := (csL f n 16 0 0 (fun _ => 0) (fun _ => 0) (fun _ => 0)).1
def csN (f : Nat → Int32) (n : Nat) : Nat := (csL f n 16 0 0 (fun _ => 0) (fun _ => 0) (fun _ => 0)).2.1
def stF (f : Nat → Int32) (n c : Nat) : Int32 := (stL f n c 24 0 0 (fun _ => 0) (fun _ => 0) (fun _ => 0)).1
def clR (f : Nat → Int32) (n : Nat) : Int32 := if csF f n = -1 then nI (csN f n) else -10 - csF f n
def clN (f : Nat → Int32) (n : Nat) : Nat := if csF f n = -1 then 0 else n
def clC (f : Nat → Int32) (n c : Nat) : Nat := if csF f n = -1 then csN f n else c
def prN (f : Nat → Int32) (n c : Nat) : Nat := if stF f n c = -1 then 0 else n
theorem csN_le (f : Nat → Int32) (n : Nat) : csN f n ≤ 16 := csL_le f n 16 0 0 _ _ _
theorem clC_le {f : Nat → Int32} {n c : Nat} (hc : c ≤ 16) : clC f n c ≤ 16 := by
  unfold clC
  split
  · exact csN_le f n
  · exact hc
theorem lc_clauses {xs : Nat → Int32} {L d : Nat} {h : ev_H} {n c : Nat} {f g : Nat → Int32} (hS : SH h) (hI : ICs n c f h) (hX : TXR f g n) : EV xs L (d + 7) 0 0 M_X11_clauses 434 h 0 [some (.ref 2), none] [] (fun sz' h' r => sz' = 434 ∧ SH h' ∧ ICs (clN f n) (clC f n c) f h' ∧ KU h h' ∧ r = [.int (clR f n)]) := by
  obtain ⟨⟨lc, sc, wr, el, h2⟩, ⟨p, s, k, w, h3⟩, h4, ⟨cc0, hcc, kn, bs, bz, h24⟩⟩ := id hI
  obtain ⟨y1, y2, y3, y4, h5⟩ := hS.o5
  obtain ⟨A, h6⟩ := hS.ia6
  obtain ⟨B, h7⟩ := hS.ia7
  obtain ⟨C, h8⟩ := hS.ia8
  refine EV.post ?_ (s_X11_clauses hS hX h2 h3 h4 h5 h6 h7 h8 h24)
  obtain ⟨i1, i2⟩ := csL_ind f n 16 0 0 A B C (fun _ => 0) (fun _ => 0) (fun _ => 0)
  rintro _ h' _ ⟨rfl, hs, hk, hcase⟩
  have g4 : h' 4 = c4 f := (hk 4 (by decide) (by decide)).trans h4
  rw [i1, i2] at hcase
  change ((csF f n = -1 ∧ _) ∨ (¬ csF f n = -1 ∧ _)) at hcase
  rcases hcase with ⟨e, hr, g2, g3, g24⟩ | ⟨e, hr, g2, g3, g24⟩
  · unfold clN clC clR
    rw [if_pos e, if_pos e, if_pos e]
    exact ⟨rfl, hs, ⟨g2, g3, g4, g24⟩, KU_S hk, hr⟩
  · unfold clN clC clR
    rw [if_neg e, if_neg e, if_neg e]
    exact ⟨rfl, hs, ⟨⟨_, _, _, _, g2⟩, g3, g4, ⟨_, hcc, _, _, _, g24⟩⟩, KU_S hk, hr⟩
theorem lm_clauses {xs : Nat → Int32} {L d : Nat} {h : ev_H} {n c m : Nat} {f g : Nat → Int32} (hS : SH h) (hI : IMs n c m g h) (hX : TXR f g n) (hm : m ≤ 24) : EV xs L (d + 5) 0 0 M_X12_clauses 434 h 0 [some (.ref 420), none, none] [] (fun sz' h' r => sz' = 434 ∧ SH h' ∧ (∃ m', m' ≤ 24 ∧ IMs (clN f n) (clC f n c) m' g h') ∧ KD h h' ∧ r = [.int (clR f n)]) := by
  obtain ⟨⟨th, tr, nx, tk, pl, va, fa, ss, wg, h5⟩, h6⟩ := id hI
  obtain ⟨D, h7⟩ := hS.li LI_423
  refine EV.post ?_ (s_X12_clauses (A := fun _ => 0) (B := fun _ => 0) (C := fun _ => 0) hS hX h5 h6 h7)
  rintro _ h' _ ⟨rfl, hs, hk, hcase⟩
  have g6 : h' 421 = c421 g := (hk 421 (by decide)).trans h6
  change ((csF f n = -1 ∧ _) ∨ (∃ q, q ≤ 300 ∧ csF f n = nI q ∧ _)) at hcase
  rcases hcase with ⟨e, -, hr, a1, a2, a3, a4, g5⟩ | ⟨q, hq, e, hr, a1, a2, a3, a4, g5⟩
  · unfold clN clC clR
    rw [if_pos e, if_pos e, if_pos e]
    exact ⟨rfl, hs, ⟨0, by decide, ⟨_, _, _, _, _, _, _, _, _, g5⟩, g6⟩, KD_M (by decide) hk, hr⟩
  · have e' : ¬ csF f n = -1 := by rw [e]; exact nI_nm1 (by omega)
    unfold clN clC clR
    rw [if_neg e', if_neg e', if_neg e', e]
    exact ⟨rfl, hs, ⟨m, hm, ⟨_, _, _, _, _, _, _, _, _, g5⟩, g6⟩, KD_M (by decide) hk, hr⟩
theorem lc_proof {xs : Nat → Int32} {L d : Nat} {h : ev_H} {n c : Nat} {f g : Nat → Int32} (hS : SH h) (hI : ICs n c f h) (hX : TXR f g n) (hc : c ≤ 16) : EV xs L (d + 7) 0 0 M_X11_proof 434 h 0 [some (.ref 2), none] [] (fun sz' h' r => sz' = 434 ∧ SH h' ∧ ICs (prN f n c) c f h' ∧ KU h h' ∧ ∃ x : Int32, r = [.int x]) := by
  obtain ⟨⟨lc, sc, wr, el, h2⟩, ⟨p, s, k, w, h3⟩, h4, ⟨cc0, hcc, kn, bs, bz, h24⟩⟩ := id hI
  obtain ⟨y1, y2, y3, y4, h5⟩ := hS.o5
  obtain ⟨A, h9⟩ := hS.ia9
  obtain ⟨B, h10⟩ := hS.ia10
  obtain ⟨C, h11⟩ := hS.ia11
  refine EV.post ?_ (s_X11_proof hS hX hc h2 h3 h4 h5 h9 h10 h11 h24)
  obtain ⟨i1, i2⟩ := stL_ind f n c 24 0 0 A B C (fun _ => 0) (fun _ => 0) (fun _ => 0)
  rintro _ h' _ ⟨rfl, hs, hk, hcase⟩
  have g4 : h' 4 = c4 f := (hk 4 (by decide) (by decide)).trans h4
  rw [i1] at hcase
  change ((stF f n c = -1 ∧ _) ∨ (¬ stF f n c = -1 ∧ _)) at hcase
  rcases hcase with ⟨e, hr, g2, g3, g24⟩ | ⟨e, hr, g2, g3, g24⟩
  · unfold prN
    rw [if_pos e]
    exact ⟨rfl, hs, ⟨g2, g3, g4, ⟨_, hcc, _, _, _, g24⟩⟩, KU_S hk, hr⟩
  · unfold prN
    rw [if_neg e]
    exact ⟨rfl, hs, ⟨⟨_, _, _, _, g2⟩, g3, g4, ⟨_, hcc, _, _, _, g24⟩⟩, KU_S hk, hr⟩
theorem lm_proof {xs : Nat → Int32} {L d : Nat} {h : ev_H} {n c m : Nat} {f g : Nat → Int32} (hS : SH h) (hI : IMs n c m g h) (hX : TXR f g n) (hc : c ≤ 16) (hm : m ≤ 24) : EV xs L (d + 5) 0 0 M_X12_proof 434 h 0 [some (.ref 420), none, none] [] (fun sz' h' r => sz' = 434 ∧ SH h' ∧ (∃ m', m' ≤ 24 ∧ IMs (prN f n c) c m' g h') ∧ KD h h' ∧ ∃ x : Int32, r = [.int x]) := by
  obtain ⟨⟨th, tr, nx, tk, pl, va, fa, ss, wg, h5⟩, h6⟩ := id hI
  obtain ⟨E, h7⟩ := hS.li LI_424
  refine EV.post ?_ (s_X12_proof (A := fun _ => 0) (B := fun _ => 0) (C := fun _ => 0) hS hX h5 h6 h7 hc)
  rintro _ h' _ ⟨rfl, hs, hk, hcase⟩
  have g6 : h' 421 = c421 g := (hk 421 (by decide)).trans h6
  change ((stF f n c = -1 ∧ _) ∨ (∃ q, q ≤ 300 ∧ stF f n c = nI q ∧ _)) at hcase
  rcases hcase with ⟨e, -, m', hm', hr, a1, a2, a3, a4, a5, g5⟩ | ⟨q, hq, e, hr, a1, a2, a3, a4, g5⟩
  · unfold prN
    rw [if_pos e]
    exact ⟨rfl, hs, ⟨m', hm', ⟨_, _, _, _, _, _, _, _, _, g5⟩, g6⟩, KD_M (by decide) hk, _, hr⟩
  · have e' : ¬ stF f n c = -1 := by rw [e]; exact nI_nm1 (by omega)
    unfold prN
    rw [if_neg e']
    exact ⟨rfl, hs, ⟨m, hm, ⟨_, _, _, _, _, _, _, _, _, g5⟩, g6⟩, KD_M (by decide) hk, _, hr⟩
theorem TXR_clN {f g : Nat → Int32} {n : Nat} (h : TXR f g n) : TXR f g (clN f n) := by
  unfold clN
  split
  · exact ⟨by omega, fun q hq => absurd hq (by omega)⟩
  · exact h
theorem TXR_prN {f g : Nat → Int32} {n c : Nat} (h : TXR f g n) : TXR f g (prN f n c) := by
  unfold prN
  split
  · exact ⟨by omega, fun q hq => absurd hq (by omega)⟩
  · exact h
theorem TXR_0 (f g : Nat → Int32) : TXR f g 0 := ⟨by omega, fun q hq => absurd hq (by omega)⟩
