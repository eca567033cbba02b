/-- the class's cells that the law's course rests on -/
def ICs (n c : Nat) (f : Nat → Int32) (h : ev_H) : Prop := (∃ lc sc wr el, h 2 = c2 (nI c) lc sc wr el) ∧ (∃ p s k v, h 3 = c3 (nI n) p s k v) ∧ h 4 = c4 f ∧ (∃ cc0 : Int32, cc0.toInt ≤ 16 ∧ ∃ kn bs bz, h 24 = c24 cc0 kn bs bz)
/-- the reference's -/
def IMs (n c m : Nat) (g : Nat → Int32) (h : ev_H) : Prop := (∃ th tr nx tk pl va fa ss wg, h 420 = c420 th tr (nI n) nx tk pl va fa (nI c) (nI m) ss wg) ∧ h 421 = c421 g
def KU (h h' : ev_H) : Prop := ∀ k, 420 ≤ k → h' k = h k
def KD (h h' : ev_H) : Prop := ∀ k, k < 420 → h' k = h k
theorem IMs.ku {n c m : Nat} {g : Nat → Int32} {h h' : ev_H} (hI : IMs n c m g h) (hk : KU h h') : IMs n c m g h' := by
  obtain ⟨⟨th, tr, nx, tk, pl, va, fa, ss, wg, h5⟩, h6⟩ := hI
  exact ⟨⟨th, tr, nx, tk, pl, va, fa, ss, wg, (hk 420 (by decide)).trans h5⟩, (hk 421 (by decide)).trans h6⟩
theorem ICs.kd {n c : Nat} {f : Nat → Int32} {h h' : ev_H} (hI : ICs n c f h) (hk : KD h h') : ICs n c f h' := by
  obtain ⟨⟨lc, sc, wr, el, h2⟩, ⟨p, s, k, v, h3⟩, h4, ⟨cc0, hcc, kn, bs, bz, h24⟩⟩ := hI
  exact ⟨⟨lc, sc, wr, el, (hk 2 (by decide)).trans h2⟩, ⟨p, s, k, v, (hk 3 (by decide)).trans h3⟩, (hk 4 (by decide)).trans h4, ⟨cc0, hcc, kn, bs, bz, (hk 24 (by decide)).trans h24⟩⟩
theorem KU_B {h h' : ev_H} (hk : KB h h') : KU h h' := fun k hk2 => hk k (RB_n (by omega) (by omega))
theorem KU_Q {h h' : ev_H} (hk : KQ h h') : KU h h' := fun k hk2 => hk k (by omega) (by unfold RCb; simp; omega)
theorem KU_S {h h' : ev_H} (hk : KS h h') : KU h h' := fun k hk2 => hk k (by simp; omega) (by unfold RCb; simp; omega)
theorem ICs.kb {n c : Nat} {f : Nat → Int32} {h h' : ev_H} (hI : ICs n c f h) (hk : KB h h') : ICs n c f h' := by
  obtain ⟨⟨lc, sc, wr, el, h2⟩, ⟨p, s, k, v, h3⟩, h4, ⟨cc0, hcc, kn, bs, bz, h24⟩⟩ := hI
  exact ⟨⟨lc, sc, wr, el, (hk 2 (RB_n (by decide) (by decide))).trans h2⟩, ⟨p, s, k, v, (hk 3 (RB_n (by decide) (by decide))).trans h3⟩, (hk 4 (RB_n (by decide) (by decide))).trans h4, ⟨cc0, hcc, kn, bs, bz, (hk 24 (RB_n (by decide) (by decide))).trans h24⟩⟩
theorem KD_M {Mod : List Nat} {h h' : ev_H} (hs : ∀ k ∈ Mod, 420 ≤ k) (hk : KM Mod h h') : KD h h' := fun k hk2 => hk k (fun e => absurd (hs k e) (by omega))
theorem ICs.o2 {n c : Nat} {f : Nat → Int32} {h : ev_H} (hI : ICs n c f h) : ∃ fs, h 2 = .inr (11, fs) := by
  obtain ⟨⟨lc, sc, wr, el, h2⟩, -⟩ := hI
  exact ⟨_, h2⟩
theorem IMs.o5 {n c m : Nat} {g : Nat → Int32} {h : ev_H} (hI : IMs n c m g h) : ∃ fs, h 420 = .inr (12, fs) := by
  obtain ⟨⟨th, tr, nx, tk, pl, va, fa, ss, wg, h5⟩, -⟩ := hI
  exact ⟨_, h5⟩
theorem lc_wrong {xs : Nat → Int32} {L d : Nat} {h : ev_H} {n c : Nat} {f : Nat → Int32} (hS : SH h) (hI : ICs n c f h) (hc : c ≤ 16) : EV xs L (d + 0) 0 0 M_X11_wrong 434 h 0 [some (.ref 2)] [] (fun sz' h' r => sz' = 434 ∧ SH h' ∧ ICs n c f h' ∧ KU h h' ∧ ∃ x : Int32, r = [.int x]) := by
  obtain ⟨⟨lc, sc, wr, el, h2⟩, ⟨p, s, k, v, h3⟩, h4, ⟨cc0, hcc, kn, bs, bz, h24⟩⟩ := id hI
  refine EV.post ?_ ((s_X11_wrong hS h2).sh hS)
  rintro _ h' _ ⟨⟨rfl, hk⟩, rfl, hs, -⟩
  exact ⟨rfl, hs, hI.kb hk, KU_B hk, _, rfl⟩
theorem lm_wrong {xs : Nat → Int32} {L d : Nat} {h : ev_H} {n c m : Nat} {g : Nat → Int32} (hS : SH h) (hI : IMs n c m g h) (hc : c ≤ 16) (hm : m ≤ 24) : EV xs L (d + 0) 0 0 M_X12_wrong 434 h 0 [some (.ref 420)] [] (fun sz' h' r => sz' = 434 ∧ SH h' ∧ IMs n c m g h' ∧ KD h h' ∧ ∃ x : Int32, r = [.int x]) := by
  obtain ⟨⟨th, tr, nx, tk, pl, va, fa, ss, wg, h5⟩, h6⟩ := id hI
  refine EV.post ?_ (s_X12_wrong hS h5 hc hm)
  rintro _ h' _ ⟨rfl, hs, hk, hr, tr', g5⟩
  exact ⟨rfl, hs, ⟨⟨_, _, _, _, _, _, _, _, _, g5⟩, (hk 421 (by decide)).trans h6⟩, KD_M (by decide) hk, hr⟩
theorem lc_end {xs : Nat → Int32} {L d : Nat} {h : ev_H} {n c : Nat} {f : Nat → Int32} (hS : SH h) (hI : ICs n c f h) (hc : c ≤ 16) : EV xs L (d + 0) 0 0 M_X11_end 434 h 0 [some (.ref 2)] [] (fun sz' h' r => sz' = 434 ∧ SH h' ∧ ICs n c f h' ∧ KU h h' ∧ ∃ x : Int32, r = [.int x]) := by
  obtain ⟨⟨lc, sc, wr, el, h2⟩, ⟨p, s, k, v, h3⟩, h4, ⟨cc0, hcc, kn, bs, bz, h24⟩⟩ := id hI
  refine EV.post ?_ ((s_X11_end hS h2).sh hS)
  rintro _ h' _ ⟨⟨rfl, hk⟩, rfl, hs, -⟩
  exact ⟨rfl, hs, hI.kb hk, KU_B hk, _, rfl⟩
theorem lm_end {xs : Nat → Int32} {L d : Nat} {h : ev_H} {n c m : Nat} {g : Nat → Int32} (hS : SH h) (hI : IMs n c m g h) (hc : c ≤ 16) (hm : m ≤ 24) : EV xs L (d + 1) 0 0 M_X12_end 434 h 0 [some (.ref 420)] [] (fun sz' h' r => sz' = 434 ∧ SH h' ∧ IMs n c m g h' ∧ KD h h' ∧ ∃ x : Int32, r = [.int x]) := by
  obtain ⟨⟨th, tr, nx, tk, pl, va, fa, ss, wg, h5⟩, h6⟩ := id hI
  refine EV.post ?_ (s_X12_end hS h5 hc hm)
  rintro _ h' _ ⟨rfl, hs, hk, hr, tr', g5⟩
  exact ⟨rfl, hs, ⟨⟨_, _, _, _, _, _, _, _, _, g5⟩, (hk 421 (by decide)).trans h6⟩, KD_M (by decide) hk, hr⟩
theorem lc_line {xs : Nat → Int32} {L d : Nat} {h : ev_H} {n c : Nat} {f : Nat → Int32} {x y : Int32} (hS : SH h) (hI : ICs n c f h) (hc : c ≤ 16) : EV xs L (d + 2) 0 0 M_X11_line 434 h 0 [some (.ref 2), some (.int x), some (.int y), none] [] (fun sz' h' r => sz' = 434 ∧ SH h' ∧ ICs n c f h' ∧ KU h h' ∧ ∃ x : Int32, r = [.int x]) := by
  obtain ⟨⟨lc, sc, wr, el, h2⟩, ⟨p, s, k, v, h3⟩, h4, ⟨cc0, hcc, kn, bs, bz, h24⟩⟩ := id hI
  refine EV.post ?_ ((s_X11_line hS h2).sh hS)
  rintro _ h' _ ⟨⟨hr, hk⟩, rfl, hs, -⟩
  exact ⟨rfl, hs, hI.kb hk, KU_B hk, hr⟩
theorem lm_line {xs : Nat → Int32} {L d : Nat} {h : ev_H} {n c m : Nat} {g : Nat → Int32} {x y : Int32} (hS : SH h) (hI : IMs n c m g h) (hc : c ≤ 16) (hm : m ≤ 24) : EV xs L (d + 2) 0 0 M_X12_line 434 h 0 [some (.ref 420), some (.int x), some (.int y)] [] (fun sz' h' r => sz' = 434 ∧ SH h' ∧ IMs n c m g h' ∧ KD h h' ∧ ∃ x : Int32, r = [.int x]) := by
  obtain ⟨⟨th, tr, nx, tk, pl, va, fa, ss, wg, h5⟩, h6⟩ := id hI
  refine EV.post ?_ (s_X12_line hS h5 hc hm)
  rintro _ h' _ ⟨rfl, hs, hk, hr, tr', g5⟩
  exact ⟨rfl, hs, ⟨⟨_, _, _, _, _, _, _, _, _, g5⟩, (hk 421 (by decide)).trans h6⟩, KD_M (by decide) hk, hr⟩
theorem lc_side {xs : Nat → Int32} {L d : Nat} {h : ev_H} {n c : Nat} {f : Nat → Int32} {x : Int32} (hS : SH h) (hI : ICs n c f h) (hc : c ≤ 16) : EV xs L (d + 1) 0 0 M_X11_side 434 h 0 [some (.ref 2), some (.int x)] [] (fun sz' h' r => sz' = 434 ∧ SH h' ∧ ICs n c f h' ∧ KU h h' ∧ ∃ x : Int32, r = [.int x]) := by
  obtain ⟨⟨lc, sc, wr, el, h2⟩, ⟨p, s, k, v, h3⟩, h4, ⟨cc0, hcc, kn, bs, bz, h24⟩⟩ := id hI
  refine EV.post ?_ ((s_X11_side hS h2).sh hS)
  rintro _ h' _ ⟨⟨hr, hk⟩, rfl, hs, -⟩
  exact ⟨rfl, hs, hI.kb hk, KU_B hk, hr⟩
theorem lm_side {xs : Nat → Int32} {L d : Nat} {h : ev_H} {n c m : Nat} {g : Nat → Int32} {x : Int32} (hS : SH h) (hI : IMs n c m g h) (hc : c ≤ 16) (hm : m ≤ 24) : EV xs L (d + 1) 0 0 M_X12_side 434 h 0 [some (.ref 420), some (.int x)] [] (fun sz' h' r => sz' = 434 ∧ SH h' ∧ IMs n c m g h' ∧ KD h h' ∧ ∃ x : Int32, r = [.int x]) := by
  obtain ⟨⟨th, tr, nx, tk, pl, va, fa, ss, wg, h5⟩, h6⟩ := id hI
  refine EV.post ?_ (s_X12_side hS h5 hc hm)
  rintro _ h' _ ⟨rfl, hs, hk, hr, tr', g5⟩
  exact ⟨rfl, hs, ⟨⟨_, _, _, _, _, _, _, _, _, g5⟩, (hk 421 (by decide)).trans h6⟩, KD_M (by decide) hk, hr⟩
theorem lc_holds {xs : Nat → Int32} {L d : Nat} {h : ev_H} {n c : Nat} {f : Nat → Int32} {x y : Int32} (hS : SH h) (hI : ICs n c f h) (hc : c ≤ 16) : EV xs L (d + 1) 0 0 M_X11_holds 434 h 0 [some (.ref 2), some (.int x), some (.int y), none] [] (fun sz' h' r => sz' = 434 ∧ SH h' ∧ ICs n c f h' ∧ KU h h' ∧ ∃ x : Int32, r = [.int x]) := by
  obtain ⟨⟨lc, sc, wr, el, h2⟩, ⟨p, s, k, v, h3⟩, h4, ⟨cc0, hcc, kn, bs, bz, h24⟩⟩ := id hI
  refine EV.post ?_ ((s_X11_holds hS h2).sh hS)
  rintro _ h' _ ⟨⟨hr, hk⟩, rfl, hs, -⟩
  exact ⟨rfl, hs, hI.kb hk, KU_B hk, hr⟩
theorem lm_holds {xs : Nat → Int32} {L d : Nat} {h : ev_H} {n c m : Nat} {g : Nat → Int32} {x y : Int32} (hS : SH h) (hI : IMs n c m g h) (hc : c ≤ 16) (hm : m ≤ 24) : EV xs L (d + 2) 0 0 M_X12_holds 434 h 0 [some (.ref 420), some (.int x), some (.int y)] [] (fun sz' h' r => sz' = 434 ∧ SH h' ∧ IMs n c m g h' ∧ KD h h' ∧ ∃ x : Int32, r = [.int x]) := by
  obtain ⟨⟨th, tr, nx, tk, pl, va, fa, ss, wg, h5⟩, h6⟩ := id hI
  refine EV.post ?_ (s_X12_holds hS h5 hc hm)
  rintro _ h' _ ⟨rfl, hs, hk, hr, tr', g5⟩
  exact ⟨rfl, hs, ⟨⟨_, _, _, _, _, _, _, _, _, g5⟩, (hk 421 (by decide)).trans h6⟩, KD_M (by decide) hk, hr⟩
theorem lc_worlds {xs : Nat → Int32} {L d : Nat} {h : ev_H} {n c : Nat} {f : Nat → Int32} {x : Int32} (hS : SH h) (hI : ICs n c f h) (hc : c ≤ 16) : EV xs L (d + 2) 0 0 M_X11_worlds 434 h 0 [some (.ref 2), some (.int x)] [] (fun sz' h' r => sz' = 434 ∧ SH h' ∧ ICs n c f h' ∧ KU h h' ∧ ∃ x : Int32, r = [.int x]) := by
  obtain ⟨⟨lc, sc, wr, el, h2⟩, ⟨p, s, k, v, h3⟩, h4, ⟨cc0, hcc, kn, bs, bz, h24⟩⟩ := id hI
  refine EV.post ?_ ((s_X11_worlds hS h2).sh hS)
  rintro _ h' _ ⟨⟨hr, hk⟩, rfl, hs, -⟩
  exact ⟨rfl, hs, hI.kb hk, KU_B hk, hr⟩
theorem lm_worlds {xs : Nat → Int32} {L d : Nat} {h : ev_H} {n c m : Nat} {g : Nat → Int32} {x : Int32} (hS : SH h) (hI : IMs n c m g h) (hc : c ≤ 16) (hm : m ≤ 24) : EV xs L (d + 2) 0 0 M_X12_worlds 434 h 0 [some (.ref 420), some (.int x), none] [] (fun sz' h' r => sz' = 434 ∧ SH h' ∧ IMs n c m g h' ∧ KD h h' ∧ ∃ x : Int32, r = [.int x]) := by
  obtain ⟨⟨th, tr, nx, tk, pl, va, fa, ss, wg, h5⟩, h6⟩ := id hI
  refine EV.post ?_ (s_X12_worlds hS h5 hc hm)
  rintro _ h' _ ⟨rfl, hs, hk, hr, tr', g5⟩
  exact ⟨rfl, hs, ⟨⟨_, _, _, _, _, _, _, _, _, g5⟩, (hk 421 (by decide)).trans h6⟩, KD_M (by decide) hk, hr⟩
theorem lc_says {xs : Nat → Int32} {L d : Nat} {h : ev_H} {n c : Nat} {f : Nat → Int32} {x y z : Int32} (hS : SH h) (hI : ICs n c f h) (hc : c ≤ 16) : EV xs L (d + 2) 0 0 M_X11_says 434 h 0 [some (.ref 2), some (.int x), some (.int y), some (.int z), none] [] (fun sz' h' r => sz' = 434 ∧ SH h' ∧ ICs n c f h' ∧ KU h h' ∧ ∃ x : Int32, r = [.int x]) := by
  obtain ⟨⟨lc, sc, wr, el, h2⟩, ⟨p, s, k, v, h3⟩, h4, ⟨cc0, hcc, kn, bs, bz, h24⟩⟩ := id hI
  refine EV.post ?_ ((s_X11_says hS h2).sh hS)
  rintro _ h' _ ⟨⟨hr, hk⟩, rfl, hs, -⟩
  exact ⟨rfl, hs, hI.kb hk, KU_B hk, hr⟩
theorem lm_says {xs : Nat → Int32} {L d : Nat} {h : ev_H} {n c m : Nat} {g : Nat → Int32} {x y z : Int32} (hS : SH h) (hI : IMs n c m g h) (hc : c ≤ 16) (hm : m ≤ 24) : EV xs L (d + 2) 0 0 M_X12_says 434 h 0 [some (.ref 420), some (.int x), some (.int y), some (.int z)] [] (fun sz' h' r => sz' = 434 ∧ SH h' ∧ IMs n c m g h' ∧ KD h h' ∧ ∃ x : Int32, r = [.int x]) := by
  obtain ⟨⟨th, tr, nx, tk, pl, va, fa, ss, wg, h5⟩, h6⟩ := id hI
  refine EV.post ?_ (s_X12_says hS h5 hc hm)
  rintro _ h' _ ⟨rfl, hs, hk, hr, tr', g5⟩
  exact ⟨rfl, hs, ⟨⟨_, _, _, _, _, _, _, _, _, g5⟩, (hk 421 (by decide)).trans h6⟩, KD_M (by decide) hk, hr⟩
theorem lc_saying {xs : Nat → Int32} {L d : Nat} {h : ev_H} {n c : Nat} {f : Nat → Int32} {x y : Int32} (hS : SH h) (hI : ICs n c f h) (hc : c ≤ 16) : EV xs L (d + 1) 0 0 M_X11_saying 434 h 0 [some (.ref 2), some (.int x), some (.int y), none] [] (fun sz' h' r => sz' = 434 ∧ SH h' ∧ ICs n c f h' ∧ KU h h' ∧ ∃ x : Int64, r = [.long x]) := by
  obtain ⟨⟨lc, sc, wr, el, h2⟩, ⟨p, s, k, v, h3⟩, h4, ⟨cc0, hcc, kn, bs, bz, h24⟩⟩ := id hI
  refine EV.post ?_ ((s_X11_saying hS h2).sh hS)
  rintro _ h' _ ⟨⟨hr, hk⟩, rfl, hs, -⟩
  exact ⟨rfl, hs, hI.kb hk, KU_B hk, hr⟩
theorem lm_saying {xs : Nat → Int32} {L d : Nat} {h : ev_H} {n c m : Nat} {g : Nat → Int32} {x y : Int32} (hS : SH h) (hI : IMs n c m g h) (hc : c ≤ 16) (hm : m ≤ 24) : EV xs L (d + 2) 0 0 M_X12_saying 434 h 0 [some (.ref 420), some (.int x), some (.int y), none] [] (fun sz' h' r => sz' = 434 ∧ SH h' ∧ IMs n c m g h' ∧ KD h h' ∧ ∃ x : Int64, r = [.long x]) := by
  obtain ⟨⟨th, tr, nx, tk, pl, va, fa, ss, wg, h5⟩, h6⟩ := id hI
  refine EV.post ?_ (s_X12_saying hS h5 hc hm)
  rintro _ h' _ ⟨rfl, hs, hk, hr, tr', g5⟩
  exact ⟨rfl, hs, ⟨⟨_, _, _, _, _, _, _, _, _, g5⟩, (hk 421 (by decide)).trans h6⟩, KD_M (by decide) hk, hr⟩
theorem lc_between {xs : Nat → Int32} {L d : Nat} {h : ev_H} {n c : Nat} {f : Nat → Int32} {x : Int32} (hS : SH h) (hI : ICs n c f h) (hc : c ≤ 16) : EV xs L (d + 4) 0 0 M_X11_between 434 h 0 [some (.ref 2), some (.int x), none] [] (fun sz' h' r => sz' = 434 ∧ SH h' ∧ ICs n c f h' ∧ KU h h' ∧ ∃ x : Int32, r = [.int x]) := by
  obtain ⟨⟨lc, sc, wr, el, h2⟩, ⟨p, s, k, v, h3⟩, h4, ⟨cc0, hcc, kn, bs, bz, h24⟩⟩ := id hI
  refine EV.post ?_ ((s_X11_between hS h2).sh hS)
  rintro _ h' _ ⟨⟨hr, hk⟩, rfl, hs, -⟩
  exact ⟨rfl, hs, hI.kb hk, KU_B hk, hr⟩
theorem lm_between {xs : Nat → Int32} {L d : Nat} {h : ev_H} {n c m : Nat} {g : Nat → Int32} {x : Int32} (hS : SH h) (hI : IMs n c m g h) (hc : c ≤ 16) (hm : m ≤ 24) : EV xs L (d + 3) 0 0 M_X12_between 434 h 0 [some (.ref 420), some (.int x)] [] (fun sz' h' r => sz' = 434 ∧ SH h' ∧ IMs n c m g h' ∧ KD h h' ∧ ∃ x : Int32, r = [.int x]) := by
  obtain ⟨⟨th, tr, nx, tk, pl, va, fa, ss, wg, h5⟩, h6⟩ := id hI
  refine EV.post ?_ (s_X12_between hS h5 hc hm)
  rintro _ h' _ ⟨rfl, hs, hk, hr, tr', g5⟩
  exact ⟨rfl, hs, ⟨⟨_, _, _, _, _, _, _, _, _, g5⟩, (hk 421 (by decide)).trans h6⟩, KD_M (by decide) hk, hr⟩
theorem lc_looks {xs : Nat → Int32} {L d : Nat} {h : ev_H} {n c : Nat} {f : Nat → Int32} {x : Int32} (hS : SH h) (hI : ICs n c f h) (hc : c ≤ 16) : EV xs L (d + 3) 0 0 M_X11_looks 434 h 0 [some (.ref 2), some (.int x), none] [] (fun sz' h' r => sz' = 434 ∧ SH h' ∧ ICs n c f h' ∧ KU h h' ∧ ∃ x : Int32, r = [.int x]) := by
  obtain ⟨⟨lc, sc, wr, el, h2⟩, ⟨p, s, k, v, h3⟩, h4, ⟨cc0, hcc, kn, bs, bz, h24⟩⟩ := id hI
  refine EV.post ?_ ((s_X11_looks hS h2).sh hS)
  rintro _ h' _ ⟨⟨hr, hk⟩, rfl, hs, -⟩
  exact ⟨rfl, hs, hI.kb hk, KU_B hk, hr⟩
theorem lm_looks {xs : Nat → Int32} {L d : Nat} {h : ev_H} {n c m : Nat} {g : Nat → Int32} {x : Int32} (hS : SH h) (hI : IMs n c m g h) (hc : c ≤ 16) (hm : m ≤ 24) : EV xs L (d + 2) 0 0 M_X12_looks 434 h 0 [some (.ref 420), some (.int x)] [] (fun sz' h' r => sz' = 434 ∧ SH h' ∧ IMs n c m g h' ∧ KD h h' ∧ ∃ x : Int32, r = [.int x]) := by
  obtain ⟨⟨th, tr, nx, tk, pl, va, fa, ss, wg, h5⟩, h6⟩ := id hI
  refine EV.post ?_ (s_X12_looks hS h5 hc hm)
  rintro _ h' _ ⟨rfl, hs, hk, hr, tr', g5⟩
  exact ⟨rfl, hs, ⟨⟨_, _, _, _, _, _, _, _, _, g5⟩, (hk 421 (by decide)).trans h6⟩, KD_M (by decide) hk, hr⟩
theorem lc_compare {xs : Nat → Int32} {L d : Nat} {h : ev_H} {n c : Nat} {f : Nat → Int32} {x y : Int32} (hS : SH h) (hI : ICs n c f h) (hc : c ≤ 16) : EV xs L (d + 3) 0 0 M_X11_compare 434 h 0 [some (.ref 2), some (.int x), some (.int y), none, none, none, none] [] (fun sz' h' r => sz' = 434 ∧ SH h' ∧ ICs n c f h' ∧ KU h h' ∧ ∃ x : Int32, r = [.int x]) := by
  obtain ⟨⟨lc, sc, wr, el, h2⟩, ⟨p, s, k, v, h3⟩, h4, ⟨cc0, hcc, kn, bs, bz, h24⟩⟩ := id hI
  refine EV.post ?_ ((s_X11_compare hS h2).sh hS)
  rintro _ h' _ ⟨⟨hr, hk⟩, rfl, hs, -⟩
  exact ⟨rfl, hs, hI.kb hk, KU_B hk, hr⟩
theorem lm_compare {xs : Nat → Int32} {L d : Nat} {h : ev_H} {n c m : Nat} {g : Nat → Int32} {x y : Int32} (hS : SH h) (hI : IMs n c m g h) (hc : c ≤ 16) (hm : m ≤ 24) : EV xs L (d + 2) 0 0 M_X12_compare 434 h 0 [some (.ref 420), some (.int x), some (.int y), none, none, none] [] (fun sz' h' r => sz' = 434 ∧ SH h' ∧ IMs n c m g h' ∧ KD h h' ∧ ∃ x : Int32, r = [.int x]) := by
  obtain ⟨⟨th, tr, nx, tk, pl, va, fa, ss, wg, h5⟩, h6⟩ := id hI
  refine EV.post ?_ (s_X12_compare hS h5 hc hm)
  rintro _ h' _ ⟨rfl, hs, hk, hr, tr', g5⟩
  exact ⟨rfl, hs, ⟨⟨_, _, _, _, _, _, _, _, _, g5⟩, (hk 421 (by decide)).trans h6⟩, KD_M (by decide) hk, hr⟩
theorem lc_bounds {xs : Nat → Int32} {L d : Nat} {h : ev_H} {n c : Nat} {f : Nat → Int32} {x : Int32} (hS : SH h) (hI : ICs n c f h) (hc : c ≤ 16) : EV xs L (d + 3) 0 0 M_X11_bounds 434 h 0 [some (.ref 2), some (.int x)] [] (fun sz' h' r => sz' = 434 ∧ SH h' ∧ ICs n c f h' ∧ KU h h' ∧ ∃ x : Int32, r = [.int x]) := by
  obtain ⟨⟨lc, sc, wr, el, h2⟩, ⟨p, s, k, v, h3⟩, h4, ⟨cc0, hcc, kn, bs, bz, h24⟩⟩ := id hI
  refine EV.post ?_ ((s_X11_bounds hS h2).sh hS)
  rintro _ h' _ ⟨⟨hr, hk⟩, rfl, hs, -⟩
  exact ⟨rfl, hs, hI.kb hk, KU_B hk, hr⟩
theorem lm_bounds {xs : Nat → Int32} {L d : Nat} {h : ev_H} {n c m : Nat} {g : Nat → Int32} {x : Int32} (hS : SH h) (hI : IMs n c m g h) (hc : c ≤ 16) (hm : m ≤ 24) : EV xs L (d + 2) 0 0 M_X12_bounds_ 434 h 0 [some (.ref 420), some (.int x), none] [] (fun sz' h' r => sz' = 434 ∧ SH h' ∧ IMs n c m g h' ∧ KD h h' ∧ ∃ x : Int32, r = [.int x]) := by
  obtain ⟨⟨th, tr, nx, tk, pl, va, fa, ss, wg, h5⟩, h6⟩ := id hI
  refine EV.post ?_ (s_X12_bounds_ hS h5 hc hm)
  rintro _ h' _ ⟨rfl, hs, hk, hr, tr', g5⟩
  exact ⟨rfl, hs, ⟨⟨_, _, _, _, _, _, _, _, _, g5⟩, (hk 421 (by decide)).trans h6⟩, KD_M (by decide) hk, hr⟩
theorem lc_fewest {xs : Nat → Int32} {L d : Nat} {h : ev_H} {n c : Nat} {f : Nat → Int32} {x : Int32} (hS : SH h) (hI : ICs n c f h) (hc : c ≤ 16) : EV xs L (d + 6) 0 0 M_X11_fewest 434 h 0 [some (.ref 2), some (.int x)] [] (fun sz' h' r => sz' = 434 ∧ SH h' ∧ ICs n c f h' ∧ KU h h' ∧ ∃ x : Int32, r = [.int x]) := by
  obtain ⟨⟨lc, sc, wr, el, h2⟩, ⟨p, s, k, v, h3⟩, h4, ⟨cc0, hcc, kn, bs, bz, h24⟩⟩ := id hI
  refine EV.post ?_ ((s_X11_fewest hS h2).sh hS)
  rintro _ h' _ ⟨⟨hr, hk⟩, rfl, hs, -⟩
  exact ⟨rfl, hs, hI.kb hk, KU_B hk, hr⟩
theorem lm_fewest {xs : Nat → Int32} {L d : Nat} {h : ev_H} {n c m : Nat} {g : Nat → Int32} {x : Int32} (hS : SH h) (hI : IMs n c m g h) (hc : c ≤ 16) (hm : m ≤ 24) : EV xs L (d + 2) 0 0 M_X12_fewest 434 h 0 [some (.ref 420), some (.int x), none, none, none, none, none] [] (fun sz' h' r => sz' = 434 ∧ SH h' ∧ IMs n c m g h' ∧ KD h h' ∧ ∃ x : Int32, r = [.int x]) := by
  obtain ⟨⟨th, tr, nx, tk, pl, va, fa, ss, wg, h5⟩, h6⟩ := id hI
  refine EV.post ?_ (s_X12_fewest hS h5 hc hm)
  rintro _ h' _ ⟨rfl, hs, hk, hr, tr', g5⟩
  exact ⟨rfl, hs, ⟨⟨_, _, _, _, _, _, _, _, _, g5⟩, (hk 421 (by decide)).trans h6⟩, KD_M (by decide) hk, hr⟩
theorem lc_tell {xs : Nat → Int32} {L d : Nat} {h : ev_H} {n c : Nat} {f : Nat → Int32} {x y : Int32} (hS : SH h) (hI : ICs n c f h) (hc : c ≤ 16) : EV xs L (d + 2) 0 0 M_X11_tell 434 h 0 [some (.ref 2), some (.int x), some (.int y), none] [] (fun sz' h' r => sz' = 434 ∧ SH h' ∧ ICs n c f h' ∧ KU h h' ∧ ∃ x : Int32, r = [.int x]) := by
  obtain ⟨⟨lc, sc, wr, el, h2⟩, ⟨p, s, k, v, h3⟩, h4, ⟨cc0, hcc, kn, bs, bz, h24⟩⟩ := id hI
  refine EV.post ?_ ((s_X11_tell hS h2).sh hS)
  rintro _ h' _ ⟨⟨hr, hk⟩, rfl, hs, -⟩
  exact ⟨rfl, hs, hI.kb hk, KU_B hk, hr⟩
theorem lm_tell {xs : Nat → Int32} {L d : Nat} {h : ev_H} {n c m : Nat} {g : Nat → Int32} {x y : Int32} (hS : SH h) (hI : IMs n c m g h) (hc : c ≤ 16) (hm : m ≤ 24) : EV xs L (d + 1) 0 0 M_X12_tell 434 h 0 [some (.ref 420), some (.int x), some (.int y), none, none, none] [] (fun sz' h' r => sz' = 434 ∧ SH h' ∧ IMs n c m g h' ∧ KD h h' ∧ ∃ x : Int32, r = [.int x]) := by
  obtain ⟨⟨th, tr, nx, tk, pl, va, fa, ss, wg, h5⟩, h6⟩ := id hI
  refine EV.post ?_ (s_X12_tell hS h5 hc hm)
  rintro _ h' _ ⟨rfl, hs, hk, hr, tr', g5⟩
  exact ⟨rfl, hs, ⟨⟨_, _, _, _, _, _, _, _, _, g5⟩, (hk 421 (by decide)).trans h6⟩, KD_M (by decide) hk, hr⟩
theorem lc_copy {xs : Nat → Int32} {L d : Nat} {h : ev_H} {n c : Nat} {f : Nat → Int32} {x y z : Int32} (hS : SH h) (hI : ICs n c f h) (hc : c ≤ 16) : EV xs L (d + 3) 0 0 M_X11_copy 434 h 0 [some (.ref 2), some (.int x), some (.int y), some (.int z), none, none, none] [] (fun sz' h' r => sz' = 434 ∧ SH h' ∧ ICs n c f h' ∧ KU h h' ∧ ∃ x : Int32, r = [.int x]) := by
  obtain ⟨⟨lc, sc, wr, el, h2⟩, ⟨p, s, k, v, h3⟩, h4, ⟨cc0, hcc, kn, bs, bz, h24⟩⟩ := id hI
  refine EV.post ?_ ((s_X11_copy hS h2).sh hS)
  rintro _ h' _ ⟨⟨hr, hk⟩, rfl, hs, -⟩
  exact ⟨rfl, hs, hI.kb hk, KU_B hk, hr⟩
theorem lm_copy {xs : Nat → Int32} {L d : Nat} {h : ev_H} {n c m : Nat} {g : Nat → Int32} {x y z : Int32} (hS : SH h) (hI : IMs n c m g h) (hc : c ≤ 16) (hm : m ≤ 24) : EV xs L (d + 2) 0 0 M_X12_copy 434 h 0 [some (.ref 420), some (.int x), some (.int y), some (.int z), none, none, none, none] [] (fun sz' h' r => sz' = 434 ∧ SH h' ∧ IMs n c m g h' ∧ KD h h' ∧ ∃ x : Int32, r = [.int x]) := by
  obtain ⟨⟨th, tr, nx, tk, pl, va, fa, ss, wg, h5⟩, h6⟩ := id hI
  refine EV.post ?_ (s_X12_copy hS h5 hc hm)
  rintro _ h' _ ⟨rfl, hs, hk, hr, tr', g5⟩
  exact ⟨rfl, hs, ⟨⟨_, _, _, _, _, _, _, _, _, g5⟩, (hk 421 (by decide)).trans h6⟩, KD_M (by decide) hk, hr⟩
theorem lc_check {xs : Nat → Int32} {L d : Nat} {h : ev_H} {n c : Nat} {f : Nat → Int32} (hS : SH h) (hI : ICs n c f h) (hc : c ≤ 16) : EV xs L (d + 4) 0 0 M_X11_check 434 h 0 [some (.ref 2)] [] (fun sz' h' r => sz' = 434 ∧ SH h' ∧ ICs n c f h' ∧ KU h h' ∧ ∃ x : Int32, r = [.int x]) := by
  obtain ⟨⟨lc, sc, wr, el, h2⟩, ⟨p, s, k, v, h3⟩, h4, ⟨cc0, hcc, kn, bs, bz, h24⟩⟩ := id hI
  refine EV.post ?_ ((s_X11_check hS h2).sh hS)
  rintro _ h' _ ⟨⟨hr, hk⟩, rfl, hs, -⟩
  exact ⟨rfl, hs, hI.kb hk, KU_B hk, hr⟩
theorem lm_check {xs : Nat → Int32} {L d : Nat} {h : ev_H} {n c m : Nat} {g : Nat → Int32} (hS : SH h) (hI : IMs n c m g h) (hc : c ≤ 16) (hm : m ≤ 24) : EV xs L (d + 3) 0 0 M_X12_check 434 h 0 [some (.ref 420)] [] (fun sz' h' r => sz' = 434 ∧ SH h' ∧ IMs n c m g h' ∧ KD h h' ∧ ∃ x : Int32, r = [.int x]) := by
  obtain ⟨⟨th, tr, nx, tk, pl, va, fa, ss, wg, h5⟩, h6⟩ := id hI
  refine EV.post ?_ (s_X12_check hS h5 hc hm)
  rintro _ h' _ ⟨rfl, hs, hk, hr, tr', g5⟩
  exact ⟨rfl, hs, ⟨⟨_, _, _, _, _, _, _, _, _, g5⟩, (hk 421 (by decide)).trans h6⟩, KD_M (by decide) hk, hr⟩
theorem lc_used {xs : Nat → Int32} {L d : Nat} {h : ev_H} {n c : Nat} {f : Nat → Int32} (hS : SH h) (hI : ICs n c f h) (hc : c ≤ 16) : EV xs L (d + 2) 0 0 M_X11_used 434 h 0 [some (.ref 2)] [] (fun sz' h' r => sz' = 434 ∧ SH h' ∧ ICs n c f h' ∧ KU h h' ∧ ∃ x : Int32, r = [.int x]) := by
  obtain ⟨⟨lc, sc, wr, el, h2⟩, ⟨p, s, k, v, h3⟩, h4, ⟨cc0, hcc, kn, bs, bz, h24⟩⟩ := id hI
  refine EV.post ?_ (s_X11_used hS h2 hc)
  rintro _ h' _ ⟨rfl, rfl, hr⟩
  exact ⟨rfl, hS, hI, fun _ _ => rfl, hr⟩
theorem lm_used {xs : Nat → Int32} {L d : Nat} {h : ev_H} {n c m : Nat} {g : Nat → Int32} (hS : SH h) (hI : IMs n c m g h) (hc : c ≤ 16) (hm : m ≤ 24) : EV xs L (d + 1) 0 0 M_X12_used 434 h 0 [some (.ref 420), none, none, none, none] [] (fun sz' h' r => sz' = 434 ∧ SH h' ∧ IMs n c m g h' ∧ KD h h' ∧ ∃ x : Int32, r = [.int x]) := by
  obtain ⟨⟨th, tr, nx, tk, pl, va, fa, ss, wg, h5⟩, h6⟩ := id hI
  refine EV.post ?_ (s_X12_used hS h5 hc hm)
  rintro _ h' _ ⟨rfl, hs, hk, hr, tr', g5⟩
  exact ⟨rfl, hs, ⟨⟨_, _, _, _, _, _, _, _, _, g5⟩, (hk 421 (by decide)).trans h6⟩, KD_M (by decide) hk, hr⟩
theorem lc_needed {xs : Nat → Int32} {L d : Nat} {h : ev_H} {n c : Nat} {f : Nat → Int32} {x : Int32} (hS : SH h) (hI : ICs n c f h) (hc : c ≤ 16) : EV xs L (d + 22) 0 0 M_X11_needed 434 h 0 [some (.ref 2), some (.int x)] [] (fun sz' h' r => sz' = 434 ∧ SH h' ∧ ICs n c f h' ∧ KU h h' ∧ ∃ x : Int32, r = [.int x]) := by
  obtain ⟨⟨lc, sc, wr, el, h2⟩, ⟨p, s, k, v, h3⟩, h4, ⟨cc0, hcc, kn, bs, bz, h24⟩⟩ := id hI
  refine EV.post ?_ (s_X11_needed hS h2 h24 hcc)
  rintro _ h' _ ⟨rfl, hs, hk, g2, ⟨k1, k2, k3, g24⟩, hr⟩
  exact ⟨rfl, hs, ⟨⟨_, _, _, _, g2⟩, ⟨_, _, _, _, (hk 3 (by decide) (by decide)).trans h3⟩, (hk 4 (by decide) (by decide)).trans h4, ⟨_, hcc, _, _, _, g24⟩⟩, KU_Q hk, hr⟩
theorem lm_needed {xs : Nat → Int32} {L d : Nat} {h : ev_H} {n c m : Nat} {g : Nat → Int32} {x : Int32} (hS : SH h) (hI : IMs n c m g h) (hc : c ≤ 16) (hm : m ≤ 24) : EV xs L (d + 1) 0 0 M_X12_needed 434 h 0 [some (.ref 420), some (.int x), none, none] [] (fun sz' h' r => sz' = 434 ∧ SH h' ∧ IMs n c m g h' ∧ KD h h' ∧ ∃ x : Int32, r = [.int x]) := by
  obtain ⟨⟨th, tr, nx, tk, pl, va, fa, ss, wg, h5⟩, h6⟩ := id hI
  refine EV.post ?_ (s_X12_needed hS h5 hc hm (sh1_le hc))
  rintro _ h' _ ⟨rfl, hs, hk, hr, tr', g5⟩
  exact ⟨rfl, hs, ⟨⟨_, _, _, _, _, _, _, _, _, g5⟩, (hk 421 (by decide)).trans h6⟩, KD_M (by decide) hk, hr⟩
theorem lc_labour {xs : Nat → Int32} {L d : Nat} {h : ev_H} {n c : Nat} {f : Nat → Int32} {x y : Int32} (hS : SH h) (hI : ICs n c f h) (hc : c ≤ 16) : EV xs L (d + 5) 0 0 M_X11_labour 434 h 0 [some (.ref 2), some (.int x), some (.int y), none, none] [] (fun sz' h' r => sz' = 434 ∧ SH h' ∧ ICs n c f h' ∧ KU h h' ∧ ∃ x : Int32, r = [.int x]) := by
  obtain ⟨⟨lc, sc, wr, el, h2⟩, ⟨p, s, k, v, h3⟩, h4, ⟨cc0, hcc, kn, bs, bz, h24⟩⟩ := id hI
  refine EV.post ?_ ((s_X11_labour hS h2).sh hS)
  rintro _ h' _ ⟨⟨hr, hk⟩, rfl, hs, -⟩
  exact ⟨rfl, hs, hI.kb hk, KU_B hk, hr⟩
theorem lm_labour {xs : Nat → Int32} {L d : Nat} {h : ev_H} {n c m : Nat} {g : Nat → Int32} {x y : Int32} (hS : SH h) (hI : IMs n c m g h) (hc : c ≤ 16) (hm : m ≤ 24) : EV xs L (d + 2) 0 0 M_X12_labour 434 h 0 [some (.ref 420), some (.int x), some (.int y), none, none] [] (fun sz' h' r => sz' = 434 ∧ SH h' ∧ IMs n c m g h' ∧ KD h h' ∧ ∃ x : Int32, r = [.int x]) := by
  obtain ⟨⟨th, tr, nx, tk, pl, va, fa, ss, wg, h5⟩, h6⟩ := id hI
  refine EV.post ?_ (s_X12_labour hS h5 hc hm)
  rintro _ h' _ ⟨rfl, hs, hk, hr, tr', g5⟩
  exact ⟨rfl, hs, ⟨⟨_, _, _, _, _, _, _, _, _, g5⟩, (hk 421 (by decide)).trans h6⟩, KD_M (by decide) hk, hr⟩
theorem lc_count {xs : Nat → Int32} {L d : Nat} {h : ev_H} {n c : Nat} {f : Nat → Int32} {x : Int32} (hS : SH h) (hI : ICs n c f h) (hc : c ≤ 16) : EV xs L (d + 2) 0 0 M_X11_count 434 h 0 [some (.ref 2), some (.int x)] [] (fun sz' h' r => sz' = 434 ∧ SH h' ∧ ICs n c f h' ∧ KU h h' ∧ ∃ x : Int32, r = [.int x]) := by
  obtain ⟨⟨lc, sc, wr, el, h2⟩, ⟨p, s, k, v, h3⟩, h4, ⟨cc0, hcc, kn, bs, bz, h24⟩⟩ := id hI
  refine EV.post ?_ (s_X11_count hS h2 h24 hcc)
  rintro _ h' _ ⟨rfl, hs, hk, g2, ⟨k1, k2, k3, g24⟩, hr⟩
  exact ⟨rfl, hs, ⟨⟨_, _, _, _, g2⟩, ⟨_, _, _, _, (hk 3 (by decide) (by decide)).trans h3⟩, (hk 4 (by decide) (by decide)).trans h4, ⟨_, hcc, _, _, _, g24⟩⟩, KU_Q hk, hr⟩
theorem lm_count {xs : Nat → Int32} {L d : Nat} {h : ev_H} {n c m : Nat} {g : Nat → Int32} {x : Int32} (hS : SH h) (hI : IMs n c m g h) (hc : c ≤ 16) (hm : m ≤ 24) : EV xs L (d + 2) 0 0 M_X12_count 434 h 0 [some (.ref 420), some (.int x)] [] (fun sz' h' r => sz' = 434 ∧ SH h' ∧ IMs n c m g h' ∧ KD h h' ∧ ∃ x : Int32, r = [.int x]) := by
  obtain ⟨⟨th, tr, nx, tk, pl, va, fa, ss, wg, h5⟩, h6⟩ := id hI
  refine EV.post ?_ (s_X12_count hS h5 hc hm)
  rintro _ h' _ ⟨rfl, hs, hk, hr, tr', g5⟩
  exact ⟨rfl, hs, ⟨⟨_, _, _, _, _, _, _, _, _, g5⟩, (hk 421 (by decide)).trans h6⟩, KD_M (by decide) hk, hr⟩
theorem lc_trace {xs : Nat → Int32} {L d : Nat} {h : ev_H} {n c : Nat} {f : Nat → Int32} (hS : SH h) (hI : ICs n c f h) (hc : c ≤ 16) : EV xs L (d + 1) 0 0 M_X11_trace 434 h 0 [some (.ref 2)] [] (fun sz' h' r => sz' = 434 ∧ SH h' ∧ ICs n c f h' ∧ KU h h' ∧ ∃ x : Int64, r = [.long x]) := by
  obtain ⟨⟨lc, sc, wr, el, h2⟩, ⟨p, s, k, v, h3⟩, h4, ⟨cc0, hcc, kn, bs, bz, h24⟩⟩ := id hI
  refine EV.post ?_ ((s_X11_trace hS h2).sh hS)
  rintro _ h' _ ⟨⟨hr, hk⟩, rfl, hs, -⟩
  exact ⟨rfl, hs, hI.kb hk, KU_B hk, hr⟩
theorem lm_trace {xs : Nat → Int32} {L d : Nat} {h : ev_H} {n c m : Nat} {g : Nat → Int32} (hS : SH h) (hI : IMs n c m g h) (hc : c ≤ 16) (hm : m ≤ 24) : EV xs L (d + 0) 0 0 M_X12_trace 434 h 0 [some (.ref 420)] [] (fun sz' h' r => sz' = 434 ∧ SH h' ∧ IMs n c m g h' ∧ KD h h' ∧ ∃ x : Int64, r = [.long x]) := by
  obtain ⟨⟨th, tr, nx, tk, pl, va, fa, ss, wg, h5⟩, h6⟩ := id hI
  refine EV.post ?_ (s_X12_trace hS h5 hc hm)
  rintro _ h' _ ⟨rfl, hs, hk, hr, tr', g5⟩
  exact ⟨rfl, hs, ⟨⟨_, _, _, _, _, _, _, _, _, g5⟩, (hk 421 (by decide)).trans h6⟩, KD_M (by decide) hk, hr⟩
/-- how many bytes type brings -/
def tyO (x : Int32) (n : Nat) : Nat := if (¬ x < 1 ∧ x ≤ 8) ∧ n + x.toNatClampNeg ≤ 300 then x.toNatClampNeg else 0
def tyR (x : Int32) (n : Nat) : Int32 := if ¬ x < 1 ∧ x ≤ 8 then (if n + x.toNatClampNeg ≤ 300 then nI (n + x.toNatClampNeg) else -3) else -1
theorem tyO_b (x : Int32) (n : Nat) : ¬ (¬ x < 1 ∧ x ≤ 8) → tyO x n = 0 ∧ tyR x n = -1 := fun hb => ⟨if_neg (fun z => hb z.1), if_neg hb⟩
theorem tyO_j {n j : Nat} (hj : 1 ≤ j ∧ j ≤ 8) : (n + j ≤ 300 → tyO (nI j) n = j ∧ tyR (nI j) n = nI (n + j)) ∧ (300 < n + j → tyO (nI j) n = 0 ∧ tyR (nI j) n = -3) := by
  have e : (nI j).toNatClampNeg = j := nI_clamp (by omega)
  have h1 : ¬ nI j < 1 ∧ nI j ≤ 8 := ⟨show ¬ nI j < nI 1 from nI_nlt (by omega) (by omega), show nI j ≤ nI 8 from nI_le (by omega) (by decide)⟩
  unfold tyO tyR
  rw [e, if_pos h1]
  refine ⟨fun z => ⟨if_pos ⟨h1, z⟩, if_pos z⟩, fun z => ⟨if_neg (fun q => by omega), if_neg (by omega)⟩⟩
theorem tyO_le (x : Int32) (n : Nat) (hn : n ≤ 300) : tyO x n ≤ 8 ∧ n + tyO x n ≤ 300 := by
  by_cases hb : ¬ x < 1 ∧ x ≤ 8
  · obtain ⟨j, hj, rfl⟩ := one8 hb.1 hb.2
    by_cases hz : n + j ≤ 300
    · rw [((tyO_j hj).1 hz).1]; omega
    · rw [((tyO_j hj).2 (by omega)).1]; omega
  · rw [(tyO_b x n hb).1]; omega
theorem lc_type {xs : Nat → Int32} {L d : Nat} {h : ev_H} {n c : Nat} {f : Nat → Int32} {v : Int64} {x : Int32} (hS : SH h) (hI : ICs n c f h) (hn : n ≤ 300) : EV xs L (d + 1) 0 0 M_X11_type 434 h 0 [some (.ref 2), some (.long v), none, some (.int x)] [] (fun sz' h' r => sz' = 434 ∧ SH h' ∧ ICs (n + tyO x n) c (apb v (tyO x n) n f) h' ∧ KU h h' ∧ r = [.int (tyR x n)]) := by
  obtain ⟨⟨lc, sc, wr, el, h2⟩, ⟨p, s, k, w, h3⟩, h4, h24⟩ := id hI
  refine EV.post ?_ ((s_X11_type hn h2 h3 h4).sh hS)
  rintro _ h' _ ⟨⟨rfl, hcase⟩, -, hs, -⟩
  rcases hcase with ⟨hb, rfl, rfl⟩ | ⟨j, hj, rfl, ⟨hz, g3, g4, gk, rfl⟩ | ⟨hz, rfl, rfl⟩⟩
  · rw [(tyO_b x n hb).1, (tyO_b x n hb).2]
    exact ⟨rfl, hs, hI, fun _ _ => rfl, rfl⟩
  · rw [((tyO_j hj).1 hz).1, ((tyO_j hj).1 hz).2]
    refine ⟨rfl, hs, ⟨⟨_, _, _, _, (gk 2 (by decide) (by decide)).trans h2⟩, ⟨_, _, _, _, g3⟩, g4, ?_⟩, fun k hk => gk k (by omega) (by omega), rfl⟩
    obtain ⟨cc0, hcc, kn, bs, bz, g24⟩ := h24
    exact ⟨cc0, hcc, kn, bs, bz, (gk 24 (by decide) (by decide)).trans g24⟩
  · rw [((tyO_j hj).2 hz).1, ((tyO_j hj).2 hz).2]
    exact ⟨rfl, hs, hI, fun _ _ => rfl, rfl⟩
