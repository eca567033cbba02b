/-- the class's cells that the course of LINES rests on -/
def IC5 (n c m t : Nat) (wr : Int32) (s : Int64) (f G : Nat → Int32) (h : ev_H) : Prop := h 2 = c2 (nI c) (nI (c + m)) (nI t) wr (enF G (c + m) 0) ∧ (∃ p s k v, h 3 = c3 (nI n) p s k v) ∧ h 4 = c4 f ∧ (∃ fk fs, h 13 = c13 (ltO G c) (ltE G c) fk fs) ∧ (∃ kn bs bz, h 24 = c24 (nI c) kn bs bz) ∧ h 95 = .inr (9, [.long s]) ∧ LN (c + m) G h
/-- the reference's -/
def IM5 (n c m t : Nat) (wr : Int32) (s : Int64) (g G : Nat → Int32) (h : ev_H) : Prop := (∃ th nx tk pl va fa, h 420 = c420 th s (nI n) nx tk pl va fa (nI c) (nI m) (nI t) wr) ∧ h 421 = c421 g ∧ h 422 = cI 240 G
theorem IM5.ku {n c m t : Nat} {wr : Int32} {s : Int64} {g G : Nat → Int32} {h h' : ev_H} (hI : IM5 n c m t wr s g G h) (hk : KU h h') : IM5 n c m t wr s g G h' := by
  obtain ⟨⟨th, nx, tk, pl, va, fa, h5⟩, h6, h22⟩ := hI
  exact ⟨⟨th, nx, tk, pl, va, fa, (hk 420 (by decide)).trans h5⟩, (hk 421 (by decide)).trans h6, (hk 422 (by decide)).trans h22⟩
theorem IC5.kd {n c m t : Nat} {wr : Int32} {s : Int64} {f G : Nat → Int32} {h h' : ev_H} (hI : IC5 n c m t wr s f G h) (hcm : c + m ≤ 40) (hk : KD h h') : IC5 n c m t wr s f G h' := by
  obtain ⟨h2, ⟨p, q, k, v, h3⟩, h4, ⟨fk, fs, h13⟩, ⟨kn, bs, bz, h24⟩, h95, hL⟩ := hI
  exact ⟨(hk 2 (by decide)).trans h2, ⟨p, q, k, v, (hk 3 (by decide)).trans h3⟩, (hk 4 (by decide)).trans h4, ⟨fk, fs, (hk 13 (by decide)).trans h13⟩, ⟨kn, bs, bz, (hk 24 (by decide)).trans h24⟩, (hk 95 (by decide)).trans h95, fun i hi => (hk _ (by omega)).trans (hL i hi)⟩
theorem KU_X {l : List Nat} {h h' : ev_H} (hl : ∀ k ∈ l, k < 420) (hk : KX l h h') : KU h h' := fun k hk2 => hk k (fun z => by have := hl k z; omega) (nSP_m hk2)
theorem IC5.o2 {n c m t : Nat} {wr : Int32} {s : Int64} {f G : Nat → Int32} {h : ev_H} (hI : IC5 n c m t wr s f G h) : ∃ fs, h 2 = .inr (11, fs) := ⟨_, hI.1⟩
theorem IM5.o5 {n c m t : Nat} {wr : Int32} {s : Int64} {g G : Nat → Int32} {h : ev_H} (hI : IM5 n c m t wr s g G h) : ∃ fs, h 420 = .inr (12, fs) := by
  obtain ⟨⟨th, nx, tk, pl, va, fa, h5⟩, -⟩ := hI
  exact ⟨_, h5⟩
def usR (G : Nat → Int32) (c k : Nat) : Int32 := if enM G k 0 = -9 then -2 else usB G c (enM G k 0).toNatClampNeg
theorem lpr_lnM {G : Nat → Int32} {n : Nat} {y : Int32} : lpr (G (6 * n)) (G (6 * n + 1)) (G (6 * n + 2)) (G (6 * n + 3)) (G (6 * n + 4)) (G (6 * n + 5)) y = if inR y 0 5 = 0 then -1 else G (6 * n + y.toNatClampNeg) := by
  by_cases h : inR y 0 5 = 0
  · rw [if_pos h]
    refine lpr_o ?_
    unfold inR at h
    by_cases h1 : y < 0
    · rw [Int32.lt_iff_toInt_lt] at h1; exact Or.inl h1
    · rw [if_neg h1] at h
      by_cases h2 : (5 : Int32) < y
      · rw [Int32.lt_iff_toInt_lt] at h2; exact Or.inr h2
      · rw [if_neg h2] at h; exact absurd h (by decide)
  · rw [if_neg h]
    obtain ⟨j, -, hj, rfl⟩ := inR_nat (a := 0) (b := 5) (by omega) h
    rw [nI_clamp (by omega)]
    match j, hj with
    | 0, _ => rfl
    | 1, _ => rfl
    | 2, _ => rfl
    | 3, _ => rfl
    | 4, _ => rfl
    | 5, _ => rfl
theorem k5_wrong {xs : Nat → Int32} {L d : Nat} {h : ev_H} {n c m t : Nat} {wr : Int32} {s : Int64} {f G : Nat → Int32} (hS : SH h) (hI : IC5 n c m t wr s f G h) (hc : c ≤ 16) (hm : m ≤ 24) : EV xs L (d + 0) 0 0 M_X11_wrong 434 h 0 [some (.ref 2)] [] (fun sz' h' r => sz' = 434 ∧ SH h' ∧ IC5 n c m t wr (s) f G h' ∧ KU h h' ∧ r = [.int wr]) := by
  obtain ⟨h2, ⟨p, q, k, v, h3⟩, h4, ⟨fk, fs, h13⟩, ⟨kn, bs, bz, h24⟩, h95, hL⟩ := id hI
  refine EV.post ?_ (x_X11_wrong hS h2 (by omega))
  rintro _ h' _ ⟨rfl, rfl, hr⟩
  exact ⟨rfl, hS, hI, fun _ _ => rfl, hr⟩
theorem j5_wrong {xs : Nat → Int32} {L d : Nat} {h : ev_H} {n c m t : Nat} {wr : Int32} {s : Int64} {g G : Nat → Int32} (hS : SH h) (hI : IM5 n c m t wr s g G h) (hc : c ≤ 16) (hm : m ≤ 24) : EV xs L (d + 0) 0 0 M_X12_wrong 434 h 0 [some (.ref 420)] [] (fun sz' h' r => sz' = 434 ∧ SH h' ∧ IM5 n c m t wr (s) g G h' ∧ KD h h' ∧ r = [.int wr]) := by
  obtain ⟨⟨th, nx, tk, pl, va, fa, h5⟩, h6, h22⟩ := id hI
  refine EV.post ?_ (y_X12_wrong hS h5 hc hm)
  rintro _ h' _ ⟨rfl, hs, hk, hr, g5⟩
  exact ⟨rfl, hs, ⟨⟨_, _, _, _, _, _, g5⟩, (hk 421 (by decide)).trans h6, (hk 422 (by decide)).trans h22⟩, KD_M (by decide) hk, hr⟩
theorem k5_end {xs : Nat → Int32} {L d : Nat} {h : ev_H} {n c m t : Nat} {wr : Int32} {s : Int64} {f G : Nat → Int32} (hS : SH h) (hI : IC5 n c m t wr s f G h) (hc : c ≤ 16) (hm : m ≤ 24) (hG : GV c m G) : EV xs L (d + 0) 0 0 M_X11_end 434 h 0 [some (.ref 2)] [] (fun sz' h' r => sz' = 434 ∧ SH h' ∧ IC5 n c m t wr (s) f G h' ∧ KU h h' ∧ r = [.int (enM G (c + m) 0)]) := by
  obtain ⟨h2, ⟨p, q, k, v, h3⟩, h4, ⟨fk, fs, h13⟩, ⟨kn, bs, bz, h24⟩, h95, hL⟩ := id hI
  refine EV.post ?_ (x_X11_end hS h2 (by omega))
  rintro _ h' _ ⟨rfl, rfl, hr⟩
  exact ⟨rfl, hS, hI, fun _ _ => rfl, by rw [← GV_en hG]; exact hr⟩
theorem j5_end {xs : Nat → Int32} {L d : Nat} {h : ev_H} {n c m t : Nat} {wr : Int32} {s : Int64} {g G : Nat → Int32} (hS : SH h) (hI : IM5 n c m t wr s g G h) (hc : c ≤ 16) (hm : m ≤ 24) : EV xs L (d + 1) 0 0 M_X12_end 434 h 0 [some (.ref 420)] [] (fun sz' h' r => sz' = 434 ∧ SH h' ∧ IM5 n c m t wr (s) g G h' ∧ KD h h' ∧ r = [.int (enM G (c + m) 0)]) := by
  obtain ⟨⟨th, nx, tk, pl, va, fa, h5⟩, h6, h22⟩ := id hI
  refine EV.post ?_ (y_X12_end hS h5 hc hm h22)
  rintro _ h' _ ⟨rfl, hs, hk, hr, g5⟩
  exact ⟨rfl, hs, ⟨⟨_, _, _, _, _, _, g5⟩, (hk 421 (by decide)).trans h6, (hk 422 (by decide)).trans h22⟩, KD_M (by decide) hk, hr⟩
theorem k5_line {xs : Nat → Int32} {L d : Nat} {h : ev_H} {n c m t : Nat} {wr : Int32} {s : Int64} {f G : Nat → Int32} {x y : Int32} (hS : SH h) (hI : IC5 n c m t wr s f G h) (hc : c ≤ 16) (hm : m ≤ 24) : EV xs L (d + 2) 0 0 M_X11_line 434 h 0 [some (.ref 2), some (.int x), some (.int y), none] [] (fun sz' h' r => sz' = 434 ∧ SH h' ∧ IC5 n c m t wr (s) f G h' ∧ KU h h' ∧ r = [.int (lnM G (c + m) x y)]) := by
  obtain ⟨h2, ⟨p, q, k, v, h3⟩, h4, ⟨fk, fs, h13⟩, ⟨kn, bs, bz, h24⟩, h95, hL⟩ := id hI
  refine EV.post ?_ (x_X11_line hS h2 (by omega) (by omega) hL)
  rintro _ h' _ ⟨rfl, rfl, ⟨i, hi, rfl, rfl⟩ | ⟨hno, rfl⟩⟩
  · exact ⟨rfl, hS, hI, fun _ _ => rfl, by rw [lnM, if_neg (inR_in (by omega) hi), lpr_lnM, nI_clamp (by omega)]⟩
  · exact ⟨rfl, hS, hI, fun _ _ => rfl, by rw [lnM, if_pos (inR_ln (by omega) hno)]⟩
theorem j5_line {xs : Nat → Int32} {L d : Nat} {h : ev_H} {n c m t : Nat} {wr : Int32} {s : Int64} {g G : Nat → Int32} {x y : Int32} (hS : SH h) (hI : IM5 n c m t wr s g G h) (hc : c ≤ 16) (hm : m ≤ 24) : EV xs L (d + 2) 0 0 M_X12_line 434 h 0 [some (.ref 420), some (.int x), some (.int y)] [] (fun sz' h' r => sz' = 434 ∧ SH h' ∧ IM5 n c m t wr (s) g G h' ∧ KD h h' ∧ r = [.int (lnM G (c + m) x y)]) := by
  obtain ⟨⟨th, nx, tk, pl, va, fa, h5⟩, h6, h22⟩ := id hI
  refine EV.post ?_ (y_X12_line hS h5 hc hm h22)
  rintro _ h' _ ⟨rfl, hs, hk, hr, g5⟩
  exact ⟨rfl, hs, ⟨⟨_, _, _, _, _, _, g5⟩, (hk 421 (by decide)).trans h6, (hk 422 (by decide)).trans h22⟩, KD_M (by decide) hk, hr⟩
theorem k5_side {xs : Nat → Int32} {L d : Nat} {h : ev_H} {n c m t : Nat} {wr : Int32} {s : Int64} {f G : Nat → Int32} {x : Int32} (hS : SH h) (hI : IC5 n c m t wr s f G h) (hc : c ≤ 16) (hm : m ≤ 24) (hG : GV c m G) : EV xs L (d + 1) 0 0 M_X11_side 434 h 0 [some (.ref 2), some (.int x)] [] (fun sz' h' r => sz' = 434 ∧ SH h' ∧ IC5 n c m t wr (s) f G h' ∧ KU h h' ∧ r = [.int (sdM G c x)]) := by
  obtain ⟨h2, ⟨p, q, k, v, h3⟩, h4, ⟨fk, fs, h13⟩, ⟨kn, bs, bz, h24⟩, h95, hL⟩ := id hI
  refine EV.post ?_ (x_X11_side hS h2 (by omega) h13)
  rintro _ h' _ ⟨rfl, rfl, hr⟩
  exact ⟨rfl, hS, hI, fun _ _ => rfl, by rw [← sd_eq hG]; exact hr⟩
theorem j5_side {xs : Nat → Int32} {L d : Nat} {h : ev_H} {n c m t : Nat} {wr : Int32} {s : Int64} {g G : Nat → Int32} {x : Int32} (hS : SH h) (hI : IM5 n c m t wr s g G h) (hc : c ≤ 16) (hm : m ≤ 24) : EV xs L (d + 1) 0 0 M_X12_side 434 h 0 [some (.ref 420), some (.int x)] [] (fun sz' h' r => sz' = 434 ∧ SH h' ∧ IM5 n c m t wr (s) g G h' ∧ KD h h' ∧ r = [.int (sdM G c x)]) := by
  obtain ⟨⟨th, nx, tk, pl, va, fa, h5⟩, h6, h22⟩ := id hI
  refine EV.post ?_ (v_X12_side hS h5 hc hm h22)
  rintro _ h' _ ⟨rfl, hs, hk, hr, g5⟩
  exact ⟨rfl, hs, ⟨⟨_, _, _, _, _, _, g5⟩, (hk 421 (by decide)).trans h6, (hk 422 (by decide)).trans h22⟩, KD_M (by decide) hk, hr⟩
theorem k5_holds {xs : Nat → Int32} {L d : Nat} {h : ev_H} {n c m t : Nat} {wr : Int32} {s : Int64} {f G : Nat → Int32} {x y : Int32} (hS : SH h) (hI : IC5 n c m t wr s f G h) (hc : c ≤ 16) (hm : m ≤ 24) : EV xs L (d + 1) 0 0 M_X11_holds 434 h 0 [some (.ref 2), some (.int x), some (.int y), none] [] (fun sz' h' r => sz' = 434 ∧ SH h' ∧ IC5 n c m t wr (s) f G h' ∧ KU h h' ∧ ∃ x : Int32, r = [.int x]) := by
  obtain ⟨h2, ⟨p, q, k, v, h3⟩, h4, ⟨fk, fs, h13⟩, ⟨kn, bs, bz, h24⟩, h95, hL⟩ := id hI
  refine EV.post ?_ (x_X11_holds hS h2 (by omega))
  rintro _ h' _ ⟨rfl, rfl, hr⟩
  exact ⟨rfl, hS, hI, fun _ _ => rfl, hr⟩
theorem j5_holds {xs : Nat → Int32} {L d : Nat} {h : ev_H} {n c m t : Nat} {wr : Int32} {s : Int64} {g G : Nat → Int32} {x y : Int32} (hS : SH h) (hI : IM5 n c m t wr s g G h) (hc : c ≤ 16) (hm : m ≤ 24) : EV xs L (d + 2) 0 0 M_X12_holds 434 h 0 [some (.ref 420), some (.int x), some (.int y)] [] (fun sz' h' r => sz' = 434 ∧ SH h' ∧ IM5 n c m t wr (s) g G h' ∧ KD h h' ∧ ∃ x : Int32, r = [.int x]) := by
  obtain ⟨⟨th, nx, tk, pl, va, fa, h5⟩, h6, h22⟩ := id hI
  refine EV.post ?_ (y_X12_holds hS h5 hc hm)
  rintro _ h' _ ⟨rfl, hs, hk, hr, g5⟩
  exact ⟨rfl, hs, ⟨⟨_, _, _, _, _, _, g5⟩, (hk 421 (by decide)).trans h6, (hk 422 (by decide)).trans h22⟩, KD_M (by decide) hk, hr⟩
theorem k5_worlds {xs : Nat → Int32} {L d : Nat} {h : ev_H} {n c m t : Nat} {wr : Int32} {s : Int64} {f G : Nat → Int32} {x : Int32} (hS : SH h) (hI : IC5 n c m t wr s f G h) (hc : c ≤ 16) (hm : m ≤ 24) : EV xs L (d + 2) 0 0 M_X11_worlds 434 h 0 [some (.ref 2), some (.int x)] [] (fun sz' h' r => sz' = 434 ∧ SH h' ∧ IC5 n c m t wr (s) f G h' ∧ KU h h' ∧ ∃ x : Int32, r = [.int x]) := by
  obtain ⟨h2, ⟨p, q, k, v, h3⟩, h4, ⟨fk, fs, h13⟩, ⟨kn, bs, bz, h24⟩, h95, hL⟩ := id hI
  refine EV.post ?_ (x_X11_worlds hS h2 (by omega))
  rintro _ h' _ ⟨rfl, rfl, hr⟩
  exact ⟨rfl, hS, hI, fun _ _ => rfl, hr⟩
theorem j5_worlds {xs : Nat → Int32} {L d : Nat} {h : ev_H} {n c m t : Nat} {wr : Int32} {s : Int64} {g G : Nat → Int32} {x : Int32} (hS : SH h) (hI : IM5 n c m t wr s g G h) (hc : c ≤ 16) (hm : m ≤ 24) : EV xs L (d + 2) 0 0 M_X12_worlds 434 h 0 [some (.ref 420), some (.int x), none] [] (fun sz' h' r => sz' = 434 ∧ SH h' ∧ IM5 n c m t wr (s) g G h' ∧ KD h h' ∧ ∃ x : Int32, r = [.int x]) := by
  obtain ⟨⟨th, nx, tk, pl, va, fa, h5⟩, h6, h22⟩ := id hI
  refine EV.post ?_ (y_X12_worlds hS h5 hc hm)
  rintro _ h' _ ⟨rfl, hs, hk, hr, g5⟩
  exact ⟨rfl, hs, ⟨⟨_, _, _, _, _, _, g5⟩, (hk 421 (by decide)).trans h6, (hk 422 (by decide)).trans h22⟩, KD_M (by decide) hk, hr⟩
theorem k5_says {xs : Nat → Int32} {L d : Nat} {h : ev_H} {n c m t : Nat} {wr : Int32} {s : Int64} {f G : Nat → Int32} {x y z : Int32} (hS : SH h) (hI : IC5 n c m t wr s f G h) (hc : c ≤ 16) (hm : m ≤ 24) : EV xs L (d + 2) 0 0 M_X11_says 434 h 0 [some (.ref 2), some (.int x), some (.int y), some (.int z), none] [] (fun sz' h' r => sz' = 434 ∧ SH h' ∧ IC5 n c m t wr (s) f G h' ∧ KU h h' ∧ ∃ x : Int32, r = [.int x]) := by
  obtain ⟨h2, ⟨p, q, k, v, h3⟩, h4, ⟨fk, fs, h13⟩, ⟨kn, bs, bz, h24⟩, h95, hL⟩ := id hI
  refine EV.post ?_ (x_X11_says hS h2 (by omega))
  rintro _ h' _ ⟨rfl, rfl, hr⟩
  exact ⟨rfl, hS, hI, fun _ _ => rfl, hr⟩
theorem j5_says {xs : Nat → Int32} {L d : Nat} {h : ev_H} {n c m t : Nat} {wr : Int32} {s : Int64} {g G : Nat → Int32} {x y z : Int32} (hS : SH h) (hI : IM5 n c m t wr s g G h) (hc : c ≤ 16) (hm : m ≤ 24) : EV xs L (d + 2) 0 0 M_X12_says 434 h 0 [some (.ref 420), some (.int x), some (.int y), some (.int z)] [] (fun sz' h' r => sz' = 434 ∧ SH h' ∧ IM5 n c m t wr (s) g G h' ∧ KD h h' ∧ ∃ x : Int32, r = [.int x]) := by
  obtain ⟨⟨th, nx, tk, pl, va, fa, h5⟩, h6, h22⟩ := id hI
  refine EV.post ?_ (y_X12_says hS h5 hc hm)
  rintro _ h' _ ⟨rfl, hs, hk, hr, g5⟩
  exact ⟨rfl, hs, ⟨⟨_, _, _, _, _, _, g5⟩, (hk 421 (by decide)).trans h6, (hk 422 (by decide)).trans h22⟩, KD_M (by decide) hk, hr⟩
theorem k5_saying {xs : Nat → Int32} {L d : Nat} {h : ev_H} {n c m t : Nat} {wr : Int32} {s : Int64} {f G : Nat → Int32} {x y : Int32} (hS : SH h) (hI : IC5 n c m t wr s f G h) (hc : c ≤ 16) (hm : m ≤ 24) : EV xs L (d + 1) 0 0 M_X11_saying 434 h 0 [some (.ref 2), some (.int x), some (.int y), none] [] (fun sz' h' r => sz' = 434 ∧ SH h' ∧ IC5 n c m t wr (s) f G h' ∧ KU h h' ∧ ∃ x : Int64, r = [.long x]) := by
  obtain ⟨h2, ⟨p, q, k, v, h3⟩, h4, ⟨fk, fs, h13⟩, ⟨kn, bs, bz, h24⟩, h95, hL⟩ := id hI
  refine EV.post ?_ (x_X11_saying hS h2 (by omega))
  rintro _ h' _ ⟨rfl, rfl, hr⟩
  exact ⟨rfl, hS, hI, fun _ _ => rfl, hr⟩
theorem j5_saying {xs : Nat → Int32} {L d : Nat} {h : ev_H} {n c m t : Nat} {wr : Int32} {s : Int64} {g G : Nat → Int32} {x y : Int32} (hS : SH h) (hI : IM5 n c m t wr s g G h) (hc : c ≤ 16) (hm : m ≤ 24) : EV xs L (d + 2) 0 0 M_X12_saying 434 h 0 [some (.ref 420), some (.int x), some (.int y), none] [] (fun sz' h' r => sz' = 434 ∧ SH h' ∧ IM5 n c m t wr (s) g G h' ∧ KD h h' ∧ ∃ x : Int64, r = [.long x]) := by
  obtain ⟨⟨th, nx, tk, pl, va, fa, h5⟩, h6, h22⟩ := id hI
  refine EV.post ?_ (y_X12_saying hS h5 hc hm)
  rintro _ h' _ ⟨rfl, hs, hk, hr, g5⟩
  exact ⟨rfl, hs, ⟨⟨_, _, _, _, _, _, g5⟩, (hk 421 (by decide)).trans h6, (hk 422 (by decide)).trans h22⟩, KD_M (by decide) hk, hr⟩
theorem k5_between {xs : Nat → Int32} {L d : Nat} {h : ev_H} {n c m t : Nat} {wr : Int32} {s : Int64} {f G : Nat → Int32} {x : Int32} (hS : SH h) (hI : IC5 n c m t wr s f G h) (hc : c ≤ 16) (hm : m ≤ 24) : EV xs L (d + 4) 0 0 M_X11_between 434 h 0 [some (.ref 2), some (.int x), none] [] (fun sz' h' r => sz' = 434 ∧ SH h' ∧ IC5 n c m t wr (s) f G h' ∧ KU h h' ∧ ∃ x : Int32, r = [.int x]) := by
  obtain ⟨h2, ⟨p, q, k, v, h3⟩, h4, ⟨fk, fs, h13⟩, ⟨kn, bs, bz, h24⟩, h95, hL⟩ := id hI
  refine EV.post ?_ (x_X11_between hS h2 (by omega))
  rintro _ h' _ ⟨rfl, rfl, hr⟩
  exact ⟨rfl, hS, hI, fun _ _ => rfl, hr⟩
theorem j5_between {xs : Nat → Int32} {L d : Nat} {h : ev_H} {n c m t : Nat} {wr : Int32} {s : Int64} {g G : Nat → Int32} {x : Int32} (hS : SH h) (hI : IM5 n c m t wr s g G h) (hc : c ≤ 16) (hm : m ≤ 24) : EV xs L (d + 3) 0 0 M_X12_between 434 h 0 [some (.ref 420), some (.int x)] [] (fun sz' h' r => sz' = 434 ∧ SH h' ∧ IM5 n c m t wr (s) g G h' ∧ KD h h' ∧ ∃ x : Int32, r = [.int x]) := by
  obtain ⟨⟨th, nx, tk, pl, va, fa, h5⟩, h6, h22⟩ := id hI
  refine EV.post ?_ (y_X12_between hS h5 hc hm)
  rintro _ h' _ ⟨rfl, hs, hk, hr, g5⟩
  exact ⟨rfl, hs, ⟨⟨_, _, _, _, _, _, g5⟩, (hk 421 (by decide)).trans h6, (hk 422 (by decide)).trans h22⟩, KD_M (by decide) hk, hr⟩
theorem k5_looks {xs : Nat → Int32} {L d : Nat} {h : ev_H} {n c m t : Nat} {wr : Int32} {s : Int64} {f G : Nat → Int32} {x : Int32} (hS : SH h) (hI : IC5 n c m t wr s f G h) (hc : c ≤ 16) (hm : m ≤ 24) : EV xs L (d + 3) 0 0 M_X11_looks 434 h 0 [some (.ref 2), some (.int x), none] [] (fun sz' h' r => sz' = 434 ∧ SH h' ∧ IC5 n c m t wr (s) f G h' ∧ KU h h' ∧ ∃ x : Int32, r = [.int x]) := by
  obtain ⟨h2, ⟨p, q, k, v, h3⟩, h4, ⟨fk, fs, h13⟩, ⟨kn, bs, bz, h24⟩, h95, hL⟩ := id hI
  refine EV.post ?_ (x_X11_looks hS h2 (by omega))
  rintro _ h' _ ⟨rfl, rfl, hr⟩
  exact ⟨rfl, hS, hI, fun _ _ => rfl, hr⟩
theorem j5_looks {xs : Nat → Int32} {L d : Nat} {h : ev_H} {n c m t : Nat} {wr : Int32} {s : Int64} {g G : Nat → Int32} {x : Int32} (hS : SH h) (hI : IM5 n c m t wr s g G h) (hc : c ≤ 16) (hm : m ≤ 24) : EV xs L (d + 2) 0 0 M_X12_looks 434 h 0 [some (.ref 420), some (.int x)] [] (fun sz' h' r => sz' = 434 ∧ SH h' ∧ IM5 n c m t wr (s) g G h' ∧ KD h h' ∧ ∃ x : Int32, r = [.int x]) := by
  obtain ⟨⟨th, nx, tk, pl, va, fa, h5⟩, h6, h22⟩ := id hI
  refine EV.post ?_ (y_X12_looks hS h5 hc hm)
  rintro _ h' _ ⟨rfl, hs, hk, hr, g5⟩
  exact ⟨rfl, hs, ⟨⟨_, _, _, _, _, _, g5⟩, (hk 421 (by decide)).trans h6, (hk 422 (by decide)).trans h22⟩, KD_M (by decide) hk, hr⟩
theorem k5_compare {xs : Nat → Int32} {L d : Nat} {h : ev_H} {n c m t : Nat} {wr : Int32} {s : Int64} {f G : Nat → Int32} {x y : Int32} (hS : SH h) (hI : IC5 n c m t wr s f G h) (hc : c ≤ 16) (hm : m ≤ 24) : EV xs L (d + 3) 0 0 M_X11_compare 434 h 0 [some (.ref 2), some (.int x), some (.int y), none, none, none, none] [] (fun sz' h' r => sz' = 434 ∧ SH h' ∧ IC5 n c m t wr (s) f G h' ∧ KU h h' ∧ ∃ x : Int32, r = [.int x]) := by
  obtain ⟨h2, ⟨p, q, k, v, h3⟩, h4, ⟨fk, fs, h13⟩, ⟨kn, bs, bz, h24⟩, h95, hL⟩ := id hI
  refine EV.post ?_ (x_X11_compare hS h2 (by omega))
  rintro _ h' _ ⟨rfl, rfl, hr⟩
  exact ⟨rfl, hS, hI, fun _ _ => rfl, hr⟩
theorem j5_compare {xs : Nat → Int32} {L d : Nat} {h : ev_H} {n c m t : Nat} {wr : Int32} {s : Int64} {g G : Nat → Int32} {x y : Int32} (hS : SH h) (hI : IM5 n c m t wr s g G h) (hc : c ≤ 16) (hm : m ≤ 24) : EV xs L (d + 2) 0 0 M_X12_compare 434 h 0 [some (.ref 420), some (.int x), some (.int y), none, none, none] [] (fun sz' h' r => sz' = 434 ∧ SH h' ∧ IM5 n c m t wr (s) g G h' ∧ KD h h' ∧ ∃ x : Int32, r = [.int x]) := by
  obtain ⟨⟨th, nx, tk, pl, va, fa, h5⟩, h6, h22⟩ := id hI
  refine EV.post ?_ (y_X12_compare hS h5 hc hm)
  rintro _ h' _ ⟨rfl, hs, hk, hr, g5⟩
  exact ⟨rfl, hs, ⟨⟨_, _, _, _, _, _, g5⟩, (hk 421 (by decide)).trans h6, (hk 422 (by decide)).trans h22⟩, KD_M (by decide) hk, hr⟩
theorem k5_bounds {xs : Nat → Int32} {L d : Nat} {h : ev_H} {n c m t : Nat} {wr : Int32} {s : Int64} {f G : Nat → Int32} {x : Int32} (hS : SH h) (hI : IC5 n c m t wr s f G h) (hc : c ≤ 16) (hm : m ≤ 24) : EV xs L (d + 3) 0 0 M_X11_bounds 434 h 0 [some (.ref 2), some (.int x)] [] (fun sz' h' r => sz' = 434 ∧ SH h' ∧ IC5 n c m t wr (s) f G h' ∧ KU h h' ∧ ∃ x : Int32, r = [.int x]) := by
  obtain ⟨h2, ⟨p, q, k, v, h3⟩, h4, ⟨fk, fs, h13⟩, ⟨kn, bs, bz, h24⟩, h95, hL⟩ := id hI
  refine EV.post ?_ (x_X11_bounds hS h2 (by omega))
  rintro _ h' _ ⟨rfl, rfl, hr⟩
  exact ⟨rfl, hS, hI, fun _ _ => rfl, hr⟩
theorem j5_bounds {xs : Nat → Int32} {L d : Nat} {h : ev_H} {n c m t : Nat} {wr : Int32} {s : Int64} {g G : Nat → Int32} {x : Int32} (hS : SH h) (hI : IM5 n c m t wr s g G h) (hc : c ≤ 16) (hm : m ≤ 24) : EV xs L (d + 2) 0 0 M_X12_bounds_ 434 h 0 [some (.ref 420), some (.int x), none] [] (fun sz' h' r => sz' = 434 ∧ SH h' ∧ IM5 n c m t wr (s) g G h' ∧ KD h h' ∧ ∃ x : Int32, r = [.int x]) := by
  obtain ⟨⟨th, nx, tk, pl, va, fa, h5⟩, h6, h22⟩ := id hI
  refine EV.post ?_ (y_X12_bounds_ hS h5 hc hm)
  rintro _ h' _ ⟨rfl, hs, hk, hr, g5⟩
  exact ⟨rfl, hs, ⟨⟨_, _, _, _, _, _, g5⟩, (hk 421 (by decide)).trans h6, (hk 422 (by decide)).trans h22⟩, KD_M (by decide) hk, hr⟩
theorem k5_fewest {xs : Nat → Int32} {L d : Nat} {h : ev_H} {n c m t : Nat} {wr : Int32} {s : Int64} {f G : Nat → Int32} {x : Int32} (hS : SH h) (hI : IC5 n c m t wr s f G h) (hc : c ≤ 16) (hm : m ≤ 24) : EV xs L (d + 6) 0 0 M_X11_fewest 434 h 0 [some (.ref 2), some (.int x)] [] (fun sz' h' r => sz' = 434 ∧ SH h' ∧ IC5 n c m t wr (s) f G h' ∧ KU h h' ∧ ∃ x : Int32, r = [.int x]) := by
  obtain ⟨h2, ⟨p, q, k, v, h3⟩, h4, ⟨fk, fs, h13⟩, ⟨kn, bs, bz, h24⟩, h95, hL⟩ := id hI
  refine EV.post ?_ (x_X11_fewest hS h2 (by omega) h13)
  rintro _ h' _ ⟨rfl, hs, hk, ⟨a1, a2, g13⟩, hr⟩
  exact ⟨rfl, hs, ⟨(hk 2 (by decide) nSP_2).trans h2, ⟨p, q, k, v, (hk 3 (by decide) nSP_3).trans h3⟩, (hk 4 (by decide) nSP_4).trans h4, ⟨_, _, g13⟩, ⟨kn, bs, bz, (hk 24 (by decide) nSP_24).trans h24⟩, (hk 95 (by decide) nSP_95).trans h95, LN_kx (by decide) hk (by omega) hL⟩, KU_X (by decide) hk, hr⟩
theorem j5_fewest {xs : Nat → Int32} {L d : Nat} {h : ev_H} {n c m t : Nat} {wr : Int32} {s : Int64} {g G : Nat → Int32} {x : Int32} (hS : SH h) (hI : IM5 n c m t wr s g G h) (hc : c ≤ 16) (hm : m ≤ 24) : EV xs L (d + 2) 0 0 M_X12_fewest 434 h 0 [some (.ref 420), some (.int x), none, none, none, none, none] [] (fun sz' h' r => sz' = 434 ∧ SH h' ∧ IM5 n c m t wr (s) g G h' ∧ KD h h' ∧ ∃ x : Int32, r = [.int x]) := by
  obtain ⟨⟨th, nx, tk, pl, va, fa, h5⟩, h6, h22⟩ := id hI
  refine EV.post ?_ (y_X12_fewest hS h5 hc hm)
  rintro _ h' _ ⟨rfl, hs, hk, hr, g5⟩
  exact ⟨rfl, hs, ⟨⟨_, _, _, _, _, _, g5⟩, (hk 421 (by decide)).trans h6, (hk 422 (by decide)).trans h22⟩, KD_M (by decide) hk, hr⟩
theorem k5_tell {xs : Nat → Int32} {L d : Nat} {h : ev_H} {n c m t : Nat} {wr : Int32} {s : Int64} {f G : Nat → Int32} {x y : Int32} (hS : SH h) (hI : IC5 n c m t wr s f G h) (hc : c ≤ 16) (hm : m ≤ 24) : EV xs L (d + 2) 0 0 M_X11_tell 434 h 0 [some (.ref 2), some (.int x), some (.int y), none] [] (fun sz' h' r => sz' = 434 ∧ SH h' ∧ IC5 n c m t wr (s) f G h' ∧ KU h h' ∧ ∃ x : Int32, r = [.int x]) := by
  obtain ⟨h2, ⟨p, q, k, v, h3⟩, h4, ⟨fk, fs, h13⟩, ⟨kn, bs, bz, h24⟩, h95, hL⟩ := id hI
  refine EV.post ?_ (x_X11_tell hS h2 (by omega))
  rintro _ h' _ ⟨rfl, hs, hk, hr⟩
  exact ⟨rfl, hs, ⟨(hk 2 (by decide) nSP_2).trans h2, ⟨p, q, k, v, (hk 3 (by decide) nSP_3).trans h3⟩, (hk 4 (by decide) nSP_4).trans h4, ⟨fk, fs, (hk 13 (by decide) nSP_13).trans h13⟩, ⟨kn, bs, bz, (hk 24 (by decide) nSP_24).trans h24⟩, (hk 95 (by decide) nSP_95).trans h95, LN_kx (by decide) hk (by omega) hL⟩, KU_X (by decide) hk, hr⟩
theorem j5_tell {xs : Nat → Int32} {L d : Nat} {h : ev_H} {n c m t : Nat} {wr : Int32} {s : Int64} {g G : Nat → Int32} {x y : Int32} (hS : SH h) (hI : IM5 n c m t wr s g G h) (hc : c ≤ 16) (hm : m ≤ 24) : EV xs L (d + 1) 0 0 M_X12_tell 434 h 0 [some (.ref 420), some (.int x), some (.int y), none, none, none] [] (fun sz' h' r => sz' = 434 ∧ SH h' ∧ IM5 n c m t wr (s) g G h' ∧ KD h h' ∧ ∃ x : Int32, r = [.int x]) := by
  obtain ⟨⟨th, nx, tk, pl, va, fa, h5⟩, h6, h22⟩ := id hI
  refine EV.post ?_ (y_X12_tell hS h5 hc hm)
  rintro _ h' _ ⟨rfl, hs, hk, hr, g5⟩
  exact ⟨rfl, hs, ⟨⟨_, _, _, _, _, _, g5⟩, (hk 421 (by decide)).trans h6, (hk 422 (by decide)).trans h22⟩, KD_M (by decide) hk, hr⟩
theorem k5_copy {xs : Nat → Int32} {L d : Nat} {h : ev_H} {n c m t : Nat} {wr : Int32} {s : Int64} {f G : Nat → Int32} {x y z : Int32} (hS : SH h) (hI : IC5 n c m t wr s f G h) (hc : c ≤ 16) (hm : m ≤ 24) : EV xs L (d + 3) 0 0 M_X11_copy 434 h 0 [some (.ref 2), some (.int x), some (.int y), some (.int z), none, none, none] [] (fun sz' h' r => sz' = 434 ∧ SH h' ∧ IC5 n c m t wr (s) f G h' ∧ KU h h' ∧ ∃ x : Int32, r = [.int x]) := by
  obtain ⟨h2, ⟨p, q, k, v, h3⟩, h4, ⟨fk, fs, h13⟩, ⟨kn, bs, bz, h24⟩, h95, hL⟩ := id hI
  refine EV.post ?_ (x_X11_copy hS h2 (by omega))
  rintro _ h' _ ⟨rfl, hs, hk, hr⟩
  exact ⟨rfl, hs, ⟨(hk 2 (by decide) nSP_2).trans h2, ⟨p, q, k, v, (hk 3 (by decide) nSP_3).trans h3⟩, (hk 4 (by decide) nSP_4).trans h4, ⟨fk, fs, (hk 13 (by decide) nSP_13).trans h13⟩, ⟨kn, bs, bz, (hk 24 (by decide) nSP_24).trans h24⟩, (hk 95 (by decide) nSP_95).trans h95, LN_kx (by decide) hk (by omega) hL⟩, KU_X (by decide) hk, hr⟩
theorem j5_copy {xs : Nat → Int32} {L d : Nat} {h : ev_H} {n c m t : Nat} {wr : Int32} {s : Int64} {g G : Nat → Int32} {x y z : Int32} (hS : SH h) (hI : IM5 n c m t wr s g G h) (hc : c ≤ 16) (hm : m ≤ 24) : EV xs L (d + 2) 0 0 M_X12_copy 434 h 0 [some (.ref 420), some (.int x), some (.int y), some (.int z), none, none, none, none] [] (fun sz' h' r => sz' = 434 ∧ SH h' ∧ IM5 n c m t wr (s) g G h' ∧ KD h h' ∧ ∃ x : Int32, r = [.int x]) := by
  obtain ⟨⟨th, nx, tk, pl, va, fa, h5⟩, h6, h22⟩ := id hI
  refine EV.post ?_ (y_X12_copy hS h5 hc hm)
  rintro _ h' _ ⟨rfl, hs, hk, hr, g5⟩
  exact ⟨rfl, hs, ⟨⟨_, _, _, _, _, _, g5⟩, (hk 421 (by decide)).trans h6, (hk 422 (by decide)).trans h22⟩, KD_M (by decide) hk, hr⟩
theorem k5_check {xs : Nat → Int32} {L d : Nat} {h : ev_H} {n c m t : Nat} {wr : Int32} {s : Int64} {f G : Nat → Int32} (hS : SH h) (hI : IC5 n c m t wr s f G h) (hc : c ≤ 16) (hm : m ≤ 24) : EV xs L (d + 4) 0 0 M_X11_check 434 h 0 [some (.ref 2)] [] (fun sz' h' r => sz' = 434 ∧ SH h' ∧ IC5 n c m t wr (s) f G h' ∧ KU h h' ∧ ∃ x : Int32, r = [.int x]) := by
  obtain ⟨h2, ⟨p, q, k, v, h3⟩, h4, ⟨fk, fs, h13⟩, ⟨kn, bs, bz, h24⟩, h95, hL⟩ := id hI
  refine EV.post ?_ (x_X11_check hS h2 (by omega))
  rintro _ h' _ ⟨rfl, rfl, hr⟩
  exact ⟨rfl, hS, hI, fun _ _ => rfl, hr⟩
theorem j5_check {xs : Nat → Int32} {L d : Nat} {h : ev_H} {n c m t : Nat} {wr : Int32} {s : Int64} {g G : Nat → Int32} (hS : SH h) (hI : IM5 n c m t wr s g G h) (hc : c ≤ 16) (hm : m ≤ 24) : EV xs L (d + 3) 0 0 M_X12_check 434 h 0 [some (.ref 420)] [] (fun sz' h' r => sz' = 434 ∧ SH h' ∧ IM5 n c m t wr (s) g G h' ∧ KD h h' ∧ ∃ x : Int32, r = [.int x]) := by
  obtain ⟨⟨th, nx, tk, pl, va, fa, h5⟩, h6, h22⟩ := id hI
  refine EV.post ?_ (y_X12_check hS h5 hc hm)
  rintro _ h' _ ⟨rfl, hs, hk, hr, g5⟩
  exact ⟨rfl, hs, ⟨⟨_, _, _, _, _, _, g5⟩, (hk 421 (by decide)).trans h6, (hk 422 (by decide)).trans h22⟩, KD_M (by decide) hk, hr⟩
theorem k5_used {xs : Nat → Int32} {L d : Nat} {h : ev_H} {n c m t : Nat} {wr : Int32} {s : Int64} {f G : Nat → Int32} (hS : SH h) (hI : IC5 n c m t wr s f G h) (hc : c ≤ 16) (hm : m ≤ 24) (hG : GV c m G) : EV xs L (d + 2) 0 0 M_X11_used 434 h 0 [some (.ref 2)] [] (fun sz' h' r => sz' = 434 ∧ SH h' ∧ IC5 n c m t wr (s) f G h' ∧ KU h h' ∧ r = [.int (usR G c (c + m))]) := by
  obtain ⟨h2, ⟨p, q, k, v, h3⟩, h4, ⟨fk, fs, h13⟩, ⟨kn, bs, bz, h24⟩, h95, hL⟩ := id hI
  rw [GV_en hG] at h2
  rcases enM_or G (c + m) 0 with e | ⟨e, he, ee⟩
  · rw [usR, if_pos e]
    rw [e] at h2
    refine EV.post ?_ (x_us_z hS (k := c + m) (by omega) hc h2 hL)
    rintro _ h' _ ⟨rfl, rfl, hr⟩
    exact ⟨rfl, hS, hI, fun _ _ => rfl, hr⟩
  · rw [usR, ee, if_neg (nI_nm9 (by omega)), nI_clamp (by omega), ← usA_B hc hm hG (by omega)]
    rw [ee] at h2
    refine EV.post ?_ (x_us_s hS (k := c + m) (by omega) hc h2 hL (by omega))
    rintro _ h' _ ⟨rfl, rfl, hr⟩
    exact ⟨rfl, hS, hI, fun _ _ => rfl, hr⟩
theorem j5_used {xs : Nat → Int32} {L d : Nat} {h : ev_H} {n c m t : Nat} {wr : Int32} {s : Int64} {g G : Nat → Int32} (hS : SH h) (hI : IM5 n c m t wr s g G h) (hc : c ≤ 16) (hm : m ≤ 24) : EV xs L (d + 1) 0 0 M_X12_used 434 h 0 [some (.ref 420), none, none, none, none] [] (fun sz' h' r => sz' = 434 ∧ SH h' ∧ IM5 n c m t wr s g G h' ∧ KD h h' ∧ r = [.int (usR G c (c + m))]) := by
  obtain ⟨⟨th, nx, tk, pl, va, fa, h5⟩, h6, h22⟩ := id hI
  rcases enM_or G (c + m) 0 with e | ⟨e, he, ee⟩
  · rw [usR, if_pos e]
    refine EV.post ?_ (v_us_z hS h5 hc hm h22 e)
    rintro _ h' _ ⟨rfl, hs, hk, hr, g5⟩
    exact ⟨rfl, hs, ⟨⟨_, _, _, _, _, _, g5⟩, (hk 421 (by decide)).trans h6, (hk 422 (by decide)).trans h22⟩, KD_M (by decide) hk, hr⟩
  · rw [usR, ee, if_neg (nI_nm9 (by omega)), nI_clamp (by omega)]
    refine EV.post ?_ (v_us_s hS h5 hc hm (by omega) h22 ee)
    rintro _ h' _ ⟨rfl, hs, hk, hr, g5⟩
    exact ⟨rfl, hs, ⟨⟨_, _, _, _, _, _, g5⟩, (hk 421 (by decide)).trans h6, (hk 422 (by decide)).trans h22⟩, KD_M (by decide) hk, hr⟩
theorem k5_needed {xs : Nat → Int32} {L d : Nat} {h : ev_H} {n c m t : Nat} {wr : Int32} {s : Int64} {f G : Nat → Int32} {x : Int32} (hS : SH h) (hI : IC5 n c m t wr s f G h) (hc : c ≤ 16) (hm : m ≤ 24) : EV xs L (d + 22) 0 0 M_X11_needed 434 h 0 [some (.ref 2), some (.int x)] [] (fun sz' h' r => sz' = 434 ∧ SH h' ∧ IC5 n c m t wr (s) f G h' ∧ KU h h' ∧ ∃ x : Int32, r = [.int x]) := by
  obtain ⟨h2, ⟨p, q, k, v, h3⟩, h4, ⟨fk, fs, h13⟩, ⟨kn, bs, bz, h24⟩, h95, hL⟩ := id hI
  refine EV.post ?_ (x_X11_needed hS h2 (by omega) hc h24)
  rintro _ h' _ ⟨rfl, hs, hk, g24, hr⟩
  exact ⟨rfl, hs, ⟨(hk 2 (by decide) nSP_2).trans h2, ⟨p, q, k, v, (hk 3 (by decide) nSP_3).trans h3⟩, (hk 4 (by decide) nSP_4).trans h4, ⟨fk, fs, (hk 13 (by decide) nSP_13).trans h13⟩, g24, (hk 95 (by decide) nSP_95).trans h95, LN_kx (by decide) hk (by omega) hL⟩, KU_X (by decide) hk, hr⟩
theorem j5_needed {xs : Nat → Int32} {L d : Nat} {h : ev_H} {n c m t : Nat} {wr : Int32} {s : Int64} {g G : Nat → Int32} {x : Int32} (hS : SH h) (hI : IM5 n c m t wr s g G h) (hc : c ≤ 16) (hm : m ≤ 24) : EV xs L (d + 1) 0 0 M_X12_needed 434 h 0 [some (.ref 420), some (.int x), none, none] [] (fun sz' h' r => sz' = 434 ∧ SH h' ∧ IM5 n c m t wr (s) g G h' ∧ KD h h' ∧ ∃ x : Int32, r = [.int x]) := by
  obtain ⟨⟨th, nx, tk, pl, va, fa, h5⟩, h6, h22⟩ := id hI
  refine EV.post ?_ (y_X12_needed hS h5 hc hm (sh1_le hc))
  rintro _ h' _ ⟨rfl, hs, hk, hr, g5⟩
  exact ⟨rfl, hs, ⟨⟨_, _, _, _, _, _, g5⟩, (hk 421 (by decide)).trans h6, (hk 422 (by decide)).trans h22⟩, KD_M (by decide) hk, hr⟩
theorem k5_labour {xs : Nat → Int32} {L d : Nat} {h : ev_H} {n c m t : Nat} {wr : Int32} {s : Int64} {f G : Nat → Int32} {x y : Int32} (hS : SH h) (hI : IC5 n c m t wr s f G h) (hc : c ≤ 16) (hm : m ≤ 24) : EV xs L (d + 5) 0 0 M_X11_labour 434 h 0 [some (.ref 2), some (.int x), some (.int y), none, none] [] (fun sz' h' r => sz' = 434 ∧ SH h' ∧ IC5 n c m t wr (lbT x y (c + m) s) f G h' ∧ KU h h' ∧ ∃ x : Int32, r = [.int x]) := by
  obtain ⟨h2, ⟨p, q, k, v, h3⟩, h4, ⟨fk, fs, h13⟩, ⟨kn, bs, bz, h24⟩, h95, hL⟩ := id hI
  refine EV.post ?_ (x_X11_labour hS h2 (by omega) h95)
  rintro _ h' _ ⟨rfl, hs, hk, g95, hr⟩
  exact ⟨rfl, hs, ⟨(hk 2 (by decide) nSP_2).trans h2, ⟨p, q, k, v, (hk 3 (by decide) nSP_3).trans h3⟩, (hk 4 (by decide) nSP_4).trans h4, ⟨fk, fs, (hk 13 (by decide) nSP_13).trans h13⟩, ⟨kn, bs, bz, (hk 24 (by decide) nSP_24).trans h24⟩, g95, LN_kx (by decide) hk (by omega) hL⟩, KU_X (by decide) hk, hr⟩
theorem j5_labour {xs : Nat → Int32} {L d : Nat} {h : ev_H} {n c m t : Nat} {wr : Int32} {s : Int64} {g G : Nat → Int32} {x y : Int32} (hS : SH h) (hI : IM5 n c m t wr s g G h) (hc : c ≤ 16) (hm : m ≤ 24) : EV xs L (d + 2) 0 0 M_X12_labour 434 h 0 [some (.ref 420), some (.int x), some (.int y), none, none] [] (fun sz' h' r => sz' = 434 ∧ SH h' ∧ IM5 n c m t wr (lbT x y (c + m) s) g G h' ∧ KD h h' ∧ ∃ x : Int32, r = [.int x]) := by
  obtain ⟨⟨th, nx, tk, pl, va, fa, h5⟩, h6, h22⟩ := id hI
  refine EV.post ?_ (y_X12_labour hS h5 hc hm)
  rintro _ h' _ ⟨rfl, hs, hk, hr, g5⟩
  exact ⟨rfl, hs, ⟨⟨_, _, _, _, _, _, g5⟩, (hk 421 (by decide)).trans h6, (hk 422 (by decide)).trans h22⟩, KD_M (by decide) hk, hr⟩
theorem k5_count {xs : Nat → Int32} {L d : Nat} {h : ev_H} {n c m t : Nat} {wr : Int32} {s : Int64} {f G : Nat → Int32} {x : Int32} (hS : SH h) (hI : IC5 n c m t wr s f G h) (hc : c ≤ 16) (hm : m ≤ 24) : EV xs L (d + 2) 0 0 M_X11_count 434 h 0 [some (.ref 2), some (.int x)] [] (fun sz' h' r => sz' = 434 ∧ SH h' ∧ IC5 n c m t wr (s) f G h' ∧ KU h h' ∧ ∃ x : Int32, r = [.int x]) := by
  obtain ⟨h2, ⟨p, q, k, v, h3⟩, h4, ⟨fk, fs, h13⟩, ⟨kn, bs, bz, h24⟩, h95, hL⟩ := id hI
  refine EV.post ?_ (x_X11_count hS h2 (by omega))
  rintro _ h' _ ⟨rfl, rfl, hr⟩
  exact ⟨rfl, hS, hI, fun _ _ => rfl, hr⟩
theorem j5_count {xs : Nat → Int32} {L d : Nat} {h : ev_H} {n c m t : Nat} {wr : Int32} {s : Int64} {g G : Nat → Int32} {x : Int32} (hS : SH h) (hI : IM5 n c m t wr s g G h) (hc : c ≤ 16) (hm : m ≤ 24) : EV xs L (d + 2) 0 0 M_X12_count 434 h 0 [some (.ref 420), some (.int x)] [] (fun sz' h' r => sz' = 434 ∧ SH h' ∧ IM5 n c m t wr (s) g G h' ∧ KD h h' ∧ ∃ x : Int32, r = [.int x]) := by
  obtain ⟨⟨th, nx, tk, pl, va, fa, h5⟩, h6, h22⟩ := id hI
  refine EV.post ?_ (y_X12_count hS h5 hc hm)
  rintro _ h' _ ⟨rfl, hs, hk, hr, g5⟩
  exact ⟨rfl, hs, ⟨⟨_, _, _, _, _, _, g5⟩, (hk 421 (by decide)).trans h6, (hk 422 (by decide)).trans h22⟩, KD_M (by decide) hk, hr⟩
theorem k5_trace {xs : Nat → Int32} {L d : Nat} {h : ev_H} {n c m t : Nat} {wr : Int32} {s : Int64} {f G : Nat → Int32} (hS : SH h) (hI : IC5 n c m t wr s f G h) (hc : c ≤ 16) (hm : m ≤ 24) : EV xs L (d + 1) 0 0 M_X11_trace 434 h 0 [some (.ref 2)] [] (fun sz' h' r => sz' = 434 ∧ SH h' ∧ IC5 n c m t wr (s) f G h' ∧ KU h h' ∧ r = [.long s]) := by
  obtain ⟨h2, ⟨p, q, k, v, h3⟩, h4, ⟨fk, fs, h13⟩, ⟨kn, bs, bz, h24⟩, h95, hL⟩ := id hI
  refine EV.post ?_ (x_X11_trace hS h2 (by omega) h95)
  rintro _ h' _ ⟨rfl, rfl, hr⟩
  exact ⟨rfl, hS, hI, fun _ _ => rfl, hr⟩
theorem j5_trace {xs : Nat → Int32} {L d : Nat} {h : ev_H} {n c m t : Nat} {wr : Int32} {s : Int64} {g G : Nat → Int32} (hS : SH h) (hI : IM5 n c m t wr s g G h) (hc : c ≤ 16) (hm : m ≤ 24) : EV xs L (d + 0) 0 0 M_X12_trace 434 h 0 [some (.ref 420)] [] (fun sz' h' r => sz' = 434 ∧ SH h' ∧ IM5 n c m t wr (s) g G h' ∧ KD h h' ∧ r = [.long s]) := by
  obtain ⟨⟨th, nx, tk, pl, va, fa, h5⟩, h6, h22⟩ := id hI
  refine EV.post ?_ (y_X12_trace hS h5 hc hm)
  rintro _ h' _ ⟨rfl, hs, hk, hr, g5⟩
  exact ⟨rfl, hs, ⟨⟨_, _, _, _, _, _, g5⟩, (hk 421 (by decide)).trans h6, (hk 422 (by decide)).trans h22⟩, KD_M (by decide) hk, hr⟩
