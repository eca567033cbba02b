/-- the class's cells that the course of LINES rests on -/
def IC5 (n c m t : Nat) (wr : Int32) (s : Int64) (f G : Nat → Int32) (h : ev_H) : Prop := h 2 = c2 (nI c) (nI (c + m)) (nI t) wr (enF G (c + m) 0) ∧ (∃ p s k v, h 3 = c3 (nI n) p s k v) ∧ h 4 = c4 f ∧ (∃ fk fs, h 13 = c13 (ltO G c) (ltE G c) fk fs ∧ (fk = 0 ∨ fs = fwB G c (ltO G c &&& ltE G c) 256)) ∧ (∃ kn bs bz, h 24 = c24 (nI c) kn bs bz ∧ (kn = 0 ∨ bs = ndA (hdB G) c)) ∧ h 95 = .inr (9, [.long s]) ∧ LN (c + m) G h ∧ SDc G c (shN G c) h ∧ HDx G c h ∧ ∃ Y, SV c (c + m) G Y ∧ SWc (c + m) Y h
/-- the reference's -/
def IM5 (n c m t : Nat) (wr : Int32) (s : Int64) (g G : Nat → Int32) (h : ev_H) : Prop := (∃ th nx tk pl va fa, h 420 = c420 th s (nI n) nx tk pl va fa (nI c) (nI m) (nI t) wr) ∧ h 421 = c421 g ∧ h 422 = cI 240 G ∧ BR G c (shN G c) h ∧ ∃ H Y, h 425 = cL 160 H ∧ HV (c + m) G H ∧ h 426 = cL 480 Y ∧ SV c (c + m) G Y
theorem IM5.ku {n c m t : Nat} {wr : Int32} {s : Int64} {g G : Nat → Int32} {h h' : ev_H} (hI : IM5 n c m t wr s g G h) (hk : KU h h') : IM5 n c m t wr s g G h' := by
  obtain ⟨⟨th, nx, tk, pl, va, fa, h5⟩, h6, h22, hB, H, Y, h25, hH, h26, hY⟩ := hI
  exact ⟨⟨th, nx, tk, pl, va, fa, (hk 420 (by decide)).trans h5⟩, (hk 421 (by decide)).trans h6, (hk 422 (by decide)).trans h22, BR_f (hk 427 (by decide)) (hk 428 (by decide)) (hk 429 (by decide)) (hk 430 (by decide)) hB, H, Y, (hk 425 (by decide)).trans h25, hH, (hk 426 (by decide)).trans h26, hY⟩
theorem IC5.kd {n c m t : Nat} {wr : Int32} {s : Int64} {f G : Nat → Int32} {h h' : ev_H} (hI : IC5 n c m t wr s f G h) (hcm : c + m ≤ 40) (hk : KD h h') : IC5 n c m t wr s f G h' := by
  obtain ⟨h2, ⟨p, q, k, v, h3⟩, h4, ⟨fk, fs, h13, hfk⟩, ⟨kn, bs, bz, h24, hnk⟩, h95, hL, hD, hH9, Y, hV, hW⟩ := hI
  exact ⟨(hk 2 (by decide)).trans h2, ⟨p, q, k, v, (hk 3 (by decide)).trans h3⟩, (hk 4 (by decide)).trans h4, ⟨fk, fs, (hk 13 (by decide)).trans h13, hfk⟩, ⟨kn, bs, bz, (hk 24 (by decide)).trans h24, hnk⟩, (hk 95 (by decide)).trans h95, fun i hi => (hk _ (by omega)).trans (hL i hi), SDc_f (fun q _ _ => hk q (by omega)) hD, HDx_f (fun q _ _ => hk q (by omega)) hH9, Y, hV, SW_f hcm (fun q _ hq => hk q hq) hW⟩
theorem KU_X {l : List Nat} {h h' : ev_H} (hl : ∀ k ∈ l, k < 420) (hk : KX l h h') : KU h h' := fun k hk2 => hk k (fun z => by have := hl k z; omega) (nSP_m hk2)
theorem IC5.o2 {n c m t : Nat} {wr : Int32} {s : Int64} {f G : Nat → Int32} {h : ev_H} (hI : IC5 n c m t wr s f G h) : ∃ fs, h 2 = .inr (11, fs) := ⟨_, hI.1⟩
theorem IM5.o5 {n c m t : Nat} {wr : Int32} {s : Int64} {g G : Nat → Int32} {h : ev_H} (hI : IM5 n c m t wr s g G h) : ∃ fs, h 420 = .inr (12, fs) := by
  obtain ⟨⟨th, nx, tk, pl, va, fa, h5⟩, -⟩ := hI
  exact ⟨_, h5⟩
/-- what holds answers -/
def hoR (G : Nat → Int32) (k : Nat) (x y : Int32) : Int32 := if inR x 0 (nI k - 1) = 0 then -1 else if inR y 0 255 = 0 then -1 else soM (G (6 * x.toNatClampNeg)) (G (6 * x.toNatClampNeg + 1)) y
theorem isW_in (y : Int32) : isW y = inR y 0 255 := by
  unfold isW inR
  by_cases h : y < 0
  · rw [if_pos h, if_pos h]
  · rw [if_neg h, if_neg h]
    have e : (256 : Int32) ≤ y ↔ (255 : Int32) < y := by
      rw [Int32.le_iff_toInt_le, Int32.lt_iff_toInt_lt]
      have e1 : (256 : Int32).toInt = 256 := rfl
      have e2 : (255 : Int32).toInt = 255 := rfl
      omega
    by_cases h2 : (255 : Int32) < y
    · rw [if_pos h2, if_pos (e.mpr h2)]
    · rw [if_neg h2, if_neg (fun z => h2 (e.mp z))]
theorem hsM_so {a b : Int32} {w : Nat} : hsM (wO (soB a b) (w / 64)) w = soM a b (nI w) := by
  unfold hsM
  rw [wO_w]
  rcases soM_01 a b (nI w) with h | h
  · rw [if_neg (soB_f h), h]
  · rw [if_pos (soB_t (by rw [h]; decide)), h]
theorem hoN_R {G : Nat → Int32} {H : Nat → Int64} {k : Nat} {x y : Int32} (hk : k ≤ 40) (hH : HV k G H) : hoN H k x y = hoR G k x y := by
  unfold hoN hoR
  by_cases h1 : inR x 0 (nI k - 1) = 0
  · rw [if_pos h1, if_pos h1]
  · rw [if_neg h1, if_neg h1]
    by_cases h2 : inR y 0 255 = 0
    · rw [if_pos h2, if_pos h2]
    · rw [if_neg h2, if_neg h2]
      obtain ⟨i, hi, rfl⟩ := isLn (n := k) (by omega) h1
      obtain ⟨w, -, hw, rfl⟩ := inR_nat (a := 0) (b := 255) (by omega) h2
      rw [nI_clamp (by omega), nI_clamp (by omega), hH i hi (w / 64) (by omega), hsM_so]

def usR (G : Nat → Int32) (c k : Nat) : Int32 := if enM G k 0 = -9 then -2 else usB G c (enM G k 0).toNatClampNeg
theorem lpr_lnM {G : Nat → Int32} {n : Nat} {y : Int32} : lpr (G (6 * n)) (G (6 * n + 1)) (G (6 * n + 2)) (G (6 * n + 3)) (G (6 * n + 4)) (G (6 * n + 5)) y = if inR y 0 5 = 0 then -1 else G (6 * n + y.toNatClampNeg) := by
  by_cases h : inR y 0 5 = 0
  · rw [if_pos h]
    refine lpr_o ?_
    unfold inR at h
    by_cases h1 : y < 0
    · rw [Int32.lt_iff_toInt_lt] at h1; exact Or.inl h1
    · rw [if_neg h1] at h
      by_cases h2 : (5 : Int32) < y
      · rw [Int32.lt_iff_toInt_lt] at h2; exact Or.inr h2
      · rw [if_neg h2] at h; exact absurd h (by decide)
  · rw [if_neg h]
    obtain ⟨j, -, hj, rfl⟩ := inR_nat (a := 0) (b := 5) (by omega) h
    rw [nI_clamp (by omega)]
    match j, hj with
    | 0, _ => rfl
    | 1, _ => rfl
    | 2, _ => rfl
    | 3, _ => rfl
    | 4, _ => rfl
    | 5, _ => rfl
theorem btV_cg {G : Nat → Int32} {c : Nat} {V V' : Nat → Int64} (h : ∀ p, p < 4 → V p = V' p) : btV G c V = btV G c V' := by
  have e : lkO (pO V) 256 = lkO (pO V') 256 := (lla_lkO (V := V) (P := pO V) (fun p _ => pO_w V p)).symm.trans (lla_lkO (V := V) (P := pO V') (fun p hp => (h p hp).trans (pO_w V' p)))
  rw [btV, btV, e, ckL_cg 4 0 (fun p hp => ⟨rfl, rfl, h p hp⟩)]
theorem k5_wrong {xs : Nat → Int32} {L d : Nat} {h : ev_H} {n c m t : Nat} {wr : Int32} {s : Int64} {f G : Nat → Int32} (hS : SH h) (hI : IC5 n c m t wr s f G h) (hc : c ≤ 16) (hm : m ≤ 24) : EV xs L (d + 0) 0 0 M_X11_wrong 434 h 0 [some (.ref 2)] [] (fun sz' h' r => sz' = 434 ∧ SH h' ∧ IC5 n c m t wr (s) f G h' ∧ KU h h' ∧ r = [.int wr]) := by
  obtain ⟨h2, ⟨p, q, k, v, h3⟩, h4, ⟨fk, fs, h13, hfk⟩, ⟨kn, bs, bz, h24, hnk⟩, h95, hL, hD, hH9, Y, hV, hW⟩ := id hI
  refine EV.post ?_ (x_X11_wrong hS h2 (by omega))
  rintro _ h' _ ⟨rfl, rfl, hr⟩
  exact ⟨rfl, hS, hI, fun _ _ => rfl, hr⟩
theorem j5_wrong {xs : Nat → Int32} {L d : Nat} {h : ev_H} {n c m t : Nat} {wr : Int32} {s : Int64} {g G : Nat → Int32} (hS : SH h) (hI : IM5 n c m t wr s g G h) (hc : c ≤ 16) (hm : m ≤ 24) : EV xs L (d + 0) 0 0 M_X12_wrong 434 h 0 [some (.ref 420)] [] (fun sz' h' r => sz' = 434 ∧ SH h' ∧ IM5 n c m t wr (s) g G h' ∧ KD h h' ∧ r = [.int wr]) := by
  obtain ⟨⟨th, nx, tk, pl, va, fa, h5⟩, h6, h22, hB, H, Y, h25, hH, h26, hY⟩ := id hI
  refine EV.post ?_ (y_X12_wrong hS h5 hc hm)
  rintro _ h' _ ⟨rfl, hs, hk, hr, g5⟩
  exact ⟨rfl, hs, ⟨⟨_, _, _, _, _, _, g5⟩, (hk 421 (by decide)).trans h6, (hk 422 (by decide)).trans h22, BR_f (hk 427 (by decide)) (hk 428 (by decide)) (hk 429 (by decide)) (hk 430 (by decide)) hB, H, Y, (hk 425 (by decide)).trans h25, hH, (hk 426 (by decide)).trans h26, hY⟩, KD_M (by decide) hk, hr⟩
theorem k5_end {xs : Nat → Int32} {L d : Nat} {h : ev_H} {n c m t : Nat} {wr : Int32} {s : Int64} {f G : Nat → Int32} (hS : SH h) (hI : IC5 n c m t wr s f G h) (hc : c ≤ 16) (hm : m ≤ 24) (hG : GV c m G) : EV xs L (d + 0) 0 0 M_X11_end 434 h 0 [some (.ref 2)] [] (fun sz' h' r => sz' = 434 ∧ SH h' ∧ IC5 n c m t wr (s) f G h' ∧ KU h h' ∧ r = [.int (enM G (c + m) 0)]) := by
  obtain ⟨h2, ⟨p, q, k, v, h3⟩, h4, ⟨fk, fs, h13, hfk⟩, ⟨kn, bs, bz, h24, hnk⟩, h95, hL, hD, hH9, Y, hV, hW⟩ := id hI
  refine EV.post ?_ (x_X11_end hS h2 (by omega))
  rintro _ h' _ ⟨rfl, rfl, hr⟩
  exact ⟨rfl, hS, hI, fun _ _ => rfl, by rw [← GV_en hG]; exact hr⟩
theorem j5_end {xs : Nat → Int32} {L d : Nat} {h : ev_H} {n c m t : Nat} {wr : Int32} {s : Int64} {g G : Nat → Int32} (hS : SH h) (hI : IM5 n c m t wr s g G h) (hc : c ≤ 16) (hm : m ≤ 24) : EV xs L (d + 1) 0 0 M_X12_end 434 h 0 [some (.ref 420)] [] (fun sz' h' r => sz' = 434 ∧ SH h' ∧ IM5 n c m t wr (s) g G h' ∧ KD h h' ∧ r = [.int (enM G (c + m) 0)]) := by
  obtain ⟨⟨th, nx, tk, pl, va, fa, h5⟩, h6, h22, hB, H, Y, h25, hH, h26, hY⟩ := id hI
  refine EV.post ?_ (y_X12_end hS h5 hc hm h22)
  rintro _ h' _ ⟨rfl, hs, hk, hr, g5⟩
  exact ⟨rfl, hs, ⟨⟨_, _, _, _, _, _, g5⟩, (hk 421 (by decide)).trans h6, (hk 422 (by decide)).trans h22, BR_f (hk 427 (by decide)) (hk 428 (by decide)) (hk 429 (by decide)) (hk 430 (by decide)) hB, H, Y, (hk 425 (by decide)).trans h25, hH, (hk 426 (by decide)).trans h26, hY⟩, KD_M (by decide) hk, hr⟩
theorem k5_line {xs : Nat → Int32} {L d : Nat} {h : ev_H} {n c m t : Nat} {wr : Int32} {s : Int64} {f G : Nat → Int32} {x y : Int32} (hS : SH h) (hI : IC5 n c m t wr s f G h) (hc : c ≤ 16) (hm : m ≤ 24) : EV xs L (d + 2) 0 0 M_X11_line 434 h 0 [some (.ref 2), some (.int x), some (.int y), none] [] (fun sz' h' r => sz' = 434 ∧ SH h' ∧ IC5 n c m t wr (s) f G h' ∧ KU h h' ∧ r = [.int (lnM G (c + m) x y)]) := by
  obtain ⟨h2, ⟨p, q, k, v, h3⟩, h4, ⟨fk, fs, h13, hfk⟩, ⟨kn, bs, bz, h24, hnk⟩, h95, hL, hD, hH9, Y, hV, hW⟩ := id hI
  refine EV.post ?_ (x_X11_line hS h2 (by omega) (by omega) hL)
  rintro _ h' _ ⟨rfl, rfl, ⟨i, hi, rfl, rfl⟩ | ⟨hno, rfl⟩⟩
  · exact ⟨rfl, hS, hI, fun _ _ => rfl, by rw [lnM, if_neg (inR_in (by omega) hi), lpr_lnM, nI_clamp (by omega)]⟩
  · exact ⟨rfl, hS, hI, fun _ _ => rfl, by rw [lnM, if_pos (inR_ln (by omega) hno)]⟩
theorem j5_line {xs : Nat → Int32} {L d : Nat} {h : ev_H} {n c m t : Nat} {wr : Int32} {s : Int64} {g G : Nat → Int32} {x y : Int32} (hS : SH h) (hI : IM5 n c m t wr s g G h) (hc : c ≤ 16) (hm : m ≤ 24) : EV xs L (d + 2) 0 0 M_X12_line 434 h 0 [some (.ref 420), some (.int x), some (.int y)] [] (fun sz' h' r => sz' = 434 ∧ SH h' ∧ IM5 n c m t wr (s) g G h' ∧ KD h h' ∧ r = [.int (lnM G (c + m) x y)]) := by
  obtain ⟨⟨th, nx, tk, pl, va, fa, h5⟩, h6, h22, hB, H, Y, h25, hH, h26, hY⟩ := id hI
  refine EV.post ?_ (y_X12_line hS h5 hc hm h22)
  rintro _ h' _ ⟨rfl, hs, hk, hr, g5⟩
  exact ⟨rfl, hs, ⟨⟨_, _, _, _, _, _, g5⟩, (hk 421 (by decide)).trans h6, (hk 422 (by decide)).trans h22, BR_f (hk 427 (by decide)) (hk 428 (by decide)) (hk 429 (by decide)) (hk 430 (by decide)) hB, H, Y, (hk 425 (by decide)).trans h25, hH, (hk 426 (by decide)).trans h26, hY⟩, KD_M (by decide) hk, hr⟩
theorem k5_side {xs : Nat → Int32} {L d : Nat} {h : ev_H} {n c m t : Nat} {wr : Int32} {s : Int64} {f G : Nat → Int32} {x : Int32} (hS : SH h) (hI : IC5 n c m t wr s f G h) (hc : c ≤ 16) (hm : m ≤ 24) (hG : GV c m G) : EV xs L (d + 1) 0 0 M_X11_side 434 h 0 [some (.ref 2), some (.int x)] [] (fun sz' h' r => sz' = 434 ∧ SH h' ∧ IC5 n c m t wr (s) f G h' ∧ KU h h' ∧ r = [.int (sdM G c x)]) := by
  obtain ⟨h2, ⟨p, q, k, v, h3⟩, h4, ⟨fk, fs, h13, hfk⟩, ⟨kn, bs, bz, h24, hnk⟩, h95, hL, hD, hH9, Y, hV, hW⟩ := id hI
  refine EV.post ?_ (x_X11_side hS h2 (by omega) h13)
  rintro _ h' _ ⟨rfl, rfl, hr⟩
  exact ⟨rfl, hS, hI, fun _ _ => rfl, by rw [← sd_eq hG]; exact hr⟩
theorem j5_side {xs : Nat → Int32} {L d : Nat} {h : ev_H} {n c m t : Nat} {wr : Int32} {s : Int64} {g G : Nat → Int32} {x : Int32} (hS : SH h) (hI : IM5 n c m t wr s g G h) (hc : c ≤ 16) (hm : m ≤ 24) : EV xs L (d + 1) 0 0 M_X12_side 434 h 0 [some (.ref 420), some (.int x)] [] (fun sz' h' r => sz' = 434 ∧ SH h' ∧ IM5 n c m t wr (s) g G h' ∧ KD h h' ∧ r = [.int (sdM G c x)]) := by
  obtain ⟨⟨th, nx, tk, pl, va, fa, h5⟩, h6, h22, hB, H, Y, h25, hH, h26, hY⟩ := id hI
  refine EV.post ?_ (v_X12_side hS h5 hc hm h22)
  rintro _ h' _ ⟨rfl, hs, hk, hr, g5⟩
  exact ⟨rfl, hs, ⟨⟨_, _, _, _, _, _, g5⟩, (hk 421 (by decide)).trans h6, (hk 422 (by decide)).trans h22, BR_f (hk 427 (by decide)) (hk 428 (by decide)) (hk 429 (by decide)) (hk 430 (by decide)) hB, H, Y, (hk 425 (by decide)).trans h25, hH, (hk 426 (by decide)).trans h26, hY⟩, KD_M (by decide) hk, hr⟩
theorem k5_holds {xs : Nat → Int32} {L d : Nat} {h : ev_H} {n c m t : Nat} {wr : Int32} {s : Int64} {f G : Nat → Int32} {x y : Int32} (hS : SH h) (hI : IC5 n c m t wr s f G h) (hc : c ≤ 16) (hm : m ≤ 24) : EV xs L (d + 1) 0 0 M_X11_holds 434 h 0 [some (.ref 2), some (.int x), some (.int y), none] [] (fun sz' h' r => sz' = 434 ∧ SH h' ∧ IC5 n c m t wr (s) f G h' ∧ KU h h' ∧ r = [.int (hoR G (c + m) x y)]) := by
  obtain ⟨h2, ⟨p, q, k, v, h3⟩, h4, ⟨fk, fs, h13, hfk⟩, ⟨kn, bs, bz, h24, hnk⟩, h95, hL, hD, hH9, Y, hV, hW⟩ := id hI
  refine EV.post ?_ (v_X11_holds hS h2 (by omega) (by omega) hL)
  rintro _ h' _ ⟨rfl, rfl, ⟨i, hi, rfl, rfl⟩ | ⟨hno, rfl⟩⟩
  · exact ⟨rfl, hS, hI, fun _ _ => rfl, by rw [hoR, if_neg (inR_in (by omega) hi), isW_in, nI_clamp (by omega), soC_M]⟩
  · exact ⟨rfl, hS, hI, fun _ _ => rfl, by rw [hoR, if_pos (inR_ln (by omega) hno)]⟩
theorem j5_holds {xs : Nat → Int32} {L d : Nat} {h : ev_H} {n c m t : Nat} {wr : Int32} {s : Int64} {g G : Nat → Int32} {x y : Int32} (hS : SH h) (hI : IM5 n c m t wr s g G h) (hc : c ≤ 16) (hm : m ≤ 24) : EV xs L (d + 2) 0 0 M_X12_holds 434 h 0 [some (.ref 420), some (.int x), some (.int y)] [] (fun sz' h' r => sz' = 434 ∧ SH h' ∧ IM5 n c m t wr (s) g G h' ∧ KD h h' ∧ r = [.int (hoR G (c + m) x y)]) := by
  obtain ⟨⟨th, nx, tk, pl, va, fa, h5⟩, h6, h22, hB, H, Y, h25, hH, h26, hY⟩ := id hI
  refine EV.post ?_ (v_X12_holds hS h5 hc hm h25)
  rintro _ h' _ ⟨rfl, hs, hk, hr, g5⟩
  exact ⟨rfl, hs, ⟨⟨_, _, _, _, _, _, g5⟩, (hk 421 (by decide)).trans h6, (hk 422 (by decide)).trans h22, BR_f (hk 427 (by decide)) (hk 428 (by decide)) (hk 429 (by decide)) (hk 430 (by decide)) hB, H, Y, (hk 425 (by decide)).trans h25, hH, (hk 426 (by decide)).trans h26, hY⟩, KD_M (by decide) hk, by rw [← hoN_R (by omega) hH]; exact hr⟩
theorem k5_worlds {xs : Nat → Int32} {L d : Nat} {h : ev_H} {n c m t : Nat} {wr : Int32} {s : Int64} {f G : Nat → Int32} {x : Int32} (hS : SH h) (hI : IC5 n c m t wr s f G h) (hc : c ≤ 16) (hm : m ≤ 24) : EV xs L (d + 2) 0 0 M_X11_worlds 434 h 0 [some (.ref 2), some (.int x)] [] (fun sz' h' r => sz' = 434 ∧ SH h' ∧ IC5 n c m t wr (s) f G h' ∧ KU h h' ∧ r = [.int (woR G c x)]) := by
  obtain ⟨h2, ⟨p, q, k, v, h3⟩, h4, ⟨fk, fs, h13, hfk⟩, ⟨kn, bs, bz, h24, hnk⟩, h95, hL, hD, hH9, Y, hV, hW⟩ := id hI
  refine EV.post ?_ (v_X11_worlds hS h2 (by omega) hD)
  rintro _ h' _ ⟨rfl, rfl, hr⟩
  exact ⟨rfl, hS, hI, fun _ _ => rfl, hr⟩
theorem j5_worlds {xs : Nat → Int32} {L d : Nat} {h : ev_H} {n c m t : Nat} {wr : Int32} {s : Int64} {g G : Nat → Int32} {x : Int32} (hS : SH h) (hI : IM5 n c m t wr s g G h) (hc : c ≤ 16) (hm : m ≤ 24) (hG : GV c m G) : EV xs L (d + 2) 0 0 M_X12_worlds 434 h 0 [some (.ref 420), some (.int x), none] [] (fun sz' h' r => sz' = 434 ∧ SH h' ∧ IM5 n c m t wr s g G h' ∧ KD h h' ∧ r = [.int (woR G c x)]) := by
  obtain ⟨⟨th, nx, tk, pl, va, fa, h5⟩, h6, h22, hB, H, Y, h25, hH, h26, hY⟩ := id hI
  obtain ⟨O1, T1, S1, W1, e7, e8, e9, e0, hp4⟩ := id hB
  obtain ⟨T, h32⟩ := hS.la LA_432
  refine EV.post ?_ (z_X12_worlds hS h5 hc hm h22 e7 e8 e9 e0 h32)
  rintro _ h' _ ⟨rfl, hs, hk, hr, g5⟩
  exact ⟨rfl, hs, ⟨⟨_, _, _, _, _, _, g5⟩, (hk 421 (by decide)).trans h6, (hk 422 (by decide)).trans h22, BR_f (hk 427 (by decide)) (hk 428 (by decide)) (hk 429 (by decide)) (hk 430 (by decide)) hB, H, Y, (hk 425 (by decide)).trans h25, hH, (hk 426 (by decide)).trans h26, hY⟩, KD_M (by decide) hk, by rw [← woN_R (fun p hp => (hp4 p hp).1) (fun p hp => (hp4 p hp).2.1)]; exact hr⟩
theorem k5_says {xs : Nat → Int32} {L d : Nat} {h : ev_H} {n c m t : Nat} {wr : Int32} {s : Int64} {f G : Nat → Int32} {x y z : Int32} (hS : SH h) (hI : IC5 n c m t wr s f G h) (hc : c ≤ 16) (hm : m ≤ 24) (hG : GV c m G) : EV xs L (d + 2) 0 0 M_X11_says 434 h 0 [some (.ref 2), some (.int x), some (.int y), some (.int z), none] [] (fun sz' h' r => sz' = 434 ∧ SH h' ∧ IC5 n c m t wr (s) f G h' ∧ KU h h' ∧ r = [.int (syN (yG G c (c + m)) (c + m) x y z)]) := by
  obtain ⟨h2, ⟨p, q, k, v, h3⟩, h4, ⟨fk, fs, h13, hfk⟩, ⟨kn, bs, bz, h24, hnk⟩, h95, hL, hD, hH9, Y, hV, hW⟩ := id hI
  refine EV.post ?_ (v_X11_says hS h2 (by omega) (by omega) hL hW)
  rintro _ h' _ ⟨rfl, rfl, hr⟩
  exact ⟨rfl, hS, hI, fun _ _ => rfl, by rw [← syN_yG (by omega) hG hV]; exact hr⟩
theorem j5_says {xs : Nat → Int32} {L d : Nat} {h : ev_H} {n c m t : Nat} {wr : Int32} {s : Int64} {g G : Nat → Int32} {x y z : Int32} (hS : SH h) (hI : IM5 n c m t wr s g G h) (hc : c ≤ 16) (hm : m ≤ 24) (hG : GV c m G) : EV xs L (d + 2) 0 0 M_X12_says 434 h 0 [some (.ref 420), some (.int x), some (.int y), some (.int z)] [] (fun sz' h' r => sz' = 434 ∧ SH h' ∧ IM5 n c m t wr (s) g G h' ∧ KD h h' ∧ r = [.int (syN (yG G c (c + m)) (c + m) x y z)]) := by
  obtain ⟨⟨th, nx, tk, pl, va, fa, h5⟩, h6, h22, hB, H, Y, h25, hH, h26, hY⟩ := id hI
  refine EV.post ?_ (v_X12_says hS h5 hc hm h26)
  rintro _ h' _ ⟨rfl, hs, hk, hr, g5⟩
  exact ⟨rfl, hs, ⟨⟨_, _, _, _, _, _, g5⟩, (hk 421 (by decide)).trans h6, (hk 422 (by decide)).trans h22, BR_f (hk 427 (by decide)) (hk 428 (by decide)) (hk 429 (by decide)) (hk 430 (by decide)) hB, H, Y, (hk 425 (by decide)).trans h25, hH, (hk 426 (by decide)).trans h26, hY⟩, KD_M (by decide) hk, by rw [← syN_yG (by omega) hG hY]; exact hr⟩
theorem k5_saying {xs : Nat → Int32} {L d : Nat} {h : ev_H} {n c m t : Nat} {wr : Int32} {s : Int64} {f G : Nat → Int32} {x y : Int32} (hS : SH h) (hI : IC5 n c m t wr s f G h) (hc : c ≤ 16) (hm : m ≤ 24) (hG : GV c m G) : EV xs L (d + 1) 0 0 M_X11_saying 434 h 0 [some (.ref 2), some (.int x), some (.int y), none] [] (fun sz' h' r => sz' = 434 ∧ SH h' ∧ IC5 n c m t wr (s) f G h' ∧ KU h h' ∧ r = [.long (sgR G c (c + m) x y)]) := by
  obtain ⟨h2, ⟨p, q, k, v, h3⟩, h4, ⟨fk, fs, h13, hfk⟩, ⟨kn, bs, bz, h24, hnk⟩, h95, hL, hD, hH9, Y, hV, hW⟩ := id hI
  rw [GV_en hG] at h2
  refine EV.post ?_ (v_X11_saying hS h2 (by omega) (by omega) hL hW)
  rintro _ h' _ ⟨rfl, rfl, ⟨e, he, ee, rfl⟩ | ⟨hno, rfl⟩⟩
  · exact ⟨rfl, hS, hI, fun _ _ => rfl, by rw [sgR, ee, if_neg (nI_nm9 (by omega)), nI_clamp (by omega), sgN_yG (by omega) hG hV he]⟩
  · refine ⟨rfl, hS, hI, fun _ _ => rfl, ?_⟩
    rcases enM_or G (c + m) 0 with e | ⟨e, he, ee⟩
    · rw [sgR, if_pos e]
    · exact absurd ee (hno e (by omega))
theorem j5_saying {xs : Nat → Int32} {L d : Nat} {h : ev_H} {n c m t : Nat} {wr : Int32} {s : Int64} {g G : Nat → Int32} {x y : Int32} (hS : SH h) (hI : IM5 n c m t wr s g G h) (hc : c ≤ 16) (hm : m ≤ 24) (hG : GV c m G) : EV xs L (d + 2) 0 0 M_X12_saying 434 h 0 [some (.ref 420), some (.int x), some (.int y), none] [] (fun sz' h' r => sz' = 434 ∧ SH h' ∧ IM5 n c m t wr s g G h' ∧ KD h h' ∧ r = [.long (sgR G c (c + m) x y)]) := by
  obtain ⟨⟨th, nx, tk, pl, va, fa, h5⟩, h6, h22, hB, H, Y, h25, hH, h26, hY⟩ := id hI
  rcases enM_or G (c + m) 0 with e | ⟨e, he, ee⟩
  · rw [sgR, if_pos e]
    refine EV.post ?_ (v_sg_z hS h5 hc hm h22 h26 e)
    rintro _ h' _ ⟨rfl, hs, hk, hr, g5⟩
    exact ⟨rfl, hs, ⟨⟨_, _, _, _, _, _, g5⟩, (hk 421 (by decide)).trans h6, (hk 422 (by decide)).trans h22, BR_f (hk 427 (by decide)) (hk 428 (by decide)) (hk 429 (by decide)) (hk 430 (by decide)) hB, H, Y, (hk 425 (by decide)).trans h25, hH, (hk 426 (by decide)).trans h26, hY⟩, KD_M (by decide) hk, hr⟩
  · rw [sgR, ee, if_neg (nI_nm9 (by omega)), nI_clamp (by omega), ← sgN_yG (by omega) hG hY (by omega)]
    refine EV.post ?_ (v_sg_s hS h5 hc hm (by omega) h22 h26 ee)
    rintro _ h' _ ⟨rfl, hs, hk, hr, g5⟩
    exact ⟨rfl, hs, ⟨⟨_, _, _, _, _, _, g5⟩, (hk 421 (by decide)).trans h6, (hk 422 (by decide)).trans h22, BR_f (hk 427 (by decide)) (hk 428 (by decide)) (hk 429 (by decide)) (hk 430 (by decide)) hB, H, Y, (hk 425 (by decide)).trans h25, hH, (hk 426 (by decide)).trans h26, hY⟩, KD_M (by decide) hk, hr⟩
theorem k5_between {xs : Nat → Int32} {L d : Nat} {h : ev_H} {n c m t : Nat} {wr : Int32} {s : Int64} {f G : Nat → Int32} {x : Int32} (hS : SH h) (hI : IC5 n c m t wr s f G h) (hc : c ≤ 16) (hm : m ≤ 24) (hG : GV c m G) : EV xs L (d + 4) 0 0 M_X11_between 434 h 0 [some (.ref 2), some (.int x), none] [] (fun sz' h' r => sz' = 434 ∧ SH h' ∧ IC5 n c m t wr (s) f G h' ∧ KU h h' ∧ r = [.int (btR G c (c + m) x)]) := by
  obtain ⟨h2, ⟨p, q, k, v, h3⟩, h4, ⟨fk, fs, h13, hfk⟩, ⟨kn, bs, bz, h24, hnk⟩, h95, hL, hD, hH9, Y, hV, hW⟩ := id hI
  rw [GV_en hG] at h2
  refine EV.post ?_ (v_X11_between hS h2 (by omega) (by omega) hL hW h13 hD (lt_sh hG))
  rintro _ h' _ ⟨rfl, rfl, ⟨hx, rfl⟩ | ⟨j, hj, rfl, ⟨e, he, ee, rfl⟩ | ⟨hno, rfl⟩⟩⟩
  · exact ⟨rfl, hS, hI, fun _ _ => rfl, by rw [btR, if_pos hx]⟩
  · exact ⟨rfl, hS, hI, fun _ _ => rfl, by rw [btR, if_neg (inR3 hj), ee, if_neg (nI_nm9 (by omega)), nI_clamp (by omega), nI_clamp (by omega), btV_cg (V' := fun q => yG G c (c + m) (160 * j + 4 * e + q)) (fun p hp => Y_yG (by omega) hG hV hj hp he)]⟩
  · refine ⟨rfl, hS, hI, fun _ _ => rfl, ?_⟩
    rcases enM_or G (c + m) 0 with e | ⟨e, he, ee⟩
    · rw [btR, if_neg (inR3 hj), if_pos e]
    · exact absurd ee (hno e (by omega))
theorem j5_between {xs : Nat → Int32} {L d : Nat} {h : ev_H} {n c m t : Nat} {wr : Int32} {s : Int64} {g G : Nat → Int32} {x : Int32} (hS : SH h) (hI : IM5 n c m t wr s g G h) (hc : c ≤ 16) (hm : m ≤ 24) (hG : GV c m G) : EV xs L (d + 3) 0 0 M_X12_between 434 h 0 [some (.ref 420), some (.int x)] [] (fun sz' h' r => sz' = 434 ∧ SH h' ∧ IM5 n c m t wr s g G h' ∧ KD h h' ∧ r = [.int (btR G c (c + m) x)]) := by
  obtain ⟨⟨th, nx, tk, pl, va, fa, h5⟩, h6, h22, hB, H, Y, h25, hH, h26, hY⟩ := id hI
  obtain ⟨O1, T1, S1, W1, e7, e8, e9, e0, hp4⟩ := id hB
  obtain ⟨T, h32⟩ := hS.la LA_432
  by_cases hx : inR x 0 2 = 0
  · refine EV.post ?_ (z_btw_o hS h5 hx)
    rintro _ h' _ ⟨rfl, hs, hk, rfl, g5⟩
    exact ⟨rfl, hs, ⟨⟨_, _, _, _, _, _, g5⟩, (hk 421 (by decide)).trans h6, (hk 422 (by decide)).trans h22, BR_f (hk 427 (by decide)) (hk 428 (by decide)) (hk 429 (by decide)) (hk 430 (by decide)) hB, H, Y, (hk 425 (by decide)).trans h25, hH, (hk 426 (by decide)).trans h26, hY⟩, KD_M (by decide) hk, by rw [btR, if_pos hx]⟩
  · obtain ⟨j, -, hj, rfl⟩ := inR_nat (a := 0) (b := 2) (by omega) hx
    rcases enM_or G (c + m) 0 with e | ⟨e, he, ee⟩
    · refine EV.post ?_ (z_btw_z hS hc hm (by omega) h5 h22 h26 e7 e8 h32 e)
      rintro _ h' _ ⟨rfl, hs, hk, rfl, g5⟩
      exact ⟨rfl, hs, ⟨⟨_, _, _, _, _, _, g5⟩, (hk 421 (by decide)).trans h6, (hk 422 (by decide)).trans h22, BR_f (hk 427 (by decide)) (hk 428 (by decide)) (hk 429 (by decide)) (hk 430 (by decide)) hB, H, Y, (hk 425 (by decide)).trans h25, hH, (hk 426 (by decide)).trans h26, hY⟩, KD_M (by decide) hk, by rw [btR, if_neg hx, if_pos e]⟩
    · refine EV.post ?_ (z_btw_s (P := pO (fun q => yG G c (c + m) (160 * j + 4 * e + q))) hS hc hm (by omega) (by omega) h5 h22 h26 e7 e8 h32 ee (fun p hp => (Y_yG (by omega) hG hY (by omega) hp (by omega)).trans (pO_w (fun q => yG G c (c + m) (160 * j + 4 * e + q)) p)))
      rintro _ h' _ ⟨rfl, hs, hk, rfl, g5⟩
      exact ⟨rfl, hs, ⟨⟨_, _, _, _, _, _, g5⟩, (hk 421 (by decide)).trans h6, (hk 422 (by decide)).trans h22, BR_f (hk 427 (by decide)) (hk 428 (by decide)) (hk 429 (by decide)) (hk 430 (by decide)) hB, H, Y, (hk 425 (by decide)).trans h25, hH, (hk 426 (by decide)).trans h26, hY⟩, KD_M (by decide) hk, by rw [btR, if_neg hx, ee, if_neg (nI_nm9 (by omega)), nI_clamp (by omega), nI_clamp (by omega), btV, ← (shN_ok hG).1, ckL_cg (A := O1) (B := T1) 4 0 (fun p hp => ⟨(hp4 p hp).1, (hp4 p hp).2.1, (bk0 hp).trans (Y_yG (by omega) hG hY (by omega) hp (by omega))⟩)]⟩
theorem k5_looks {xs : Nat → Int32} {L d : Nat} {h : ev_H} {n c m t : Nat} {wr : Int32} {s : Int64} {f G : Nat → Int32} {x : Int32} (hS : SH h) (hI : IC5 n c m t wr s f G h) (hc : c ≤ 16) (hm : m ≤ 24) : EV xs L (d + 3) 0 0 M_X11_looks 434 h 0 [some (.ref 2), some (.int x), none] [] (fun sz' h' r => sz' = 434 ∧ SH h' ∧ IC5 n c m t wr (s) f G h' ∧ KU h h' ∧ ∃ x : Int32, r = [.int x]) := by
  obtain ⟨h2, ⟨p, q, k, v, h3⟩, h4, ⟨fk, fs, h13, hfk⟩, ⟨kn, bs, bz, h24, hnk⟩, h95, hL, hD, hH9, Y, hV, hW⟩ := id hI
  refine EV.post ?_ (x_X11_looks hS h2 (by omega))
  rintro _ h' _ ⟨rfl, rfl, hr⟩
  exact ⟨rfl, hS, hI, fun _ _ => rfl, hr⟩
theorem j5_looks {xs : Nat → Int32} {L d : Nat} {h : ev_H} {n c m t : Nat} {wr : Int32} {s : Int64} {g G : Nat → Int32} {x : Int32} (hS : SH h) (hI : IM5 n c m t wr s g G h) (hc : c ≤ 16) (hm : m ≤ 24) : EV xs L (d + 2) 0 0 M_X12_looks 434 h 0 [some (.ref 420), some (.int x)] [] (fun sz' h' r => sz' = 434 ∧ SH h' ∧ IM5 n c m t wr (s) g G h' ∧ KD h h' ∧ ∃ x : Int32, r = [.int x]) := by
  obtain ⟨⟨th, nx, tk, pl, va, fa, h5⟩, h6, h22, hB, H, Y, h25, hH, h26, hY⟩ := id hI
  refine EV.post ?_ (y_X12_looks hS h5 hc hm)
  rintro _ h' _ ⟨rfl, hs, hk, hr, g5⟩
  exact ⟨rfl, hs, ⟨⟨_, _, _, _, _, _, g5⟩, (hk 421 (by decide)).trans h6, (hk 422 (by decide)).trans h22, BR_f (hk 427 (by decide)) (hk 428 (by decide)) (hk 429 (by decide)) (hk 430 (by decide)) hB, H, Y, (hk 425 (by decide)).trans h25, hH, (hk 426 (by decide)).trans h26, hY⟩, KD_M (by decide) hk, hr⟩
theorem k5_compare {xs : Nat → Int32} {L d : Nat} {h : ev_H} {n c m t : Nat} {wr : Int32} {s : Int64} {f G : Nat → Int32} {x y : Int32} (hS : SH h) (hI : IC5 n c m t wr s f G h) (hc : c ≤ 16) (hm : m ≤ 24) : EV xs L (d + 3) 0 0 M_X11_compare 434 h 0 [some (.ref 2), some (.int x), some (.int y), none, none, none, none] [] (fun sz' h' r => sz' = 434 ∧ SH h' ∧ IC5 n c m t wr (s) f G h' ∧ KU h h' ∧ ∃ x : Int32, r = [.int x]) := by
  obtain ⟨h2, ⟨p, q, k, v, h3⟩, h4, ⟨fk, fs, h13, hfk⟩, ⟨kn, bs, bz, h24, hnk⟩, h95, hL, hD, hH9, Y, hV, hW⟩ := id hI
  refine EV.post ?_ (x_X11_compare hS h2 (by omega))
  rintro _ h' _ ⟨rfl, rfl, hr⟩
  exact ⟨rfl, hS, hI, fun _ _ => rfl, hr⟩
theorem j5_compare {xs : Nat → Int32} {L d : Nat} {h : ev_H} {n c m t : Nat} {wr : Int32} {s : Int64} {g G : Nat → Int32} {x y : Int32} (hS : SH h) (hI : IM5 n c m t wr s g G h) (hc : c ≤ 16) (hm : m ≤ 24) : EV xs L (d + 2) 0 0 M_X12_compare 434 h 0 [some (.ref 420), some (.int x), some (.int y), none, none, none] [] (fun sz' h' r => sz' = 434 ∧ SH h' ∧ IM5 n c m t wr (s) g G h' ∧ KD h h' ∧ ∃ x : Int32, r = [.int x]) := by
  obtain ⟨⟨th, nx, tk, pl, va, fa, h5⟩, h6, h22, hB, H, Y, h25, hH, h26, hY⟩ := id hI
  refine EV.post ?_ (y_X12_compare hS h5 hc hm)
  rintro _ h' _ ⟨rfl, hs, hk, hr, g5⟩
  exact ⟨rfl, hs, ⟨⟨_, _, _, _, _, _, g5⟩, (hk 421 (by decide)).trans h6, (hk 422 (by decide)).trans h22, BR_f (hk 427 (by decide)) (hk 428 (by decide)) (hk 429 (by decide)) (hk 430 (by decide)) hB, H, Y, (hk 425 (by decide)).trans h25, hH, (hk 426 (by decide)).trans h26, hY⟩, KD_M (by decide) hk, hr⟩
theorem k5_bounds {xs : Nat → Int32} {L d : Nat} {h : ev_H} {n c m t : Nat} {wr : Int32} {s : Int64} {f G : Nat → Int32} {x : Int32} (hS : SH h) (hI : IC5 n c m t wr s f G h) (hc : c ≤ 16) (hm : m ≤ 24) (hG : GV c m G) : EV xs L (d + 3) 0 0 M_X11_bounds 434 h 0 [some (.ref 2), some (.int x)] [] (fun sz' h' r => sz' = 434 ∧ SH h' ∧ IC5 n c m t wr (s) f G h' ∧ KU h h' ∧ r = [.int (boR G c (shN G c) x)]) := by
  obtain ⟨h2, ⟨p, q, k, v, h3⟩, h4, ⟨fk, fs, h13, hfk⟩, ⟨kn, bs, bz, h24, hnk⟩, h95, hL, hD, hH9, Y, hV, hW⟩ := id hI
  refine EV.post ?_ (v_X11_bounds hS h2 (by omega) h13 hD (shN_ok hG).2 (lt_sh hG))
  rintro _ h' _ ⟨rfl, rfl, hr⟩
  exact ⟨rfl, hS, hI, fun _ _ => rfl, hr⟩
theorem j5_bounds {xs : Nat → Int32} {L d : Nat} {h : ev_H} {n c m t : Nat} {wr : Int32} {s : Int64} {g G : Nat → Int32} {x : Int32} (hS : SH h) (hI : IM5 n c m t wr s g G h) (hc : c ≤ 16) (hm : m ≤ 24) (hG : GV c m G) : EV xs L (d + 2) 0 0 M_X12_bounds_ 434 h 0 [some (.ref 420), some (.int x), none] [] (fun sz' h' r => sz' = 434 ∧ SH h' ∧ IM5 n c m t wr s g G h' ∧ KD h h' ∧ r = [.int (boR G c (shN G c) x)]) := by
  obtain ⟨⟨th, nx, tk, pl, va, fa, h5⟩, h6, h22, hB, H, Y, h25, hH, h26, hY⟩ := id hI
  obtain ⟨O1, T1, S1, W1, e7, e8, e9, e0, hp4⟩ := id hB
  obtain ⟨T, h32⟩ := hS.la LA_432
  refine EV.post ?_ (z_X12_bounds_ hS h5 hc hm h22 e7 e8 e9 e0 h32)
  rintro _ h' _ ⟨rfl, hs, hk, hr, g5⟩
  exact ⟨rfl, hs, ⟨⟨_, _, _, _, _, _, g5⟩, (hk 421 (by decide)).trans h6, (hk 422 (by decide)).trans h22, BR_f (hk 427 (by decide)) (hk 428 (by decide)) (hk 429 (by decide)) (hk 430 (by decide)) hB, H, Y, (hk 425 (by decide)).trans h25, hH, (hk 426 (by decide)).trans h26, hY⟩, KD_M (by decide) hk, by rw [← boN_R (shN_ok hG).2 (shN_ok hG).1 (fun p hp => (hp4 p hp).2.2.1) (fun p hp => (hp4 p hp).2.2.2)]; exact hr⟩
theorem k5_fewest {xs : Nat → Int32} {L d : Nat} {h : ev_H} {n c m t : Nat} {wr : Int32} {s : Int64} {f G : Nat → Int32} {x : Int32} (hS : SH h) (hI : IC5 n c m t wr s f G h) (hc : c ≤ 16) (hm : m ≤ 24) (hG : GV c m G) : EV xs L (d + 6) 0 0 M_X11_fewest 434 h 0 [some (.ref 2), some (.int x)] [] (fun sz' h' r => sz' = 434 ∧ SH h' ∧ IC5 n c m t wr (s) f G h' ∧ KU h h' ∧ r = [.int (fwR G c (nI (shN G c)) x)]) := by
  obtain ⟨h2, ⟨p, q, k, v, h3⟩, h4, ⟨fk, fs, h13, hfk⟩, ⟨kn, bs, bz, h24, hnk⟩, h95, hL, hD, hH9, Y, hV, hW⟩ := id hI
  refine EV.post ?_ (v_X11_fewest hS h2 (by omega) h13 hD.1 hD.2.1 hfk)
  rintro _ h' _ ⟨rfl, hs, hk, ⟨a1, a2, g13, gfk⟩, hr⟩
  exact ⟨rfl, hs, ⟨(hk 2 (by decide) (by decide)).trans h2, ⟨p, q, k, v, (hk 3 (by decide) (by decide)).trans h3⟩, (hk 4 (by decide) (by decide)).trans h4, ⟨_, _, g13, gfk⟩, ⟨kn, bs, bz, (hk 24 (by decide) (by decide)).trans h24, hnk⟩, (hk 95 (by decide) (by decide)).trans h95, fun i hi => (hk _ (by omega) (by omega)).trans (hL i hi), SDc_4 (fun q _ _ => hk q (by omega) (by omega)) hD, HDx_f (fun q _ _ => hk q (by omega) (by omega)) hH9, Y, hV, SW_f (by omega) (fun q _ _ => hk q (by omega) (by omega)) hW⟩, fun k hk2 => hk k (by omega) (by omega), by rw [← lt_sh hG]; exact hr⟩
theorem j5_fewest {xs : Nat → Int32} {L d : Nat} {h : ev_H} {n c m t : Nat} {wr : Int32} {s : Int64} {g G : Nat → Int32} {x : Int32} (hS : SH h) (hI : IM5 n c m t wr s g G h) (hc : c ≤ 16) (hm : m ≤ 24) (hG : GV c m G) : EV xs L (d + 2) 0 0 M_X12_fewest 434 h 0 [some (.ref 420), some (.int x), none, none, none, none, none] [] (fun sz' h' r => sz' = 434 ∧ SH h' ∧ IM5 n c m t wr (s) g G h' ∧ KD h h' ∧ r = [.int (fwR G c (nI (shN G c)) x)]) := by
  obtain ⟨⟨th, nx, tk, pl, va, fa, h5⟩, h6, h22, hB, H, Y, h25, hH, h26, hY⟩ := id hI
  obtain ⟨O1, T1, S1, W1, e7, e8, e9, e0, hp4⟩ := id hB
  by_cases hx : inR x 0 1 = 0
  · refine EV.post ?_ (z_few_o (G := G) hS h5 hc hm hx)
    rintro _ h' _ ⟨rfl, hs, hk, hr, g5⟩
    exact ⟨rfl, hs, ⟨⟨_, _, _, _, _, _, g5⟩, (hk 421 (by decide)).trans h6, (hk 422 (by decide)).trans h22, BR_f (hk 427 (by decide)) (hk 428 (by decide)) (hk 429 (by decide)) (hk 430 (by decide)) hB, H, Y, (hk 425 (by decide)).trans h25, hH, (hk 426 (by decide)).trans h26, hY⟩, KD_M (by decide) hk, by rw [← (shN_ok hG).1]; exact hr⟩
  · refine EV.post ?_ (z_few_s hS h5 hc hm h22 e7 e8 hx (fun p hp => (hp4 p hp).1) (fun p hp => (hp4 p hp).2.1))
    rintro _ h' _ ⟨rfl, hs, hk, hr, g5⟩
    exact ⟨rfl, hs, ⟨⟨_, _, _, _, _, _, g5⟩, (hk 421 (by decide)).trans h6, (hk 422 (by decide)).trans h22, BR_f (hk 427 (by decide)) (hk 428 (by decide)) (hk 429 (by decide)) (hk 430 (by decide)) hB, H, Y, (hk 425 (by decide)).trans h25, hH, (hk 426 (by decide)).trans h26, hY⟩, KD_M (by decide) hk, by rw [← (shN_ok hG).1]; exact hr⟩
theorem k5_tell {xs : Nat → Int32} {L d : Nat} {h : ev_H} {n c m t : Nat} {wr : Int32} {s : Int64} {f G : Nat → Int32} {x y : Int32} (hS : SH h) (hI : IC5 n c m t wr s f G h) (hc : c ≤ 16) (hm : m ≤ 24) : EV xs L (d + 2) 0 0 M_X11_tell 434 h 0 [some (.ref 2), some (.int x), some (.int y), none] [] (fun sz' h' r => sz' = 434 ∧ SH h' ∧ IC5 n c m t wr (s) f G h' ∧ KU h h' ∧ ∃ x : Int32, r = [.int x]) := by
  obtain ⟨h2, ⟨p, q, k, v, h3⟩, h4, ⟨fk, fs, h13, hfk⟩, ⟨kn, bs, bz, h24, hnk⟩, h95, hL, hD, hH9, Y, hV, hW⟩ := id hI
  refine EV.post ?_ (n_X11_tell hS h2 (by omega))
  rintro _ h' _ ⟨rfl, hs, hk, hr⟩
  exact ⟨rfl, hs, ⟨(hk 2 (by decide)).trans h2, ⟨p, q, k, v, (hk 3 (by decide)).trans h3⟩, (hk 4 (by decide)).trans h4, ⟨fk, fs, (hk 13 (by decide)).trans h13, hfk⟩, ⟨kn, bs, bz, (hk 24 (by decide)).trans h24, hnk⟩, (hk 95 (by decide)).trans h95, fun i hi => (hk _ (by omega)).trans (hL i hi), SDc_f (fun q _ _ => hk q (by omega)) hD, HDx_f (fun q _ _ => hk q (by omega)) hH9, Y, hV, SW_f (by omega) (fun q _ _ => hk q (by omega)) hW⟩, fun k hk2 => hk k (by omega), hr⟩
theorem j5_tell {xs : Nat → Int32} {L d : Nat} {h : ev_H} {n c m t : Nat} {wr : Int32} {s : Int64} {g G : Nat → Int32} {x y : Int32} (hS : SH h) (hI : IM5 n c m t wr s g G h) (hc : c ≤ 16) (hm : m ≤ 24) : EV xs L (d + 1) 0 0 M_X12_tell 434 h 0 [some (.ref 420), some (.int x), some (.int y), none, none, none] [] (fun sz' h' r => sz' = 434 ∧ SH h' ∧ IM5 n c m t wr (s) g G h' ∧ KD h h' ∧ ∃ x : Int32, r = [.int x]) := by
  obtain ⟨⟨th, nx, tk, pl, va, fa, h5⟩, h6, h22, hB, H, Y, h25, hH, h26, hY⟩ := id hI
  refine EV.post ?_ (y_X12_tell hS h5 hc hm)
  rintro _ h' _ ⟨rfl, hs, hk, hr, g5⟩
  exact ⟨rfl, hs, ⟨⟨_, _, _, _, _, _, g5⟩, (hk 421 (by decide)).trans h6, (hk 422 (by decide)).trans h22, BR_f (hk 427 (by decide)) (hk 428 (by decide)) (hk 429 (by decide)) (hk 430 (by decide)) hB, H, Y, (hk 425 (by decide)).trans h25, hH, (hk 426 (by decide)).trans h26, hY⟩, KD_M (by decide) hk, hr⟩
theorem k5_copy {xs : Nat → Int32} {L d : Nat} {h : ev_H} {n c m t : Nat} {wr : Int32} {s : Int64} {f G : Nat → Int32} {x y z : Int32} (hS : SH h) (hI : IC5 n c m t wr s f G h) (hc : c ≤ 16) (hm : m ≤ 24) : EV xs L (d + 3) 0 0 M_X11_copy 434 h 0 [some (.ref 2), some (.int x), some (.int y), some (.int z), none, none, none] [] (fun sz' h' r => sz' = 434 ∧ SH h' ∧ IC5 n c m t wr (s) f G h' ∧ KU h h' ∧ ∃ x : Int32, r = [.int x]) := by
  obtain ⟨h2, ⟨p, q, k, v, h3⟩, h4, ⟨fk, fs, h13, hfk⟩, ⟨kn, bs, bz, h24, hnk⟩, h95, hL, hD, hH9, Y, hV, hW⟩ := id hI
  refine EV.post ?_ (n_X11_copy hS h2 (by omega))
  rintro _ h' _ ⟨rfl, hs, hk, hr⟩
  exact ⟨rfl, hs, ⟨(hk 2 (by decide)).trans h2, ⟨p, q, k, v, (hk 3 (by decide)).trans h3⟩, (hk 4 (by decide)).trans h4, ⟨fk, fs, (hk 13 (by decide)).trans h13, hfk⟩, ⟨kn, bs, bz, (hk 24 (by decide)).trans h24, hnk⟩, (hk 95 (by decide)).trans h95, fun i hi => (hk _ (by omega)).trans (hL i hi), SDc_f (fun q _ _ => hk q (by omega)) hD, HDx_f (fun q _ _ => hk q (by omega)) hH9, Y, hV, SW_f (by omega) (fun q _ _ => hk q (by omega)) hW⟩, fun k hk2 => hk k (by omega), hr⟩
theorem j5_copy {xs : Nat → Int32} {L d : Nat} {h : ev_H} {n c m t : Nat} {wr : Int32} {s : Int64} {g G : Nat → Int32} {x y z : Int32} (hS : SH h) (hI : IM5 n c m t wr s g G h) (hc : c ≤ 16) (hm : m ≤ 24) : EV xs L (d + 2) 0 0 M_X12_copy 434 h 0 [some (.ref 420), some (.int x), some (.int y), some (.int z), none, none, none, none] [] (fun sz' h' r => sz' = 434 ∧ SH h' ∧ IM5 n c m t wr (s) g G h' ∧ KD h h' ∧ ∃ x : Int32, r = [.int x]) := by
  obtain ⟨⟨th, nx, tk, pl, va, fa, h5⟩, h6, h22, hB, H, Y, h25, hH, h26, hY⟩ := id hI
  refine EV.post ?_ (y_X12_copy hS h5 hc hm)
  rintro _ h' _ ⟨rfl, hs, hk, hr, g5⟩
  exact ⟨rfl, hs, ⟨⟨_, _, _, _, _, _, g5⟩, (hk 421 (by decide)).trans h6, (hk 422 (by decide)).trans h22, BR_f (hk 427 (by decide)) (hk 428 (by decide)) (hk 429 (by decide)) (hk 430 (by decide)) hB, H, Y, (hk 425 (by decide)).trans h25, hH, (hk 426 (by decide)).trans h26, hY⟩, KD_M (by decide) hk, hr⟩
theorem k5_check {xs : Nat → Int32} {L d : Nat} {h : ev_H} {n c m t : Nat} {wr : Int32} {s : Int64} {f G : Nat → Int32} (hS : SH h) (hI : IC5 n c m t wr s f G h) (hc : c ≤ 16) (hm : m ≤ 24) : EV xs L (d + 4) 0 0 M_X11_check 434 h 0 [some (.ref 2)] [] (fun sz' h' r => sz' = 434 ∧ SH h' ∧ IC5 n c m t wr (s) f G h' ∧ KU h h' ∧ ∃ x : Int32, r = [.int x]) := by
  obtain ⟨h2, ⟨p, q, k, v, h3⟩, h4, ⟨fk, fs, h13, hfk⟩, ⟨kn, bs, bz, h24, hnk⟩, h95, hL, hD, hH9, Y, hV, hW⟩ := id hI
  refine EV.post ?_ (x_X11_check hS h2 (by omega))
  rintro _ h' _ ⟨rfl, rfl, hr⟩
  exact ⟨rfl, hS, hI, fun _ _ => rfl, hr⟩
theorem j5_check {xs : Nat → Int32} {L d : Nat} {h : ev_H} {n c m t : Nat} {wr : Int32} {s : Int64} {g G : Nat → Int32} (hS : SH h) (hI : IM5 n c m t wr s g G h) (hc : c ≤ 16) (hm : m ≤ 24) : EV xs L (d + 3) 0 0 M_X12_check 434 h 0 [some (.ref 420)] [] (fun sz' h' r => sz' = 434 ∧ SH h' ∧ IM5 n c m t wr (s) g G h' ∧ KD h h' ∧ ∃ x : Int32, r = [.int x]) := by
  obtain ⟨⟨th, nx, tk, pl, va, fa, h5⟩, h6, h22, hB, H, Y, h25, hH, h26, hY⟩ := id hI
  refine EV.post ?_ (y_X12_check hS h5 hc hm)
  rintro _ h' _ ⟨rfl, hs, hk, hr, g5⟩
  exact ⟨rfl, hs, ⟨⟨_, _, _, _, _, _, g5⟩, (hk 421 (by decide)).trans h6, (hk 422 (by decide)).trans h22, BR_f (hk 427 (by decide)) (hk 428 (by decide)) (hk 429 (by decide)) (hk 430 (by decide)) hB, H, Y, (hk 425 (by decide)).trans h25, hH, (hk 426 (by decide)).trans h26, hY⟩, KD_M (by decide) hk, hr⟩
theorem k5_used {xs : Nat → Int32} {L d : Nat} {h : ev_H} {n c m t : Nat} {wr : Int32} {s : Int64} {f G : Nat → Int32} (hS : SH h) (hI : IC5 n c m t wr s f G h) (hc : c ≤ 16) (hm : m ≤ 24) (hG : GV c m G) : EV xs L (d + 2) 0 0 M_X11_used 434 h 0 [some (.ref 2)] [] (fun sz' h' r => sz' = 434 ∧ SH h' ∧ IC5 n c m t wr (s) f G h' ∧ KU h h' ∧ r = [.int (usR G c (c + m))]) := by
  obtain ⟨h2, ⟨p, q, k, v, h3⟩, h4, ⟨fk, fs, h13, hfk⟩, ⟨kn, bs, bz, h24, hnk⟩, h95, hL, hD, hH9, Y, hV, hW⟩ := id hI
  rw [GV_en hG] at h2
  rcases enM_or G (c + m) 0 with e | ⟨e, he, ee⟩
  · rw [usR, if_pos e]
    rw [e] at h2
    refine EV.post ?_ (x_us_z hS (k := c + m) (by omega) hc h2 hL)
    rintro _ h' _ ⟨rfl, rfl, hr⟩
    exact ⟨rfl, hS, hI, fun _ _ => rfl, hr⟩
  · rw [usR, ee, if_neg (nI_nm9 (by omega)), nI_clamp (by omega), ← usA_B hc hm hG (by omega)]
    rw [ee] at h2
    refine EV.post ?_ (x_us_s hS (k := c + m) (by omega) hc h2 hL (by omega))
    rintro _ h' _ ⟨rfl, rfl, hr⟩
    exact ⟨rfl, hS, hI, fun _ _ => rfl, hr⟩
theorem j5_used {xs : Nat → Int32} {L d : Nat} {h : ev_H} {n c m t : Nat} {wr : Int32} {s : Int64} {g G : Nat → Int32} (hS : SH h) (hI : IM5 n c m t wr s g G h) (hc : c ≤ 16) (hm : m ≤ 24) : EV xs L (d + 1) 0 0 M_X12_used 434 h 0 [some (.ref 420), none, none, none, none] [] (fun sz' h' r => sz' = 434 ∧ SH h' ∧ IM5 n c m t wr s g G h' ∧ KD h h' ∧ r = [.int (usR G c (c + m))]) := by
  obtain ⟨⟨th, nx, tk, pl, va, fa, h5⟩, h6, h22, hB, H, Y, h25, hH, h26, hY⟩ := id hI
  rcases enM_or G (c + m) 0 with e | ⟨e, he, ee⟩
  · rw [usR, if_pos e]
    refine EV.post ?_ (v_us_z hS h5 hc hm h22 e)
    rintro _ h' _ ⟨rfl, hs, hk, hr, g5⟩
    exact ⟨rfl, hs, ⟨⟨_, _, _, _, _, _, g5⟩, (hk 421 (by decide)).trans h6, (hk 422 (by decide)).trans h22, BR_f (hk 427 (by decide)) (hk 428 (by decide)) (hk 429 (by decide)) (hk 430 (by decide)) hB, H, Y, (hk 425 (by decide)).trans h25, hH, (hk 426 (by decide)).trans h26, hY⟩, KD_M (by decide) hk, hr⟩
  · rw [usR, ee, if_neg (nI_nm9 (by omega)), nI_clamp (by omega)]
    refine EV.post ?_ (v_us_s hS h5 hc hm (by omega) h22 ee)
    rintro _ h' _ ⟨rfl, hs, hk, hr, g5⟩
    exact ⟨rfl, hs, ⟨⟨_, _, _, _, _, _, g5⟩, (hk 421 (by decide)).trans h6, (hk 422 (by decide)).trans h22, BR_f (hk 427 (by decide)) (hk 428 (by decide)) (hk 429 (by decide)) (hk 430 (by decide)) hB, H, Y, (hk 425 (by decide)).trans h25, hH, (hk 426 (by decide)).trans h26, hY⟩, KD_M (by decide) hk, hr⟩
theorem k5_needed {xs : Nat → Int32} {L d : Nat} {h : ev_H} {n c m t : Nat} {wr : Int32} {s : Int64} {f G : Nat → Int32} {x : Int32} (hS : SH h) (hI : IC5 n c m t wr s f G h) (hc : c ≤ 16) (hm : m ≤ 24) : EV xs L (d + 22) 0 0 M_X11_needed 434 h 0 [some (.ref 2), some (.int x)] [] (fun sz' h' r => sz' = 434 ∧ SH h' ∧ IC5 n c m t wr (s) f G h' ∧ KU h h' ∧ r = [.int (ndR (hdB G) c x)]) := by
  obtain ⟨h2, ⟨p, q, k, v, h3⟩, h4, ⟨fk, fs, h13, hfk⟩, ⟨kn, bs, bz, h24, hnk⟩, h95, hL, hD, hH9, Y, hV, hW⟩ := id hI
  refine EV.post ?_ (v_X11_needed hS h2 (by omega) hc h24 hH9.1 hnk)
  rintro _ h' _ ⟨rfl, hs, hk, ⟨a1, a2, a3, g24, gnk⟩, hr⟩
  exact ⟨rfl, hs, ⟨(hk 2 (by decide) (by decide)).trans h2, ⟨p, q, k, v, (hk 3 (by decide) (by decide)).trans h3⟩, (hk 4 (by decide) (by decide)).trans h4, ⟨fk, fs, (hk 13 (by decide) (by decide)).trans h13, hfk⟩, ⟨_, _, _, g24, gnk⟩, (hk 95 (by decide) (by decide)).trans h95, fun i hi => (hk _ (by omega) (by omega)).trans (hL i hi), SDc_f (fun q _ _ => hk q (by omega) (by omega)) hD, HDx_f (fun q _ _ => hk q (by omega) (by omega)) hH9, Y, hV, SW_f (by omega) (fun q _ _ => hk q (by omega) (by omega)) hW⟩, fun k hk2 => hk k (by omega) (by omega), hr⟩
theorem j5_needed {xs : Nat → Int32} {L d : Nat} {h : ev_H} {n c m t : Nat} {wr : Int32} {s : Int64} {g G : Nat → Int32} {x : Int32} (hS : SH h) (hI : IM5 n c m t wr s g G h) (hc : c ≤ 16) (hm : m ≤ 24) : EV xs L (d + 1) 0 0 M_X12_needed 434 h 0 [some (.ref 420), some (.int x), none, none] [] (fun sz' h' r => sz' = 434 ∧ SH h' ∧ IM5 n c m t wr (s) g G h' ∧ KD h h' ∧ r = [.int (ndR (hdB G) c x)]) := by
  obtain ⟨⟨th, nx, tk, pl, va, fa, h5⟩, h6, h22, hB, H, Y, h25, hH, h26, hY⟩ := id hI
  by_cases hx : inR x 0 1 = 0
  · refine EV.post ?_ (z_ned_o (G := G) hS hc hm (sh1_le hc) h5 hx)
    rintro _ h' _ ⟨rfl, hs, hk, hr, g5⟩
    exact ⟨rfl, hs, ⟨⟨_, _, _, _, _, _, g5⟩, (hk 421 (by decide)).trans h6, (hk 422 (by decide)).trans h22, BR_f (hk 427 (by decide)) (hk 428 (by decide)) (hk 429 (by decide)) (hk 430 (by decide)) hB, H, Y, (hk 425 (by decide)).trans h25, hH, (hk 426 (by decide)).trans h26, hY⟩, KD_M (by decide) hk, hr⟩
  · refine EV.post ?_ (z_ned_s (G := G) hS hc hm (sh1_le hc) h5 h25 hx (fun i hi p hp => hH i (by omega) p hp))
    rintro _ h' _ ⟨rfl, hs, hk, hr, g5⟩
    exact ⟨rfl, hs, ⟨⟨_, _, _, _, _, _, g5⟩, (hk 421 (by decide)).trans h6, (hk 422 (by decide)).trans h22, BR_f (hk 427 (by decide)) (hk 428 (by decide)) (hk 429 (by decide)) (hk 430 (by decide)) hB, H, Y, (hk 425 (by decide)).trans h25, hH, (hk 426 (by decide)).trans h26, hY⟩, KD_M (by decide) hk, hr⟩
theorem k5_labour {xs : Nat → Int32} {L d : Nat} {h : ev_H} {n c m t : Nat} {wr : Int32} {s : Int64} {f G : Nat → Int32} {x y : Int32} (hS : SH h) (hI : IC5 n c m t wr s f G h) (hc : c ≤ 16) (hm : m ≤ 24) (hG : GV c m G) : EV xs L (d + 5) 0 0 M_X11_labour 434 h 0 [some (.ref 2), some (.int x), some (.int y), none, none] [] (fun sz' h' r => sz' = 434 ∧ SH h' ∧ IC5 n c m t wr (lbT x y (c + m) s) f G h' ∧ KU h h' ∧ r = [.int (lbN G (yG G c (c + m)) (c + m) x y)]) := by
  obtain ⟨h2, ⟨p, q, k, v, h3⟩, h4, ⟨fk, fs, h13, hfk⟩, ⟨kn, bs, bz, h24, hnk⟩, h95, hL, hD, hH9, Y, hV, hW⟩ := id hI
  refine EV.post ?_ (v_X11_labour hS h2 (by omega) (by omega) hL h95 hW)
  rintro _ h' _ ⟨rfl, hs, hk, g95, hr⟩
  exact ⟨rfl, hs, ⟨(hk 2 (by decide)).trans h2, ⟨p, q, k, v, (hk 3 (by decide)).trans h3⟩, (hk 4 (by decide)).trans h4, ⟨fk, fs, (hk 13 (by decide)).trans h13, hfk⟩, ⟨kn, bs, bz, (hk 24 (by decide)).trans h24, hnk⟩, g95, fun i hi => (hk _ (by simp <;> omega)).trans (hL i hi), SDc_f (fun q _ _ => hk q (by simp <;> omega)) hD, HDx_f (fun q _ _ => hk q (by simp <;> omega)) hH9, Y, hV, SW_f (by omega) (fun q _ _ => hk q (by simp <;> omega)) hW⟩, fun k hk2 => hk k (by simp <;> omega), by rw [← lbK_N (by omega) hG (fun i hi p hp => Y_yG (by omega) hG hV (by omega) hp hi)]; exact hr⟩
theorem j5_labour {xs : Nat → Int32} {L d : Nat} {h : ev_H} {n c m t : Nat} {wr : Int32} {s : Int64} {g G : Nat → Int32} {x y : Int32} (hS : SH h) (hI : IM5 n c m t wr s g G h) (hc : c ≤ 16) (hm : m ≤ 24) (hG : GV c m G) : EV xs L (d + 2) 0 0 M_X12_labour 434 h 0 [some (.ref 420), some (.int x), some (.int y), none, none] [] (fun sz' h' r => sz' = 434 ∧ SH h' ∧ IM5 n c m t wr (lbT x y (c + m) s) g G h' ∧ KD h h' ∧ r = [.int (lbN G (yG G c (c + m)) (c + m) x y)]) := by
  obtain ⟨⟨th, nx, tk, pl, va, fa, h5⟩, h6, h22, hB, H, Y, h25, hH, h26, hY⟩ := id hI
  refine EV.post ?_ (z_X12_labour hS h5 hc hm h22 h26)
  rintro _ h' _ ⟨rfl, hs, hk, hr, g5⟩
  exact ⟨rfl, hs, ⟨⟨_, _, _, _, _, _, g5⟩, (hk 421 (by decide)).trans h6, (hk 422 (by decide)).trans h22, BR_f (hk 427 (by decide)) (hk 428 (by decide)) (hk 429 (by decide)) (hk 430 (by decide)) hB, H, Y, (hk 425 (by decide)).trans h25, hH, (hk 426 (by decide)).trans h26, hY⟩, KD_M (by decide) hk, by rw [← lbN_N (by omega) (fun i hi p hp => Y_yG (by omega) hG hY (by omega) hp hi)]; exact hr⟩
theorem k5_count {xs : Nat → Int32} {L d : Nat} {h : ev_H} {n c m t : Nat} {wr : Int32} {s : Int64} {f G : Nat → Int32} {x : Int32} (hS : SH h) (hI : IC5 n c m t wr s f G h) (hc : c ≤ 16) (hm : m ≤ 24) : EV xs L (d + 2) 0 0 M_X11_count 434 h 0 [some (.ref 2), some (.int x)] [] (fun sz' h' r => sz' = 434 ∧ SH h' ∧ IC5 n c m t wr (s) f G h' ∧ KU h h' ∧ ∃ x : Int32, r = [.int x]) := by
  obtain ⟨h2, ⟨p, q, k, v, h3⟩, h4, ⟨fk, fs, h13, hfk⟩, ⟨kn, bs, bz, h24, hnk⟩, h95, hL, hD, hH9, Y, hV, hW⟩ := id hI
  refine EV.post ?_ (x_X11_count hS h2 (by omega))
  rintro _ h' _ ⟨rfl, rfl, hr⟩
  exact ⟨rfl, hS, hI, fun _ _ => rfl, hr⟩
theorem j5_count {xs : Nat → Int32} {L d : Nat} {h : ev_H} {n c m t : Nat} {wr : Int32} {s : Int64} {g G : Nat → Int32} {x : Int32} (hS : SH h) (hI : IM5 n c m t wr s g G h) (hc : c ≤ 16) (hm : m ≤ 24) : EV xs L (d + 2) 0 0 M_X12_count 434 h 0 [some (.ref 420), some (.int x)] [] (fun sz' h' r => sz' = 434 ∧ SH h' ∧ IM5 n c m t wr (s) g G h' ∧ KD h h' ∧ ∃ x : Int32, r = [.int x]) := by
  obtain ⟨⟨th, nx, tk, pl, va, fa, h5⟩, h6, h22, hB, H, Y, h25, hH, h26, hY⟩ := id hI
  refine EV.post ?_ (y_X12_count hS h5 hc hm)
  rintro _ h' _ ⟨rfl, hs, hk, hr, g5⟩
  exact ⟨rfl, hs, ⟨⟨_, _, _, _, _, _, g5⟩, (hk 421 (by decide)).trans h6, (hk 422 (by decide)).trans h22, BR_f (hk 427 (by decide)) (hk 428 (by decide)) (hk 429 (by decide)) (hk 430 (by decide)) hB, H, Y, (hk 425 (by decide)).trans h25, hH, (hk 426 (by decide)).trans h26, hY⟩, KD_M (by decide) hk, hr⟩
theorem k5_trace {xs : Nat → Int32} {L d : Nat} {h : ev_H} {n c m t : Nat} {wr : Int32} {s : Int64} {f G : Nat → Int32} (hS : SH h) (hI : IC5 n c m t wr s f G h) (hc : c ≤ 16) (hm : m ≤ 24) : EV xs L (d + 1) 0 0 M_X11_trace 434 h 0 [some (.ref 2)] [] (fun sz' h' r => sz' = 434 ∧ SH h' ∧ IC5 n c m t wr (s) f G h' ∧ KU h h' ∧ r = [.long s]) := by
  obtain ⟨h2, ⟨p, q, k, v, h3⟩, h4, ⟨fk, fs, h13, hfk⟩, ⟨kn, bs, bz, h24, hnk⟩, h95, hL, hD, hH9, Y, hV, hW⟩ := id hI
  refine EV.post ?_ (x_X11_trace hS h2 (by omega) h95)
  rintro _ h' _ ⟨rfl, rfl, hr⟩
  exact ⟨rfl, hS, hI, fun _ _ => rfl, hr⟩
theorem j5_trace {xs : Nat → Int32} {L d : Nat} {h : ev_H} {n c m t : Nat} {wr : Int32} {s : Int64} {g G : Nat → Int32} (hS : SH h) (hI : IM5 n c m t wr s g G h) (hc : c ≤ 16) (hm : m ≤ 24) : EV xs L (d + 0) 0 0 M_X12_trace 434 h 0 [some (.ref 420)] [] (fun sz' h' r => sz' = 434 ∧ SH h' ∧ IM5 n c m t wr (s) g G h' ∧ KD h h' ∧ r = [.long s]) := by
  obtain ⟨⟨th, nx, tk, pl, va, fa, h5⟩, h6, h22, hB, H, Y, h25, hH, h26, hY⟩ := id hI
  refine EV.post ?_ (y_X12_trace hS h5 hc hm)
  rintro _ h' _ ⟨rfl, hs, hk, hr, g5⟩
  exact ⟨rfl, hs, ⟨⟨_, _, _, _, _, _, g5⟩, (hk 421 (by decide)).trans h6, (hk 422 (by decide)).trans h22, BR_f (hk 427 (by decide)) (hk 428 (by decide)) (hk 429 (by decide)) (hk 430 (by decide)) hB, H, Y, (hk 425 (by decide)).trans h25, hH, (hk 426 (by decide)).trans h26, hY⟩, KD_M (by decide) hk, hr⟩
