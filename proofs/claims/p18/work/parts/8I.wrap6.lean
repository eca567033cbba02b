theorem IC5.cg {n c t : Nat} {wr : Int32} {s : Int64} {f G G' : Nat → Int32} {h : ev_H} (hc : c ≤ 16) (he : ∀ x, x < 6 * c → G x = G' x) (hI : IC5 n c 0 t wr s f G h) : IC5 n c 0 t wr s f G' h := by
  obtain ⟨h2, h3, h4, h13, h24, h95, hL, hD, hH9, Y, hV, hW⟩ := hI
  exact ⟨by rw [← enF_cg (c + 0) 0 (fun x hx => he x (by omega))]; exact h2, h3, h4, by rw [← ltO_cg c (fun x hx => he x (by omega)), ← ltE_cg c (fun x hx => he x (by omega)), ← fwB_cg he 256]; exact h13, (by rw [← ndA_cg he]; exact h24), h95, LN_cg (fun x hx => he x (by omega)) hL, (by rw [← shN_cg he]; exact SDc_cg he hD), HDx_cg he hH9, Y, SV_cg (by omega) (by omega) (fun x hx => he x (by omega)) (fun i h1 h2 => absurd h2 (by omega)) hV, hW⟩
theorem k5_type {xs : Nat → Int32} {L d : Nat} {h : ev_H} {n c m t : Nat} {wr : Int32} {s : Int64} {f G : Nat → Int32} {v : Int64} {x : Int32} (hS : SH h) (hI : IC5 n c m t wr s f G h) (hn : n ≤ 300) (hcm : c + m ≤ 40) : EV xs L (d + 1) 0 0 M_X11_type 434 h 0 [some (.ref 2), some (.long v), none, some (.int x)] [] (fun sz' h' r => sz' = 434 ∧ SH h' ∧ IC5 (n + tyO x n) c m t wr s (apb v (tyO x n) n f) G h' ∧ KU h h' ∧ r = [.int (tyR x n)]) := by
  obtain ⟨h2, ⟨p, q, k, w, h3⟩, h4, ⟨fk, fs, h13, hfk⟩, ⟨kn, bs, bz, h24, hnk⟩, h95, hL, hD, hH9, Y, hV, hW⟩ := id hI
  refine EV.post ?_ ((s_X11_type hn h2 h3 h4).sh hS)
  rintro _ h' _ ⟨⟨rfl, hcase⟩, -, hs, -⟩
  rcases hcase with ⟨hb, rfl, rfl⟩ | ⟨j, hj, rfl, ⟨hz, g3, g4, gk, rfl⟩ | ⟨hz, rfl, rfl⟩⟩
  · rw [(tyO_b x n hb).1, (tyO_b x n hb).2]
    exact ⟨rfl, hs, hI, fun _ _ => rfl, rfl⟩
  · rw [((tyO_j hj).1 hz).1, ((tyO_j hj).1 hz).2]
    exact ⟨rfl, hs, ⟨(gk 2 (by decide) (by decide)).trans h2, ⟨_, _, _, _, g3⟩, g4, ⟨_, _, (gk 13 (by decide) (by decide)).trans h13, hfk⟩, ⟨_, _, _, (gk 24 (by decide) (by decide)).trans h24, hnk⟩, (gk 95 (by decide) (by decide)).trans h95, fun i hi => (gk _ (by omega) (by omega)).trans (hL i hi), SDc_f (fun q _ _ => gk q (by omega) (by omega)) hD, HDx_f (fun q _ _ => gk q (by omega) (by omega)) hH9, Y, hV, SW_f hcm (fun q _ _ => gk q (by omega) (by omega)) hW⟩, fun k hk => gk k (by omega) (by omega), rfl⟩
  · rw [((tyO_j hj).2 hz).1, ((tyO_j hj).2 hz).2]
    exact ⟨rfl, hs, hI, fun _ _ => rfl, rfl⟩
theorem j5_type {xs : Nat → Int32} {L d : Nat} {h : ev_H} {n c m t : Nat} {wr : Int32} {s : Int64} {g G : Nat → Int32} {v : Int64} {x : Int32} (hS : SH h) (hI : IM5 n c m t wr s g G h) (hn : n ≤ 300) : EV xs L (d + 1) 0 0 M_X12_type 434 h 0 [some (.ref 420), some (.long v), none, some (.int x), none] [] (fun sz' h' r => sz' = 434 ∧ SH h' ∧ IM5 (n + tyO x n) c m t wr s (mpb v (tyO x n) n g) G h' ∧ KD h h' ∧ r = [.int (tyR x n)]) := by
  obtain ⟨⟨th, nx, tk, pl, va, fa, h5⟩, h6, h22, hB, H, Y, h25, hH, h26, hY⟩ := id hI
  refine EV.post ?_ ((s_X12_type hn h5 h6).sh hS)
  rintro _ h' _ ⟨⟨rfl, hcase⟩, -, hs, -⟩
  rcases hcase with ⟨hb, e, rfl⟩ | ⟨j, hj, rfl, ⟨hz, g3, g4, gk, rfl⟩ | ⟨hz, e, rfl⟩⟩
  · rw [(tyO_b x n hb).1, (tyO_b x n hb).2]
    exact ⟨rfl, hs, ⟨⟨_, _, _, _, _, _, by rw [e]; exact va_up_self _ _ _⟩, by rw [e, va_up_ne _ _ (by decide)]; exact h6, by rw [e, va_up_ne _ _ (by decide)]; exact h22, BR_f (by rw [e, va_up_ne _ _ (by decide)]) (by rw [e, va_up_ne _ _ (by decide)]) (by rw [e, va_up_ne _ _ (by decide)]) (by rw [e, va_up_ne _ _ (by decide)]) hB, H, Y, by rw [e, va_up_ne _ _ (by decide)]; exact h25, hH, by rw [e, va_up_ne _ _ (by decide)]; exact h26, hY⟩, fun k hk => by rw [e]; exact va_up_ne _ _ (by omega), rfl⟩
  · rw [((tyO_j hj).1 hz).1, ((tyO_j hj).1 hz).2]
    exact ⟨rfl, hs, ⟨⟨_, _, _, _, _, _, g3⟩, g4, (gk 422 (by decide) (by decide)).trans h22, BR_f (gk 427 (by decide) (by decide)) (gk 428 (by decide) (by decide)) (gk 429 (by decide) (by decide)) (gk 430 (by decide) (by decide)) hB, H, Y, (gk 425 (by decide) (by decide)).trans h25, hH, (gk 426 (by decide) (by decide)).trans h26, hY⟩, fun k hk => gk k (by omega) (by omega), rfl⟩
  · rw [((tyO_j hj).2 hz).1, ((tyO_j hj).2 hz).2]
    exact ⟨rfl, hs, ⟨⟨_, _, _, _, _, _, by rw [e]; exact va_up_self _ _ _⟩, by rw [e, va_up_ne _ _ (by decide)]; exact h6, by rw [e, va_up_ne _ _ (by decide)]; exact h22, BR_f (by rw [e, va_up_ne _ _ (by decide)]) (by rw [e, va_up_ne _ _ (by decide)]) (by rw [e, va_up_ne _ _ (by decide)]) (by rw [e, va_up_ne _ _ (by decide)]) hB, H, Y, by rw [e, va_up_ne _ _ (by decide)]; exact h25, hH, by rw [e, va_up_ne _ _ (by decide)]; exact h26, hY⟩, fun k hk => by rw [e]; exact va_up_ne _ _ (by omega), rfl⟩
theorem k5_clear {xs : Nat → Int32} {L d : Nat} {h : ev_H} {n c m t : Nat} {wr : Int32} {s : Int64} {f G : Nat → Int32} (hS : SH h) (hI : IC5 n c m t wr s f G h) (hn : n ≤ 300) (hcm : c + m ≤ 40) : EV xs L (d + 1) 0 0 M_X11_clear 434 h 0 [some (.ref 2), none] [] (fun sz' h' r => sz' = 434 ∧ SH h' ∧ IC5 0 c m t wr s f G h' ∧ KU h h' ∧ r = [.int (nI n)]) := by
  obtain ⟨h2, ⟨p, q, k, w, h3⟩, h4, ⟨fk, fs, h13, hfk⟩, ⟨kn, bs, bz, h24, hnk⟩, h95, hL, hD, hH9, Y, hV, hW⟩ := id hI
  refine EV.post ?_ ((s_X11_clear hn h2 h3 h4).sh hS)
  rintro _ h' _ ⟨⟨rfl, e, rfl⟩, -, hs, -⟩
  have gk : ∀ a, a ≠ 3 → h' a = h a := fun a ha => by rw [e]; exact va_up_ne _ _ ha
  exact ⟨rfl, hs, ⟨(gk 2 (by decide)).trans h2, ⟨_, _, _, _, by rw [e]; exact va_up_self _ _ _⟩, (gk 4 (by decide)).trans h4, ⟨_, _, (gk 13 (by decide)).trans h13, hfk⟩, ⟨_, _, _, (gk 24 (by decide)).trans h24, hnk⟩, (gk 95 (by decide)).trans h95, fun i hi => (gk _ (by omega)).trans (hL i hi), SDc_f (fun q _ _ => gk q (by omega)) hD, HDx_f (fun q _ _ => gk q (by omega)) hH9, Y, hV, SW_f (by omega) (fun q _ _ => gk q (by omega)) hW⟩, fun k hk => gk k (by omega), rfl⟩
theorem j5_clear {xs : Nat → Int32} {L d : Nat} {h : ev_H} {n c m t : Nat} {wr : Int32} {s : Int64} {g G : Nat → Int32} (hS : SH h) (hI : IM5 n c m t wr s g G h) : EV xs L (d + 0) 0 0 M_X12_clear 434 h 0 [some (.ref 420), none] [] (fun sz' h' r => sz' = 434 ∧ SH h' ∧ IM5 0 c m t wr s g G h' ∧ KD h h' ∧ r = [.int (nI n)]) := by
  obtain ⟨⟨th, nx, tk, pl, va, fa, h5⟩, h6, h22, hB, H, Y, h25, hH, h26, hY⟩ := id hI
  refine EV.post ?_ ((s_X12_clear h5).sh hS)
  rintro _ h' _ ⟨⟨rfl, e, rfl⟩, -, hs, -⟩
  exact ⟨rfl, hs, ⟨⟨_, _, _, _, _, _, by rw [e]; exact va_up_self _ _ _⟩, by rw [e, va_up_ne _ _ (by decide)]; exact h6, by rw [e, va_up_ne _ _ (by decide)]; exact h22, BR_f (by rw [e, va_up_ne _ _ (by decide)]) (by rw [e, va_up_ne _ _ (by decide)]) (by rw [e, va_up_ne _ _ (by decide)]) (by rw [e, va_up_ne _ _ (by decide)]) hB, H, Y, by rw [e, va_up_ne _ _ (by decide)]; exact h25, hH, by rw [e, va_up_ne _ _ (by decide)]; exact h26, hY⟩, fun k hk => by rw [e]; exact va_up_ne _ _ (by omega), rfl⟩
