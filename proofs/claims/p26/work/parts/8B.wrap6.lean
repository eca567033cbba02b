theorem upd_ag {A A' : Nat → Int32} {i : Nat} {x : Int32} (h : ∀ j, j < i → A j = A' j) : ∀ j, j < i + 1 → upd A i x j = upd A' i x j := fun j hj => by
  by_cases e : j = i
  · subst e; rw [pk_us, pk_us]
  · rw [pk_un e, pk_un e]; exact h j (by omega)
theorem csL_arr (f : Nat → Int32) (n : Nat) : ∀ (r p i : Nat) (A B C A' B' C' : Nat → Int32), (∀ j, j < i → A j = A' j) → (∀ j, j < i → B j = B' j) → (∀ j, j < i → C j = C' j) → ∀ j, j < (csL f n r p i A B C).2.1 → (csL f n r p i A B C).2.2.1 j = (csL f n r p i A' B' C').2.2.1 j ∧ (csL f n r p i A B C).2.2.2.1 j = (csL f n r p i A' B' C').2.2.2.1 j ∧ (csL f n r p i A B C).2.2.2.2 j = (csL f n r p i A' B' C').2.2.2.2 j
  | 0, p, i, A, B, C, A', B', C', h1, h2, h3 => fun j hj => ⟨h1 j hj, h2 j hj, h3 j hj⟩
  | r + 1, p, i, A, B, C, A', B', C', h1, h2, h3 => by
    rw [csL, csL]
    split
    · exact fun j hj => ⟨h1 j hj, h2 j hj, h3 j hj⟩
    · split
      · split
        · exact csL_arr f n r _ _ _ _ _ _ _ _ (upd_ag h1) (upd_ag h2) (upd_ag h3)
        · exact fun j hj => ⟨h1 j hj, h2 j hj, h3 j hj⟩
      · exact fun j hj => ⟨h1 j hj, h2 j hj, h3 j hj⟩
theorem stL_arr (f : Nat → Int32) (n c : Nat) : ∀ (r p i : Nat) (A B C A' B' C' : Nat → Int32), (∀ j, j < i → A j = A' j) → (∀ j, j < i → B j = B' j) → (∀ j, j < i → C j = C' j) → ∀ j, j < (stL f n c r p i A B C).2.1 → (stL f n c r p i A B C).2.2.1 j = (stL f n c r p i A' B' C').2.2.1 j ∧ (stL f n c r p i A B C).2.2.2.1 j = (stL f n c r p i A' B' C').2.2.2.1 j ∧ (stL f n c r p i A B C).2.2.2.2 j = (stL f n c r p i A' B' C').2.2.2.2 j
  | 0, p, i, A, B, C, A', B', C', h1, h2, h3 => fun j hj => ⟨h1 j hj, h2 j hj, h3 j hj⟩
  | r + 1, p, i, A, B, C, A', B', C', h1, h2, h3 => by
    rw [stL, stL]
    split
    · exact fun j hj => ⟨h1 j hj, h2 j hj, h3 j hj⟩
    · split
      · exact stL_arr f n c r _ _ _ _ _ _ _ _ (upd_ag h1) (upd_ag h2) (upd_ag h3)
      · exact fun j hj => ⟨h1 j hj, h2 j hj, h3 j hj⟩
theorem LN_cg {k : Nat} {G G' : Nat → Int32} {h : ev_H} (he : ∀ x, x < 6 * k → G x = G' x) (hL : LN k G h) : LN k G' h := fun i hi => by
  rw [hL i hi, he (6 * i) (by omega), he (6 * i + 1) (by omega), he (6 * i + 2) (by omega), he (6 * i + 3) (by omega), he (6 * i + 4) (by omega), he (6 * i + 5) (by omega)]
theorem enF_cg {G G' : Nat → Int32} : ∀ (n i : Nat), (∀ x, x < 6 * (i + n) → G x = G' x) → enF G n i = enF G' n i
  | 0, _, _ => rfl
  | n + 1, i, h => by
    rw [enF, enF, h (6 * i) (by omega), h (6 * i + 1) (by omega), enF_cg n (i + 1) (fun x hx => h x (by omega))]
theorem mkL_cg {c : Nat} {A B C A' B' C' : Nat → Int32} : ∀ (n s : Nat) (G : Nat → Int32), (∀ j, j < s + n → A j = A' j ∧ B j = B' j ∧ C j = C' j) → mkL c A B C n s G = mkL c A' B' C' n s G
  | 0, _, _, _ => rfl
  | n + 1, s, G, h => by
    obtain ⟨e1, e2, e3⟩ := h s (by omega)
    rw [mkL, mkL, e1, e2, e3, mkL_cg n (s + 1) _ (fun j hj => h j (by omega))]
theorem clG_cg {A B C A' B' C' : Nat → Int32} {c : Nat} (h : ∀ j, j < c → A j = A' j ∧ B j = B' j ∧ C j = C' j) : ∀ x, x < 6 * c → clG A B C x = clG A' B' C' x := fun x hx => by
  obtain ⟨e1, e2, e3⟩ := h (x / 6) (by omega)
  unfold clG
  rw [e1, e2, e3]
theorem IC5.cg {n c m t : Nat} {wr : Int32} {s : Int64} {f G G' : Nat → Int32} {h : ev_H} (he : ∀ x, x < 6 * (c + m) → G x = G' x) (hI : IC5 n c m t wr s f G h) : IC5 n c m t wr s f G' h := by
  obtain ⟨h2, h3, h4, h13, h24, h95, hL⟩ := hI
  exact ⟨by rw [← enF_cg (c + m) 0 (fun x hx => he x (by omega))]; exact h2, h3, h4, h13, h24, h95, LN_cg he hL⟩
/-- the rows of a text's CLAUSES, of its STEPS -/
def z0 : Nat → Int32 := fun _ => 0
def csG (f : Nat → Int32) (n : Nat) : Nat → Int32 := clG (csL f n 16 0 0 z0 z0 z0).2.2.1 (csL f n 16 0 0 z0 z0 z0).2.2.2.1 (csL f n 16 0 0 z0 z0 z0).2.2.2.2
def stM (f : Nat → Int32) (n c : Nat) (G : Nat → Int32) : Nat × Int32 × (Nat → Int32) := mkL c (stL f n c 24 0 0 z0 z0 z0).2.2.1 (stL f n c 24 0 0 z0 z0 z0).2.2.2.1 (stL f n c 24 0 0 z0 z0 z0).2.2.2.2 (stL f n c 24 0 0 z0 z0 z0).2.1 0 G
def stN (f : Nat → Int32) (n c : Nat) : Nat := (stL f n c 24 0 0 z0 z0 z0).2.1
theorem k5_type {xs : Nat → Int32} {L d : Nat} {h : ev_H} {n c m t : Nat} {wr : Int32} {s : Int64} {f G : Nat → Int32} {v : Int64} {x : Int32} (hS : SH h) (hI : IC5 n c m t wr s f G h) (hn : n ≤ 300) (hcm : c + m ≤ 40) : EV xs L (d + 1) 0 0 M_X11_type 434 h 0 [some (.ref 2), some (.long v), none, some (.int x)] [] (fun sz' h' r => sz' = 434 ∧ SH h' ∧ IC5 (n + tyO x n) c m t wr s (apb v (tyO x n) n f) G h' ∧ KU h h' ∧ r = [.int (tyR x n)]) := by
  obtain ⟨h2, ⟨p, q, k, w, h3⟩, h4, ⟨lo, lt, fk, fs, h13⟩, ⟨kn, bs, bz, h24⟩, h95, hL⟩ := id hI
  refine EV.post ?_ ((s_X11_type hn h2 h3 h4).sh hS)
  rintro _ h' _ ⟨⟨rfl, hcase⟩, -, hs, -⟩
  rcases hcase with ⟨hb, rfl, rfl⟩ | ⟨j, hj, rfl, ⟨hz, g3, g4, gk, rfl⟩ | ⟨hz, rfl, rfl⟩⟩
  · rw [(tyO_b x n hb).1, (tyO_b x n hb).2]
    exact ⟨rfl, hs, hI, fun _ _ => rfl, rfl⟩
  · rw [((tyO_j hj).1 hz).1, ((tyO_j hj).1 hz).2]
    exact ⟨rfl, hs, ⟨(gk 2 (by decide) (by decide)).trans h2, ⟨_, _, _, _, g3⟩, g4, ⟨_, _, _, _, (gk 13 (by decide) (by decide)).trans h13⟩, ⟨_, _, _, (gk 24 (by decide) (by decide)).trans h24⟩, (gk 95 (by decide) (by decide)).trans h95, fun i hi => (gk _ (by omega) (by omega)).trans (hL i hi)⟩, fun k hk => gk k (by omega) (by omega), rfl⟩
  · rw [((tyO_j hj).2 hz).1, ((tyO_j hj).2 hz).2]
    exact ⟨rfl, hs, hI, fun _ _ => rfl, rfl⟩
theorem j5_type {xs : Nat → Int32} {L d : Nat} {h : ev_H} {n c m t : Nat} {wr : Int32} {s : Int64} {g G : Nat → Int32} {v : Int64} {x : Int32} (hS : SH h) (hI : IM5 n c m t wr s g G h) (hn : n ≤ 300) : EV xs L (d + 1) 0 0 M_X12_type 434 h 0 [some (.ref 420), some (.long v), none, some (.int x), none] [] (fun sz' h' r => sz' = 434 ∧ SH h' ∧ IM5 (n + tyO x n) c m t wr s (mpb v (tyO x n) n g) G h' ∧ KD h h' ∧ r = [.int (tyR x n)]) := by
  obtain ⟨⟨th, nx, tk, pl, va, fa, h5⟩, h6, h22⟩ := id hI
  refine EV.post ?_ ((s_X12_type hn h5 h6).sh hS)
  rintro _ h' _ ⟨⟨rfl, hcase⟩, -, hs, -⟩
  rcases hcase with ⟨hb, e, rfl⟩ | ⟨j, hj, rfl, ⟨hz, g3, g4, gk, rfl⟩ | ⟨hz, e, rfl⟩⟩
  · rw [(tyO_b x n hb).1, (tyO_b x n hb).2]
    exact ⟨rfl, hs, ⟨⟨_, _, _, _, _, _, by rw [e]; exact va_up_self _ _ _⟩, by rw [e, va_up_ne _ _ (by decide)]; exact h6, by rw [e, va_up_ne _ _ (by decide)]; exact h22⟩, fun k hk => by rw [e]; exact va_up_ne _ _ (by omega), rfl⟩
  · rw [((tyO_j hj).1 hz).1, ((tyO_j hj).1 hz).2]
    exact ⟨rfl, hs, ⟨⟨_, _, _, _, _, _, g3⟩, g4, (gk 422 (by decide) (by decide)).trans h22⟩, fun k hk => gk k (by omega) (by omega), rfl⟩
  · rw [((tyO_j hj).2 hz).1, ((tyO_j hj).2 hz).2]
    exact ⟨rfl, hs, ⟨⟨_, _, _, _, _, _, by rw [e]; exact va_up_self _ _ _⟩, by rw [e, va_up_ne _ _ (by decide)]; exact h6, by rw [e, va_up_ne _ _ (by decide)]; exact h22⟩, fun k hk => by rw [e]; exact va_up_ne _ _ (by omega), rfl⟩
theorem k5_clear {xs : Nat → Int32} {L d : Nat} {h : ev_H} {n c m t : Nat} {wr : Int32} {s : Int64} {f G : Nat → Int32} (hS : SH h) (hI : IC5 n c m t wr s f G h) (hn : n ≤ 300) (hcm : c + m ≤ 40) : EV xs L (d + 1) 0 0 M_X11_clear 434 h 0 [some (.ref 2), none] [] (fun sz' h' r => sz' = 434 ∧ SH h' ∧ IC5 0 c m t wr s f G h' ∧ KU h h' ∧ r = [.int (nI n)]) := by
  obtain ⟨h2, ⟨p, q, k, w, h3⟩, h4, ⟨lo, lt, fk, fs, h13⟩, ⟨kn, bs, bz, h24⟩, h95, hL⟩ := id hI
  refine EV.post ?_ ((s_X11_clear hn h2 h3 h4).sh hS)
  rintro _ h' _ ⟨⟨rfl, e, rfl⟩, -, hs, -⟩
  have gk : ∀ a, a ≠ 3 → h' a = h a := fun a ha => by rw [e]; exact va_up_ne _ _ ha
  exact ⟨rfl, hs, ⟨(gk 2 (by decide)).trans h2, ⟨_, _, _, _, by rw [e]; exact va_up_self _ _ _⟩, (gk 4 (by decide)).trans h4, ⟨_, _, _, _, (gk 13 (by decide)).trans h13⟩, ⟨_, _, _, (gk 24 (by decide)).trans h24⟩, (gk 95 (by decide)).trans h95, fun i hi => (gk _ (by omega)).trans (hL i hi)⟩, fun k hk => gk k (by omega), rfl⟩
theorem j5_clear {xs : Nat → Int32} {L d : Nat} {h : ev_H} {n c m t : Nat} {wr : Int32} {s : Int64} {g G : Nat → Int32} (hS : SH h) (hI : IM5 n c m t wr s g G h) : EV xs L (d + 0) 0 0 M_X12_clear 434 h 0 [some (.ref 420), none] [] (fun sz' h' r => sz' = 434 ∧ SH h' ∧ IM5 0 c m t wr s g G h' ∧ KD h h' ∧ r = [.int (nI n)]) := by
  obtain ⟨⟨th, nx, tk, pl, va, fa, h5⟩, h6, h22⟩ := id hI
  refine EV.post ?_ ((s_X12_clear h5).sh hS)
  rintro _ h' _ ⟨⟨rfl, e, rfl⟩, -, hs, -⟩
  exact ⟨rfl, hs, ⟨⟨_, _, _, _, _, _, by rw [e]; exact va_up_self _ _ _⟩, by rw [e, va_up_ne _ _ (by decide)]; exact h6, by rw [e, va_up_ne _ _ (by decide)]; exact h22⟩, fun k hk => by rw [e]; exact va_up_ne _ _ (by omega), rfl⟩
