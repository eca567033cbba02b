theorem upd_ag {A A' : Nat → Int32} {i : Nat} {x : Int32} (h : ∀ j, j < i → A j = A' j) : ∀ j, j < i + 1 → upd A i x j = upd A' i x j := fun j hj => by
  by_cases e : j = i
  · subst e; rw [pk_us, pk_us]
  · rw [pk_un e, pk_un e]; exact h j (by omega)
theorem csL_arr (f : Nat → Int32) (n : Nat) : ∀ (r p i : Nat) (A B C A' B' C' : Nat → Int32), (∀ j, j < i → A j = A' j) → (∀ j, j < i → B j = B' j) → (∀ j, j < i → C j = C' j) → ∀ j, j < (csL f n r p i A B C).2.1 → (csL f n r p i A B C).2.2.1 j = (csL f n r p i A' B' C').2.2.1 j ∧ (csL f n r p i A B C).2.2.2.1 j = (csL f n r p i A' B' C').2.2.2.1 j ∧ (csL f n r p i A B C).2.2.2.2 j = (csL f n r p i A' B' C').2.2.2.2 j
  | 0, p, i, A, B, C, A', B', C', h1, h2, h3 => fun j hj => ⟨h1 j hj, h2 j hj, h3 j hj⟩
  | r + 1, p, i, A, B, C, A', B', C', h1, h2, h3 => by
    rw [csL, csL]
    split
    · exact fun j hj => ⟨h1 j hj, h2 j hj, h3 j hj⟩
    · split
      · split
        · exact csL_arr f n r _ _ _ _ _ _ _ _ (upd_ag h1) (upd_ag h2) (upd_ag h3)
        · exact fun j hj => ⟨h1 j hj, h2 j hj, h3 j hj⟩
      · exact fun j hj => ⟨h1 j hj, h2 j hj, h3 j hj⟩
theorem stL_arr (f : Nat → Int32) (n c : Nat) : ∀ (r p i : Nat) (A B C A' B' C' : Nat → Int32), (∀ j, j < i → A j = A' j) → (∀ j, j < i → B j = B' j) → (∀ j, j < i → C j = C' j) → ∀ j, j < (stL f n c r p i A B C).2.1 → (stL f n c r p i A B C).2.2.1 j = (stL f n c r p i A' B' C').2.2.1 j ∧ (stL f n c r p i A B C).2.2.2.1 j = (stL f n c r p i A' B' C').2.2.2.1 j ∧ (stL f n c r p i A B C).2.2.2.2 j = (stL f n c r p i A' B' C').2.2.2.2 j
  | 0, p, i, A, B, C, A', B', C', h1, h2, h3 => fun j hj => ⟨h1 j hj, h2 j hj, h3 j hj⟩
  | r + 1, p, i, A, B, C, A', B', C', h1, h2, h3 => by
    rw [stL, stL]
    split
    · exact fun j hj => ⟨h1 j hj, h2 j hj, h3 j hj⟩
    · split
      · exact stL_arr f n c r _ _ _ _ _ _ _ _ (upd_ag h1) (upd_ag h2) (upd_ag h3)
      · exact fun j hj => ⟨h1 j hj, h2 j hj, h3 j hj⟩
theorem LN_cg {k : Nat} {G G' : Nat → Int32} {h : ev_H} (he : ∀ x, x < 6 * k → G x = G' x) (hL : LN k G h) : LN k G' h := fun i hi => by
  rw [hL i hi, he (6 * i) (by omega), he (6 * i + 1) (by omega), he (6 * i + 2) (by omega), he (6 * i + 3) (by omega), he (6 * i + 4) (by omega), he (6 * i + 5) (by omega)]
theorem enF_cg {G G' : Nat → Int32} : ∀ (n i : Nat), (∀ x, x < 6 * (i + n) → G x = G' x) → enF G n i = enF G' n i
  | 0, _, _ => rfl
  | n + 1, i, h => by
    rw [enF, enF, h (6 * i) (by omega), h (6 * i + 1) (by omega), enF_cg n (i + 1) (fun x hx => h x (by omega))]
theorem mkL_cg {c : Nat} {A B C A' B' C' : Nat → Int32} : ∀ (n s : Nat) (G : Nat → Int32), (∀ j, j < s + n → A j = A' j ∧ B j = B' j ∧ C j = C' j) → mkL c A B C n s G = mkL c A' B' C' n s G
  | 0, _, _, _ => rfl
  | n + 1, s, G, h => by
    obtain ⟨e1, e2, e3⟩ := h s (by omega)
    rw [mkL, mkL, e1, e2, e3, mkL_cg n (s + 1) _ (fun j hj => h j (by omega))]
theorem clG_cg {A B C A' B' C' : Nat → Int32} {c : Nat} (h : ∀ j, j < c → A j = A' j ∧ B j = B' j ∧ C j = C' j) : ∀ x, x < 6 * c → clG A B C x = clG A' B' C' x := fun x hx => by
  obtain ⟨e1, e2, e3⟩ := h (x / 6) (by omega)
  unfold clG
  rw [e1, e2, e3]
theorem ltO_cg {G G' : Nat → Int32} : ∀ c, (∀ x, x < 6 * c → G x = G' x) → ltO G c = ltO G' c
  | 0, _ => rfl
  | k + 1, h => by rw [ltO, ltO, h (6 * k) (by omega), h (6 * k + 1) (by omega), h (6 * k + 2) (by omega), ltO_cg k (fun x hx => h x (by omega))]
theorem ltE_cg {G G' : Nat → Int32} : ∀ c, (∀ x, x < 6 * c → G x = G' x) → ltE G c = ltE G' c
  | 0, _ => rfl
  | k + 1, h => by rw [ltE, ltE, h (6 * k) (by omega), h (6 * k + 1) (by omega), h (6 * k + 2) (by omega), ltE_cg k (fun x hx => h x (by omega))]
theorem mkL_lo (c : Nat) (A B C : Nat → Int32) : ∀ (n s : Nat) (G : Nat → Int32) (x : Nat), x < 6 * (c + s) → (mkL c A B C n s G).2.2 x = G x
  | 0, _, _, _, _ => rfl
  | n + 1, s, G, x, hx => by
    rw [mkL]
    split
    · rw [mkL_lo c A B C n (s + 1) _ x (by omega), cuG_lo hx]
    · rfl
/-- the rows of a text's CLAUSES, of its STEPS -/
def z0 : Nat → Int32 := fun _ => 0
def csG (f : Nat → Int32) (n : Nat) : Nat → Int32 := clG (csL f n 16 0 0 z0 z0 z0).2.2.1 (csL f n 16 0 0 z0 z0 z0).2.2.2.1 (csL f n 16 0 0 z0 z0 z0).2.2.2.2
def stM (f : Nat → Int32) (n c : Nat) (G : Nat → Int32) : Nat × Int32 × (Nat → Int32) := mkL c (stL f n c 24 0 0 z0 z0 z0).2.2.1 (stL f n c 24 0 0 z0 z0 z0).2.2.2.1 (stL f n c 24 0 0 z0 z0 z0).2.2.2.2 (stL f n c 24 0 0 z0 z0 z0).2.1 0 G
def stN (f : Nat → Int32) (n c : Nat) : Nat := (stL f n c 24 0 0 z0 z0 z0).2.1
theorem stM_lo (f : Nat → Int32) (n c : Nat) (G : Nat → Int32) (x : Nat) (hx : x < 6 * c) : (stM f n c G).2.2 x = G x := mkL_lo c _ _ _ _ 0 G x (by omega)
