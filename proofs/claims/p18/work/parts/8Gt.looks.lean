theorem ib_or (x y : Int32) (n : Nat) : ib (x ||| y) n = (ib x n || ib y n) := by
  unfold ib; rw [Int32.toBitVec_or, BitVec.getLsbD_or]
/-- the reference's looksOf, LETTERS 0 .. n - 1 of world w; worlds 0 .. n - 1 -/
def lk1 (P : Nat → Bool) (w : Nat) : Nat → Int32 → Int32
  | 0, a => a
  | l + 1, a => lk1 P w l a ||| (if P w = true ∧ ¬ P (w ^^^ 2 ^ l) = true then 1 <<< (nI l &&& 31) else 0)
def lkO (P : Nat → Bool) : Nat → Int32
  | 0 => 0
  | w + 1 => lk1 P w 8 (lkO P w)
theorem lk1_ib {P : Nat → Bool} {w : Nat} {a : Int32} {j : Nat} (hj : j < 32) : ∀ n, n ≤ 8 → (ib (lk1 P w n a) j = true ↔ (ib a j = true ∨ (j < n ∧ P w = true ∧ ¬ P (w ^^^ 2 ^ j) = true)))
  | 0, _ => by rw [lk1]; exact ⟨Or.inl, fun h => h.elim id (fun h => absurd h.1 (by omega))⟩
  | n + 1, hn => by
    rw [lk1, ib_or, Bool.or_eq_true, lk1_ib hj n (by omega)]
    by_cases c : P w = true ∧ ¬ P (w ^^^ 2 ^ n) = true
    · rw [if_pos c, ib_b ⟨n, by omega⟩ ⟨j, hj⟩, decide_eq_true_eq]
      constructor
      · rintro ((h | h) | h)
        · exact Or.inl h
        · exact Or.inr ⟨by omega, h.2⟩
        · have h' : j = n := h
          subst h'; exact Or.inr ⟨by omega, c⟩
      · rintro (h | ⟨h1, h2⟩)
        · exact Or.inl (Or.inl h)
        · by_cases e : j = n
          · exact Or.inr e
          · exact Or.inl (Or.inr ⟨by omega, h2⟩)
    · rw [if_neg c, ib_0]
      constructor
      · rintro ((h | h) | h)
        · exact Or.inl h
        · exact Or.inr ⟨by omega, h.2⟩
        · exact absurd h (by decide)
      · rintro (h | ⟨h1, h2⟩)
        · exact Or.inl (Or.inl h)
        · by_cases e : j = n
          · subst e; exact absurd h2 c
          · exact Or.inl (Or.inr ⟨by omega, h2⟩)
theorem lkO_ib {P : Nat → Bool} {j : Nat} (hj : j < 32) : ∀ n, ib (lkO P n) j = true ↔ ∃ w, w < n ∧ j < 8 ∧ P w = true ∧ ¬ P (w ^^^ 2 ^ j) = true
  | 0 => by rw [lkO, ib_0]; exact ⟨fun h => absurd h (by decide), fun ⟨w, hw, _⟩ => absurd hw (by omega)⟩
  | n + 1 => by
    rw [lkO, lk1_ib hj 8 (by omega), lkO_ib hj n]
    constructor
    · rintro (⟨w, hw, h⟩ | h)
      · exact ⟨w, by omega, h⟩
      · exact ⟨n, by omega, h⟩
    · rintro ⟨w, hw, h⟩
      by_cases e : w = n
      · subst e; exact Or.inr h
      · exact Or.inl ⟨w, by omega, h⟩
/-- whether the set hangs on a LETTER, by the class -/
theorem hgo_iff {V : Nat → Int64} {P : Nat → Bool} {l : Nat} (hl : l < 8) (hV : ∀ p, p < 4 → V p = wO P p) : ¬ hgo (V 0) (V 1) (V 2) (V 3) (nI l) = 0 ↔ ∃ w, w < 256 ∧ P w = true ∧ ¬ P (w ^^^ 2 ^ l) = true := by
  have hw : ∀ w, w < 256 → vb V w = P w := fun w h => by unfold vb; rw [hV (w / 64) (by omega), wO_w]
  have key : ∀ p, p < 4 → (ptu (V 0) (V 1) (V 2) (V 3) (nI l) (nI p) = V p ↔ ∀ j, j < 64 → P ((64 * p + j) ^^^ 2 ^ l) = P (64 * p + j)) := fun p hp => by
    constructor
    · intro h j hj
      have e := ptu_tb (V := V) hl hp hj
      rw [h, hV p hp, wO_tb _ p hj, hw _ ((xr ⟨l, hl⟩ ⟨64 * p + j, by omega⟩).1)] at e
      exact e.symm
    · intro h
      apply tb_ext
      intro j hj
      rw [ptu_tb (V := V) hl hp hj, hV p hp, wO_tb _ p hj, hw _ ((xr ⟨l, hl⟩ ⟨64 * p + j, by omega⟩).1)]
      exact h j hj
  have z : hgo (V 0) (V 1) (V 2) (V 3) (nI l) = 0 ↔ ∀ p, p < 4 → ptu (V 0) (V 1) (V 2) (V 3) (nI l) (nI p) = V p := by
    unfold hgo
    constructor
    · intro h
      split at h
      · rename_i h0
        split at h
        · rename_i h1
          split at h
          · rename_i h2
            split at h
            · rename_i h3
              exact V4 (lgc0.mp h0) (lgc0.mp h1) (lgc0.mp h2) (lgc0.mp h3)
            · exact absurd h (by decide)
          · exact absurd h (by decide)
        · exact absurd h (by decide)
      · exact absurd h (by decide)
    · intro h
      rw [if_pos (lgc0.mpr (show ptu (V 0) (V 1) (V 2) (V 3) (nI l) 0 = V 0 from h 0 (by decide))), if_pos (lgc0.mpr (show ptu (V 0) (V 1) (V 2) (V 3) (nI l) 1 = V 1 from h 1 (by decide))), if_pos (lgc0.mpr (show ptu (V 0) (V 1) (V 2) (V 3) (nI l) 2 = V 2 from h 2 (by decide))), if_pos (lgc0.mpr (show ptu (V 0) (V 1) (V 2) (V 3) (nI l) 3 = V 3 from h 3 (by decide)))]
  rw [z]
  constructor
  · intro h
    refine Classical.byContradiction (fun hn => h (fun p hp => (key p hp).mpr (fun j hj => ?_)))
    obtain ⟨x1, x2⟩ := xr ⟨l, hl⟩ ⟨64 * p + j, by omega⟩
    simp only [] at x1 x2
    have a : ∀ w, w < 256 → P w = true → P (w ^^^ 2 ^ l) = true := fun w hw' hp' => Classical.byContradiction (fun q => hn ⟨w, hw', hp', q⟩)
    have a1 := a (64 * p + j) (by omega)
    have a2 := a _ x1
    rw [x2] at a2
    cases e1 : P (64 * p + j) <;> cases e2 : P ((64 * p + j) ^^^ 2 ^ l)
    · rfl
    · rw [e1] at a2; exact absurd (a2 e2) (by decide)
    · rw [e2] at a1; exact absurd (a1 e1) (by decide)
    · rfl
  · rintro ⟨w, hw', h1, h2⟩ h
    have k := (key (w / 64) (by omega)).mp (h (w / 64) (by omega)) (w % 64) (by omega)
    rw [show 64 * (w / 64) + w % 64 = w by omega] at k
    exact h2 (by rw [k]; exact h1)
theorem lla_ib {V : Nat → Int64} {P : Nat → Bool} (hV : ∀ p, p < 4 → V p = wO P p) {j : Nat} (hj : j < 32) : ∀ (n k : Nat) (a : Int32), k + n = 8 → (ib (lla n k (V 0) (V 1) (V 2) (V 3) a) j = true ↔ (ib a j = true ∨ (k ≤ j ∧ j < 8 ∧ ∃ w, w < 256 ∧ P w = true ∧ ¬ P (w ^^^ 2 ^ j) = true)))
  | 0, k, a, hk => by rw [lla]; exact ⟨Or.inl, fun h => h.elim id (fun h => absurd h.1 (by omega))⟩
  | n + 1, k, a, hk => by
    have hg := hgo_iff (V := V) (P := P) (l := k) (by omega) hV
    rw [lla]
    by_cases c : hgo (V 0) (V 1) (V 2) (V 3) (nI k) = 0
    · rw [if_pos c, lla_ib hV hj n (k + 1) a (by omega)]
      constructor
      · rintro (h | ⟨h1, h2⟩)
        · exact Or.inl h
        · exact Or.inr ⟨by omega, h2⟩
      · rintro (h | ⟨h1, h2, h3⟩)
        · exact Or.inl h
        · by_cases e : j = k
          · subst e; exact absurd c (hg.mpr h3)
          · exact Or.inr ⟨by omega, h2, h3⟩
    · rw [if_neg c, lla_ib hV hj n (k + 1) _ (by omega), ib_or, Bool.or_eq_true, ib_b ⟨k, by omega⟩ ⟨j, hj⟩, decide_eq_true_eq]
      constructor
      · rintro ((h | h) | ⟨h1, h2⟩)
        · exact Or.inl h
        · have h' : j = k := h
          subst h'; exact Or.inr ⟨by omega, by omega, hg.mp c⟩
        · exact Or.inr ⟨by omega, h2⟩
      · rintro (h | ⟨h1, h2, h3⟩)
        · exact Or.inl (Or.inl h)
        · by_cases e : j = k
          · exact Or.inl (Or.inr e)
          · exact Or.inr ⟨by omega, h2, h3⟩
/-- the class's letters looked at are the reference's -/
theorem lla_lkO {V : Nat → Int64} {P : Nat → Bool} (hV : ∀ p, p < 4 → V p = wO P p) : lla 8 0 (V 0) (V 1) (V 2) (V 3) 0 = lkO P 256 := ib_ext (fun j hj => Bool.eq_iff_iff.mpr (by
  rw [lla_ib hV hj 8 0 0 rfl, lkO_ib hj 256, ib_0]
  constructor
  · rintro (h | ⟨-, h2, w, hw, h⟩)
    · exact absurd h (by decide)
    · exact ⟨w, hw, h2, h⟩
  · rintro ⟨w, hw, h2, h⟩; exact Or.inr ⟨by omega, h2, w, hw, h⟩))
