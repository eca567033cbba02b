theorem bT_0 {x : Int64} : ∀ k, k ≤ 64 → (bT x k = 0 ↔ ∀ j, j < k → tb x j = false)
  | 0, _ => ⟨fun _ j hj => absurd hj (by omega), fun _ => rfl⟩
  | k + 1, hk => by
    have ih := bT_0 (x := x) k (by omega)
    rw [bT]
    constructor
    · intro h j hj
      by_cases e : j = k
      · subst e
        by_cases t : tb x j = true
        · rw [if_pos t] at h; omega
        · exact Bool.eq_false_iff.mpr t
      · exact ih.mp (by omega) j (by omega)
    · intro h
      rw [ih.mpr (fun j hj => h j (by omega)), h k (by omega)]
      rfl
theorem bT_z {x : Int64} : bT x 64 = 0 ↔ x = 0 := by
  rw [bT_0 64 (by omega)]
  constructor
  · intro h; exact tb_ext (fun j hj => by rw [h j hj, tb_0])
  · rintro rfl j hj; exact tb_0 j
theorem mn_0 (V : Nat → Int64) : mnN V 256 = 0 ↔ ∀ p, p < 4 → V p = 0 := by
  rw [mnN_256]
  constructor
  · intro h; exact V4 (bT_z.mp (by omega)) (bT_z.mp (by omega)) (bT_z.mp (by omega)) (bT_z.mp (by omega))
  · intro h
    rw [bT_z.mpr (h 0 (by decide)), bT_z.mpr (h 1 (by decide)), bT_z.mpr (h 2 (by decide)), bT_z.mpr (h 3 (by decide))]
theorem wsIn_iff (A B : Nat → Int64) : wsIn (A 0) (A 1) (A 2) (A 3) (B 0) (B 1) (B 2) (B 3) = 0 ↔ ∃ p, p < 4 ∧ ¬ A p &&& (B p ^^^ (-1)) = 0 := by
  have h := mn_and (A := A) (B := B) 256 (by omega)
  have l1 := mn_le A 256
  have z := mn_0 (fun p => A p &&& (B p ^^^ (-1)))
  unfold wsIn
  rw [wsz_mn (fun p => A p &&& B p), wsz_mn A]
  by_cases c : mnN (fun p => A p &&& (B p ^^^ (-1))) 256 = 0
  · rw [if_neg (fun q => q (congrArg nI (by omega)))]
    constructor
    · intro q; exact absurd q (by decide)
    · rintro ⟨p, hp, q⟩; exact absurd (z.mp c p hp) q
  · rw [if_pos (fun q => c (by have := (nI_eq (by omega) (by omega)).mp q; omega))]
    constructor
    · intro _
      exact Classical.byContradiction (fun q => c (z.mpr (fun p hp => Classical.byContradiction (fun r => q ⟨p, hp, r⟩))))
    · intro _; rfl
theorem wsz_iff (A B : Nat → Int64) : wsz (A 0 &&& B 0) (A 1 &&& B 1) (A 2 &&& B 2) (A 3 &&& B 3) = 0 ↔ ∀ p, p < 4 → A p &&& B p = 0 := by
  have l := mn_le (fun p => A p &&& B p) 256
  rw [wsz_mn (fun p => A p &&& B p), ← mn_0 (fun p => A p &&& B p)]
  show nI _ = nI 0 ↔ _
  exact nI_eq (by omega) (by decide)
/-- the reference's check, parts n - 1 down to 0 -/
def ck1 (A B S : Nat → Int64) (p : Nat) (v : Int32) : Int32 := if A p &&& (S p ^^^ (-1)) = 0 then (if S p &&& B p = 0 then v else if v = 2 then v else 3) else 2
def ckL (A B S : Nat → Int64) : Nat → Int32 → Int32
  | 0, v => v
  | n + 1, v => ckL A B S n (ck1 A B S n v)
theorem ckL_2 (A B S : Nat → Int64) : ∀ n, ckL A B S n 2 = 2
  | 0 => rfl
  | n + 1 => by
    have e : ck1 A B S n 2 = 2 := by
      unfold ck1
      by_cases c : A n &&& (S n ^^^ (-1)) = 0
      · rw [if_pos c]
        by_cases d : S n &&& B n = 0
        · rw [if_pos d]
        · rw [if_neg d, if_pos rfl]
      · rw [if_neg c]
    rw [ckL, e]
    exact ckL_2 A B S n
theorem ckL_0 (A B S : Nat → Int64) : ∀ n v, (∀ p, p < n → A p &&& (S p ^^^ (-1)) = 0) → (v = 0 ∨ v = 3) → ckL A B S n v = if (∀ p, p < n → S p &&& B p = 0) then v else 3
  | 0, v, _, _ => by rw [ckL, if_pos (fun p hp => absurd hp (by omega))]
  | n + 1, v, h, hv => by
    have hv2 : ¬ v = 2 := by rcases hv with rfl | rfl <;> decide
    rw [ckL, ck1, if_pos (h n (by omega))]
    by_cases c : S n &&& B n = 0
    · rw [if_pos c, ckL_0 A B S n v (fun p hp => h p (by omega)) hv]
      by_cases d : ∀ p, p < n → S p &&& B p = 0
      · rw [if_pos d, if_pos (fun p hp => by
          by_cases e : p = n
          · subst e; exact c
          · exact d p (by omega))]
      · rw [if_neg d, if_neg (fun q => d (fun p hp => q p (by omega)))]
    · rw [if_neg c, if_neg hv2, ckL_0 A B S n 3 (fun p hp => h p (by omega)) (Or.inr rfl)]
      rw [if_neg (show ¬ ∀ p, p < n + 1 → S p &&& B p = 0 from fun q => c (q n (by omega)))]
      split <;> rfl
theorem ckL_t (A B S : Nat → Int64) : ∀ n v, (∃ p, p < n ∧ ¬ A p &&& (S p ^^^ (-1)) = 0) → ckL A B S n v = 2
  | 0, v, h => by obtain ⟨p, hp, _⟩ := h; omega
  | n + 1, v, h => by
    rw [ckL]
    by_cases c : A n &&& (S n ^^^ (-1)) = 0
    · obtain ⟨p, hp, q⟩ := h
      exact ckL_t A B S n _ ⟨p, by by_cases e : p = n; (subst e; exact absurd c q); omega, q⟩
    · rw [ck1, if_neg c]; exact ckL_2 A B S n
