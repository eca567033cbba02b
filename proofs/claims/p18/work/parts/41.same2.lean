theorem and255 (x : Int32) : ∃ k : Nat, k < 256 ∧ x &&& 255 = nI k := pk_andE x 8 (by decide)
theorem mbA_neg {f g : Nat → Int32} {n q : Nat} (h : TXR f g n) : 0 ≤ mbA g n q ↔ q < n := by
  unfold mbA
  by_cases h1 : n ≤ q
  · rw [if_pos h1]
    constructor
    · intro z; exact absurd z (by decide)
    · intro z; omega
  · rw [if_neg h1, h.2 q (by omega)]
    obtain ⟨k, hk, e⟩ := and255 (f q)
    rw [e]
    constructor
    · intro _; omega
    · intro _; exact nI_pos' (by omega)
/-- the class's number and the reference's, on the way -/
def nvR (v w : Int32) : Prop := (∃ k : Nat, k ≤ 99 ∧ v = nI k ∧ w = nI k) ∨ (v = 100 ∧ ∃ k : Nat, 99 < k ∧ k ≤ 999 ∧ w = nI k)
theorem nvR_step {v w x : Int32} (h : nvR v w) (hx : ¬ inR x 48 57 = 0) : nvR (if (100 : Int32) < (10 * v + x - 48) then 100 else (10 * v + x - 48)) (if w ≤ 99 then 10 * w + x - 48 else w) := by
  have hd : ∃ d : Nat, d ≤ 9 ∧ x = nI (48 + d) := by
    unfold inR at hx
    split at hx
    · exact absurd rfl hx
    · rename_i h1
      split at hx
      · exact absurd rfl hx
      · rename_i h2
        have h0 : ¬ x < 0 := fun z => h1 (by
          rw [Int32.lt_iff_toInt_lt] at z ⊢
          exact Int.lt_trans z (by decide))
        obtain ⟨j, hj, rfl⟩ := nI_of2 (M := 57) (n := 57) rfl h0 (Int32.not_lt.mp h2)
        have h3 : ¬ j < 48 := fun z => h1 (show nI j < (48 : Int32) from nI_lt (a := j) (b := 48) z (by decide))
        exact ⟨j - 48, by omega, by rw [show 48 + (j - 48) = j by omega]⟩
  obtain ⟨d, hd9, rfl⟩ := hd
  have step : ∀ k : Nat, k ≤ 999 → (10 : Int32) * nI k + nI (48 + d) - 48 = nI (10 * k + d) := by
    intro k hk
    rw [show (10 : Int32) = nI 10 from rfl, show (48 : Int32) = nI 48 from rfl, pk_mul, nI_add, pk_sub (by omega)]
    congr 1
    omega
  rcases h with ⟨k, hk, rfl, rfl⟩ | ⟨rfl, k, hk, hk2, rfl⟩
  · rw [step k (by omega), if_pos (show nI k ≤ (99 : Int32) from nI_le (a := k) (b := 99) hk (by decide))]
    by_cases h1 : 10 * k + d ≤ 99
    · rw [if_neg (show ¬ (100 : Int32) < nI (10 * k + d) from nI_nlt (a := 100) (b := 10 * k + d) (by omega) (by decide))]
      exact Or.inl ⟨_, h1, rfl, rfl⟩
    · refine Or.inr ⟨?_, 10 * k + d, by omega, by omega, rfl⟩
      by_cases h2 : 100 < 10 * k + d
      · rw [if_pos (show (100 : Int32) < nI (10 * k + d) from nI_lt (a := 100) (b := 10 * k + d) h2 (by omega))]
      · rw [if_neg (show ¬ (100 : Int32) < nI (10 * k + d) from nI_nlt (a := 100) (b := 10 * k + d) (by omega) (by decide)), show 10 * k + d = 100 by omega]
        rfl
  · rw [show (10 : Int32) * 100 + nI (48 + d) - 48 = nI (10 * 100 + d) from step 100 (by omega), if_pos (show (100 : Int32) < nI (10 * 100 + d) from nI_lt (a := 100) (b := 10 * 100 + d) (by omega) (by omega)), if_neg (show ¬ nI k ≤ (99 : Int32) from nI_ge (a := 99) (b := k) (by omega) (by omega))]
    exact Or.inr ⟨rfl, k, hk, hk2, rfl⟩
theorem nuv_m {f g : Nat → Int32} {n : Nat} (h : TXR f g n) : ∀ m p v w, p + m = n → nvR v w → nvR (nuv f n m p v) (mnuv g n m p w)
  | 0, p, v, w, _, hv => hv
  | m + 1, p, v, w, hp, hv => by
    have hn := h.1
    unfold nuv mnuv
    rw [bt_mb h (by omega), isDg_in]
    by_cases h1 : inR (mbA g n p) 48 57 = 0
    · rw [if_pos h1, if_pos h1]
      exact hv
    · rw [if_neg h1, if_neg h1]
      exact nuv_m h m (p + 1) _ _ (by omega) (nvR_step hv h1)
