theorem ltO_M (G : Nat → Int32) : ∀ c, ltO G c = ltM G 1 c
  | 0 => rfl
  | k + 1 => by
    rw [ltO, ltM, ltO_M G k, Int32.or_zero]
theorem ltE_M (G : Nat → Int32) : ∀ c, (∀ i, i < c → G (6 * i + 2) = 1 ∨ G (6 * i + 2) = 2) → ltE G c = ltM G 2 c
  | 0, _ => rfl
  | k + 1, h => by
    rw [ltE, ltM, ltE_M G k (fun i hi => h i (by omega)), Int32.or_zero]
    rcases h k (by omega) with e | e
    · rw [if_pos e, e, if_neg (by decide)]
    · rw [e, if_neg (by decide), if_pos rfl]
theorem sd_eq {G : Nat → Int32} {c m : Nat} (h : GV c m G) (x : Int32) : sdF (ltO G c) (ltE G c) x = sdM G c x := by
  rw [ltO_M, ltE_M G c h.2.1]
  unfold sdF sdM inR
  by_cases h1 : x < 0
  · rw [if_pos h1, if_pos h1, if_pos rfl]
  · rw [if_neg h1, if_neg h1]
    by_cases h2 : (7 : Int32) < x
    · rw [if_pos h2, if_pos rfl, if_pos]
      rw [Int32.lt_iff_toInt_lt] at h2
      rw [Int32.le_iff_toInt_le]
      have e7 : (7 : Int32).toInt = 7 := rfl
      have e8 : (8 : Int32).toInt = 8 := rfl
      omega
    · rw [if_neg h2, if_neg (show ¬ (1 : Int32) = 0 by decide), if_neg, Int32.one_mul]
      rw [Int32.lt_iff_toInt_lt] at h2
      rw [Int32.le_iff_toInt_le]
      have e7 : (7 : Int32).toInt = 7 := rfl
      have e8 : (8 : Int32).toInt = 8 := rfl
      omega
theorem bitO_n {n : Nat} (hn : n < 64) : bitO (nI n) = 1 <<< ((nI n).toInt64 &&& 63) := by
  unfold bitO
  rw [if_neg (show ¬ nI n < (0 : Int32) from nI_nlt (a := n) (b := 0) (by omega) (by omega)), if_pos (show nI n < (64 : Int32) from nI_lt (a := n) (b := 64) hn (by decide))]
theorem us_eq {G : Nat → Int32} {c k : Nat} (hk : k ≤ 40) (h : ∀ i, c ≤ i → i < k → (∃ a : Nat, a < i ∧ G (6 * i + 3) = nI a) ∧ (∃ b : Nat, b < i ∧ G (6 * i + 4) = nI b)) : ∀ (n : Nat) (S : Int64), n ≤ k → usC G c n S = usM G c n S
  | 0, _, _ => rfl
  | n + 1, S, hn => by
    rw [usC, usM]
    by_cases e : n < c
    · rw [if_pos e, if_pos e]
    · rw [if_neg e, if_neg e, us_eq hk h n _ (by omega)]
      congr 1
      obtain ⟨⟨a, ha, ea⟩, b, hb, eb⟩ := h n (by omega) (by omega)
      rw [ea, eb, bitO_n (show n < 64 by omega), bitO_n (show a < 64 by omega), bitO_n (show b < 64 by omega)]
      by_cases t : tb S n = true
      · rw [if_neg (fun z => by have := (bit_and (show n < 64 by omega)).mp (lgc0.mp z); rw [t] at this; exact absurd this (by decide)), if_pos (lgc0.mpr ((bit_shr1 (show n < 64 by omega)).mpr t))]
      · rw [if_pos (lgc0.mpr ((bit_and (show n < 64 by omega)).mpr (Bool.eq_false_iff.mpr t))), if_neg (fun z => t ((bit_shr1 (show n < 64 by omega)).mp (lgc0.mp z))), Int64.or_zero]
theorem usA_B {G : Nat → Int32} {c m e : Nat} (hc : c ≤ 16) (hm : m ≤ 24) (h : GV c m G) (he : e < c + m) : usA G c e = usB G c e := by
  unfold usA usB
  rw [us_eq (k := c + m) (by omega) (fun i h1 h2 => ⟨(h.2.2 i h1 h2).1, (h.2.2 i h1 h2).2.1⟩) (e + 1) _ (by omega), bitO_n (show e < 64 by omega), bitO_n (show c < 64 by omega)]
theorem enM_or (G : Nat → Int32) : ∀ (n i : Nat), enM G n i = -9 ∨ ∃ e : Nat, e < i + n ∧ enM G n i = nI e
  | 0, _ => Or.inl rfl
  | n + 1, i => by
    rw [enM]
    split
    · exact Or.inr ⟨i, by omega, rfl⟩
    · rcases enM_or G n (i + 1) with h | ⟨e, he, h⟩
      · exact Or.inl h
      · exact Or.inr ⟨e, by omega, h⟩
