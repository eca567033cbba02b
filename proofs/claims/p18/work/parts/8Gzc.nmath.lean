theorem ct_s (S n : Nat) : cB S (n + 1) = cB S n + (S.testBit n).toNat := by rw [cB_s, Nat.toNat_testBit]
theorem ct_0 (S : Nat) : cB S 0 = 0 := by rw [cB]
/-- the worlds in which the CLAUSES of set S are so, CLAUSES 0 .. n - 1 looked at -/
def alB (H : Nat → Nat → Bool) (S : Nat) : Nat → Nat → Bool
  | 0, _ => true
  | n + 1, w => alB H S n w && (!S.testBit n || H n w)
theorem alB_t {H : Nat → Nat → Bool} {S w : Nat} : ∀ n, alB H S n w = true ↔ ∀ i, i < n → S.testBit i = true → H i w = true
  | 0 => ⟨fun _ i hi => absurd hi (by omega), fun _ => rfl⟩
  | n + 1 => by
    rw [alB, Bool.and_eq_true, alB_t n]
    constructor
    · rintro ⟨h1, h2⟩ i hi hs
      by_cases e : i = n
      · rw [e] at hs ⊢
        rw [hs] at h2
        exact h2
      · exact h1 i (by omega) hs
    · intro h
      refine ⟨fun i hi hs => h i (by omega) hs, ?_⟩
      cases e : S.testBit n
      · rfl
      · exact h n (by omega) e
theorem alB_or {H : Nat → Nat → Bool} {S i n w : Nat} (hi : i < n) : alB H (S ||| 2 ^ i) n w = (alB H S n w && H i w) := by
  rw [Bool.eq_iff_iff, Bool.and_eq_true, alB_t, alB_t]
  constructor
  · intro h
    exact ⟨fun j hj hs => h j hj (by rw [Nat.testBit_or, hs, Bool.true_or]), h i hi (by rw [Nat.testBit_or, Nat.testBit_two_pow_self, Bool.or_true])⟩
  · rintro ⟨h1, h2⟩ j hj hs
    rw [Nat.testBit_or, Bool.or_eq_true] at hs
    rcases hs with hs | hs
    · exact h1 j hj hs
    · rw [Nat.testBit_two_pow] at hs
      have e : i = j := of_decide_eq_true hs
      rw [← e]; exact h2
/-- a set of CLAUSES that clash -/
def clS (H : Nat → Nat → Bool) (c S : Nat) : Prop := ∀ w, w < 256 → alB H S c w = false
def sbS (S T : Nat) : Prop := ∀ i, S.testBit i = true → T.testBit i = true
def dsS (S T : Nat) : Prop := ∀ i, S.testBit i = true → T.testBit i = false
theorem ct_le (S : Nat) : ∀ n, cB S n ≤ n
  | 0 => by rw [ct_0]; exact Nat.le_refl _
  | n + 1 => by
    have h := ct_le S n
    rw [ct_s]
    cases S.testBit n
    · exact Nat.le_succ_of_le h
    · exact Nat.succ_le_succ h
theorem ct_mono {S T : Nat} (hs : sbS S T) : ∀ n, cB S n ≤ cB T n
  | 0 => by rw [ct_0, ct_0]; exact Nat.le_refl _
  | n + 1 => by
    have h := ct_mono hs n
    rw [ct_s, ct_s]
    cases a : S.testBit n
    · exact Nat.le_trans h (Nat.le_add_right _ _)
    · rw [hs n a]
      exact Nat.add_le_add_right h _
theorem ct_bits {S T : Nat} (hs : sbS S T) : ∀ n, cB S n = cB T n → ∀ i, i < n → S.testBit i = T.testBit i
  | 0, _, i, hi => absurd hi (by omega)
  | n + 1, h, i, hi => by
    have hm := ct_mono hs n
    rw [ct_s, ct_s] at h
    cases a : S.testBit n with
    | true =>
      have b := hs n a
      rw [a, b] at h
      have h' : cB S n = cB T n := Nat.add_right_cancel h
      by_cases e : i = n
      · rw [e, a, b]
      · exact ct_bits hs n h' i (by omega)
    | false =>
      cases b : T.testBit n with
      | true =>
        rw [a, b] at h
        change cB S n + 0 = cB T n + 1 at h
        omega
      | false =>
        rw [a, b] at h
        have h' : cB S n = cB T n := Nat.add_right_cancel h
        by_cases e : i = n
        · rw [e, a, b]
        · exact ct_bits hs n h' i (by omega)
theorem sb_eq {S T c : Nat} (hs : sbS S T) (hS : S < 2 ^ c) (hT : T < 2 ^ c) (h : cB S c = cB T c) : S = T := Nat.eq_of_testBit_eq (fun i => by
  by_cases hi : i < c
  · exact ct_bits hs c h i hi
  · have hp : 2 ^ c ≤ 2 ^ i := Nat.pow_le_pow_right (by decide) (by omega)
    rw [Nat.testBit_lt_two_pow (Nat.lt_of_lt_of_le hS hp), Nat.testBit_lt_two_pow (Nat.lt_of_lt_of_le hT hp)])
theorem ct_or {S i : Nat} (h : S.testBit i = false) : ∀ n, cB (S ||| 2 ^ i) n = cB S n + (decide (i < n)).toNat
  | 0 => by rw [ct_0, ct_0, decide_eq_false (by omega)] <;> rfl
  | n + 1 => by
    rw [ct_s, ct_s, ct_or h n, Nat.testBit_or, Nat.testBit_two_pow]
    rcases Nat.lt_trichotomy i n with e | e | e
    · rw [decide_eq_true e, decide_eq_false (show ¬ i = n by omega), decide_eq_true (show i < n + 1 by omega), Bool.or_false]
      exact Nat.add_right_comm _ _ _
    · rw [decide_eq_false (show ¬ i < n by omega), decide_eq_true e, decide_eq_true (show i < n + 1 by omega), Bool.or_true]
      rw [e] at h
      rw [h]
    · rw [decide_eq_false (show ¬ i < n by omega), decide_eq_false (show ¬ i = n by omega), decide_eq_false (show ¬ i < n + 1 by omega), Bool.or_false]
      exact Nat.add_right_comm _ _ _
theorem ct_hi {S c : Nat} (hS : S < 2 ^ c) : ∀ j, cB S (c + j) = cB S c
  | 0 => rfl
  | j + 1 => by
    have hp : 2 ^ c ≤ 2 ^ (c + j) := Nat.pow_le_pow_right (by decide) (by omega)
    rw [show c + (j + 1) = (c + j) + 1 from rfl, ct_s, ct_hi hS j, Nat.testBit_lt_two_pow (Nat.lt_of_lt_of_le hS hp)] <;> rfl
theorem ct_16 {S c : Nat} (hc : c ≤ 16) (hS : S < 2 ^ c) : cB S 16 = cB S c := by
  have h := ct_hi hS (16 - c)
  rw [show c + (16 - c) = 16 by omega] at h
  exact h
theorem pw16 {c : Nat} (hc : c ≤ 16) : 2 ^ c ≤ 65536 := (Nat.pow_le_pow_right (by decide) hc : 2 ^ c ≤ 2 ^ 16)
theorem sm16 : ∀ k : Fin 16, ((nI k.1 &&& 31 : Int32).toBitVec.smod 32).toNat = k.1 := by decide +kernel
/-- what ones counts -/
theorem on16 {S : Nat} (hS : S < 65536) : ∀ k, k ≤ 16 → onM (nI S) k = nI (cB S k)
  | 0, _ => by rw [onM, ct_0] <;> rfl
  | k + 1, hk => by
    have e : (nI S >>> (nI k &&& 31)) &&& 1 = nI (S / 2 ^ k % 2) := by
      have hd : S / 2 ^ k ≤ S := Nat.div_le_self _ _
      rw [pk_shrN (n := S) (by omega) (nI k &&& 31) k (sm16 ⟨k, by omega⟩)]
      exact pk_andN (n := S / 2 ^ k) (by omega) (m := 1) 1 (by decide)
    rw [onM, on16 hS k (by omega), e, cB_s]
    exact nI_add _ _
