/-- the token at p: its kind, its value -/
abbrev tK (f : Nat → Int32) (n p : Nat) : Int32 := rdK f n p 0
abbrev tV (f : Nat → Int32) (n p : Nat) : Int32 := rdV f n p 0
abbrev cT (f : Nat → Int32) (n p : Nat) : va_E := c3 (nI n) (nI (rdP f n p)) (nI (rdS f n p)) (tK f n p) (tV f n p)
theorem rdK_k (f : Nat → Int32) (n p : Nat) (k : Int32) : rdK f n p k = tK f n p := by
  unfold tK rdK nuK wdK
  rfl
theorem rdV_k (f : Nat → Int32) (n p : Nat) (k : Int32) : rdV f n p k = tV f n p := by
  unfold tV rdV nuV wdV
  rfl
theorem rdS_le (f : Nat → Int32) {n p : Nat} (hp : p ≤ n) : p ≤ rdS f n p ∧ rdS f n p ≤ n := skp_le f n (n - p) p (by omega)
theorem rdP_le (f : Nat → Int32) {n p : Nat} (hp : p ≤ n) : rdP f n p ≤ n := by
  have h := rdS_le f hp
  unfold rdP
  split
  · exact h.2
  · split
    · split
      · omega
      · exact (nup_le f n (n - rdS f n p) (rdS f n p) (by omega)).2
    · exact (wdp_le f n (n - rdS f n p) (rdS f n p) (by omega)).2
theorem t_next {xs : Nat → Int32} {L d : Nat} {h : ev_H} {f : Nat → Int32} {n p : Nat} (hS : SH h) (hp : p ≤ n) (hn : n ≤ 300) (h3 : h 3 = cT f n p) (h4 : h 4 = c4 f) : EV xs L (d + 3) 0 0 M_X8_readNext 434 h 0 [some (.ref 3), none] [] (fun sz' h' r => sz' = 434 ∧ SH h' ∧ KM [3] h h' ∧ h' 3 = cT f n (rdP f n p) ∧ r = []) := by
  refine EV.post ?_ ((s_X8_readNext (rdP_le f hp) hn h3 h4).sh hS)
  rintro _ h' _ ⟨⟨rfl, e, rfl⟩, -, hs, -⟩
  refine ⟨rfl, hs, ?_, ?_, rfl⟩
  · rw [e]; exact KM_up (KM_rf _) (by decide)
  · rw [e, rdK_k, rdV_k]; exact va_up_self _ _ _
theorem t_first {xs : Nat → Int32} {L d : Nat} {h : ev_H} {f : Nat → Int32} {n : Nat} {p s k v : Int32} (hS : SH h) (hn : n ≤ 300) (h3 : h 3 = c3 (nI n) p s k v) (h4 : h 4 = c4 f) : EV xs L (d + 4) 0 0 M_X8_readFirst 434 h 0 [some (.ref 3)] [] (fun sz' h' r => sz' = 434 ∧ SH h' ∧ KM [3] h h' ∧ h' 3 = cT f n 0 ∧ r = []) := by
  refine EV.post ?_ ((s_X8_readFirst hn h3 h4).sh hS)
  rintro _ h' _ ⟨⟨rfl, e, rfl⟩, -, hs, -⟩
  refine ⟨rfl, hs, ?_, ?_, rfl⟩
  · rw [e]; exact KM_up (KM_rf _) (by decide)
  · rw [e, rdK_k, rdV_k]; exact va_up_self _ _ _
theorem m_adv {xs : Nat → Int32} {L d : Nat} {h : ev_H} {th : Int32} {tr : Int64} {tk pl va fa cl md ss wg : Int32} {f g : Nat → Int32} {n p : Nat} (hS : SH h) (hX : TXR f g n) (hp : p ≤ n) (h5 : h 420 = c420 th tr (nI n) (nI p) tk pl va fa cl md ss wg) (h6 : h 421 = c421 g) : EV xs L (d + 2) 0 0 M_X12_advances 434 h 0 [some (.ref 420), none] [] (fun sz' h' r => sz' = 434 ∧ SH h' ∧ KM [420] h h' ∧ (∃ w, h' 420 = c420 th tr (nI n) (nI (rdP f n p)) (kmap (tK f n p)) (nI (rdS f n p)) w fa cl md ss wg ∧ (tK f n p = 1 ∨ tK f n p = 3 ∨ tK f n p = 4 → w = tV f n p)) ∧ r = []) := by
  refine EV.post ?_ ((s_X12_advances hX.1 hp h5 h6).sh hS)
  rintro _ h' _ ⟨⟨rfl, e, rfl⟩, -, hs, -⟩
  have ts := tok_same hX hp 0 va
  refine ⟨rfl, hs, ?_, ⟨maV g n p va, ?_, fun z => (ts.2.2 z).symm⟩, rfl⟩
  · rw [e]; exact KM_up (KM_rf _) (by decide)
  · rw [e, va_up_self, ← ts.1, ← ts.2.1, ← rdS_m hX hp]
theorem km1 (k : Int32) : kmap k = 1 ↔ k = 3 := by
  unfold kmap
  by_cases h1 : k = 1
  · subst h1; decide
  · by_cases h2 : k = 2
    · subst h2; decide
    · by_cases h3 : k = 3
      · subst h3; decide
      · simp only [if_neg h1, if_neg h2, if_neg h3]; exact ⟨fun z => absurd z h1, fun z => absurd z h3⟩
theorem km2 (k : Int32) : kmap k = 2 ↔ k = 1 := by
  unfold kmap
  by_cases h1 : k = 1
  · subst h1; decide
  · by_cases h2 : k = 2
    · subst h2; decide
    · by_cases h3 : k = 3
      · subst h3; decide
      · simp only [if_neg h1, if_neg h2, if_neg h3]; exact ⟨fun z => absurd z h2, fun z => absurd z h1⟩
theorem km3 (k : Int32) : kmap k = 3 ↔ k = 2 := by
  unfold kmap
  by_cases h1 : k = 1
  · subst h1; decide
  · by_cases h2 : k = 2
    · subst h2; decide
    · by_cases h3 : k = 3
      · subst h3; decide
      · simp only [if_neg h1, if_neg h2, if_neg h3]; exact ⟨fun z => absurd z h3, fun z => absurd z h2⟩
theorem kmO {k c : Int32} (hc : ¬ c = 1 ∧ ¬ c = 2 ∧ ¬ c = 3) : kmap k = c ↔ k = c := by
  unfold kmap
  by_cases h1 : k = 1
  · subst h1; rw [if_pos rfl]; exact ⟨fun z => absurd z.symm hc.2.1, fun z => absurd z.symm hc.1⟩
  · by_cases h2 : k = 2
    · subst h2; rw [if_neg (by decide), if_pos rfl]; exact ⟨fun z => absurd z.symm hc.2.2, fun z => absurd z.symm hc.2.1⟩
    · by_cases h3 : k = 3
      · subst h3; rw [if_neg (by decide), if_neg (by decide), if_pos rfl]; exact ⟨fun z => absurd z.symm hc.1, fun z => absurd z.symm hc.2.2⟩
      · simp only [if_neg h1, if_neg h2, if_neg h3]
theorem km0 (k : Int32) : kmap k = 0 ↔ k = 0 := kmO (by decide)
theorem km4 (k : Int32) : kmap k = 4 ↔ k = 4 := kmO (by decide)
theorem km5 (k : Int32) : kmap k = 5 ↔ k = 5 := kmO (by decide)
theorem km6 (k : Int32) : kmap k = 6 ↔ k = 6 := kmO (by decide)
/-- a LETTER's value -/
theorem tV3 {f g : Nat → Int32} {n p : Nat} (h : TXR f g n) (hp : p ≤ n) (hk : tK f n p = 3) : ∃ v : Nat, v < 8 ∧ tV f n p = nI v := by
  have hn := h.1
  have hle := rdS_le f hp
  unfold tK rdK rdC at hk
  unfold tV rdV rdC
  generalize rdS f n p = q at hle hk ⊢
  rw [bt_mb h (by omega), isWS_in, isDg_in] at hk ⊢
  by_cases h1 : n ≤ q
  · rw [if_pos h1] at hk; exact absurd hk (by decide)
  · rw [if_neg h1] at hk ⊢
    by_cases h2 : inR (mbA g n q) 97 122 = 0
    · rw [if_pos h2] at hk
      exfalso
      by_cases h3 : inR (mbA g n q) 48 57 = 0
      · rw [if_pos h3] at hk
        revert hk
        repeat' split
        all_goals decide
      · rw [if_neg h3] at hk
        revert hk
        unfold nuK
        repeat' split
        all_goals decide
    · rw [if_neg h2] at hk ⊢
      have hwl := wdp_le f n (n - q) q (by omega)
      obtain ⟨s, hs⟩ : ∃ s, wdp f n (n - q) q = q + s := ⟨wdp f n (n - q) q - q, by omega⟩
      have e9 : nI (wdp f n (n - q) q) - nI q = nI s := by rw [hs, pk_sub (by omega)]; congr 1; omega
      by_cases z1 : nI s = 1
      · have s1 : s = 1 := (nI_eq (by omega) (by decide)).mp (show nI s = nI 1 from z1)
        subst s1
        have ew := wd1 h (show q < n by omega) hs
        obtain ⟨b, hb, eb, gb⟩ := mb_byte h (show q < n by omega)
        rw [ew, eb] at hk ⊢
        have hb2 : 97 ≤ b ∧ b ≤ 122 := by
          rw [eb] at h2
          unfold inR at h2
          split at h2
          · exact absurd rfl h2
          · rename_i z1
            split at h2
            · exact absurd rfl h2
            · rename_i z2
              exact ⟨Nat.not_lt.mp (fun z => z1 (show nI b < (97 : Int32) from nI_lt (a := b) (b := 97) z (by decide))), Nat.not_lt.mp (fun z => z2 (show (122 : Int32) < nI b from nI_lt (a := 122) (b := b) z (by omega)))⟩
        have e97 : nI b - 97 = nI (b - 97) := by rw [show (97 : Int32) = nI 97 from rfl, pk_sub hb2.1]
        unfold wdK at hk
        unfold wdV
        have e1 : nI 1 = (1 : Int32) := rfl
        simp only [e9, e1, not_true_eq_false, if_false, e97] at hk ⊢
        by_cases h3 : b ≤ 104
        · rw [if_neg (show ¬ (8 : Int32) ≤ nI (b - 97) from nI_ge (a := b - 97) (b := 8) (by omega) (by decide))]
          exact ⟨b - 97, by omega, rfl⟩
        · rw [if_pos (show (8 : Int32) ≤ nI (b - 97) from nI_le (a := 8) (b := b - 97) (by omega) (by omega))] at hk
          simp only [show ¬ ((1 : Int32) = 3) by decide, not_false_eq_true, if_true] at hk
          exact absurd hk (by decide)
      · exfalso
        revert hk
        unfold wdK
        rw [e9]
        simp only [z1, not_false_eq_true, if_true]
        repeat' split
        all_goals decide
/-- a NUMBER's value -/
theorem tV4 {f g : Nat → Int32} {n p : Nat} (h : TXR f g n) (hp : p ≤ n) (hk : tK f n p = 4) : ∃ v : Nat, v ≤ 99 ∧ tV f n p = nI v := by
  have hn := h.1
  have hle := rdS_le f hp
  unfold tK rdK rdC at hk
  unfold tV rdV rdC
  generalize rdS f n p = q at hle hk ⊢
  rw [bt_mb h (by omega), isWS_in, isDg_in] at hk ⊢
  by_cases h1 : n ≤ q
  · rw [if_pos h1] at hk; exact absurd hk (by decide)
  · rw [if_neg h1] at hk ⊢
    by_cases h2 : inR (mbA g n q) 97 122 = 0
    · rw [if_pos h2] at hk ⊢
      by_cases h3 : inR (mbA g n q) 48 57 = 0
      · exfalso
        rw [if_pos h3] at hk
        revert hk
        repeat' split
        all_goals decide
      · rw [if_neg h3] at hk ⊢
        have hv := nuv_m h (n - q) q 0 0 (by omega) (Or.inl ⟨0, by omega, rfl, rfl⟩)
        unfold nuV
        simp only [ite_self]
        rcases hv with ⟨j, hj, e, -⟩ | ⟨e, -⟩
        · exact ⟨j, hj, e⟩
        · exfalso
          rw [e] at hk
          revert hk
          unfold nuK
          simp only [show ¬ ((100 : Int32) ≤ 99) by decide, if_false]
          repeat' split
          all_goals decide
    · exfalso
      rw [if_neg h2] at hk
      revert hk
      unfold wdK
      repeat' split
      all_goals decide
