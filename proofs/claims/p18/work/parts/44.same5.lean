theorem lit_eq {a : Nat} (ha : a < 2 ^ 31) (b : Nat) (hb : b < 2 ^ 31) : (nI a = nI b) = (a = b) := propext (nI_eq ha hb)
set_option maxHeartbeats 1000000 in
theorem word_same {f g : Nat → Int32} {n q : Nat} (h : TXR f g n) (hq : q < n) (hw : ¬ inR (mbA g n q) 97 122 = 0) (k va : Int32) :
    kmap (wdK (nI (wdp f n (n - q) q)) (nI q) k 0 (wdw f n (n - q) q 0)) = mwK g n q (nI (wdp f n (n - q) q) - nI q) va ∧
    (wdK (nI (wdp f n (n - q) q)) (nI q) k 0 (wdw f n (n - q) q 0) = 1 ∨ wdK (nI (wdp f n (n - q) q)) (nI q) k 0 (wdw f n (n - q) q 0) = 3 → wdV (nI (wdp f n (n - q) q)) (nI q) k 0 (wdw f n (n - q) q 0) = mwV g n q (nI (wdp f n (n - q) q) - nI q) va) := by
  have hn := h.1
  have hle := wdp_le f n (n - q) q (by omega)
  have hne : wdp f n (n - q) q ≠ q := by
    obtain ⟨m, hm⟩ : ∃ m, n - q = m + 1 := ⟨n - q - 1, by omega⟩
    rw [hm]
    unfold wdp
    rw [bt_mb h (by omega), isWS_in, if_neg hw]
    have := (wdp_le f n m (q + 1) (by omega)).1
    omega
  obtain ⟨s, hs⟩ : ∃ s, wdp f n (n - q) q = q + s := ⟨wdp f n (n - q) q - q, by omega⟩
  have e9 : nI (wdp f n (n - q) q) - nI q = nI s := by rw [hs, pk_sub (by omega)]; congr 1; omega
  by_cases h1 : s = 1
  · subst h1
    have e1 : nI 1 = (1 : Int32) := rfl
    have ew := wd1 h hq hs
    obtain ⟨b, hb, eb, gb⟩ := mb_byte h hq
    rw [ew, eb]
    have hb2 : 97 ≤ b ∧ b ≤ 122 := by
      rw [eb] at hw
      unfold inR at hw
      split at hw
      · exact absurd rfl hw
      · rename_i z1
        split at hw
        · exact absurd rfl hw
        · rename_i z2
          exact ⟨Nat.not_lt.mp (fun z => z1 (show nI b < (97 : Int32) from nI_lt (a := b) (b := 97) z (by decide))), Nat.not_lt.mp (fun z => z2 (show (122 : Int32) < nI b from nI_lt (a := 122) (b := b) z (by omega)))⟩
    have e97 : nI b - 97 = nI (b - 97) := by rw [show (97 : Int32) = nI 97 from rfl, pk_sub hb2.1]
    unfold wdK wdV mwK mwV
    simp only [e9, e1, not_true_eq_false, if_false, gb, e97]
    by_cases h2 : b ≤ 104
    · rw [if_neg (show ¬ (8 : Int32) ≤ nI (b - 97) from nI_ge (a := b - 97) (b := 8) (by omega) (by decide)), if_neg (show ¬ (8 : Int32) ≤ nI (b - 97) from nI_ge (a := b - 97) (b := 8) (by omega) (by decide)), if_neg (show ¬ (104 : Int32) < nI b from nI_nlt (a := 104) (b := b) h2 (by decide)), if_neg (show ¬ (104 : Int32) < nI b from nI_nlt (a := 104) (b := b) h2 (by decide))]
      exact ⟨by decide, fun _ => rfl⟩
    · rw [if_pos (show (8 : Int32) ≤ nI (b - 97) from nI_le (a := 8) (b := b - 97) (by omega) (by omega)), if_pos (show (8 : Int32) ≤ nI (b - 97) from nI_le (a := 8) (b := b - 97) (by omega) (by omega)), if_pos (show (104 : Int32) < nI b from nI_lt (a := 104) (b := b) (by omega) (by omega)), if_pos (show (104 : Int32) < nI b from nI_lt (a := 104) (b := b) (by omega) (by omega))]
      simp only [show ¬ ((1 : Int32) = 3) by decide, not_false_eq_true, if_true]
      exact ⟨by decide, fun z => absurd z (by decide)⟩
  · by_cases h3 : s = 3
    · subst h3
      obtain ⟨a, b, c, ha, hb, hc, ea, ga, eb, ec, ew⟩ := wd3 h hs (by omega)
      have z3 : nI 3 = (3 : Int32) := rfl
      have A1 : (nI a = 111) = (a = 111) := lit_eq (by omega) 111 (by decide)
      have A2 : (nI a = 116) = (a = 116) := lit_eq (by omega) 116 (by decide)
      have A3 : (nI a = 99) = (a = 99) := lit_eq (by omega) 99 (by decide)
      have B1 : (nI b = 110) = (b = 110) := lit_eq (by omega) 110 (by decide)
      have B2 : (nI b = 119) = (b = 119) := lit_eq (by omega) 119 (by decide)
      have B3 : (nI b = 117) = (b = 117) := lit_eq (by omega) 117 (by decide)
      have C1 : (nI c = 101) = (c = 101) := lit_eq (by omega) 101 (by decide)
      have C2 : (nI c = 111) = (c = 111) := lit_eq (by omega) 111 (by decide)
      have C3 : (nI c = 116) = (c = 116) := lit_eq (by omega) 116 (by decide)
      have W1 : (nI (256 * (256 * a + b) + c) = 7302757) = (256 * (256 * a + b) + c = 7302757) := lit_eq (by omega) 7302757 (by decide)
      have W2 : (nI (256 * (256 * a + b) + c) = 7632751) = (256 * (256 * a + b) + c = 7632751) := lit_eq (by omega) 7632751 (by decide)
      have W3 : (nI (256 * (256 * a + b) + c) = 6518132) = (256 * (256 * a + b) + c = 6518132) := lit_eq (by omega) 6518132 (by decide)
      unfold wdK wdV mwK mwV
      rw [ew]
      simp only [e9, z3, show ¬ ((3 : Int32) = 1) by decide, not_false_eq_true, if_true, not_true_eq_false, if_false, ga, eb, ec, A1, A2, A3, B1, B2, B3, C1, C2, C3, W1, W2, W3]
      by_cases c1 : a = 111 ∧ b = 110 ∧ c = 101
      · obtain ⟨rfl, rfl, rfl⟩ := c1
        simp
        try decide
      · by_cases c2 : a = 116 ∧ b = 119 ∧ c = 111
        · obtain ⟨rfl, rfl, rfl⟩ := c2
          simp
          try decide
        · by_cases c3 : a = 99 ∧ b = 117 ∧ c = 116
          · obtain ⟨rfl, rfl, rfl⟩ := c3
            simp
            try decide
          · have w1 : ¬ 256 * (256 * a + b) + c = 7302757 := by omega
            have w2 : ¬ 256 * (256 * a + b) + c = 7632751 := by omega
            have w3 : ¬ 256 * (256 * a + b) + c = 6518132 := by omega
            simp only [w1, w2, w3, not_false_eq_true, if_true, if_false]
            refine ⟨?_, fun z => absurd z (by decide)⟩
            rw [show kmap 7 = 7 by decide]
            symm
            repeat' split
            all_goals first | rfl | (exfalso; omega)
    · have z1 : ¬ nI s = 1 := fun z => h1 ((nI_eq (by omega) (by decide)).mp (show nI s = nI 1 from z))
      have z3 : ¬ nI s = 3 := fun z => h3 ((nI_eq (by omega) (by decide)).mp (show nI s = nI 3 from z))
      unfold wdK wdV mwK mwV
      simp only [e9, z1, z3, not_false_eq_true, if_true]
      exact ⟨by decide, fun z => absurd z (by decide)⟩
