def kmap (k : Int32) : Int32 := if k = 1 then 2 else if k = 2 then 3 else if k = 3 then 1 else k
theorem num_same {f g : Nat → Int32} {n q : Nat} (h : TXR f g n) (hq : q < n) (k : Int32) : nuK f (nI n) (nI (nup f n (n - q) q)) (nI q) k (nuv f n (n - q) q 0) = (if 99 < mnuv g n (n - q) q 0 then 7 else if ¬ mbA g n q = 48 then 4 else if nI (mnup g n (n - q) q) - nI q ≤ 1 then 4 else 7) ∧ (nuK f (nI n) (nI (nup f n (n - q) q)) (nI q) k (nuv f n (n - q) q 0) = 4 → nuv f n (n - q) q 0 = mnuv g n (n - q) q 0) := by
  have hn := h.1
  have hv := nuv_m h (n - q) q 0 0 (by omega) (Or.inl ⟨0, by omega, rfl, rfl⟩)
  rw [nup_m h (n - q) q (by omega)]
  unfold nuK
  rw [bt_mb h (by omega)]
  generalize nI (mnup g n (n - q) q) - nI q = z
  generalize nuv f n (n - q) q 0 = v at hv ⊢
  generalize mnuv g n (n - q) q 0 = w at hv ⊢
  rcases hv with ⟨j, hj, rfl, rfl⟩ | ⟨rfl, j, hj, hj2, rfl⟩
  · rw [if_pos (show nI j ≤ (99 : Int32) from nI_le (a := j) (b := 99) hj (by decide)), if_neg (show ¬ (99 : Int32) < nI j from nI_nlt (a := 99) (b := j) hj (by decide))]
    refine ⟨?_, fun _ => rfl⟩
    by_cases h1 : z ≤ 1
    · simp only [if_pos h1, ite_self]
    · simp only [if_neg h1]
  · rw [if_pos (show (99 : Int32) < nI j from nI_lt (a := 99) (b := j) hj (by omega))]
    rw [if_neg (show ¬ (100 : Int32) ≤ 99 by decide)]
    simp only [ite_self]
    exact ⟨trivial, fun z => absurd z (by decide)⟩
