/-- the class and the reference read the same token -/
theorem tok_same {f g : Nat → Int32} {n p : Nat} (h : TXR f g n) (hp : p ≤ n) (k va : Int32) : rdP f n p = maN g n p ∧ kmap (rdK f n p k) = maK g n p va ∧ (rdK f n p k = 1 ∨ rdK f n p k = 3 ∨ rdK f n p k = 4 → rdV f n p k = maV g n p va) := by
  have hn := h.1
  have hS := rdS_m h hp
  have hle := skp_le f n (n - p) p (by omega)
  have hqn : maS g n p ≤ n := by rw [← hS]; exact hle.2
  unfold rdP rdK rdV maN maK maV rdC
  rw [hS]
  generalize maS g n p = q at hqn ⊢
  rw [bt_mb h (by omega), isWS_in, isDg_in]
  by_cases h1 : n ≤ q
  · have z : ¬ 0 ≤ mbA g n q := fun z => by have := (mbA_neg h).mp z; omega
    simp only [if_pos h1, if_neg z]
    exact ⟨trivial, by decide, fun z => absurd z (by decide)⟩
  · have z : 0 ≤ mbA g n q := (mbA_neg h).mpr (by omega)
    simp only [if_neg h1, if_pos z]
    by_cases h2 : inR (mbA g n q) 97 122 = 0
    · simp only [if_pos h2]
      by_cases h3 : inR (mbA g n q) 48 57 = 0
      · simp only [if_pos h3]
        refine ⟨trivial, ?_, ?_⟩
        · repeat' split
          all_goals decide
        · intro z
          exfalso
          revert z
          repeat' split
          all_goals decide
      · simp only [if_neg h3]
        obtain ⟨e1, e2⟩ := num_same h (show q < n by omega) k
        refine ⟨nup_m h (n - q) q (by omega), ?_, ?_⟩
        · rw [e1]
          repeat' split
          all_goals decide
        · intro z
          have e4 : nuK f (nI n) (nI (nup f n (n - q) q)) (nI q) k (nuv f n (n - q) q 0) = 4 := by
            rw [e1] at z ⊢
            revert z
            repeat' split
            all_goals decide
          have ev := e2 e4
          unfold nuV
          simp only [ite_self]
          exact ev
    · simp only [if_neg h2]
      have hw := wdp_m h (n - q) q (by omega)
      have e := word_same h (show q < n by omega) h2 k va
      rw [hw] at e ⊢
      refine ⟨rfl, e.1, fun z => ?_⟩
      rcases z with z | z | z
      · exact e.2 (Or.inl z)
      · exact e.2 (Or.inr z)
      · exfalso
        have e1 := e.1
        rw [z] at e1
        revert z
        unfold wdK
        repeat' split
        all_goals decide
