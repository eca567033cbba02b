theorem dcF {p : Prop} {i : Decidable p} (h : ¬ p) : @decide p i = false := by
  cases i with
  | isFalse _ => rfl
  | isTrue t => exact absurd t h
theorem dcT {p : Prop} {i : Decidable p} (h : p) : @decide p i = true := by
  cases i with
  | isFalse t => exact absurd h t
  | isTrue _ => rfl
theorem low_n {P : Nat → Bool} : ∀ n, (∃ j, j < n ∧ P j = true) → ∃ k, k < n ∧ P k = true ∧ ∀ j, j < k → P j = false
  | 0, h => by
    obtain ⟨j, hj, -⟩ := h
    exact absurd hj (by omega)
  | n + 1, h => by
    by_cases e : ∃ j, j < n ∧ P j = true
    · obtain ⟨k, h1, h2, h3⟩ := low_n n e
      exact ⟨k, by omega, h2, h3⟩
    · obtain ⟨j, hj, hp⟩ := h
      have ej : j = n := Decidable.byContradiction (fun z => e ⟨j, by omega, hp⟩)
      rw [ej] at hp
      exact ⟨n, by omega, hp, fun i hi => Bool.eq_false_iff.mpr (fun q => e ⟨i, hi, q⟩)⟩
/-- the lowest set bit alone -/
theorem low_a {x : Int64} {n : Nat} (hn : n < 64) (h1 : tb x n = true) (h2 : ∀ j, j < n → tb x j = false) : x &&& (-x) = 1 <<< ((nI n).toInt64 &&& 63) := tb_ext (fun j hj => by
  have e : tb (-x) j = _ := (congrArg (fun b : BitVec 64 => b.getLsbD j) (Int64.toBitVec_neg x)).trans BitVec.getLsbD_neg
  rw [tb_and, tb_b1 hn hj]
  rcases Nat.lt_trichotomy j n with h | h | h
  · rw [h2 j h, Bool.false_and]
    exact (decide_eq_false (by omega)).symm
  · have hx : ¬ ∃ i, i < j ∧ x.toBitVec.getLsbD i = true := by
      rintro ⟨i, hi, z⟩
      have q : x.toBitVec.getLsbD i = false := h2 i (by omega)
      rw [q] at z
      exact absurd z (by decide)
    have h1' : x.toBitVec.getLsbD j = true := by rw [h]; exact h1
    rw [e, dcF hx, Bool.and_false, h1']
    show (x.toBitVec.getLsbD j && _) = _
    rw [h1', decide_eq_true h] <;> rfl
  · have hx : ∃ i, i < j ∧ x.toBitVec.getLsbD i = true := ⟨n, h, h1⟩
    rw [e, dcT hx, dcT hj, decide_eq_false (show ¬ j = n by omega)]
    show (x.toBitVec.getLsbD j && (x.toBitVec.getLsbD j ^^ (true && true))) = false
    cases x.toBitVec.getLsbD j <;> rfl)
theorem low_b : ∀ n : Fin 64, bc64 (((1 : Int64) <<< ((nI n.1 : Int32).toInt64 &&& 63)) - 1) = nI n.1 := by decide +kernel
theorem low1 {x : Int64} (hx : ¬ x = 0) : ∃ n : Nat, n < 64 ∧ bc64 ((x &&& (-x)) - 1) = nI n ∧ tb x n = true := by
  have hj : ∃ j, j < 64 ∧ tb x j = true := Classical.byContradiction (fun z => hx (tb_ext (fun j hj => by
    rw [tb_0]
    exact Bool.eq_false_iff.mpr (fun q => z ⟨j, hj, q⟩))))
  obtain ⟨n, hn, h1, h2⟩ := low_n 64 hj
  exact ⟨n, hn, by rw [low_a hn h1 h2]; exact low_b ⟨n, hn⟩, h1⟩
/-- a set's least world, or none -/
theorem least_s (P : Nat → Bool) : (wsLeast (wO P 0) (wO P 1) (wO P 2) (wO P 3) = -1 ∧ ∀ w, w < 256 → P w = false) ∨ ∃ w : Nat, w < 256 ∧ wsLeast (wO P 0) (wO P 1) (wO P 2) (wO P 3) = nI w ∧ P w = true := by
  unfold wsLeast
  by_cases h0 : wO P 0 = 0
  · rw [if_pos (lgc0.mpr h0)]
    by_cases h1 : wO P 1 = 0
    · rw [if_pos (lgc0.mpr h1)]
      by_cases h2 : wO P 2 = 0
      · rw [if_pos (lgc0.mpr h2)]
        by_cases h3 : wO P 3 = 0
        · rw [if_pos (lgc0.mpr h3)]
          refine Or.inl ⟨rfl, fun w hw => ?_⟩
          rw [← wO_w P w]
          have hz : wO P (w / 64) = 0 := by
            rcases (show w / 64 = 0 ∨ w / 64 = 1 ∨ w / 64 = 2 ∨ w / 64 = 3 by omega) with e | e | e | e
            · rw [e]; exact h0
            · rw [e]; exact h1
            · rw [e]; exact h2
            · rw [e]; exact h3
          rw [hz, tb_0]
        · obtain ⟨n, hn, e, t⟩ := low1 h3
          rw [if_neg (fun z => h3 (lgc0.mp z)), e]
          rw [wO_tb P 3 hn] at t
          exact Or.inr ⟨192 + n, by omega, nI_add 192 n, t⟩
      · obtain ⟨n, hn, e, t⟩ := low1 h2
        rw [if_neg (fun z => h2 (lgc0.mp z)), e]
        rw [wO_tb P 2 hn] at t
        exact Or.inr ⟨128 + n, by omega, nI_add 128 n, t⟩
    · obtain ⟨n, hn, e, t⟩ := low1 h1
      rw [if_neg (fun z => h1 (lgc0.mp z)), e]
      rw [wO_tb P 1 hn] at t
      exact Or.inr ⟨64 + n, by omega, nI_add 64 n, t⟩
  · obtain ⟨n, hn, e, t⟩ := low1 h0
    rw [if_neg (fun z => h0 (lgc0.mp z)), e]
    rw [wO_tb P 0 hn] at t
    exact Or.inr ⟨0 + n, by omega, nI_add 0 n, t⟩
/-- an int as a number without sign -/
def u3 (x : Int32) : Nat := x.toBitVec.toNat
theorem u3_lt (x : Int32) : u3 x < 2 ^ 32 := x.toBitVec.isLt
theorem u3_and (x y : Int32) : u3 (x &&& y) = u3 x &&& u3 y := by unfold u3; rw [Int32.toBitVec_and, BitVec.toNat_and]
theorem u3_add {x y : Int32} (h : u3 x + u3 y < 2 ^ 32) : u3 (x + y) = u3 x + u3 y := by
  unfold u3 at *
  rw [Int32.toBitVec_add, BitVec.toNat_add, Nat.mod_eq_of_lt h]
theorem u3_sub {x y : Int32} (h : u3 y ≤ u3 x) : u3 (x - y) = u3 x - u3 y := by
  have hx := u3_lt x
  have hy := u3_lt y
  unfold u3 at *
  rw [Int32.toBitVec_sub, BitVec.toNat_sub]
  omega
theorem u3_ush (x : Int32) (k : Int32) (j : Nat) (hk : ((k.toUInt32 &&& Int32.toUInt32 31).toBitVec % 32) = BitVec.ofNat 32 j) (hj : j < 32) : u3 ((x.toUInt32 >>> (k.toUInt32 &&& Int32.toUInt32 31)).toInt32) = u3 x / 2 ^ j := by
  unfold u3
  show (x.toUInt32 >>> (k.toUInt32 &&& Int32.toUInt32 31)).toBitVec.toNat = _
  rw [UInt32.toBitVec_shiftRight, hk]
  show (x.toBitVec >>> (BitVec.ofNat 32 j)).toNat = _
  rw [BitVec.ushiftRight_eq', BitVec.toNat_ushiftRight, BitVec.toNat_ofNat, Nat.mod_eq_of_lt (by omega), Nat.shiftRight_eq_div_pow]
theorem u3_inj {x : Int32} {n : Nat} (h : u3 x = n) : x = nI n := by
  apply Int32.toBitVec_inj.mp
  apply BitVec.eq_of_toNat_eq
  have hx := u3_lt x
  show u3 x = (BitVec.ofNat 32 n).toNat
  rw [BitVec.toNat_ofNat, ← h, Nat.mod_eq_of_lt hx]
theorem u3_nI {n : Nat} (h : n < 2 ^ 32) : u3 (nI n) = n := by
  unfold u3
  show (BitVec.ofNat 32 n).toNat = n
  rw [BitVec.toNat_ofNat, Nat.mod_eq_of_lt h]
theorem Wd_2 {g : Nat → Nat} {x : Nat} (hx : x < 65536) (h0 : g 0 = 0) : Wd g 4 x = g (x % 256) + 256 * g (x / 256) := by
  rw [Wd, Wd, Wd, Wd, Wd, show x / 256 / 256 = 0 by omega, show x / 256 % 256 = x / 256 by omega, show (0 : Nat) % 256 = 0 from rfl, h0] <;> rfl
/-- Integer.bitCount of a number below 65536 -/
theorem bc16 {x : Nat} (hx : x < 65536) : bc32 (nI x) = nI (cB x 16) := by
  have hu : u3 (nI x) = x := u3_nI (by omega)
  have p4 : (256 : Nat) ^ 4 = 4294967296 := rfl
  have hb0 := pc8_le (x % 256)
  have hb1 := pc8_le (x / 256)
  have g0 := g_d ⟨x % 256, by omega⟩
  have g1 := g_d ⟨x / 256, by omega⟩
  have q0 : f3 (f1 (x % 256)) < 256 := g0.2.2.1
  have q1 : f3 (f1 (x / 256)) < 256 := g1.2.2.1
  have e1 : u3 (nI x - ((((nI x).toUInt32 >>> ((1 : Int32).toUInt32 &&& Int32.toUInt32 31)).toInt32) &&& 1431655765)) = a1 4 x := by
    have h : u3 ((((nI x).toUInt32 >>> ((1 : Int32).toUInt32 &&& Int32.toUInt32 31)).toInt32) &&& 1431655765) = (x / 2) &&& Mk 85 4 := by
      rw [u3_and, u3_ush _ 1 1 (by decide) (by decide), hu]; rfl
    rw [u3_sub (by rw [h, hu]; exact a1_le 4 x), h, hu, a1]
  generalize hx1 : nI x - ((((nI x).toUInt32 >>> ((1 : Int32).toUInt32 &&& Int32.toUInt32 31)).toInt32) &&& 1431655765) = x1 at e1
  have l3 : a3 4 (u3 x1) = Wd (fun u => f3 (f1 u)) 4 x := by rw [e1]; exact a31 4 x (by omega)
  have w3 : Wd (fun u => f3 (f1 u)) 4 x = f3 (f1 (x % 256)) + 256 * f3 (f1 (x / 256)) := Wd_2 hx rfl
  have e3 : u3 ((x1 &&& 858993459) + (((x1.toUInt32 >>> ((2 : Int32).toUInt32 &&& Int32.toUInt32 31)).toInt32) &&& 858993459)) = Wd (fun u => f3 (f1 u)) 4 x := by
    have h1 : u3 (x1 &&& 858993459) = u3 x1 &&& Mk 51 4 := by rw [u3_and]; rfl
    have h2 : u3 (((x1.toUInt32 >>> ((2 : Int32).toUInt32 &&& Int32.toUInt32 31)).toInt32) &&& 858993459) = (u3 x1 / 4) &&& Mk 51 4 := by
      rw [u3_and, u3_ush _ 2 2 (by decide) (by decide)]; rfl
    have l3' : (u3 x1 &&& Mk 51 4) + ((u3 x1 / 4) &&& Mk 51 4) = Wd (fun u => f3 (f1 u)) 4 x := l3
    rw [u3_add (by rw [h1, h2, l3', w3]; omega), h1, h2, l3']
  generalize hx3 : (x1 &&& 858993459) + (((x1.toUInt32 >>> ((2 : Int32).toUInt32 &&& Int32.toUInt32 31)).toInt32) &&& 858993459) = x3 at e3
  have e5 : u3 ((x3 + ((x3.toUInt32 >>> ((4 : Int32).toUInt32 &&& Int32.toUInt32 31)).toInt32)) &&& 252645135) = pc8 (x % 256) + 256 * pc8 (x / 256) := by
    have h1 : u3 ((x3.toUInt32 >>> ((4 : Int32).toUInt32 &&& Int32.toUInt32 31)).toInt32) = u3 x3 / 16 := u3_ush _ 4 4 (by decide) (by decide)
    have l5 : a5 4 (u3 x3) = Wd pc8 4 x := by rw [e3]; exact a5_W 4 x
    have w5 : Wd pc8 4 x = pc8 (x % 256) + 256 * pc8 (x / 256) := Wd_2 hx rfl
    have l5' : (u3 x3 + u3 x3 / 16) &&& Mk 15 4 = Wd pc8 4 x := l5
    rw [u3_and, u3_add (by rw [h1, e3, w3]; omega), h1]
    exact l5'.trans w5
  generalize hx5 : (x3 + ((x3.toUInt32 >>> ((4 : Int32).toUInt32 &&& Int32.toUInt32 31)).toInt32)) &&& 252645135 = x5 at e5
  have b0 : pc8 (x % 256) ≤ 8 := hb0
  have b1 : pc8 (x / 256) ≤ 8 := hb1
  have e7 : u3 (x5 + ((x5.toUInt32 >>> ((8 : Int32).toUInt32 &&& Int32.toUInt32 31)).toInt32)) = pc8 (x % 256) + pc8 (x / 256) + 256 * pc8 (x / 256) := by
    have h1 : u3 ((x5.toUInt32 >>> ((8 : Int32).toUInt32 &&& Int32.toUInt32 31)).toInt32) = u3 x5 / 256 := u3_ush _ 8 8 (by decide) (by decide)
    rw [u3_add (by rw [h1, e5]; omega), h1, e5]
    omega
  generalize hx7 : x5 + ((x5.toUInt32 >>> ((8 : Int32).toUInt32 &&& Int32.toUInt32 31)).toInt32) = x7 at e7
  have e9 : u3 (x7 + ((x7.toUInt32 >>> ((16 : Int32).toUInt32 &&& Int32.toUInt32 31)).toInt32)) = pc8 (x % 256) + pc8 (x / 256) + 256 * pc8 (x / 256) := by
    have h1 : u3 ((x7.toUInt32 >>> ((16 : Int32).toUInt32 &&& Int32.toUInt32 31)).toInt32) = u3 x7 / 65536 := u3_ush _ 16 16 (by decide) (by decide)
    rw [u3_add (by rw [h1, e7]; omega), h1, e7]
    omega
  generalize hx9 : x7 + ((x7.toUInt32 >>> ((16 : Int32).toUInt32 &&& Int32.toUInt32 31)).toInt32) = x9 at e9
  have hbc : bc32 (nI x) = x9 &&& 63 := by
    unfold bc32
    simp only []
    rw [hx1, hx3, hx5, hx7, hx9]
  rw [hbc]
  refine u3_inj ?_
  rw [u3_and, e9, show u3 63 = 2 ^ 6 - 1 from rfl, Nat.and_two_pow_sub_one_eq_mod, show (2 : Nat) ^ 6 = 64 from rfl, show (16 : Nat) = 8 + 8 from rfl, cB_8, show (8 : Nat) = 8 + 0 from rfl, cB_8, cB]
  rw [show x / 256 % 256 = x / 256 by omega]
  omega
