theorem lgc0 {x y : Int64} : lg_cmp x y = 0 ↔ x = y := by
  unfold lg_cmp
  by_cases h1 : x > y
  · rw [if_pos h1]
    exact ⟨fun z => absurd z (by decide), fun z => by subst z; exact absurd h1 (Int64.lt_irrefl)⟩
  · rw [if_neg h1]
    by_cases h2 : x = y
    · rw [if_pos h2]; exact ⟨fun _ => h2, fun _ => rfl⟩
    · rw [if_neg h2]; exact ⟨fun z => absurd z (by decide), fun z => absurd z h2⟩
/-- bit n of a long -/
def tb (x : Int64) (n : Nat) : Bool := x.toBitVec.getLsbD n
theorem tb_ext {x y : Int64} (h : ∀ n, n < 64 → tb x n = tb y n) : x = y := Int64.toBitVec_inj.mp (BitVec.eq_of_getLsbD_eq (fun i hi => h i hi))
theorem tb_and (x y : Int64) (n : Nat) : tb (x &&& y) n = (tb x n && tb y n) := by
  unfold tb; rw [Int64.toBitVec_and, BitVec.getLsbD_and]
theorem tb_or (x y : Int64) (n : Nat) : tb (x ||| y) n = (tb x n || tb y n) := by
  unfold tb; rw [Int64.toBitVec_or, BitVec.getLsbD_or]
theorem tb_xor (x y : Int64) (n : Nat) : tb (x ^^^ y) n = (tb x n ^^ tb y n) := by
  unfold tb; rw [Int64.toBitVec_xor, BitVec.getLsbD_xor]
theorem tb_m1 : ∀ n : Fin 64, tb (-1) n.1 = true := by decide +kernel
theorem tb_0 (n : Nat) : tb 0 n = false := by
  unfold tb
  show (0#64).getLsbD n = false
  exact BitVec.getLsbD_zero
theorem tb_1 : ∀ n : Fin 64, tb 1 n.1 = decide (n.1 = 0) := by decide +kernel
theorem tb_not {x : Int64} {n : Nat} (hn : n < 64) : tb (x ^^^ (-1)) n = !tb x n := by
  rw [tb_xor, tb_m1 ⟨n, hn⟩]; cases tb x n <;> rfl
theorem sh63 : ∀ n : Fin 64, ((nI n.1).toInt64 &&& 63).toBitVec.smod 64 = BitVec.ofNat 64 n.1 := by decide +kernel
theorem shl_b {x : Int64} {n : Nat} (hn : n < 64) : (x <<< ((nI n).toInt64 &&& 63)).toBitVec = x.toBitVec <<< n := by
  rw [Int64.toBitVec_shiftLeft, sh63 ⟨n, hn⟩]
  show x.toBitVec <<< (BitVec.ofNat 64 n) = _
  rw [BitVec.shiftLeft_eq', BitVec.toNat_ofNat, Nat.mod_eq_of_lt (by omega)]
theorem shr_b {x : Int64} {n : Nat} (hn : n < 64) : (x >>> ((nI n).toInt64 &&& 63)).toBitVec = x.toBitVec.sshiftRight n := by
  rw [Int64.toBitVec_shiftRight, sh63 ⟨n, hn⟩]
  show x.toBitVec.sshiftRight (BitVec.ofNat 64 n).toNat = _
  rw [BitVec.toNat_ofNat, Nat.mod_eq_of_lt (by omega)]
theorem tb_b1 {n j : Nat} (hn : n < 64) (hj : j < 64) : tb (1 <<< ((nI n).toInt64 &&& 63)) j = decide (j = n) := by
  unfold tb
  rw [shl_b hn, BitVec.getLsbD_shiftLeft]
  by_cases h : j < n
  · rw [show decide (j < n) = true from decide_eq_true h, show decide (j = n) = false from decide_eq_false (by omega)]
    simp
  · rw [show decide (j < n) = false from decide_eq_false h]
    have e1 : (1 : Int64).toBitVec.getLsbD (j - n) = decide (j - n = 0) := tb_1 ⟨j - n, by omega⟩
    rw [e1]
    by_cases e : j = n
    · subst e; simp [hj]
    · rw [show decide (j - n = 0) = false from decide_eq_false (by omega), show decide (j = n) = false from decide_eq_false e]; simp
theorem tb_shr {x : Int64} {n : Nat} (hn : n < 64) : tb (x >>> ((nI n).toInt64 &&& 63)) 0 = tb x n := by
  unfold tb
  rw [shr_b hn, BitVec.getLsbD_sshiftRight]
  simp [hn]
theorem bit_and {x : Int64} {n : Nat} (hn : n < 64) : x &&& (1 <<< ((nI n).toInt64 &&& 63)) = 0 ↔ tb x n = false := by
  constructor
  · intro h
    have := congrArg (fun z => tb z n) h
    change tb _ n = tb _ n at this
    rw [tb_and, tb_b1 hn hn, tb_0] at this
    simpa using this
  · intro h
    apply tb_ext
    intro j hj
    rw [tb_and, tb_b1 hn hj, tb_0]
    by_cases e : j = n
    · subst e; rw [h]; rfl
    · rw [show decide (j = n) = false from decide_eq_false e]; cases tb x j <;> rfl
theorem bit_and1 (x : Int64) : x &&& 1 = if tb x 0 = true then 1 else 0 := by
  apply tb_ext
  intro j hj
  rw [tb_and, tb_1 ⟨j, hj⟩]
  by_cases h : tb x 0 = true
  · rw [if_pos h, tb_1 ⟨j, hj⟩]
    by_cases e : j = 0
    · subst e; rw [h]; rfl
    · simp only [e, decide_false, Bool.and_false]
  · rw [if_neg h, tb_0]
    by_cases e : j = 0
    · subst e; rw [Bool.eq_false_iff.mpr h]; rfl
    · simp only [e, decide_false, Bool.and_false]
theorem bit_shr {x : Int64} {n : Nat} (hn : n < 64) : (x >>> ((nI n).toInt64 &&& 63)) &&& 1 = if tb x n = true then 1 else 0 := by
  rw [bit_and1, tb_shr hn]
theorem bit_shr1 {x : Int64} {n : Nat} (hn : n < 64) : (x >>> ((nI n).toInt64 &&& 63)) &&& 1 = 1 ↔ tb x n = true := by
  rw [bit_shr hn]
  by_cases h : tb x n = true
  · rw [if_pos h]; exact ⟨fun _ => h, fun _ => rfl⟩
  · rw [if_neg h]; exact ⟨fun z => absurd z (by decide), fun z => absurd z h⟩
