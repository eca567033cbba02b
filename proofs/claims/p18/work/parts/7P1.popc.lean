/-- a long as a number without sign -/
def un (x : Int64) : Nat := x.toBitVec.toNat
theorem un_lt (x : Int64) : un x < 2 ^ 64 := x.toBitVec.isLt
theorem un_and (x y : Int64) : un (x &&& y) = un x &&& un y := by unfold un; rw [Int64.toBitVec_and, BitVec.toNat_and]
theorem un_add {x y : Int64} (h : un x + un y < 2 ^ 64) : un (x + y) = un x + un y := by
  unfold un at *
  rw [Int64.toBitVec_add, BitVec.toNat_add, Nat.mod_eq_of_lt h]
theorem un_sub {x y : Int64} (h : un y ≤ un x) : un (x - y) = un x - un y := by
  have hx := un_lt x
  have hy := un_lt y
  unfold un at *
  rw [Int64.toBitVec_sub, BitVec.toNat_sub]
  omega
theorem un_ush (x : Int64) (k : Int32) (j : Nat) (hk : (((k : Int32).toInt64.toUInt64 &&& Int64.toUInt64 63).toBitVec % 64) = BitVec.ofNat 64 j) (hj : j < 64) : un ((x.toUInt64 >>> (k.toInt64.toUInt64 &&& Int64.toUInt64 63)).toInt64) = un x / 2 ^ j := by
  unfold un
  show (x.toUInt64 >>> (k.toInt64.toUInt64 &&& Int64.toUInt64 63)).toBitVec.toNat = _
  rw [UInt64.toBitVec_shiftRight, hk]
  show (x.toBitVec >>> (BitVec.ofNat 64 j)).toNat = _
  rw [BitVec.ushiftRight_eq', BitVec.toNat_ushiftRight, BitVec.toNat_ofNat, Nat.mod_eq_of_lt (by omega), Nat.shiftRight_eq_div_pow]
def Mk (c : Nat) : Nat → Nat
  | 0 => 0
  | n + 1 => c + 256 * Mk c n
theorem and_b {u v c w : Nat} (hu : u < 256) (hc : c < 256) : (u + 256 * v) &&& (c + 256 * w) = (u &&& c) + 256 * (v &&& w) := by
  have h1 : ((u + 256 * v) &&& (c + 256 * w)) % 2 ^ 8 = ((u + 256 * v) % 2 ^ 8) &&& ((c + 256 * w) % 2 ^ 8) := Nat.and_mod_two_pow
  have h2 : ((u + 256 * v) &&& (c + 256 * w)) / 2 ^ 8 = ((u + 256 * v) / 2 ^ 8) &&& ((c + 256 * w) / 2 ^ 8) := Nat.and_div_two_pow
  rw [show (u + 256 * v) % 2 ^ 8 = u by omega, show (c + 256 * w) % 2 ^ 8 = c by omega] at h1
  rw [show (u + 256 * v) / 2 ^ 8 = v by omega, show (c + 256 * w) / 2 ^ 8 = w by omega] at h2
  omega
def f1 (u : Nat) : Nat := u - ((u / 2) &&& 85)
def f3 (u : Nat) : Nat := (u &&& 51) + ((u / 4) &&& 51)
theorem f1_d : ∀ u : Fin 256, ∀ b : Fin 2, ((u.1 / 2 + 128 * b.1) &&& 85 = (u.1 / 2) &&& 85) ∧ (u.1 / 2) &&& 85 ≤ u.1 ∧ f1 u.1 < 256 := by decide +kernel
theorem f3_d : ∀ u : Fin 256, ∀ b : Fin 4, ((u.1 / 4 + 64 * b.1) &&& 51 = (u.1 / 4) &&& 51) ∧ f3 u.1 < 256 := by decide +kernel
theorem g_d : ∀ u : Fin 256, f3 (f1 u.1) % 16 ≤ 4 ∧ f3 (f1 u.1) / 16 ≤ 4 ∧ f3 (f1 u.1) < 256 ∧ (f3 (f1 u.1) + f3 (f1 u.1) / 16) % 16 = pc8 u.1 := by decide +kernel
def a1 (n x : Nat) : Nat := x - ((x / 2) &&& Mk 85 n)
def a3 (n x : Nat) : Nat := (x &&& Mk 51 n) + ((x / 4) &&& Mk 51 n)
def a5 (n x : Nat) : Nat := (x + x / 16) &&& Mk 15 n
theorem a1_le (n x : Nat) : (x / 2) &&& Mk 85 n ≤ x := Nat.le_trans Nat.and_le_left (by omega)
theorem a1_s {n u v : Nat} (hu : u < 256) : a1 (n + 1) (u + 256 * v) = f1 u + 256 * a1 n v := by
  have hd := f1_d ⟨u, hu⟩ ⟨v % 2, by omega⟩
  have e : (u + 256 * v) / 2 = (u / 2 + 128 * (v % 2)) + 256 * (v / 2) := by omega
  have hl := a1_le n v
  have hd1 : (u / 2 + 128 * (v % 2)) &&& 85 = (u / 2) &&& 85 := hd.1
  have hd2 : (u / 2) &&& 85 ≤ u := hd.2.1
  unfold a1 f1
  rw [Mk, e, and_b (by omega) (by decide), hd1]
  omega
theorem a3_s {n u v : Nat} (hu : u < 256) : a3 (n + 1) (u + 256 * v) = f3 u + 256 * a3 n v := by
  have hd1 : (u / 4 + 64 * (v % 4)) &&& 51 = (u / 4) &&& 51 := (f3_d ⟨u, hu⟩ ⟨v % 4, by omega⟩).1
  have e : (u + 256 * v) / 4 = (u / 4 + 64 * (v % 4)) + 256 * (v / 4) := by omega
  unfold a3 f3
  rw [Mk, e, and_b hu (by decide), and_b (by omega) (by decide), hd1]
  omega
/-- bytes told anew -/
def Wd (g : Nat → Nat) : Nat → Nat → Nat
  | 0, _ => 0
  | n + 1, x => g (x % 256) + 256 * Wd g n (x / 256)
theorem a31 : ∀ n x, x < 256 ^ n → a3 n (a1 n x) = Wd (fun u => f3 (f1 u)) n x
  | 0, x, h => by
    have : x = 0 := by rw [Nat.pow_zero] at h; omega
    subst this; rfl
  | n + 1, x, h => by
    have hx : x = x % 256 + 256 * (x / 256) := by omega
    have hl : x % 256 < 256 := by omega
    have hh : x / 256 < 256 ^ n := by rw [Nat.pow_succ] at h; exact (Nat.div_lt_iff_lt_mul (by decide)).mpr h
    have hf : f1 (x % 256) < 256 := (f1_d ⟨x % 256, hl⟩ ⟨0, by decide⟩).2.2
    rw [Wd, ← a31 n (x / 256) hh]
    conv => lhs; rw [hx]
    rw [a1_s hl, a3_s hf]
theorem Wd_16 {n x : Nat} : Wd (fun u => f3 (f1 u)) n x % 16 ≤ 4 := by
  match n with
  | 0 => exact Nat.zero_le _
  | n + 1 =>
    have h := (g_d ⟨x % 256, by omega⟩).1
    rw [Wd]
    show (f3 (f1 (x % 256)) + 256 * _) % 16 ≤ 4
    have h' : f3 (f1 (x % 256)) % 16 ≤ 4 := h
    omega
theorem a5_W : ∀ n x, a5 n (Wd (fun u => f3 (f1 u)) n x) = Wd pc8 n x
  | 0, _ => by simp [a5, Mk, Wd]
  | n + 1, x => by
    obtain ⟨h1, h2, h3, h4⟩ := g_d ⟨x % 256, by omega⟩
    have hv := Wd_16 (n := n) (x := x / 256)
    have ih := a5_W n (x / 256)
    rw [Wd, Wd, ← ih]
    simp only [] at h1 h2 h3 h4 ⊢
    generalize f3 (f1 (x % 256)) = u at *
    generalize Wd (fun u => f3 (f1 u)) n (x / 256) = v at *
    unfold a5
    rw [Mk, show u + 256 * v + (u + 256 * v) / 16 = (u + u / 16 + 16 * (v % 16)) + 256 * (v + v / 16) by omega, and_b (by omega) (by decide), show (15 : Nat) = 2 ^ 4 - 1 from rfl, Nat.and_two_pow_sub_one_eq_mod]
    rw [show (u + u / 16 + 16 * (v % 16)) % 2 ^ 4 = (u + u / 16) % 16 by omega, h4]
def cB : Nat → Nat → Nat
  | _, 0 => 0
  | x, k + 1 => x % 2 + cB (x / 2) k
theorem cB_8 (x k : Nat) : cB x (8 + k) = pc8 (x % 256) + cB (x / 256) k := by
  have e : 8 + k = k + 1 + 1 + 1 + 1 + 1 + 1 + 1 + 1 := by omega
  rw [e, cB, cB, cB, cB, cB, cB, cB, cB, show x / 2 / 2 / 2 / 2 / 2 / 2 / 2 / 2 = x / 256 by omega, pc8]
  rw [show x % 256 % 2 = x % 2 by omega, show x % 256 / 2 % 2 = x / 2 % 2 by omega, show x % 256 / 4 % 2 = x / 2 / 2 % 2 by omega, show x % 256 / 8 % 2 = x / 2 / 2 / 2 % 2 by omega, show x % 256 / 16 % 2 = x / 2 / 2 / 2 / 2 % 2 by omega, show x % 256 / 32 % 2 = x / 2 / 2 / 2 / 2 / 2 % 2 by omega, show x % 256 / 64 % 2 = x / 2 / 2 / 2 / 2 / 2 / 2 % 2 by omega, show x % 256 / 128 % 2 = x / 2 / 2 / 2 / 2 / 2 / 2 / 2 % 2 by omega]
  omega
theorem cB_s : ∀ k x, cB x (k + 1) = cB x k + x / 2 ^ k % 2
  | 0, x => by rw [cB, cB, cB, Nat.pow_zero, Nat.div_one, Nat.add_comm]
  | k + 1, x => by
    rw [cB, cB_s k (x / 2), cB, Nat.div_div_eq_div_mul, show 2 * 2 ^ k = 2 ^ (k + 1) by rw [Nat.pow_succ, Nat.mul_comm]]
    omega
/-- how many of the first k bits are set -/
def bT (x : Int64) : Nat → Nat
  | 0 => 0
  | k + 1 => bT x k + (if tb x k = true then 1 else 0)
theorem bT_cB (x : Int64) : ∀ k, bT x k = cB (un x) k
  | 0 => by rw [bT, cB]
  | k + 1 => by
    have h : (un x).testBit k = tb x k := rfl
    rw [bT, cB_s, bT_cB x k, ← Nat.toNat_testBit, h]
    cases tb x k <;> rfl
theorem bT_le (x : Int64) : ∀ k, bT x k ≤ k
  | 0 => Nat.le_refl _
  | k + 1 => by
    have := bT_le x k
    rw [bT]
    split <;> omega
theorem dv {A B k : Nat} (h : A < k) : (A + k * B) / k = B := by
  rw [Nat.add_mul_div_left _ _ (by omega), Nat.div_eq_of_lt h, Nat.zero_add]
theorem dv_lt {x k n : Nat} (h : x < 2 ^ n) : x + x / k < 2 ^ (n + 1) := by
  have := Nat.div_le_self x k
  rw [Nat.pow_succ]
  omega
theorem id7 (c0 c1 c2 c3 c4 c5 c6 c7 : Nat) : c0 + 256 * (c1 + 256 * (c2 + 256 * (c3 + 256 * (c4 + 256 * (c5 + 256 * (c6 + 256 * (c7 + 256 * 0))))))) + (c1 + 256 * (c2 + 256 * (c3 + 256 * (c4 + 256 * (c5 + 256 * (c6 + 256 * (c7 + 256 * 0))))))) = ((c0 + c1) + 256 * (c1 + c2)) + 65536 * ((c2 + c3) + 256 * (c3 + c4) + 65536 * (c4 + c5) + 16777216 * (c5 + c6) + 4294967296 * (c6 + c7) + 1099511627776 * c7) := by omega
theorem id9 (c0 c1 c2 c3 c4 c5 c6 c7 : Nat) : ((c0 + c1) + 256 * (c1 + c2)) + 65536 * ((c2 + c3) + 256 * (c3 + c4) + 65536 * (c4 + c5) + 16777216 * (c5 + c6) + 4294967296 * (c6 + c7) + 1099511627776 * c7) + ((c2 + c3) + 256 * (c3 + c4) + 65536 * (c4 + c5) + 16777216 * (c5 + c6) + 4294967296 * (c6 + c7) + 1099511627776 * c7) = ((c0 + c1 + c2 + c3) + 256 * (c1 + c2 + c3 + c4) + 65536 * (c2 + c3 + c4 + c5) + 16777216 * (c3 + c4 + c5 + c6)) + 4294967296 * ((c4 + c5 + c6 + c7) + 256 * (c5 + c6 + c7) + 65536 * (c6 + c7) + 16777216 * c7) := by omega
theorem id11 (c0 c1 c2 c3 c4 c5 c6 c7 : Nat) : ((c0 + c1 + c2 + c3) + 256 * (c1 + c2 + c3 + c4) + 65536 * (c2 + c3 + c4 + c5) + 16777216 * (c3 + c4 + c5 + c6)) + 4294967296 * ((c4 + c5 + c6 + c7) + 256 * (c5 + c6 + c7) + 65536 * (c6 + c7) + 16777216 * c7) + ((c4 + c5 + c6 + c7) + 256 * (c5 + c6 + c7) + 65536 * (c6 + c7) + 16777216 * c7) = (c0 + (c1 + (c2 + (c3 + (c4 + (c5 + (c6 + c7))))))) + 128 * (2 * ((c1 + c2 + c3 + c4) + (c5 + c6 + c7) + 256 * ((c2 + c3 + c4 + c5) + (c6 + c7)) + 65536 * ((c3 + c4 + c5 + c6) + c7) + 16777216 * ((c4 + c5 + c6 + c7) + 256 * (c5 + c6 + c7) + 65536 * (c6 + c7) + 16777216 * c7))) := by omega
theorem bd7 {c0 c1 c2 : Nat} (p0 : c0 ≤ 8) (p1 : c1 ≤ 8) (p2 : c2 ≤ 8) : (c0 + c1) + 256 * (c1 + c2) < 65536 := by omega
theorem bd9 {c0 c1 c2 c3 c4 c5 c6 : Nat} (p0 : c0 ≤ 8) (p1 : c1 ≤ 8) (p2 : c2 ≤ 8) (p3 : c3 ≤ 8) (p4 : c4 ≤ 8) (p5 : c5 ≤ 8) (p6 : c6 ≤ 8) : (c0 + c1 + c2 + c3) + 256 * (c1 + c2 + c3 + c4) + 65536 * (c2 + c3 + c4 + c5) + 16777216 * (c3 + c4 + c5 + c6) < 4294967296 := by omega
theorem sum8 {c0 c1 c2 c3 c4 c5 c6 c7 x5 x7 x9 : Nat} (p0 : c0 ≤ 8) (p1 : c1 ≤ 8) (p2 : c2 ≤ 8) (p3 : c3 ≤ 8) (p4 : c4 ≤ 8) (p5 : c5 ≤ 8) (p6 : c6 ≤ 8) (p7 : c7 ≤ 8) (h5 : x5 = c0 + 256 * (c1 + 256 * (c2 + 256 * (c3 + 256 * (c4 + 256 * (c5 + 256 * (c6 + 256 * (c7 + 256 * 0)))))))) (h7 : x7 = x5 + x5 / 256) (h9 : x9 = x7 + x7 / 65536) : (x9 + x9 / 4294967296) % 128 = c0 + (c1 + (c2 + (c3 + (c4 + (c5 + (c6 + c7)))))) := by
  have q5 : x5 / 256 = c1 + 256 * (c2 + 256 * (c3 + 256 * (c4 + 256 * (c5 + 256 * (c6 + 256 * (c7 + 256 * 0)))))) := by rw [h5]; exact dv (Nat.lt_of_le_of_lt p0 (by decide))
  rw [q5, h5, id7] at h7
  have q7 := dv (B := (c2 + c3) + 256 * (c3 + c4) + 65536 * (c4 + c5) + 16777216 * (c5 + c6) + 4294967296 * (c6 + c7) + 1099511627776 * c7) (bd7 p0 p1 p2)
  rw [← h7] at q7
  rw [q7, h7, id9] at h9
  have q9 := dv (B := (c4 + c5 + c6 + c7) + 256 * (c5 + c6 + c7) + 65536 * (c6 + c7) + 16777216 * c7) (bd9 p0 p1 p2 p3 p4 p5 p6)
  rw [← h9] at q9
  rw [q9, h9, id11, Nat.add_mul_mod_self_left]
  clear h5 h7 h9 q5 q7 q9
  exact Nat.mod_eq_of_lt (by omega)
theorem b60 {c0 c1 c2 c3 c4 c5 c6 c7 : Nat} (p0 : c0 ≤ 8) (p1 : c1 ≤ 8) (p2 : c2 ≤ 8) (p3 : c3 ≤ 8) (p4 : c4 ≤ 8) (p5 : c5 ≤ 8) (p6 : c6 ≤ 8) (p7 : c7 ≤ 8) : c0 + 256 * (c1 + 256 * (c2 + 256 * (c3 + 256 * (c4 + 256 * (c5 + 256 * (c6 + 256 * (c7 + 256 * 0))))))) < 2 ^ 60 := by omega
theorem bc64_bT (x : Int64) : bc64 x = nI (bT x 64) := by
  have hx := un_lt x
  have e1 : un (x - (((x.toUInt64 >>> ((1 : Int32).toInt64.toUInt64 &&& Int64.toUInt64 63)).toInt64) &&& 6148914691236517205)) = a1 8 (un x) := by
    have h : un (((x.toUInt64 >>> ((1 : Int32).toInt64.toUInt64 &&& Int64.toUInt64 63)).toInt64) &&& 6148914691236517205) = (un x / 2) &&& Mk 85 8 := by
      rw [un_and, un_ush x 1 1 (by decide) (by decide)]; rfl
    rw [un_sub (by rw [h]; exact a1_le 8 (un x)), h, a1]
  generalize hx1 : x - (((x.toUInt64 >>> ((1 : Int32).toInt64.toUInt64 &&& Int64.toUInt64 63)).toInt64) &&& 6148914691236517205) = x1 at e1
  have l3 : a3 8 (un x1) = Wd (fun u => f3 (f1 u)) 8 (un x) := by rw [e1]; exact a31 8 (un x) hx
  have hlt : ∀ (g : Nat → Nat), (∀ u, u < 256 → g u ≤ 68) → ∀ n z, Wd g n z ≤ 68 * ((256 ^ n - 1) / 255) := by
    intro g hg n
    induction n with
    | zero => intro z; exact Nat.zero_le _
    | succ n ih =>
      intro z
      have h1 := hg (z % 256) (by omega)
      have h2 := ih (z / 256)
      rw [Wd, Nat.pow_succ]
      have h3 : 1 ≤ 256 ^ n := Nat.one_le_pow n 256 (by decide)
      omega
  have hg68 : ∀ u, u < 256 → f3 (f1 u) ≤ 68 := fun u hu => by
    have h := g_d ⟨u, hu⟩
    have a : f3 (f1 u) % 16 ≤ 4 := h.1
    have b : f3 (f1 u) / 16 ≤ 4 := h.2.1
    omega
  have b3 := hlt (fun u => f3 (f1 u)) hg68 8 (un x)
  have e3 : un ((x1 &&& 3689348814741910323) + (((x1.toUInt64 >>> ((2 : Int32).toInt64.toUInt64 &&& Int64.toUInt64 63)).toInt64) &&& 3689348814741910323)) = Wd (fun u => f3 (f1 u)) 8 (un x) := by
    have h1 : un (x1 &&& 3689348814741910323) = un x1 &&& Mk 51 8 := by rw [un_and]; rfl
    have h2 : un (((x1.toUInt64 >>> ((2 : Int32).toInt64.toUInt64 &&& Int64.toUInt64 63)).toInt64) &&& 3689348814741910323) = (un x1 / 4) &&& Mk 51 8 := by
      rw [un_and, un_ush x1 2 2 (by decide) (by decide)]; rfl
    rw [un_add (by rw [h1, h2]; unfold a3 at l3; rw [l3]; exact Nat.lt_of_le_of_lt b3 (by decide)), h1, h2]
    exact l3
  generalize hx3 : (x1 &&& 3689348814741910323) + (((x1.toUInt64 >>> ((2 : Int32).toInt64.toUInt64 &&& Int64.toUInt64 63)).toInt64) &&& 3689348814741910323) = x3 at e3
  have e5 : un ((x3 + ((x3.toUInt64 >>> ((4 : Int32).toInt64.toUInt64 &&& Int64.toUInt64 63)).toInt64)) &&& 1085102592571150095) = Wd pc8 8 (un x) := by
    have h1 : un ((x3.toUInt64 >>> ((4 : Int32).toInt64.toUInt64 &&& Int64.toUInt64 63)).toInt64) = un x3 / 16 := un_ush x3 4 4 (by decide) (by decide)
    have b3' : un x3 ≤ 68 * ((256 ^ 8 - 1) / 255) := by rw [e3]; exact b3
    rw [un_and, un_add (by rw [h1]; exact dv_lt (Nat.lt_of_le_of_lt b3' (by decide))), h1, ← a5_W 8 (un x), ← e3]
    rfl
  generalize hx5 : (x3 + ((x3.toUInt64 >>> ((4 : Int32).toInt64.toUInt64 &&& Int64.toUInt64 63)).toInt64)) &&& 1085102592571150095 = x5 at e5
  have hs : bT x 64 = pc8 (un x % 256) + (pc8 (un x / 256 % 256) + (pc8 (un x / 256 / 256 % 256) + (pc8 (un x / 256 / 256 / 256 % 256) + (pc8 (un x / 256 / 256 / 256 / 256 % 256) + (pc8 (un x / 256 / 256 / 256 / 256 / 256 % 256) + (pc8 (un x / 256 / 256 / 256 / 256 / 256 / 256 % 256) + pc8 (un x / 256 / 256 / 256 / 256 / 256 / 256 / 256 % 256))))))) := by
    rw [bT_cB, show (64 : Nat) = 8 + (8 + (8 + (8 + (8 + (8 + (8 + (8 + 0))))))) from rfl, cB_8, cB_8, cB_8, cB_8, cB_8, cB_8, cB_8, cB_8, cB, Nat.add_zero]
  have p0 := pc8_le (un x % 256)
  have p1 := pc8_le (un x / 256 % 256)
  have p2 := pc8_le (un x / 256 / 256 % 256)
  have p3 := pc8_le (un x / 256 / 256 / 256 % 256)
  have p4 := pc8_le (un x / 256 / 256 / 256 / 256 % 256)
  have p5 := pc8_le (un x / 256 / 256 / 256 / 256 / 256 % 256)
  have p6 := pc8_le (un x / 256 / 256 / 256 / 256 / 256 / 256 % 256)
  have p7 := pc8_le (un x / 256 / 256 / 256 / 256 / 256 / 256 / 256 % 256)
  rw [Wd, Wd, Wd, Wd, Wd, Wd, Wd, Wd, Wd] at e5
  rw [hs]
  generalize pc8 (un x % 256) = c0 at *
  generalize pc8 (un x / 256 % 256) = c1 at *
  generalize pc8 (un x / 256 / 256 % 256) = c2 at *
  generalize pc8 (un x / 256 / 256 / 256 % 256) = c3 at *
  generalize pc8 (un x / 256 / 256 / 256 / 256 % 256) = c4 at *
  generalize pc8 (un x / 256 / 256 / 256 / 256 / 256 % 256) = c5 at *
  generalize pc8 (un x / 256 / 256 / 256 / 256 / 256 / 256 % 256) = c6 at *
  generalize pc8 (un x / 256 / 256 / 256 / 256 / 256 / 256 / 256 % 256) = c7 at *
  have b5 : un x5 < 2 ^ 60 := by rw [e5]; exact b60 p0 p1 p2 p3 p4 p5 p6 p7
  have e7 : un (x5 + ((x5.toUInt64 >>> ((8 : Int32).toInt64.toUInt64 &&& Int64.toUInt64 63)).toInt64)) = un x5 + un x5 / 256 := by
    have h1 : un ((x5.toUInt64 >>> ((8 : Int32).toInt64.toUInt64 &&& Int64.toUInt64 63)).toInt64) = un x5 / 256 := un_ush x5 8 8 (by decide) (by decide)
    rw [un_add (by rw [h1]; exact Nat.lt_trans (dv_lt b5) (by decide)), h1]
  generalize hx7 : x5 + ((x5.toUInt64 >>> ((8 : Int32).toInt64.toUInt64 &&& Int64.toUInt64 63)).toInt64) = x7 at e7
  have b7 : un x7 < 2 ^ 61 := by rw [e7]; exact dv_lt b5
  have e9 : un (x7 + ((x7.toUInt64 >>> ((16 : Int32).toInt64.toUInt64 &&& Int64.toUInt64 63)).toInt64)) = un x7 + un x7 / 65536 := by
    have h1 : un ((x7.toUInt64 >>> ((16 : Int32).toInt64.toUInt64 &&& Int64.toUInt64 63)).toInt64) = un x7 / 65536 := un_ush x7 16 16 (by decide) (by decide)
    rw [un_add (by rw [h1]; exact Nat.lt_trans (dv_lt b7) (by decide)), h1]
  generalize hx9 : x7 + ((x7.toUInt64 >>> ((16 : Int32).toInt64.toUInt64 &&& Int64.toUInt64 63)).toInt64) = x9 at e9
  have b9 : un x9 < 2 ^ 62 := by rw [e9]; exact dv_lt b7
  have e11 : un (x9 + ((x9.toUInt64 >>> ((32 : Int32).toInt64.toUInt64 &&& Int64.toUInt64 63)).toInt64)) = un x9 + un x9 / 4294967296 := by
    have h1 : un ((x9.toUInt64 >>> ((32 : Int32).toInt64.toUInt64 &&& Int64.toUInt64 63)).toInt64) = un x9 / 4294967296 := un_ush x9 32 32 (by decide) (by decide)
    rw [un_add (by rw [h1]; exact Nat.lt_trans (dv_lt b9) (by decide)), h1]
  have hfin := sum8 p0 p1 p2 p3 p4 p5 p6 p7 e5 e7 e9
  unfold bc64
  simp only []
  rw [hx1, hx3, hx5, hx7, hx9]
  generalize x9 + ((x9.toUInt64 >>> ((32 : Int32).toInt64.toUInt64 &&& Int64.toUInt64 63)).toInt64) = y at e11 ⊢
  rw [← hfin, ← e11]
  apply Int32.toBitVec_inj.mp
  apply BitVec.eq_of_toNat_eq
  rw [Int32.toBitVec_and, Int64.toBitVec_toInt32, BitVec.signExtend_eq_setWidth_of_le _ (by decide)]
  show ((y.toBitVec.setWidth 32) &&& 127#32).toNat = (BitVec.ofNat 32 (un y % 128)).toNat
  rw [BitVec.toNat_and, BitVec.toNat_setWidth, BitVec.toNat_ofNat]
  show (un y % 2 ^ 32) &&& (2 ^ 7 - 1) = un y % 128 % 2 ^ 32
  rw [Nat.and_two_pow_sub_one_eq_mod]
  omega
