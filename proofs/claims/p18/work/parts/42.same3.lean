theorem fa_or (a b : Nat) : nI a ||| nI b = nI (a ||| b) := by
  apply Int32.toBitVec_inj.1
  show BitVec.ofNat 32 a ||| BitVec.ofNat 32 b = BitVec.ofNat 32 (a ||| b)
  apply BitVec.eq_of_getLsbD_eq
  intro i hi
  simp [hi]
theorem pack {a b : Nat} (ha : a < 65536) (hb : b < 256) : (nI a <<< ((8 : Int32) &&& 31)) ||| nI b = nI (256 * a + b) := by
  rw [pk_shlN ((8 : Int32) &&& 31) 8 (by decide) (by omega), show a * 2 ^ 8 = 2 ^ 8 * a by omega, fa_or, ← Nat.two_pow_add_eq_or_of_lt (show b < 2 ^ 8 by omega)]
theorem w_stop {f : Nat → Int32} {n : Nat} : ∀ m p w, p + m = n → wdp f n m p = p → wdw f n m p w = w
  | 0, _, _, _, _ => rfl
  | m + 1, p, w, hp, h => by
    unfold wdp at h
    unfold wdw
    split at h
    · rename_i h1
      rw [if_pos h1]
    · have := (wdp_le f n m (p + 1) (by omega)).1
      omega
theorem w_go {f : Nat → Int32} {n : Nat} : ∀ m p w, p + m = n → wdp f n m p ≠ p → ∃ m', m = m' + 1 ∧ ¬ isWS_ (btA f (nI n) (nI p)) = 0 ∧ wdp f n m p = wdp f n m' (p + 1) ∧ wdw f n m p w = wdw f n m' (p + 1) ((w <<< (8 &&& 31)) ||| btA f (nI n) (nI p))
  | 0, p, _, _, h => absurd rfl h
  | m + 1, p, w, hp, h => by
    unfold wdp at h
    split at h
    · exact absurd rfl h
    · rename_i h1
      refine ⟨m, rfl, h1, ?_, ?_⟩
      · show (if _ then _ else _) = _
        rw [if_neg h1]
      · show (if _ then _ else _) = _
        rw [if_neg h1]
theorem mb_byte {f g : Nat → Int32} {n q : Nat} (h : TXR f g n) (hq : q < n) : ∃ b : Nat, b < 256 ∧ mbA g n q = nI b ∧ g q = nI b := by
  obtain ⟨b, hb, e⟩ := and255 (f q)
  refine ⟨b, hb, ?_, by rw [h.2 q hq, e]⟩
  unfold mbA
  rw [if_neg (by omega), h.2 q hq, e]
theorem nI_eqL {a : Nat} (ha : a < 2 ^ 31) (b : Nat) (hb : b < 2 ^ 31) : nI a = nI b ↔ a = b := nI_eq ha hb
theorem wd1 {f g : Nat → Int32} {n q : Nat} (h : TXR f g n) (hq : q < n) (hz : wdp f n (n - q) q = q + 1) : wdw f n (n - q) q 0 = mbA g n q := by
  have hn := h.1
  obtain ⟨m', e1, e2, e3, e4⟩ := w_go (f := f) (n := n) (n - q) q 0 (by omega) (by omega)
  rw [e4, w_stop m' (q + 1) _ (by omega) (by omega), bt_mb h (by omega)]
  obtain ⟨b, hb, eb, -⟩ := mb_byte h hq
  rw [eb, show (0 : Int32) = nI 0 from rfl, pack (by decide) hb]
  congr 1
  omega
theorem wd3 {f g : Nat → Int32} {n q : Nat} (h : TXR f g n) (hz : wdp f n (n - q) q = q + 3) (hq : q + 2 < n) : ∃ a b c : Nat, a < 256 ∧ b < 256 ∧ c < 256 ∧ mbA g n q = nI a ∧ g q = nI a ∧ mbA g n (q + 1) = nI b ∧ mbA g n (q + 2) = nI c ∧ wdw f n (n - q) q 0 = nI (256 * (256 * a + b) + c) := by
  have hn := h.1
  obtain ⟨a, ha, ea, ga⟩ := mb_byte h (show q < n by omega)
  obtain ⟨b, hb, eb, -⟩ := mb_byte h (show q + 1 < n by omega)
  obtain ⟨c, hc, ec, -⟩ := mb_byte h (show q + 2 < n by omega)
  refine ⟨a, b, c, ha, hb, hc, ea, ga, eb, ec, ?_⟩
  obtain ⟨m1, e1, -, e3, e4⟩ := w_go (f := f) (n := n) (n - q) q 0 (by omega) (by omega)
  obtain ⟨m2, f1, -, f3, f4⟩ := w_go (f := f) (n := n) m1 (q + 1) (((0 : Int32) <<< (8 &&& 31)) ||| btA f (nI n) (nI q)) (by omega) (by omega)
  obtain ⟨m3, g1, -, g3, g4⟩ := w_go (f := f) (n := n) m2 (q + 1 + 1) (((((0 : Int32) <<< (8 &&& 31)) ||| btA f (nI n) (nI q)) <<< (8 &&& 31)) ||| btA f (nI n) (nI (q + 1))) (by omega) (by omega)
  rw [e4, f4, g4, w_stop m3 (q + 1 + 1 + 1) _ (by omega) (by omega), bt_mb h (by omega), bt_mb h (by omega), bt_mb h (by omega), ea, eb, show q + 1 + 1 = q + 2 by omega, ec, show (0 : Int32) = nI 0 from rfl, pack (by decide) ha, pack (by omega) hb, pack (by omega) hc]
  congr 1
  omega
