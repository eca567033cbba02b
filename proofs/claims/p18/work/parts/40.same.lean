/-- the class's text f and the reference's text g, n bytes each, are the same -/
def TXR (f g : Nat → Int32) (n : Nat) : Prop := n ≤ 300 ∧ ∀ q, q < n → g q = f q &&& 255
theorem bt_mb {f g : Nat → Int32} {n q : Nat} (h : TXR f g n) (hq : q ≤ 1000) : btA f (nI n) (nI q) = mbA g n q := by
  obtain ⟨hn, hr⟩ := h
  unfold btA mbA
  rw [if_neg (nI_pos (by omega))]
  by_cases h1 : n ≤ q
  · rw [if_pos (nI_le h1 (by omega)), if_pos h1] <;> rfl
  · rw [if_neg (fun z => h1 ((nI_leI (by omega) (by omega)).mp z)), if_neg h1, if_pos (show nI q < (300 : Int32) from nI_lt (a := q) (b := 300) (by omega) (by decide)), nI_clamp (by omega), hr q (by omega)]
theorem isWS_in (x : Int32) : isWS_ x = inR x 97 122 := rfl
theorem isDg_in (x : Int32) : isDg x = inR x 48 57 := rfl
theorem skp_m {f g : Nat → Int32} {n : Nat} (h : TXR f g n) : ∀ m p, p + m = n → skp f n m p = mskp g n m p
  | 0, p, _ => rfl
  | m + 1, p, hp => by
    have hn := h.1
    unfold skp mskp
    rw [bt_mb h (by omega), skp_m h m (p + 1) (by omega)]
theorem wdp_m {f g : Nat → Int32} {n : Nat} (h : TXR f g n) : ∀ m p, p + m = n → wdp f n m p = mwdp g n m p
  | 0, p, _ => rfl
  | m + 1, p, hp => by
    have hn := h.1
    unfold wdp mwdp
    rw [bt_mb h (by omega), wdp_m h m (p + 1) (by omega), isWS_in]
theorem nup_m {f g : Nat → Int32} {n : Nat} (h : TXR f g n) : ∀ m p, p + m = n → nup f n m p = mnup g n m p
  | 0, p, _ => rfl
  | m + 1, p, hp => by
    have hn := h.1
    unfold nup mnup
    rw [bt_mb h (by omega), nup_m h m (p + 1) (by omega), isDg_in]
theorem rdS_m {f g : Nat → Int32} {n p : Nat} (h : TXR f g n) (hp : p ≤ n) : rdS f n p = maS g n p := skp_m h (n - p) p (by omega)
