theorem m255 : ∀ j : Fin 32, (255#32)[j.1] = decide (j.1 < 8) := by decide
theorem by_low {v : Int64} {k : Nat} (hk : k < 8) : vp_nar .byte (apE v (nI k)) &&& 255 = mpE v (nI k) := by
  unfold apE
  rw [pk_vb]
  unfold mpE
  have hs : (8 : Int32) * nI k = nI (8 * k) := by rw [show (8 : Int32) = nI 8 from rfl, pk_mul]
  rw [hs]
  apply Int32.toBitVec_inj.1
  have e1 : ((nI (8 * k)).toInt64.toUInt64 &&& Int64.toUInt64 63) = UInt64.ofNat (8 * k) := by
    match k, hk with
    | 0, _ => decide
    | 1, _ => decide
    | 2, _ => decide
    | 3, _ => decide
    | 4, _ => decide
    | 5, _ => decide
    | 6, _ => decide
    | 7, _ => decide
  have e2 : ((nI (8 * k)).toInt64 &&& 63) = Int64.ofNat (8 * k) := by
    match k, hk with
    | 0, _ => decide
    | 1, _ => decide
    | 2, _ => decide
    | 3, _ => decide
    | 4, _ => decide
    | 5, _ => decide
    | 6, _ => decide
    | 7, _ => decide
  rw [e1, e2]
  have e3 : (UInt64.ofNat (8 * k)).toBitVec = BitVec.ofNat 64 (8 * k) := rfl
  have e4 : (Int64.ofNat (8 * k)).toBitVec = BitVec.ofNat 64 (8 * k) := rfl
  apply BitVec.eq_of_getLsbD_eq
  intro i hi
  have m2 : (255#32)[i] = decide (i < 8) := m255 ⟨i, hi⟩
  match k, hk with
  | 0, _ =>
    simp [hi]
    rw [m2]
    by_cases h8 : i < 8
    · simp only [BitVec.getElem_signExtend, h8, dif_pos, show i < 64 by omega, BitVec.getElem_ushiftRight, BitVec.getElem_sshiftRight, decide_true, Bool.and_true]
      try simp [BitVec.getLsbD_eq_getElem, show 0 + i < 64 by omega]
    · simp [h8]
  | 1, _ =>
    simp [hi]
    rw [m2]
    by_cases h8 : i < 8
    · simp only [BitVec.getElem_signExtend, h8, dif_pos, show i < 64 by omega, BitVec.getElem_ushiftRight, BitVec.getElem_sshiftRight, show 8 + i < 64 by omega, decide_true, Bool.and_true]
      try simp [BitVec.getLsbD_eq_getElem, show 8 + i < 64 by omega]
    · simp [h8]
  | 2, _ =>
    simp [hi]
    rw [m2]
    by_cases h8 : i < 8
    · simp only [BitVec.getElem_signExtend, h8, dif_pos, show i < 64 by omega, BitVec.getElem_ushiftRight, BitVec.getElem_sshiftRight, show 16 + i < 64 by omega, decide_true, Bool.and_true]
      try simp [BitVec.getLsbD_eq_getElem, show 16 + i < 64 by omega]
    · simp [h8]
  | 3, _ =>
    simp [hi]
    rw [m2]
    by_cases h8 : i < 8
    · simp only [BitVec.getElem_signExtend, h8, dif_pos, show i < 64 by omega, BitVec.getElem_ushiftRight, BitVec.getElem_sshiftRight, show 24 + i < 64 by omega, decide_true, Bool.and_true]
      try simp [BitVec.getLsbD_eq_getElem, show 24 + i < 64 by omega]
    · simp [h8]
  | 4, _ =>
    simp [hi]
    rw [m2]
    by_cases h8 : i < 8
    · simp only [BitVec.getElem_signExtend, h8, dif_pos, show i < 64 by omega, BitVec.getElem_ushiftRight, BitVec.getElem_sshiftRight, show 32 + i < 64 by omega, decide_true, Bool.and_true]
      try simp [BitVec.getLsbD_eq_getElem, show 32 + i < 64 by omega]
    · simp [h8]
  | 5, _ =>
    simp [hi]
    rw [m2]
    by_cases h8 : i < 8
    · simp only [BitVec.getElem_signExtend, h8, dif_pos, show i < 64 by omega, BitVec.getElem_ushiftRight, BitVec.getElem_sshiftRight, show 40 + i < 64 by omega, decide_true, Bool.and_true]
      try simp [BitVec.getLsbD_eq_getElem, show 40 + i < 64 by omega]
    · simp [h8]
  | 6, _ =>
    simp [hi]
    rw [m2]
    by_cases h8 : i < 8
    · simp only [BitVec.getElem_signExtend, h8, dif_pos, show i < 64 by omega, BitVec.getElem_ushiftRight, BitVec.getElem_sshiftRight, show 48 + i < 64 by omega, decide_true, Bool.and_true]
      try simp [BitVec.getLsbD_eq_getElem, show 48 + i < 64 by omega]
    · simp [h8]
  | 7, _ =>
    simp [hi]
    rw [m2]
    by_cases h8 : i < 8
    · simp only [BitVec.getElem_signExtend, h8, dif_pos, show i < 64 by omega, BitVec.getElem_ushiftRight, BitVec.getElem_sshiftRight, show 56 + i < 64 by omega, decide_true, Bool.and_true]
      try simp [BitVec.getLsbD_eq_getElem, show 56 + i < 64 by omega]
    · simp [h8]
theorem apb_TX {v : Int64} : ∀ (j m : Nat) (f g : Nat → Int32), TXR f g m → m + j ≤ 300 → j ≤ 8 → TXR (apb v j m f) (mpb v j m g) (m + j)
  | 0, m, f, g, h, _, _ => h
  | j + 1, m, f, g, h, hm, hj => by
    show TXR (apb v j (m + 1) _) (mpb v j (m + 1) _) (m + (j + 1))
    rw [show m + (j + 1) = m + 1 + j by omega]
    refine apb_TX j (m + 1) _ _ ⟨by omega, fun q hq => ?_⟩ (by omega) (by omega)
    unfold upd
    by_cases e : q = m
    · subst e
      simp only [if_true]
      exact (by_low (by omega)).symm
    · simp only [if_neg e]
      exact h.2 q (by omega)
