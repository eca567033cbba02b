/-- a SIDE's value -/
theorem tV1 {f : Nat → Int32} {n p : Nat} (hk : tK f n p = 1) : tV f n p = 1 ∨ tV f n p = 2 := by
  unfold tK rdK at hk
  unfold tV rdV
  by_cases h1 : n ≤ rdS f n p
  · rw [if_pos h1] at hk; exact absurd hk (by decide)
  · rw [if_neg h1] at hk ⊢
    by_cases h2 : isWS_ (rdC f n p) = 0
    · rw [if_pos h2] at hk
      exfalso
      revert hk
      unfold nuK
      repeat' split
      all_goals decide
    · rw [if_neg h2] at hk ⊢
      revert hk
      unfold wdK wdV
      repeat' split
      all_goals first | exact fun z => absurd z (by decide) | exact fun _ => Or.inl rfl | exact fun _ => Or.inr rfl | exact fun _ => by contradiction
/-- a set of LETTERS -/
def BY (u : Int32) : Prop := ∃ a : Nat, a < 256 ∧ u = nI a
theorem BY_0 : BY 0 := ⟨0, by decide, rfl⟩
theorem BY_or {u v : Int32} (hu : BY u) (hv : BY v) : BY (u ||| v) := by
  obtain ⟨a, ha, rfl⟩ := hu
  obtain ⟨b, hb, rfl⟩ := hv
  refine ⟨a ||| b, Nat.or_lt_two_pow (n := 8) ha hb, ?_⟩
  apply Int32.toBitVec_inj.mp
  apply BitVec.eq_of_toNat_eq
  have h1 : a ||| b < 2 ^ 8 := Nat.or_lt_two_pow (n := 8) ha hb
  show (BitVec.ofNat 32 a ||| BitVec.ofNat 32 b).toNat = (BitVec.ofNat 32 (a ||| b)).toNat
  rw [BitVec.toNat_or, BitVec.toNat_ofNat, BitVec.toNat_ofNat, BitVec.toNat_ofNat, Nat.mod_eq_of_lt (by omega), Nat.mod_eq_of_lt (by omega), Nat.mod_eq_of_lt (by omega)]
theorem BY_and {u : Int32} (v : Int32) (hu : BY u) : BY (u &&& v) := by
  obtain ⟨a, ha, rfl⟩ := hu
  have h1 : a &&& v.toBitVec.toNat ≤ a := Nat.and_le_left
  refine ⟨a &&& v.toBitVec.toNat, by omega, ?_⟩
  apply Int32.toBitVec_inj.mp
  apply BitVec.eq_of_toNat_eq
  show (BitVec.ofNat 32 a &&& v.toBitVec).toNat = (BitVec.ofNat 32 (a &&& v.toBitVec.toNat)).toNat
  rw [BitVec.toNat_and, BitVec.toNat_ofNat, BitVec.toNat_ofNat, Nat.mod_eq_of_lt (by omega), Nat.mod_eq_of_lt (by omega)]
theorem BY_sh : ∀ v : Fin 8, ∃ a : Fin 256, (1 : Int32) <<< (nI v.1 &&& 31) = nI a.1 := fun v => ⟨⟨2 ^ v.1, Nat.pow_lt_pow_right (by decide) v.2⟩, by revert v; decide +kernel⟩
theorem BY_lb {f g : Nat → Int32} {n p : Nat} (hX : TXR f g n) (hp : p ≤ n) (hk : tK f n (lp f n p) = 3) : BY (lb f n p) := by
  obtain ⟨v, hv, e⟩ := tV3 hX (lp_le f hp) hk
  obtain ⟨a, ha⟩ := BY_sh ⟨v, hv⟩
  unfold lb
  rw [e]
  exact ⟨a.1, a.2, ha⟩
theorem clL_by {f g : Nat → Int32} {n : Nat} (hX : TXR f g n) : ∀ (m p : Nat) (pl tu : Int32), p ≤ n → BY pl → BY tu → BY (clL f n m p pl tu).2.2.1 ∧ BY (clL f n m p pl tu).2.2.2
  | 0, p, pl, tu, hp, h1, h2 => by
    unfold clL
    split
    · exact ⟨h1, h2⟩
    · exact ⟨h1, h2⟩
  | m + 1, p, pl, tu, hp, h1, h2 => by
    unfold clL
    split
    · exact ⟨h1, h2⟩
    · split
      · rename_i hl
        have hb := BY_lb hX hp hl.1
        refine clL_by hX m _ _ _ (rdP_le f (lp_le f hp)) ?_ ?_
        · split
          · exact h1
          · exact BY_or h1 hb
        · split
          · exact BY_or h2 hb
          · exact h2
      · exact ⟨h1, h2⟩
def CB (i : Nat) (A B C : Nat → Int32) : Prop := ∀ j, j < i → (A j = 1 ∨ A j = 2) ∧ BY (B j) ∧ BY (C j)
theorem csL_by {f g : Nat → Int32} {n : Nat} (hX : TXR f g n) : ∀ (r p i : Nat) (A B C : Nat → Int32), p ≤ n → CB i A B C → CB (csL f n r p i A B C).2.1 (csL f n r p i A B C).2.2.1 (csL f n r p i A B C).2.2.2.1 (csL f n r p i A B C).2.2.2.2
  | 0, p, i, A, B, C, hp, h => h
  | r + 1, p, i, A, B, C, hp, h => by
    rw [csL]
    split
    · exact h
    · split
      · rename_i hk
        split
        · have hb := clL_by hX 8 (rdP f n p) 0 0 (rdP_le f hp) BY_0 BY_0
          refine csL_by hX r _ _ _ _ _ (rdP_le f (clL_le f n 8 _ 0 0 (rdP_le f hp)).1) ?_
          intro j hj
          by_cases e : j = i
          · subst e
            rw [pk_us, pk_us, pk_us]
            exact ⟨tV1 hk, hb⟩
          · rw [pk_un e, pk_un e, pk_un e]
            exact h j (by omega)
        · exact h
      · exact h
/-- the numbers of LINES are as they should be -/
def GV (c m : Nat) (G : Nat → Int32) : Prop := (∀ i, i < c + m → BY (G (6 * i)) ∧ BY (G (6 * i + 1))) ∧ (∀ i, i < c → G (6 * i + 2) = 1 ∨ G (6 * i + 2) = 2) ∧ (∀ i, c ≤ i → i < c + m → (∃ a : Nat, a < i ∧ G (6 * i + 3) = nI a) ∧ (∃ b : Nat, b < i ∧ G (6 * i + 4) = nI b) ∧ ∃ z : Nat, z < 8 ∧ G (6 * i + 5) = nI z)
theorem GV_cg {c m : Nat} {G G' : Nat → Int32} (he : ∀ x, x < 6 * (c + m) → G x = G' x) (h : GV c m G) : GV c m G' := by
  refine ⟨fun i hi => ?_, fun i hi => ?_, fun i h1 hi => ?_⟩
  · rw [← he _ (by omega), ← he _ (by omega)]; exact h.1 i hi
  · rw [← he _ (by omega)]; exact h.2.1 i hi
  · rw [← he _ (by omega), ← he _ (by omega), ← he _ (by omega)]; exact h.2.2 i h1 hi
theorem GV_cl {f g : Nat → Int32} {n : Nat} (hX : TXR f g n) : GV (csN f n) 0 (csG f n) := by
  have h := csL_by hX 16 0 0 z0 z0 z0 (Nat.zero_le n) (fun j z => absurd z (by omega))
  refine ⟨fun i hi => ?_, fun i hi => ?_, fun i h1 hi => absurd hi (by omega)⟩
  · unfold csG
    rw [clG_0, clG_1]
    exact (h i (by exact hi)).2
  · unfold csG
    rw [clG_2]
    exact (h i hi).1
def SC (i : Nat) (C : Nat → Int32) : Prop := ∀ j, j < i → ∃ z : Nat, z < 8 ∧ C j = nI z
theorem stS_3 {f : Nat → Int32} {n p : Nat} {z : Int32} (h : (stS f n z p).1 = true) : tK f n (rdP f n (rdP f n (rdP f n p))) = 3 := by
  revert h
  unfold stS
  repeat' split
  all_goals first | exact fun _ => by assumption | exact fun q => absurd (show false = true from q) (by decide)
theorem stL_sc {f g : Nat → Int32} {n c : Nat} (hX : TXR f g n) : ∀ (r p i : Nat) (A B C : Nat → Int32), p ≤ n → SC i C → SC (stL f n c r p i A B C).2.1 (stL f n c r p i A B C).2.2.2.2
  | 0, p, i, A, B, C, hp, h => h
  | r + 1, p, i, A, B, C, hp, h => by
    rw [stL]
    split
    · exact h
    · split
      · rename_i hs
        refine stL_sc hX r _ _ _ _ _ (stS_le f _ hp) ?_
        intro j hj
        by_cases e : j = i
        · subst e
          rw [pk_us]
          exact tV3 hX (rdP_le f (rdP_le f (rdP_le f hp))) (stS_3 hs)
        · rw [pk_un e]; exact h j (by omega)
      · exact h
theorem GV_cu {c s a b z : Nat} {G : Nat → Int32} (h : GV c s G) (ha : a < c + s) (hb : b < c + s) (hz : z < 8) : GV c (s + 1) (cuG G (c + s) a b (nI z)) := by
  refine ⟨fun i hi => ?_, fun i hi => ?_, fun i h1 hi => ?_⟩
  · by_cases e : i = c + s
    · subst e
      rw [cuG_0, cuG_1]
      exact ⟨BY_or (BY_and _ (h.1 a ha).1) (h.1 b hb).1, BY_or (h.1 a ha).2 (BY_and _ (h.1 b hb).2)⟩
    · rw [cuG_lo (by omega), cuG_lo (by omega)]; exact h.1 i (by omega)
  · rw [cuG_lo (by omega)]; exact h.2.1 i hi
  · by_cases e : i = c + s
    · subst e
      rw [cuG_3, cuG_4, cuG_5]
      exact ⟨⟨a, ha, rfl⟩, ⟨b, hb, rfl⟩, z, hz, rfl⟩
    · rw [cuG_lo (by omega), cuG_lo (by omega), cuG_lo (by omega)]; exact h.2.2 i h1 (by omega)
theorem GV_mk {c t : Nat} {A B C : Nat → Int32} (hc : c ≤ 16) (ht : t ≤ 24) (hSB : SB c t A B) (hSC : SC t C) : ∀ (n s : Nat) (G : Nat → Int32), s + n = t → GV c s G → GV c (mkL c A B C n s G).1 (mkL c A B C n s G).2.2
  | 0, s, G, hs, h => h
  | n + 1, s, G, hs, h => by
    rw [mkL]
    split
    · obtain ⟨⟨a, ha, ea⟩, b, hb, eb⟩ := hSB s (by omega)
      obtain ⟨z, hz, ez⟩ := hSC s (by omega)
      refine GV_mk hc ht hSB hSC n (s + 1) _ (by omega) ?_
      rw [ea, eb, ez, nI_clamp (by omega), nI_clamp (by omega)]
      exact GV_cu h ha hb hz
    · exact h
theorem GV_pr {f g : Nat → Int32} {n c m : Nat} {G : Nat → Int32} (hX : TXR f g n) (hc : c ≤ 16) (h : GV c m G) : GV c (stM f n c G).1 (stM f n c G).2.2 := by
  have hb := stL_bd hX hc 24 0 0 z0 z0 z0 (Nat.zero_le n) (by decide) (fun j z => absurd z (by omega))
  have hs := stL_sc (c := c) hX 24 0 0 z0 z0 z0 (Nat.zero_le n) (fun j z => absurd z (by omega))
  have hb1 : (stL f n c 24 0 0 z0 z0 z0).2.1 ≤ 0 + 24 := hb.1
  exact GV_mk hc (by omega) hb.2 hs _ 0 G (by omega) ⟨fun i hi => h.1 i (by omega), h.2.1, fun i h1 hi => absurd hi (by omega)⟩
theorem bc8 : ∀ a : Fin 256, bc32 (nI a.1) = nI (pc8 a.1) := by decide +kernel
theorem pc8_0 : ∀ a : Fin 256, pc8 a.1 = 0 ↔ a.1 = 0 := by decide +kernel
theorem bc_or {a b : Int32} (ha : BY a) (hb : BY b) : bc32 a + bc32 b = 0 ↔ a = 0 ∧ b = 0 := by
  obtain ⟨a, ha, rfl⟩ := ha
  obtain ⟨b, hb, rfl⟩ := hb
  have h1 := pc8_le a
  have h2 := pc8_le b
  rw [bc8 ⟨a, ha⟩, bc8 ⟨b, hb⟩, nI_add]
  show nI (pc8 a + pc8 b) = nI 0 ↔ nI a = nI 0 ∧ nI b = nI 0
  rw [nI_eq (by omega) (by decide), nI_eq (by omega) (by decide), nI_eq (by omega) (by decide)]
  have z1 := pc8_0 ⟨a, ha⟩
  have z2 := pc8_0 ⟨b, hb⟩
  refine ⟨fun q => ⟨z1.mp (by show pc8 a = 0; omega), z2.mp (by show pc8 b = 0; omega)⟩, fun q => ?_⟩
  have e1 : pc8 a = 0 := z1.mpr q.1
  have e2 : pc8 b = 0 := z2.mpr q.2
  omega
theorem enF_enM {G : Nat → Int32} : ∀ (n i : Nat), (∀ j, j < i + n → BY (G (6 * j)) ∧ BY (G (6 * j + 1))) → enF G n i = enM G n i
  | 0, _, _ => rfl
  | n + 1, i, h => by
    have hb := bc_or (h i (by omega)).1 (h i (by omega)).2
    rw [enF, enM, enF_enM n (i + 1) (fun j hj => h j (by omega))]
    by_cases e : G (6 * i) = 0 ∧ G (6 * i + 1) = 0
    · rw [if_pos e, if_pos (hb.mpr e)]
    · rw [if_neg e, if_neg (fun q => e (hb.mp q))]
theorem GV_en {c m : Nat} {G : Nat → Int32} (h : GV c m G) : enF G (c + m) 0 = enM G (c + m) 0 := enF_enM (c + m) 0 (fun j hj => h.1 j (by omega))
