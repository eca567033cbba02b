def ib (x : Int32) (k : Nat) : Bool := x.toBitVec.getLsbD k
theorem ib_and (x y : Int32) (n : Nat) : ib (x &&& y) n = (ib x n && ib y n) := by
  unfold ib; rw [Int32.toBitVec_and, BitVec.getLsbD_and]
theorem ib_xor (x y : Int32) (n : Nat) : ib (x ^^^ y) n = (ib x n ^^ ib y n) := by
  unfold ib; rw [Int32.toBitVec_xor, BitVec.getLsbD_xor]
theorem ib_m1 : ∀ n : Fin 32, ib (-1) n.1 = true := by decide +kernel
theorem ib_0 (n : Nat) : ib 0 n = false := by
  unfold ib
  show (0#32).getLsbD n = false
  exact BitVec.getLsbD_zero
theorem ib_ext {x y : Int32} (h : ∀ n, n < 32 → ib x n = ib y n) : x = y := Int32.toBitVec_inj.mp (BitVec.eq_of_getLsbD_eq (fun i hi => h i hi))
theorem ib_z {x : Int32} : ¬ x = 0 ↔ ∃ k, k < 32 ∧ ib x k = true := by
  constructor
  · intro h
    refine Classical.byContradiction (fun hn => h (ib_ext (fun k hk => ?_)))
    rw [ib_0]
    exact Bool.eq_false_iff.mpr (fun z => hn ⟨k, hk, z⟩)
  · rintro ⟨k, hk, e⟩ rfl
    rw [ib_0] at e
    exact absurd e (by decide)
theorem ib_nI {w k : Nat} (hk : k < 32) : ib (nI w) k = w.testBit k := by
  unfold ib
  show (BitVec.ofNat 32 w).getLsbD k = w.testBit k
  rw [BitVec.getLsbD_ofNat, show decide (k < 32) = true from decide_eq_true hk, Bool.true_and]
theorem ib_by {u : Int32} {k : Nat} (hu : BY u) (h8 : 8 ≤ k) (hk : k < 32) : ib u k = false := by
  obtain ⟨a, ha, rfl⟩ := hu
  rw [ib_nI hk]
  exact Nat.testBit_lt_two_pow (Nat.lt_of_lt_of_le ha (Nat.pow_le_pow_right (by decide) h8 : 2 ^ 8 ≤ 2 ^ k))
theorem ib_b : ∀ k : Fin 8, ∀ j : Fin 32, ib ((1 : Int32) <<< (nI k.1 &&& 31)) j.1 = decide (j.1 = k.1) := by decide +kernel
/-- LETTER k is among those of p and am -/
theorem gw_bit {p am : Int32} {k : Nat} (hk : k < 8) : ¬ p &&& ((1 <<< (nI k &&& 31)) &&& am) = 0 ↔ (ib p k = true ∧ ib am k = true) := by
  rw [ib_z]
  constructor
  · rintro ⟨j, hj, e⟩
    rw [ib_and, ib_and, ib_b ⟨k, hk⟩ ⟨j, hj⟩] at e
    simp only [Bool.and_eq_true, decide_eq_true_eq] at e
    obtain ⟨e1, e2, e3⟩ := e
    subst e2
    exact ⟨e1, e3⟩
  · rintro ⟨e1, e2⟩
    refine ⟨k, by omega, ?_⟩
    rw [ib_and, ib_and, ib_b ⟨k, hk⟩ ⟨k, by omega⟩, e1, e2]
    simp
theorem pws_tb : ∀ l : Fin 8, ∀ q : Fin 4, ∀ j : Fin 64, tb (pws (nI l.1) (nI q.1)) j.1 = (64 * q.1 + j.1).testBit l.1 := by decide +kernel
/-- the bits of gwV -/
theorem gwV_tb {p t am : Int32} {q j : Nat} (hq : q < 4) (hj : j < 64) : ∀ k, k ≤ 8 → (tb (gwV p t am k q) j = true ↔ ∃ l, l < k ∧ ((ib p l = true ∧ ib am l = true ∧ (64 * q + j).testBit l = true) ∨ (ib t l = true ∧ ib am l = true ∧ (64 * q + j).testBit l = false)))
  | 0, _ => by
    rw [gwV, tb_0]
    exact ⟨fun z => absurd z (by decide), fun ⟨l, hl, _⟩ => absurd hl (by omega)⟩
  | k + 1, hk => by
    have ih := gwV_tb (p := p) (t := t) (am := am) hq hj k (by omega)
    have hp := gw_bit (p := p) (am := am) (k := k) (by omega)
    have ht := gw_bit (p := t) (am := am) (k := k) (by omega)
    have hw : tb (pws (nI k) (nI q)) j = (64 * q + j).testBit k := pws_tb ⟨k, by omega⟩ ⟨q, hq⟩ ⟨j, hj⟩
    have key : tb (gwV p t am (k + 1) q) j = true ↔ (tb (gwV p t am k q) j = true ∨ (ib p k = true ∧ ib am k = true ∧ (64 * q + j).testBit k = true) ∨ (ib t k = true ∧ ib am k = true ∧ (64 * q + j).testBit k = false)) := by
      rw [gwV]
      by_cases c1 : p &&& ((1 <<< (nI k &&& 31)) &&& am) = 0
      · have n1 : ¬ (ib p k = true ∧ ib am k = true) := fun z => hp.mpr z c1
        by_cases c2 : t &&& ((1 <<< (nI k &&& 31)) &&& am) = 0
        · have n2 : ¬ (ib t k = true ∧ ib am k = true) := fun z => ht.mpr z c2
          rw [if_pos c1, if_pos c2]
          exact ⟨Or.inl, fun z => z.elim id (fun z => z.elim (fun z => absurd ⟨z.1, z.2.1⟩ n1) (fun z => absurd ⟨z.1, z.2.1⟩ n2))⟩
        · have n2 := ht.mp c2
          rw [if_pos c1, if_neg c2, tb_or, tb_not hj, hw, Bool.or_eq_true, Bool.not_eq_true']
          exact ⟨fun z => z.elim Or.inl (fun z => Or.inr (Or.inr ⟨n2.1, n2.2, z⟩)), fun z => z.elim Or.inl (fun z => z.elim (fun z => absurd ⟨z.1, z.2.1⟩ n1) (fun z => Or.inr z.2.2))⟩
      · have n1 := hp.mp c1
        by_cases c2 : t &&& ((1 <<< (nI k &&& 31)) &&& am) = 0
        · have n2 : ¬ (ib t k = true ∧ ib am k = true) := fun z => ht.mpr z c2
          rw [if_neg c1, if_pos c2, tb_or, hw, Bool.or_eq_true]
          exact ⟨fun z => z.elim Or.inl (fun z => Or.inr (Or.inl ⟨n1.1, n1.2, z⟩)), fun z => z.elim Or.inl (fun z => z.elim (fun z => Or.inr z.2.2) (fun z => absurd ⟨z.1, z.2.1⟩ n2))⟩
        · have n2 := ht.mp c2
          rw [if_neg c1, if_neg c2, tb_or, tb_or, tb_not hj, hw, Bool.or_eq_true, Bool.or_eq_true, Bool.not_eq_true']
          exact ⟨fun z => z.elim (fun z => z.elim Or.inl (fun z => Or.inr (Or.inl ⟨n1.1, n1.2, z⟩))) (fun z => Or.inr (Or.inr ⟨n2.1, n2.2, z⟩)), fun z => z.elim (fun z => Or.inl (Or.inl z)) (fun z => z.elim (fun z => Or.inl (Or.inr z.2.2)) (fun z => Or.inr z.2.2))⟩
    rw [key, ih]
    constructor
    · rintro (⟨l, hl, z⟩ | z)
      · exact ⟨l, by omega, z⟩
      · exact ⟨k, by omega, z⟩
    · rintro ⟨l, hl, z⟩
      by_cases e : l = k
      · subst e; exact Or.inr z
      · exact Or.inl ⟨l, by omega, z⟩
theorem so_bits {a b : Int32} {w : Nat} : soB a b w = true ↔ ((∃ k, k < 32 ∧ ib a k = true ∧ w.testBit k = true) ∨ (∃ k, k < 32 ∧ ib b k = true ∧ w.testBit k = false)) := by
  have h1 : ¬ a &&& nI w = 0 ↔ ∃ k, k < 32 ∧ ib a k = true ∧ w.testBit k = true := by
    rw [ib_z]
    constructor
    · rintro ⟨k, hk, e⟩; rw [ib_and, ib_nI hk, Bool.and_eq_true] at e; exact ⟨k, hk, e⟩
    · rintro ⟨k, hk, e⟩; exact ⟨k, hk, by rw [ib_and, ib_nI hk, Bool.and_eq_true]; exact e⟩
  have h2 : ¬ b &&& (nI w ^^^ (-1)) = 0 ↔ ∃ k, k < 32 ∧ ib b k = true ∧ w.testBit k = false := by
    rw [ib_z]
    have hx : ∀ k, k < 32 → ib (nI w ^^^ (-1)) k = !w.testBit k := fun k hk => by
      rw [ib_xor, ib_nI hk, ib_m1 ⟨k, hk⟩]; cases w.testBit k <;> rfl
    constructor
    · rintro ⟨k, hk, e⟩; rw [ib_and, hx k hk, Bool.and_eq_true, Bool.not_eq_true'] at e; exact ⟨k, hk, e⟩
    · rintro ⟨k, hk, e⟩; exact ⟨k, hk, by rw [ib_and, hx k hk, Bool.and_eq_true, Bool.not_eq_true']; exact e⟩
  rw [← h1, ← h2]
  unfold soB soM
  by_cases c1 : a &&& nI w = 0
  · by_cases c2 : b &&& (nI w ^^^ (-1)) = 0
    · rw [if_pos c1, if_pos c2]
      exact ⟨fun z => absurd (of_decide_eq_true z) (by decide), fun z => z.elim (fun z => absurd c1 z) (fun z => absurd c2 z)⟩
    · rw [if_pos c1, if_neg c2]
      exact ⟨fun _ => Or.inr c2, fun _ => decide_eq_true rfl⟩
  · rw [if_neg c1]
    exact ⟨fun _ => Or.inl c1, fun _ => decide_eq_true rfl⟩
/-- the class's words of a CLAUSE are the reference's -/
theorem gw_wO {p t am : Int32} {q : Nat} (hp : BY p) (ht : BY t) (hq : q < 4) : gwV p t am 8 q = wO (soB (p &&& am) (t &&& am)) q := by
  apply tb_ext
  intro j hj
  rw [wO_tb _ q hj]
  apply Bool.eq_iff_iff.mpr
  rw [gwV_tb hq hj 8 (by decide), so_bits]
  constructor
  · rintro ⟨l, hl, z | z⟩
    · exact Or.inl ⟨l, by omega, by rw [ib_and, z.1, z.2.1]; rfl, z.2.2⟩
    · exact Or.inr ⟨l, by omega, by rw [ib_and, z.1, z.2.1]; rfl, z.2.2⟩
  · rintro (⟨k, hk, e, z⟩ | ⟨k, hk, e, z⟩)
    · rw [ib_and, Bool.and_eq_true] at e
      by_cases h8 : k < 8
      · exact ⟨k, h8, Or.inl ⟨e.1, e.2, z⟩⟩
      · rw [ib_by hp (by omega) hk] at e; exact absurd e.1 (by decide)
    · rw [ib_and, Bool.and_eq_true] at e
      by_cases h8 : k < 8
      · exact ⟨k, h8, Or.inr ⟨e.1, e.2, z⟩⟩
      · rw [ib_by ht (by omega) hk] at e; exact absurd e.1 (by decide)
theorem maB_d : ∀ l : Fin 8, ∀ w : Fin 256, maB ((1 : Int32) <<< (nI l.1 &&& 31)) w.1 = w.1.testBit l.1 := by decide +kernel
theorem pws_wO {l q : Nat} (hl : l < 8) (hq : q < 4) : pws (nI l) (nI q) = wO (maB (1 <<< (nI l &&& 31))) q := by
  apply tb_ext
  intro j hj
  rw [wO_tb _ q hj, maB_d ⟨l, hl⟩ ⟨64 * q + j, by omega⟩]
  exact pws_tb ⟨l, hl⟩ ⟨q, hq⟩ ⟨j, hj⟩
