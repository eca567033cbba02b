theorem tb_ush {y : Int64} {k : Int64} {s j : Nat} (hk : ((k.toUInt64 &&& Int64.toUInt64 63).toBitVec % 64) = BitVec.ofNat 64 s) (hs : s < 64) : tb ((y.toUInt64 >>> (k.toUInt64 &&& Int64.toUInt64 63)).toInt64) j = tb y (s + j) := by
  unfold tb
  show (y.toUInt64 >>> (k.toUInt64 &&& Int64.toUInt64 63)).toBitVec.getLsbD j = _
  rw [UInt64.toBitVec_shiftRight, hk]
  show (y.toBitVec >>> (BitVec.ofNat 64 s)).getLsbD j = _
  rw [BitVec.ushiftRight_eq', BitVec.getLsbD_ushiftRight, BitVec.toNat_ofNat, Nat.mod_eq_of_lt (by omega)]
theorem tb_shl {y k : Int64} {s j : Nat} (hk : ((k &&& 63).toBitVec.smod 64) = BitVec.ofNat 64 s) (hs : s < 64) (hj : j < 64) : tb (y <<< (k &&& 63)) j = (!decide (j < s) && tb y (j - s)) := by
  unfold tb
  rw [Int64.toBitVec_shiftLeft, hk]
  show (y.toBitVec <<< (BitVec.ofNat 64 s)).getLsbD j = _
  rw [BitVec.shiftLeft_eq', BitVec.toNat_ofNat, Nat.mod_eq_of_lt (by omega), BitVec.getLsbD_shiftLeft, show decide (j < 64) = true from decide_eq_true hj, Bool.true_and]
theorem tb_hi {y : Int64} {j : Nat} (h : 64 ≤ j) : tb y j = false := BitVec.getLsbD_of_ge _ _ h
theorem so_tb : ∀ l : Fin 6, ∀ j : Fin 64, tb (ev_so l.1) j.1 = j.1.testBit l.1 := by decide +kernel
theorem tn_lo : ∀ l : Fin 6, ∀ j : Fin 64, (j.1.testBit l.1 = false → (2 ^ l.1 + j.1 < 64 ∧ (2 ^ l.1 + j.1).testBit l.1 = true ∧ j.1 ^^^ 2 ^ l.1 = 2 ^ l.1 + j.1)) ∧ (j.1.testBit l.1 = true → (2 ^ l.1 ≤ j.1 ∧ j.1 ^^^ 2 ^ l.1 = j.1 - 2 ^ l.1 ∧ (2 ^ l.1 + j.1 < 64 → (2 ^ l.1 + j.1).testBit l.1 = false))) := by decide +kernel
theorem tn_w : ∀ l : Fin 6, ∀ p : Fin 4, ∀ j : Fin 64, (64 * p.1 + j.1) ^^^ 2 ^ l.1 = 64 * p.1 + (j.1 ^^^ 2 ^ l.1) ∧ j.1 ^^^ 2 ^ l.1 < 64 := by decide +kernel
theorem tn_sh : ∀ l : Fin 6, ((((1 <<< (nI l.1 &&& 31)) : Int32).toInt64.toUInt64 &&& Int64.toUInt64 63).toBitVec % 64) = BitVec.ofNat 64 (2 ^ l.1) ∧ (((((1 <<< (nI l.1 &&& 31)) : Int32).toInt64 &&& 63).toBitVec.smod 64) = BitVec.ofNat 64 (2 ^ l.1)) ∧ 2 ^ l.1 < 64 ∧ ¬ nI l.1 < 0 ∧ ¬ (6 : Int32) ≤ nI l.1 ∧ (nI l.1).toNatClampNeg = l.1 := by decide +kernel
theorem tn_hi : ∀ l : Fin 2, ∀ p : Fin 4, (nI p.1 ^^^ (1 <<< ((nI (6 + l.1) - 6) &&& 31))) = nI (p.1 ^^^ 2 ^ l.1) ∧ p.1 ^^^ 2 ^ l.1 < 4 ∧ ¬ nI (6 + l.1) < 0 ∧ (6 : Int32) ≤ nI (6 + l.1) ∧ ¬ nI p.1 < 0 ∧ nI p.1 < 4 ∧ (nI p.1).toNatClampNeg = p.1 := by decide +kernel
theorem tn_hw : ∀ l : Fin 2, ∀ p : Fin 4, ∀ j : Fin 64, (64 * p.1 + j.1) ^^^ 2 ^ (6 + l.1) = 64 * (p.1 ^^^ 2 ^ l.1) + j.1 := by decide +kernel
theorem tn_p : ∀ p : Fin 4, ¬ nI p.1 < 0 ∧ nI p.1 < 4 ∧ (nI p.1).toNatClampNeg = p.1 := by decide +kernel
/-- bit w of a set's words -/
def vb (V : Nat → Int64) (w : Nat) : Bool := tb (V (w / 64)) (w % 64)
theorem ptu_tb {V : Nat → Int64} {l p j : Nat} (hl : l < 8) (hp : p < 4) (hj : j < 64) : tb (ptu (V 0) (V 1) (V 2) (V 3) (nI l) (nI p)) j = vb V ((64 * p + j) ^^^ 2 ^ l) := by
  obtain ⟨p1, p2, p3⟩ := tn_p ⟨p, hp⟩
  unfold ptu vb
  rw [if_neg p1, if_pos p2]
  by_cases h6 : l < 6
  · obtain ⟨s1, s2, s3, s4, s5, s6⟩ := tn_sh ⟨l, h6⟩
    obtain ⟨w1, w2⟩ := tn_w ⟨l, h6⟩ ⟨p, hp⟩ ⟨j, hj⟩
    have d := tn_lo ⟨l, h6⟩ ⟨j, hj⟩
    simp only [] at s1 s2 s3 s4 s5 s6 w1 w2 d p3
    rw [if_neg s4, if_neg s5, p3, s6, sel4_V hp, w1, show (64 * p + (j ^^^ 2 ^ l)) / 64 = p by omega, show (64 * p + (j ^^^ 2 ^ l)) % 64 = j ^^^ 2 ^ l by omega]
    rw [tb_or, tb_ush s1 s3, tb_and, tb_and, tb_shl s2 s3 hj]
    have sj : tb (ev_so l) j = j.testBit l := so_tb ⟨l, h6⟩ ⟨j, hj⟩
    by_cases b : j.testBit l = true
    · obtain ⟨e1, e2, e3⟩ := d.2 b
      rw [sj, b, e2, decide_eq_false (show ¬ j < 2 ^ l by omega), Bool.not_false, Bool.true_and, Bool.and_true]
      have z : (tb (V p) (2 ^ l + j) && tb (ev_so l) (2 ^ l + j)) = false := by
        by_cases h : 2 ^ l + j < 64
        · have sq : tb (ev_so l) (2 ^ l + j) = (2 ^ l + j).testBit l := so_tb ⟨l, h6⟩ ⟨2 ^ l + j, h⟩
          rw [sq, e3 h, Bool.and_false]
        · rw [tb_hi (by omega), Bool.false_and]
      rw [z, Bool.false_or]
    · have b' := Bool.eq_false_iff.mpr b
      obtain ⟨e1, e2, e3⟩ := d.1 b'
      have sq : tb (ev_so l) (2 ^ l + j) = (2 ^ l + j).testBit l := so_tb ⟨l, h6⟩ ⟨2 ^ l + j, e1⟩
      rw [sj, b', sq, e2, e3, Bool.and_true, Bool.and_false, Bool.or_false]
  · obtain ⟨q, hq, rfl⟩ : ∃ q, q < 2 ∧ l = 6 + q := ⟨l - 6, by omega, by omega⟩
    obtain ⟨t1, t2, t3, t4, -, -, -⟩ := tn_hi ⟨q, hq⟩ ⟨p, hp⟩
    have t5 := tn_hw ⟨q, hq⟩ ⟨p, hp⟩ ⟨j, hj⟩
    simp only [] at t1 t2 t3 t4 t5
    obtain ⟨r1, r2, r3⟩ := tn_p ⟨p ^^^ 2 ^ q, t2⟩
    simp only [] at r1 r2 r3
    rw [if_neg t3, if_pos t4, t1, if_neg r1, if_pos r2, r3, sel4_V t2, t5, show (64 * (p ^^^ 2 ^ q) + j) / 64 = p ^^^ 2 ^ q by omega, show (64 * (p ^^^ 2 ^ q) + j) % 64 = j by omega]
def sq (P : Nat → Bool) (l w : Nat) : Bool := P w || P (w ^^^ 2 ^ l)
theorem xr : ∀ l : Fin 8, ∀ w : Fin 256, w.1 ^^^ 2 ^ l.1 < 256 ∧ (w.1 ^^^ 2 ^ l.1) ^^^ 2 ^ l.1 = w.1 := by decide +kernel
/-- one more part spread: the parts may be spread already or not -/
theorem spr_1 {P : Nat → Bool} {V : Nat → Int64} {x : Int64} {l p : Nat} (hl : l < 8) (hp : p < 4) (hx : x = wO P p) (hV : ∀ q, q < 4 → V q = wO P q ∨ V q = wO (sq P l) q) : x ||| ptu (V 0) (V 1) (V 2) (V 3) (nI l) (nI p) = wO (sq P l) p := by
  apply tb_ext
  intro j hj
  obtain ⟨x1, x2⟩ := xr ⟨l, hl⟩ ⟨64 * p + j, by omega⟩
  simp only [] at x1 x2
  rw [tb_or, ptu_tb hl hp hj, hx, wO_tb _ p hj, wO_tb _ p hj, sq]
  unfold vb
  rcases hV (((64 * p + j) ^^^ 2 ^ l) / 64) (by omega) with h | h
  · rw [h, wO_w]
  · rw [h, wO_w, sq, x2]
    cases P (64 * p + j) <;> cases P ((64 * p + j) ^^^ 2 ^ l) <;> rfl
theorem V4 {Q : Nat → Prop} (h0 : Q 0) (h1 : Q 1) (h2 : Q 2) (h3 : Q 3) : ∀ q, q < 4 → Q q := fun q hq => match q, hq with
  | 0, _ => h0
  | 1, _ => h1
  | 2, _ => h2
  | 3, _ => h3
def fn4 (a b c e : Int64) (q : Nat) : Int64 := if q = 0 then a else if q = 1 then b else if q = 2 then c else e
theorem spr_wO {P : Nat → Bool} {a b c e : Int64} {l : Nat} (hl : l < 8) (ha : a = wO P 0) (hb : b = wO P 1) (hc : c = wO P 2) (he : e = wO P 3) : spr0 a b c e (nI l) = wO (sq P l) 0 ∧ spr1 a b c e (nI l) = wO (sq P l) 1 ∧ spr2 a b c e (nI l) = wO (sq P l) 2 ∧ spr3 a b c e (nI l) = wO (sq P l) 3 := by
  have h0 : spr0 a b c e (nI l) = wO (sq P l) 0 := spr_1 (V := fn4 a b c e) hl (by decide) ha (V4 (Or.inl ha) (Or.inl hb) (Or.inl hc) (Or.inl he))
  have h1 : spr1 a b c e (nI l) = wO (sq P l) 1 := spr_1 (V := fn4 (spr0 a b c e (nI l)) b c e) hl (by decide) hb (V4 (Or.inr h0) (Or.inl hb) (Or.inl hc) (Or.inl he))
  have h2 : spr2 a b c e (nI l) = wO (sq P l) 2 := spr_1 (V := fn4 (spr0 a b c e (nI l)) (spr1 a b c e (nI l)) c e) hl (by decide) hc (V4 (Or.inr h0) (Or.inr h1) (Or.inl hc) (Or.inl he))
  have h3 : spr3 a b c e (nI l) = wO (sq P l) 3 := spr_1 (V := fn4 (spr0 a b c e (nI l)) (spr1 a b c e (nI l)) (spr2 a b c e (nI l)) e) hl (by decide) he (V4 (Or.inr h0) (Or.inr h1) (Or.inr h2) (Or.inl he))
  exact ⟨h0, h1, h2, h3⟩
/-- LETTERS k, k + 1 .. spread that aren't among ls -/
def spL (ls : Int32) : Nat → Nat → (Nat → Bool) → Nat → Bool
  | 0, _, P => P
  | n + 1, k, P => if (ls >>> (nI k &&& 31)) &&& 1 = 0 then spL ls n (k + 1) (sq P k) else spL ls n (k + 1) P
theorem spb_wO (ls : Int32) : ∀ (n k : Nat) (P : Nat → Bool) (a b c e : Int64), k + n = 8 → a = wO P 0 → b = wO P 1 → c = wO P 2 → e = wO P 3 → (spb n k ls a b c e).1 = wO (spL ls n k P) 0 ∧ (spb n k ls a b c e).2.1 = wO (spL ls n k P) 1 ∧ (spb n k ls a b c e).2.2.1 = wO (spL ls n k P) 2 ∧ (spb n k ls a b c e).2.2.2 = wO (spL ls n k P) 3
  | 0, _, _, _, _, _, _, _, ha, hb, hc, he => ⟨ha, hb, hc, he⟩
  | n + 1, k, P, a, b, c, e, hk, ha, hb, hc, he => by
    rw [spb, spL]
    split
    · obtain ⟨q0, q1, q2, q3⟩ := spr_wO (l := k) (by omega) ha hb hc he
      exact spb_wO ls n (k + 1) (sq P k) _ _ _ _ (by omega) q0 q1 q2 q3
    · exact spb_wO ls n (k + 1) P a b c e (by omega) ha hb hc he
theorem bit_x : ∀ w : Fin 256, ∀ k : Fin 8, ∀ i : Fin 8, (w.1 ^^^ 2 ^ k.1).testBit i.1 = (w.1.testBit i.1 ^^ decide (i.1 = k.1)) := by decide +kernel
theorem bits8 {v w : Nat} (hv : v < 256) (hw : w < 256) (h : ∀ i, i < 8 → v.testBit i = w.testBit i) : v = w := Nat.eq_of_testBit_eq (fun i => by
  by_cases hi : i < 8
  · exact h i hi
  · have e : 2 ^ 8 ≤ 2 ^ i := Nat.pow_le_pow_right (by decide) (by omega)
    rw [Nat.testBit_lt_two_pow (Nat.lt_of_lt_of_le hv e), Nat.testBit_lt_two_pow (Nat.lt_of_lt_of_le hw e)])
theorem spL_iff {l : Nat} (hl : l < 256) : ∀ (n k : Nat) (P : Nat → Bool) (w : Nat), k + n = 8 → w < 256 → (spL (nI l) n k P w = true ↔ ∃ v, v < 256 ∧ P v = true ∧ ∀ i, i < 8 → (i < k ∨ l.testBit i = true) → v.testBit i = w.testBit i)
  | 0, k, P, w, hk, hw => by
    rw [spL]
    constructor
    · intro h; exact ⟨w, hw, h, fun _ _ _ => rfl⟩
    · rintro ⟨v, hv, h, e⟩
      rw [← bits8 hv hw (fun i hi => e i hi (Or.inl (by omega)))]
      exact h
  | n + 1, k, P, w, hk, hw => by
    have hb : (nI l >>> (nI k &&& 31)) &&& 1 = if l.testBit k = true then 1 else 0 := by
      rw [shr_bit (by omega), ib_nI (by omega)]
    rw [spL]
    by_cases lk : l.testBit k = true
    · rw [hb, if_pos lk, if_neg (by decide), spL_iff hl n (k + 1) P w (by omega) hw]
      constructor
      · rintro ⟨v, hv, h, e⟩; exact ⟨v, hv, h, fun i hi c => e i hi (c.elim (fun c => Or.inl (by omega)) Or.inr)⟩
      · rintro ⟨v, hv, h, e⟩
        refine ⟨v, hv, h, fun i hi c => e i hi ?_⟩
        rcases c with c | c
        · by_cases ek : i = k
          · subst ek; exact Or.inr lk
          · exact Or.inl (by omega)
        · exact Or.inr c
    · rw [hb, if_neg lk, if_pos rfl, spL_iff hl n (k + 1) (sq P k) w (by omega) hw]
      constructor
      · rintro ⟨v, hv, h, e⟩
        rw [sq, Bool.or_eq_true] at h
        rcases h with h | h
        · exact ⟨v, hv, h, fun i hi c => e i hi (c.elim (fun c => Or.inl (by omega)) Or.inr)⟩
        · refine ⟨v ^^^ 2 ^ k, (xr ⟨k, by omega⟩ ⟨v, hv⟩).1, h, fun i hi c => ?_⟩
          have bx : (v ^^^ 2 ^ k).testBit i = (v.testBit i ^^ decide (i = k)) := bit_x ⟨v, hv⟩ ⟨k, by omega⟩ ⟨i, hi⟩
          have ne : i ≠ k := fun z => by subst z; exact c.elim (fun c => absurd c (by omega)) (fun c => lk c)
          rw [bx, decide_eq_false ne, Bool.xor_false]
          exact e i hi (c.elim (fun c => Or.inl (by omega)) Or.inr)
      · rintro ⟨v, hv, h, e⟩
        have hx := xr ⟨k, by omega⟩ ⟨v, hv⟩
        by_cases bk : v.testBit k = w.testBit k
        · refine ⟨v, hv, by rw [sq, h, Bool.true_or], fun i hi c => ?_⟩
          by_cases ek : i = k
          · subst ek; exact bk
          · exact e i hi (c.elim (fun c => Or.inl (by omega)) Or.inr)
        · refine ⟨v ^^^ 2 ^ k, hx.1, ?_, fun i hi c => ?_⟩
          · have h2 : (v ^^^ 2 ^ k) ^^^ 2 ^ k = v := hx.2
            rw [sq, h2, h, Bool.or_true]
          · have bx : (v ^^^ 2 ^ k).testBit i = (v.testBit i ^^ decide (i = k)) := bit_x ⟨v, hv⟩ ⟨k, by omega⟩ ⟨i, hi⟩
            rw [bx]
            by_cases ek : i = k
            · subst ek
              rw [decide_eq_true rfl]
              revert bk
              cases v.testBit i <;> cases w.testBit i <;> simp
            · rw [decide_eq_false ek, Bool.xor_false]
              exact e i hi (c.elim (fun c => Or.inl (by omega)) Or.inr)
theorem ksB_iff {P : Nat → Bool} {l x : Nat} : ∀ n, ksB P l n x = true ↔ ∃ v, v < n ∧ P v = true ∧ v &&& l = x
  | 0 => ⟨fun h => absurd (show false = true from h) (by decide), fun ⟨v, hv, _⟩ => absurd hv (by omega)⟩
  | n + 1 => by
    rw [ksB, Bool.or_eq_true, ksB_iff n, Bool.and_eq_true, decide_eq_true_eq]
    constructor
    · rintro (⟨v, hv, h⟩ | h)
      · exact ⟨v, by omega, h⟩
      · exact ⟨n, by omega, h⟩
    · rintro ⟨v, hv, h⟩
      by_cases e : v = n
      · subst e; exact Or.inr h
      · exact Or.inl ⟨v, by omega, h⟩
theorem and_agree {v w l : Nat} (hl : l < 256) : v &&& l = w &&& l ↔ ∀ i, i < 8 → l.testBit i = true → v.testBit i = w.testBit i := by
  constructor
  · intro h i hi hb
    have := congrArg (fun z => z.testBit i) h
    simp only [Nat.testBit_and, hb, Bool.and_true] at this
    exact this
  · intro h
    refine Nat.eq_of_testBit_eq (fun i => ?_)
    rw [Nat.testBit_and, Nat.testBit_and]
    by_cases hi : i < 8
    · by_cases hb : l.testBit i = true
      · rw [h i hi hb]
      · rw [Bool.eq_false_iff.mpr hb, Bool.and_false, Bool.and_false]
    · have e : 2 ^ 8 ≤ 2 ^ i := Nat.pow_le_pow_right (by decide) (by omega)
      rw [Nat.testBit_lt_two_pow (Nat.lt_of_lt_of_le hl e), Bool.and_false, Bool.and_false]
/-- the class's spread is the reference's -/
theorem spL_P {l : Nat} (hl : l < 256) (P : Nat → Bool) {w : Nat} (hw : w < 256) : spL (nI l) 8 0 P w = spP P l w := by
  apply Bool.eq_iff_iff.mpr
  rw [spL_iff hl 8 0 P w rfl hw, spP, ksB_iff]
  constructor
  · rintro ⟨v, hv, h, e⟩; exact ⟨v, hv, h, (and_agree hl).mpr (fun i hi hb => e i hi (Or.inr hb))⟩
  · rintro ⟨v, hv, h, e⟩; exact ⟨v, hv, h, fun i hi c => (and_agree hl).mp e i hi (c.elim (fun c => absurd c (by omega)) id)⟩
