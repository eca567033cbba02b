theorem shr_bit {x : Int32} {k : Nat} (hk : k < 8) : (x >>> (nI k &&& 31)) &&& 1 = if ib x k = true then 1 else 0 := by
  have hs : ∀ k : Fin 8, ((nI k.1) &&& 31).toBitVec.smod 32 = BitVec.ofNat 32 k.1 := by decide +kernel
  have e1 : (x >>> (nI k &&& 31)).toBitVec = x.toBitVec.sshiftRight k := by
    rw [Int32.toBitVec_shiftRight, hs ⟨k, hk⟩]
    show x.toBitVec.sshiftRight (BitVec.ofNat 32 k).toNat = _
    rw [BitVec.toNat_ofNat, Nat.mod_eq_of_lt (by omega)]
  have e2 : ib (x >>> (nI k &&& 31)) 0 = ib x k := by
    unfold ib
    rw [e1, BitVec.getLsbD_sshiftRight]
    simp [show k < 32 by omega]
  have e3 : ib ((x >>> (nI k &&& 31)) &&& 1) 0 = ib x k := by
    rw [ib_and, e2]
    show (ib x k && true) = ib x k
    exact Bool.and_true _
  rcases and1 (x >>> (nI k &&& 31)) with h | h
  · rw [h] at e3 ⊢
    have e4 : ib 0 0 = false := ib_0 0
    rw [e4] at e3
    rw [← e3]; rfl
  · rw [h] at e3 ⊢
    have e4 : ib 1 0 = true := by decide
    rw [e4] at e3
    rw [← e3]; rfl
theorem and_bit {x : Int32} {k : Nat} (hk : k < 8) : decide (¬ x &&& (1 <<< (nI k &&& 31)) = 0) = ib x k := by
  by_cases h : ib x k = true
  · rw [h]
    refine decide_eq_true (ib_z.mpr ⟨k, by omega, ?_⟩)
    rw [ib_and, h, ib_b ⟨k, hk⟩ ⟨k, by omega⟩]
    simp
  · rw [Bool.eq_false_iff.mpr h]
    refine decide_eq_false (fun z => ?_)
    obtain ⟨j, hj, e⟩ := ib_z.mp z
    rw [ib_and, ib_b ⟨k, hk⟩ ⟨j, hj⟩, Bool.and_eq_true] at e
    have e2 : j = k := of_decide_eq_true e.2
    subst e2
    exact h e.1
/-- what the class puts into a LINE's sets is what the reference puts into its row -/
theorem cuV_mkV {lo lt : Int32} {z w p i j : Nat} {A B Y : Nat → Int64} (hz : z < 8) (hw : w < 3) (hp : p < 4) (hA : A p = Y (160 * w + 4 * i + p)) (hB : B p = Y (160 * w + 4 * j + p)) : cuV (own lo lt (nI z)) (nI z) w A B p = mkV (decide (¬ lo &&& (1 <<< (nI z &&& 31)) = 0)) (decide (¬ lt &&& (1 <<< (nI z &&& 31)) = 0)) w (1 <<< (nI z &&& 31)) Y i j p := by
  unfold cuV mkV own
  rw [and_bit hz, and_bit hz, shr_bit hz, shr_bit hz, pws_wO hz hp, hA, hB]
  by_cases h1 : ib lo z = true
  · by_cases h2 : ib lt z = true
    · rw [h1, h2]
      match w, hw with
      | 0, _ => rfl
      | 1, _ => rfl
      | 2, _ => rfl
    · rw [h1, Bool.eq_false_iff.mpr h2]
      match w, hw with
      | 0, _ => rfl
      | 1, _ => rfl
      | 2, _ => rfl
  · by_cases h2 : ib lt z = true
    · rw [Bool.eq_false_iff.mpr h1, h2]
      match w, hw with
      | 0, _ => rfl
      | 1, _ => rfl
      | 2, _ => rfl
    · rw [Bool.eq_false_iff.mpr h1, Bool.eq_false_iff.mpr h2]
      match w, hw with
      | 0, _ => rfl
      | 1, _ => rfl
      | 2, _ => rfl
/-- the row with LINE n's words put in -/
def exY (Y : Nat → Int64) (n : Nat) (V : Nat → Nat → Int64) : Nat → Int64 := fun q => if q % 160 / 4 = n then V (q / 160) (q % 160 % 4) else Y q
theorem exY_in {Y : Nat → Int64} {n w p : Nat} {V : Nat → Nat → Int64} (hn : n < 40) (hp : p < 4) : exY Y n V (160 * w + 4 * n + p) = V w p := by
  unfold exY
  rw [if_pos (by omega), show (160 * w + 4 * n + p) / 160 = w by omega, show (160 * w + 4 * n + p) % 160 % 4 = p by omega]
theorem exY_lo {Y : Nat → Int64} {n i w p : Nat} {V : Nat → Nat → Int64} (hi : i < 40) (hp : p < 4) (h : i ≠ n) : exY Y n V (160 * w + 4 * i + p) = Y (160 * w + 4 * i + p) := by
  unfold exY
  rw [if_neg (by omega)]
theorem SW_ex {k : Nat} {Y : Nat → Int64} {V : Nat → Nat → Int64} {h : ev_H} (hk : k < 40) (h1 : SWc k Y h) (h2 : ∀ w, w < 3 → WD h (102 + 8 * k + 2 * w) (V w)) : SWc (k + 1) (exY Y k V) h := fun i hi w hw => by
  by_cases e : i = k
  · subst e; exact WD_cg (fun z hz => (exY_in hk hz).symm) (h2 w hw)
  · exact WD_cg (fun z hz => (exY_lo (by omega) hz e).symm) (h1 i (by omega) w hw)
theorem SV_ex {c s i j z : Nat} {G : Nat → Int32} {Y : Nat → Int64} {lo lt : Int32} (hc : c ≤ 16) (hs : c + s < 40) (hi : i < c + s) (hj : j < c + s) (hz : z < 8) (hG : GV c s G) (hlo : ltO G c = lo) (hlt : ltE G c = lt) (h : SV c (c + s) G Y) : SV c (c + (s + 1)) (cuG G (c + s) i j (nI z)) (exY Y (c + s) (fun w => cuV (own lo lt (nI z)) (nI z) w (fun p => Y (160 * w + 4 * i + p)) (fun p => Y (160 * w + 4 * j + p)))) := fun k hk way hw p hp => by
  have hv : ∀ i, c ≤ i → i < c + s → (∃ a : Nat, a < i ∧ G (6 * i + 3) = nI a) ∧ (∃ b : Nat, b < i ∧ G (6 * i + 4) = nI b) := fun q h1 h2 => ⟨(hG.2.2 q h1 h2).1, (hG.2.2 q h1 h2).2.1⟩
  by_cases e : k = c + s
  · subst e
    rw [exY_in hs hp, syW, if_neg (by omega), lbt, cuG_5, cuG_3, cuG_4, nI_clamp (by omega), nI_clamp (by omega), ltM_cg 1 c (fun q hq => cuG_lo (G := G) (by omega)), ltM_cg 2 c (fun q hq => cuG_lo (G := G) (by omega)), ← ltO_M, ← ltE_M G c hG.2.1, hlo, hlt]
    exact cuV_mkV hz hw hp (exY_lo (by omega) hp (by omega)).symm (exY_lo (by omega) hp (by omega)).symm
  · rw [exY_lo (by omega) hp e, h k (by omega) way hw p hp]
    exact syW_cg (k := c + s) (by omega) (by omega) (fun x hx => (cuG_lo hx).symm) hv (by omega) (fun q hq => (exY_lo (by omega) hp (by omega)).symm)
/-- the CLAUSES' words put into a row -/
def clY (G : Nat → Int32) (m : Int32) : Nat → Int64 := fun q => scV (G (6 * (q % 160 / 4) + 2)) (G (6 * (q % 160 / 4))) (G (6 * (q % 160 / 4) + 1)) m (q / 160) (q % 160 % 4)
theorem clY_in {G : Nat → Int32} {m : Int32} {i w p : Nat} (hi : i < 40) (hp : p < 4) : clY G m (160 * w + 4 * i + p) = scV (G (6 * i + 2)) (G (6 * i)) (G (6 * i + 1)) m w p := by
  unfold clY
  rw [show (160 * w + 4 * i + p) % 160 / 4 = i by omega, show (160 * w + 4 * i + p) / 160 = w by omega, show (160 * w + 4 * i + p) % 160 % 4 = p by omega]
theorem SW_cl {k : Nat} {G : Nat → Int32} {m : Int32} {h : ev_H} (hk : k ≤ 40) (h1 : SCk k G m h) : SWc k (clY G m) h := fun i hi w hw => WD_cg (fun z hz => (clY_in (by omega) hz).symm) (h1 i hi w hw)
theorem scV_bg {G : Nat → Int32} {c m i way p : Nat} (hG : GV c m G) (hi : i < c) (hp : p < 4) : scV (G (6 * i + 2)) (G (6 * i)) (G (6 * i + 1)) (ltO G c &&& ltE G c) way p = bgW G c i way p := by
  unfold scV bgW shM
  rw [ltO_M, ltE_M G c hG.2.1, gw_wO (hG.1 i (by omega)).1 (hG.1 i (by omega)).2 hp]
theorem SV_cl {G : Nat → Int32} {c m : Nat} (hc : c ≤ 16) (hG : GV c m G) : SV c c G (clY G (ltO G c &&& ltE G c)) := fun i hi way hw p hp => by
  rw [clY_in (by omega) hp, scV_bg hG hi hp, syW, if_pos hi]
/-- SV tells the words: two rows with it are the same -/
theorem SV_un {c k : Nat} {G : Nat → Int32} {Y Y' : Nat → Int64} (hck : c ≤ k) (hk : k ≤ 40) (hv : ∀ i, c ≤ i → i < k → (∃ a : Nat, a < i ∧ G (6 * i + 3) = nI a) ∧ (∃ b : Nat, b < i ∧ G (6 * i + 4) = nI b)) (h1 : SV c k G Y) (h2 : SV c k G Y') {way p : Nat} (hw : way < 3) (hp : p < 4) : ∀ n i, i < n → i < k → Y (160 * way + 4 * i + p) = Y' (160 * way + 4 * i + p)
  | 0, i, hn, _ => absurd hn (by omega)
  | n + 1, i, hn, hi => by
    rw [h1 i hi way hw p hp, h2 i hi way hw p hp]
    exact syW_cg hck hi (fun _ _ => rfl) hv hk (fun j hj => SV_un hck hk hv h1 h2 hw hp n j (by omega) (by omega))
