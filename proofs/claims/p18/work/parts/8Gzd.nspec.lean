/-- CLAUSE i by the LINES' numbers -/
abbrev hdB (G : Nat → Int32) (i : Nat) : Nat → Bool := soB (G (6 * i)) (G (6 * i + 1))
/-- a best set B of size z is no worse than T -/
def bLe (c : Nat) (B : Int32) (z T : Nat) : Prop := z < cB T c ∨ (z = cB T c ∧ B ≤ nI T)
/-- NONE, or a set that clashes -/
def bOk (H : Nat → Nat → Bool) (c : Nat) (B : Int32) (z : Nat) : Prop := (B = -9 ∧ z = 17) ∨ ∃ S, S < 2 ^ c ∧ clS H c S ∧ B = nI S ∧ z = cB S c
theorem bOk_17 {H : Nat → Nat → Bool} {c z : Nat} {B : Int32} (hc : c ≤ 16) (h : bOk H c B z) : z ≤ 17 := by
  rcases h with ⟨-, h⟩ | ⟨S, -, -, -, h⟩
  · omega
  · have := ct_le S c
    omega
theorem i3_lt_le {a b e : Int32} (h1 : a < b) (h2 : b ≤ e) : a ≤ e := by
  rw [Int32.le_iff_toInt_le] at h2 ⊢
  rw [Int32.lt_iff_toInt_lt] at h1
  omega
/-- what keep does -/
def kpS (B : Int32) (z : Nat) (b : Int32) (k : Nat) (B' : Int32) (z' : Nat) : Prop := (B' = b ∧ z' = k ∧ (k < z ∨ (k = z ∧ b < B))) ∨ (B' = B ∧ z' = z ∧ (z < k ∨ (z = k ∧ B ≤ b)))
theorem kp_mono {c k z z' T : Nat} {B B' b : Int32} (h : kpS B z b k B' z') (hT : bLe c B z T) : bLe c B' z' T := by
  rcases h with ⟨eB, ez, h⟩ | ⟨eB, ez, -⟩
  · rw [eB, ez]
    rcases hT with hT | ⟨hT, hb⟩
    · refine Or.inl ?_
      rcases h with h | ⟨h, -⟩
      · omega
      · omega
    · rcases h with h | ⟨h, hlt⟩
      · exact Or.inl (by omega)
      · exact Or.inr ⟨by omega, i3_lt_le hlt hb⟩
  · rw [eB, ez]; exact hT
theorem kp_self {c S k z z' : Nat} {B B' : Int32} (h : kpS B z (nI S) k B' z') (hk : cB S c = k) : bLe c B' z' S := by
  rcases h with ⟨eB, ez, -⟩ | ⟨eB, ez, h⟩
  · rw [eB, ez]; exact Or.inr ⟨hk.symm, Int32.le_refl _⟩
  · rw [eB, ez]
    rcases h with h | ⟨h, hb⟩
    · exact Or.inl (by omega)
    · exact Or.inr ⟨by omega, hb⟩
theorem kp_ok {H : Nat → Nat → Bool} {c S k z z' : Nat} {B B' : Int32} (h : kpS B z (nI S) k B' z') (hk : cB S c = k) (hS : S < 2 ^ c) (hC : clS H c S) (hO : bOk H c B z) : bOk H c B' z' := by
  rcases h with ⟨eB, ez, -⟩ | ⟨eB, ez, -⟩
  · exact Or.inr ⟨S, hS, hC, eB, by rw [ez, hk]⟩
  · rw [eB, ez]; exact hO
theorem bLe_sb {c z S T : Nat} {B : Int32} (hS : S < 2 ^ c) (hT : T < 2 ^ c) (hs : sbS S T) (h : bLe c B z S) : bLe c B z T := by
  have hm := ct_mono hs c
  by_cases e : cB S c = cB T c
  · rw [← sb_eq hs hS hT e]; exact h
  · rcases h with h | ⟨h, -⟩
    · exact Or.inl (by omega)
    · exact Or.inl (by omega)
theorem nI_or (a b : Nat) : nI a ||| nI b = nI (a ||| b) := ib_ext (fun n hn => by rw [ib_or, ib_nI hn, ib_nI hn, ib_nI hn, Nat.testBit_or])
theorem ab16 {a i : Nat} (hi : i < 16) : nI a &&& nI (2 ^ i) = 0 ↔ a.testBit i = false := by
  constructor
  · intro h
    have e : ib (nI a &&& nI (2 ^ i)) i = false := by rw [h, ib_0]
    rw [ib_and, ib_nI (by omega), ib_nI (by omega), Nat.testBit_two_pow_self, Bool.and_true] at e
    exact e
  · intro h
    refine ib_ext (fun n hn => ?_)
    rw [ib_0, ib_and, ib_nI hn, ib_nI hn, Nat.testBit_two_pow]
    by_cases e : i = n
    · rw [← e, h, Bool.false_and]
    · rw [decide_eq_false e, Bool.and_false]
theorem has_w {P : Nat → Bool} {w : Nat} (hw : w < 256) : wsHas (wO P 0) (wO P 1) (wO P 2) (wO P 3) (nI w) = 0 ↔ P w = false := by
  rw [wsHas_M (V := wO P) hw, hsM, wO_w]
  cases P w
  · exact ⟨fun _ => rfl, fun _ => by rw [if_neg (by decide)]⟩
  · exact ⟨fun z => by rw [if_pos rfl] at z; exact absurd z (by decide), fun z => absurd z (by decide)⟩
theorem wO_and {P Q : Nat → Bool} {p : Nat} : wO P p &&& wO Q p = wO (fun w => P w && Q w) p := tb_ext (fun j hj => by rw [tb_and, wO_tb _ p hj, wO_tb _ p hj, wO_tb _ p hj])
/-- one CLAUSE more chosen -/
theorem al_meet {H : Nat → Nat → Bool} {S i c p : Nat} (hi : i < c) : wO (alB H S c) p &&& wO (H i) p = wO (alB H (S ||| 2 ^ i) c) p := by
  rw [wO_and]
  exact wO_ext (fun j _ => (alB_or hi).symm)
/-- the sets that are still to be looked at, CLAUSES 0 .. i - 1 tried in world w -/
def cvS (H : Nat → Nat → Bool) (c S br cl i w : Nat) (B : Int32) (z : Nat) : Prop := ∀ T, T < 2 ^ c → clS H c T → sbS S T → dsS br T → bLe c B z T ∨ (dsS cl T ∧ ∀ j, j < i → T.testBit j = true → H j w = true)
theorem cv_0 {H : Nat → Nat → Bool} {c S br w z : Nat} {B : Int32} : cvS H c S br br 0 w B z := fun _ _ _ _ hd => Or.inr ⟨hd, fun _ hj => absurd hj (by omega)⟩
theorem cv_end {H : Nat → Nat → Bool} {c S br cl w z : Nat} {B : Int32} (hw : w < 256) (h : cvS H c S br cl c w B z) : ∀ T, T < 2 ^ c → clS H c T → sbS S T → dsS br T → bLe c B z T := fun T hT hC hs hd => by
  rcases h T hT hC hs hd with h | ⟨-, h⟩
  · exact h
  · have e := hC w hw
    rw [(alB_t c).mpr h] at e
    exact absurd e (by decide)
theorem cv_bar {H : Nat → Nat → Bool} {c S br cl i w z : Nat} {B : Int32} (hb : cl.testBit i = true) (h : cvS H c S br cl i w B z) : cvS H c S br cl (i + 1) w B z := fun T hT hC hs hd => by
  rcases h T hT hC hs hd with h | ⟨h1, h⟩
  · exact Or.inl h
  · refine Or.inr ⟨h1, fun j hj ht => ?_⟩
    by_cases e : j = i
    · have f := h1 i hb
      rw [e, f] at ht
      exact absurd ht (by decide)
    · exact h j (by omega) ht
theorem cv_so {H : Nat → Nat → Bool} {c S br cl i w z : Nat} {B : Int32} (hb : H i w = true) (h : cvS H c S br cl i w B z) : cvS H c S br cl (i + 1) w B z := fun T hT hC hs hd => by
  rcases h T hT hC hs hd with h | ⟨h1, h⟩
  · exact Or.inl h
  · refine Or.inr ⟨h1, fun j hj ht => ?_⟩
    by_cases e : j = i
    · rw [e]; exact hb
    · exact h j (by omega) ht
theorem cv_rec {H : Nat → Nat → Bool} {c S br cl i w z z' : Nat} {B B' : Int32} (h : cvS H c S br cl i w B z) (hm : ∀ T, bLe c B z T → bLe c B' z' T) (hr : ∀ T, T < 2 ^ c → clS H c T → sbS (S ||| 2 ^ i) T → dsS cl T → bLe c B' z' T) : cvS H c S br (cl ||| 2 ^ i) (i + 1) w B' z' := fun T hT hC hs hd => by
  rcases h T hT hC hs hd with h | ⟨h1, h⟩
  · exact Or.inl (hm T h)
  · cases e : T.testBit i with
    | true =>
      refine Or.inl (hr T hT hC (fun j hj => ?_) h1)
      rw [Nat.testBit_or, Bool.or_eq_true] at hj
      rcases hj with hj | hj
      · exact hs j hj
      · rw [Nat.testBit_two_pow] at hj
        have q : i = j := of_decide_eq_true hj
        rw [← q]; exact e
    | false =>
      refine Or.inr ⟨fun j hj => ?_, fun j hj ht => ?_⟩
      · rw [Nat.testBit_or, Bool.or_eq_true] at hj
        rcases hj with hj | hj
        · exact h1 j hj
        · rw [Nat.testBit_two_pow] at hj
          have q : i = j := of_decide_eq_true hj
          rw [← q]; exact e
      · by_cases q : j = i
        · rw [q, e] at ht
          exact absurd ht (by decide)
        · exact h j (by omega) ht
/-- no CLAUSE is left to choose -/
theorem cv_full {H : Nat → Nat → Bool} {c S br k w z : Nat} {B : Int32} (hc : c ≤ 16) (hS : S < 2 ^ c) (hk : cB S c = k) (h16 : 16 ≤ k) (hw : w < 256) (hp : alB H S c w = true) : ∀ T, T < 2 ^ c → clS H c T → sbS S T → dsS br T → bLe c B z T := fun T hT hC hs _ => by
  have h1 := ct_mono hs c
  have h2 := ct_le T c
  have e : S = T := sb_eq hs hS hT (by omega)
  rw [← e] at hC
  have q := hC w hw
  rw [hp] at q
  exact absurd q (by decide)
/-- the sets that choose has looked at -/
def chQ (H : Nat → Nat → Bool) (c S br : Nat) (B : Int32) (z : Nat) (B' : Int32) (z' : Nat) : Prop := bOk H c B' z' ∧ (∀ T, bLe c B z T → bLe c B' z' T) ∧ ∀ T, T < 2 ^ c → clS H c T → sbS S T → dsS br T → bLe c B' z' T
theorem ch_far {H : Nat → Nat → Bool} {c S br k z : Nat} {B : Int32} (hO : bOk H c B z) (hk : cB S c = k) (hz : z < k) : chQ H c S br B z B z := ⟨hO, fun _ h => h, fun T _ _ hs _ => Or.inl (by have := ct_mono hs c; omega)⟩
theorem ch_leaf {H : Nat → Nat → Bool} {c S br k z z' : Nat} {B B' : Int32} (hO : bOk H c B z) (hk : cB S c = k) (hS : S < 2 ^ c) (hC : ∀ w, w < 256 → alB H S c w = false) (h : kpS B z (nI S) k B' z') : chQ H c S br B z B' z' := ⟨kp_ok h hk hS hC hO, fun _ hT => kp_mono h hT, fun _ hT _ hs _ => bLe_sb hS hT hs (kp_self h hk)⟩
/-- whether a set of CLAUSES clashes -/
def clB (H : Nat → Nat → Bool) (c S : Nat) : Bool := decide (wO (alB H S c) 0 = 0 ∧ wO (alB H S c) 1 = 0 ∧ wO (alB H S c) 2 = 0 ∧ wO (alB H S c) 3 = 0)
theorem clB_p {H : Nat → Nat → Bool} {c S : Nat} : clB H c S = true ↔ ∀ p, p < 4 → wO (alB H S c) p = 0 := by
  unfold clB
  constructor
  · intro h0 p hp
    have h := of_decide_eq_true h0
    match p, hp with
    | 0, _ => exact h.1
    | 1, _ => exact h.2.1
    | 2, _ => exact h.2.2.1
    | 3, _ => exact h.2.2.2
  · intro h
    exact decide_eq_true ⟨h 0 (by decide), h 1 (by decide), h 2 (by decide), h 3 (by decide)⟩
theorem clB_S {H : Nat → Nat → Bool} {c S : Nat} : clB H c S = true ↔ clS H c S := by
  rw [clB_p]
  constructor
  · intro h w hw
    rw [← wO_w (alB H S c) w, h (w / 64) (by omega), tb_0]
  · intro h p hp
    refine tb_ext (fun j hj => ?_)
    rw [wO_tb _ p hj, tb_0]
    exact h _ (by omega)
theorem lz_n {H : Nat → Nat → Bool} {c S : Nat} (h : (0 : Int32) ≤ wsLeast (wO (alB H S c) 0) (wO (alB H S c) 1) (wO (alB H S c) 2) (wO (alB H S c) 3)) : ¬ clB H c S = true := by
  rcases least_s (alB H S c) with ⟨e, -⟩ | ⟨w, hw, -, hp⟩
  · rw [e] at h
    exact absurd h (by decide)
  · intro z
    have q := clB_S.mp z w hw
    rw [hp] at q
    exact absurd q (by decide)
theorem lz_y {H : Nat → Nat → Bool} {c S : Nat} (h : ¬ (0 : Int32) ≤ wsLeast (wO (alB H S c) 0) (wO (alB H S c) 1) (wO (alB H S c) 2) (wO (alB H S c) 3)) : clB H c S = true := by
  rcases least_s (alB H S c) with ⟨-, hz⟩ | ⟨w, hw, e, -⟩
  · exact clB_S.mpr hz
  · rw [e] at h
    exact absurd (show (0 : Int32) ≤ nI w from nI_le (a := 0) (b := w) (by omega) (by omega)) h
theorem t0 {i : Nat} (z : Nat.testBit 0 i = true) : False := by
  rw [Nat.zero_testBit] at z
  exact absurd z (by decide)
theorem al_full {H : Nat → Nat → Bool} {c k p : Nat} (hk : k < c) : wO (alB H (2 ^ c - 1) k) p &&& wO (H k) p = wO (alB H (2 ^ c - 1) (k + 1)) p := by
  rw [wO_and]
  exact wO_ext (fun j _ => by
    show (alB H (2 ^ c - 1) k (64 * p + j) && H k (64 * p + j)) = (alB H (2 ^ c - 1) k (64 * p + j) && (!(2 ^ c - 1).testBit k || H k (64 * p + j)))
    rw [Nat.testBit_two_pow_sub_one, decide_eq_true hk] <;> rfl)
theorem al_z {H : Nat → Nat → Bool} {n p : Nat} : wO (alB H 0 n) p = -1 := by
  rw [← wO_t p]
  exact wO_ext (fun j _ => (alB_t n).mpr (fun i _ z => (t0 z).elim))
theorem ct_z : ∀ n, cB 0 n = 0
  | 0 => by rw [ct_0]
  | n + 1 => by rw [ct_s, ct_z n, Nat.zero_testBit] <;> rfl
/-- the best of the sets 0 .. k - 1, by the reference; one step -/
def ndS (H : Nat → Nat → Bool) (c k : Nat) (b : Int32) : Int32 := if b = -9 then (if clB H c k = true then nI k else b) else if onM b 16 ≤ onM (nI k) 16 then b else if clB H c k = true then nI k else b
def ndB (H : Nat → Nat → Bool) (c : Nat) : Nat → Int32
  | 0 => -9
  | k + 1 => ndS H c k (ndB H c k)
theorem ndB_s (H : Nat → Nat → Bool) (c k : Nat) : ndB H c (k + 1) = ndS H c k (ndB H c k) := rfl
def ndA (H : Nat → Nat → Bool) (c : Nat) : Int32 := if clB H c (2 ^ c - 1) = true then ndB H c (2 ^ c) else -9
/-- what needed answers -/
def ndR (H : Nat → Nat → Bool) (c : Nat) (x : Int32) : Int32 := if inR x 0 1 = 0 then -1 else sOS x (ndA H c)
def ndM (H : Nat → Nat → Bool) (c k : Nat) (b : Int32) : Prop := (b = -9 ∧ ∀ T, T < k → ¬ clS H c T) ∨ ∃ N, N < k ∧ clS H c N ∧ b = nI N ∧ ∀ T, T < k → clS H c T → cB N c < cB T c ∨ (cB N c = cB T c ∧ N ≤ T)
theorem on_ct {S c : Nat} (hc : c ≤ 16) (hS : S < 2 ^ c) : onM (nI S) 16 = nI (cB S c) := by
  have := pw16 hc
  rw [on16 (by omega) 16 (by omega), ct_16 hc hS]
theorem nd_min {H : Nat → Nat → Bool} {c : Nat} (hc : c ≤ 16) : ∀ k, k ≤ 2 ^ c → ndM H c k (ndB H c k)
  | 0, _ => Or.inl ⟨rfl, fun _ h => absurd h (by omega)⟩
  | k + 1, hk => by
    have ih := nd_min (H := H) hc k (by omega)
    have hp := pw16 hc
    rw [ndB_s, ndS]
    rcases ih with ⟨e, h⟩ | ⟨N, hN, hC, e, h⟩
    · rw [if_pos e]
      by_cases q : clB H c k = true
      · rw [if_pos q]
        refine Or.inr ⟨k, by omega, clB_S.mp q, rfl, fun T hT hCT => ?_⟩
        by_cases t : T = k
        · rw [t]; exact Or.inr ⟨rfl, Nat.le_refl _⟩
        · exact absurd hCT (h T (by omega))
      · rw [if_neg q]
        refine Or.inl ⟨e, fun T hT hCT => ?_⟩
        by_cases t : T = k
        · rw [t] at hCT
          exact q (clB_S.mpr hCT)
        · exact h T (by omega) hCT
    · have h9 : ¬ ndB H c k = -9 := by rw [e]; exact nI_nm9 (by omega)
      rw [if_neg h9]
      have o1 : onM (ndB H c k) 16 = nI (cB N c) := by rw [e]; exact on_ct hc (by omega)
      have o2 : onM (nI k) 16 = nI (cB k c) := on_ct hc (by omega)
      have l1 := ct_le N c
      have l2 := ct_le k c
      have io : onM (ndB H c k) 16 ≤ onM (nI k) 16 ↔ cB N c ≤ cB k c := by
        rw [o1, o2]
        exact nI_leI (a := cB N c) (b := cB k c) (by omega) (by omega)
      by_cases u : onM (ndB H c k) 16 ≤ onM (nI k) 16
      · rw [if_pos u]
        have u' := io.mp u
        refine Or.inr ⟨N, by omega, hC, e, fun T hT hCT => ?_⟩
        by_cases t : T = k
        · rw [t]
          by_cases v : cB N c = cB k c
          · exact Or.inr ⟨v, by omega⟩
          · exact Or.inl (by omega)
        · exact h T (by omega) hCT
      · rw [if_neg u]
        have u' : cB k c < cB N c := by
          have : ¬ cB N c ≤ cB k c := fun z => u (io.mpr z)
          omega
        by_cases q : clB H c k = true
        · rw [if_pos q]
          refine Or.inr ⟨k, by omega, clB_S.mp q, rfl, fun T hT hCT => ?_⟩
          by_cases t : T = k
          · rw [t]; exact Or.inr ⟨rfl, Nat.le_refl _⟩
          · rcases h T (by omega) hCT with g | ⟨g, -⟩
            · exact Or.inl (by omega)
            · exact Or.inl (by omega)
        · rw [if_neg q]
          refine Or.inr ⟨N, by omega, hC, e, fun T hT hCT => ?_⟩
          by_cases t : T = k
          · rw [t] at hCT
            exact absurd (clB_S.mpr hCT) q
          · exact h T (by omega) hCT
/-- both searches come to one set -/
theorem nd_fin {H : Nat → Nat → Bool} {c z : Nat} {B : Int32} (hc : c ≤ 16) (hF : clB H c (2 ^ c - 1) = true) (hQ : chQ H c 0 0 (-9) 17 B z) : B = ndA H c := by
  have hp := pw16 hc
  have h1 : 0 < 2 ^ c := Nat.two_pow_pos c
  obtain ⟨hO, -, hL⟩ := hQ
  have hA : ∀ T, T < 2 ^ c → clS H c T → bLe c B z T := fun T hT hC => hL T hT hC (fun i z => (t0 z).elim) (fun i z => (t0 z).elim)
  rw [ndA, if_pos hF]
  have hCF := clB_S.mp hF
  rcases nd_min (H := H) hc (2 ^ c) (Nat.le_refl _) with ⟨-, h⟩ | ⟨N, hN, hC, e, h⟩
  · exact absurd hCF (h _ (by omega))
  · rw [e]
    have lN := ct_le N c
    rcases hO with ⟨-, hz⟩ | ⟨S, hS, hCS, eS, hz⟩
    · rcases hA N hN hC with g | ⟨g, -⟩
      · omega
      · omega
    · rw [eS]
      have g1 := hA N hN hC
      have g2 := h S hS hCS
      have es : cB S c = cB N c := by
        rcases g1 with g1 | ⟨g1, -⟩
        · rcases g2 with g2 | ⟨g2, -⟩
          · omega
          · omega
        · omega
      have a1 : N ≤ S := by
        rcases g2 with g2 | ⟨-, g2⟩
        · omega
        · exact g2
      have a2 : S ≤ N := by
        rcases g1 with g1 | ⟨-, g1⟩
        · omega
        · rw [eS] at g1
          exact (nI_leI (a := S) (b := N) (by omega) (by omega)).mp g1
      rw [show S = N by omega]
/-- bitCount and ones agree on what is found -/
theorem nd_y {H : Nat → Nat → Bool} {c k : Nat} (hc : c ≤ 16) (hk : k ≤ 2 ^ c) (h : ¬ ndB H c k = -9) : bc32 (ndB H c k) = onM (ndB H c k) 16 := by
  have hp := pw16 hc
  rcases nd_min (H := H) hc k hk with ⟨e, -⟩ | ⟨N, hN, -, e, -⟩
  · exact absurd e h
  · rw [e, bc16 (by omega), on16 (by omega) 16 (by omega)]
