theorem HD_mk {G : Nat → Int32} {c m : Nat} {h : ev_H} (hG : GV c m G) (s : HDg G c h) : HDc G c h := fun i hi => by
  have hb := hG.1 i (by omega)
  exact WD_cg (fun z hz => by rw [gw_wO hb.1 hb.2 hz, by255 hb.1, by255 hb.2]) (s i hi)
theorem HDc_f {G : Nat → Int32} {c : Nat} {h h' : ev_H} (hc : c ≤ 16) (hf : ∀ q, 27 ≤ q → q ≤ 58 → h' q = h q) (s : HDc G c h) : HDc G c h' := fun i hi => by
  obtain ⟨t, e⟩ := s i hi
  exact ⟨t, (hf _ (by omega) (by omega)).trans e⟩
theorem hdB_cg {G G' : Nat → Int32} {c i : Nat} (he : ∀ x, x < 6 * c → G x = G' x) (hi : i < c) : hdB G i = hdB G' i := by
  unfold hdB
  rw [he (6 * i) (by omega), he (6 * i + 1) (by omega)]
theorem HDc_cg {G G' : Nat → Int32} {c : Nat} {h : ev_H} (he : ∀ x, x < 6 * c → G x = G' x) (s : HDc G c h) : HDc G' c h := fun i hi => by
  have w := s i hi
  rw [hdB_cg he hi] at w
  exact w
theorem alB_cg {H H' : Nat → Nat → Bool} {S : Nat} : ∀ n, (∀ i, i < n → H i = H' i) → alB H S n = alB H' S n
  | 0, _ => rfl
  | n + 1, h => funext (fun w => by
    show (alB H S n w && (!S.testBit n || H n w)) = (alB H' S n w && (!S.testBit n || H' n w))
    rw [alB_cg n (fun i hi => h i (by omega)), h n (by omega)])
theorem clB_cg {H H' : Nat → Nat → Bool} {c S : Nat} (h : ∀ i, i < c → H i = H' i) : clB H c S = clB H' c S := by
  unfold clB
  rw [alB_cg c h]
theorem ndB_cg {H H' : Nat → Nat → Bool} {c : Nat} (h : ∀ i, i < c → H i = H' i) : ∀ k, ndB H c k = ndB H' c k
  | 0 => rfl
  | k + 1 => by rw [ndB_s, ndB_s, ndB_cg h k, ndS, ndS, clB_cg h]
theorem ndA_cg {G G' : Nat → Int32} {c : Nat} (he : ∀ x, x < 6 * c → G x = G' x) : ndA (hdB G) c = ndA (hdB G') c := by
  have h : ∀ i, i < c → hdB G i = hdB G' i := fun i hi => hdB_cg he hi
  unfold ndA
  rw [clB_cg h, ndB_cg h]
/-- the held worlds, few CLAUSES -/
def HDx (G : Nat → Int32) (c : Nat) (h : ev_H) : Prop := HDc G c h ∧ c ≤ 16
theorem HDx_f {G : Nat → Int32} {c : Nat} {h h' : ev_H} (hf : ∀ q, 27 ≤ q → q ≤ 58 → h' q = h q) (s : HDx G c h) : HDx G c h' := ⟨HDc_f s.2 hf s.1, s.2⟩
theorem HDx_cg {G G' : Nat → Int32} {c : Nat} {h : ev_H} (he : ∀ x, x < 6 * c → G x = G' x) (s : HDx G c h) : HDx G' c h := ⟨HDc_cg he s.1, s.2⟩
