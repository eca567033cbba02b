/-- LETTERS that both sides have, as a number -/
def shN (G : Nat → Int32) (c : Nat) : Nat := (shM G c).toNatClampNeg
theorem ltM_by {G : Nat → Int32} (x : Int32) : ∀ c, (∀ i, i < c → BY (G (6 * i)) ∧ BY (G (6 * i + 1))) → BY (ltM G x c)
  | 0, _ => BY_0
  | k + 1, h => by
    rw [ltM]
    split
    · exact BY_or (ltM_by x k (fun i hi => h i (by omega))) (BY_or (h k (by omega)).1 (h k (by omega)).2)
    · exact BY_or (ltM_by x k (fun i hi => h i (by omega))) BY_0
theorem shN_ok {G : Nat → Int32} {c m : Nat} (hG : GV c m G) : shM G c = nI (shN G c) ∧ shN G c < 256 := by
  obtain ⟨a, ha, e⟩ := BY_and (ltM G 2 c) (ltM_by 1 c (fun i hi => hG.1 i (by omega)))
  have e' : shM G c = nI a := e
  unfold shN
  rw [e', nI_clamp (by omega)]
  exact ⟨rfl, ha⟩
theorem lt_sh {G : Nat → Int32} {c m : Nat} (hG : GV c m G) : ltO G c &&& ltE G c = nI (shN G c) := by
  rw [ltO_M, ltE_M G c hG.2.1]
  exact (shN_ok hG).1
theorem shN_cg {G G' : Nat → Int32} {c : Nat} (h : ∀ q, q < 6 * c → G q = G' q) : shN G c = shN G' c := by unfold shN; rw [shM_cg h]
theorem onP_cg {G G' : Nat → Int32} (x : Int32) : ∀ c, (∀ q, q < 6 * c → G q = G' q) → onP G x c = onP G' x c
  | 0, _ => rfl
  | k + 1, h => funext (fun w => by rw [onP, onP, onP_cg x k (fun q hq => h q (by omega)), h (6 * k + 2) (by omega), h (6 * k) (by omega), h (6 * k + 1) (by omega)])
theorem SDc_cg {G G' : Nat → Int32} {c l : Nat} {h : ev_H} (he : ∀ q, q < 6 * c → G q = G' q) (s : SDc G c l h) : SDc G' c l h := by
  unfold SDc at *
  rw [← onP_cg 1 c he, ← onP_cg 2 c he]
  exact s
theorem SDc_f {G : Nat → Int32} {c l : Nat} {h h' : ev_H} (hf : ∀ q, 13 ≤ q → q ≤ 22 → h' q = h q) (s : SDc G c l h) : SDc G c l h' := by
  obtain ⟨⟨t1, e1⟩, ⟨t2, e2⟩, ⟨t3, e3⟩, ⟨t4, e4⟩⟩ := s
  exact ⟨⟨t1, (hf _ (by decide) (by decide)).trans e1⟩, ⟨t2, (hf _ (by decide) (by decide)).trans e2⟩, ⟨t3, (hf _ (by decide) (by decide)).trans e3⟩, ⟨t4, (hf _ (by decide) (by decide)).trans e4⟩⟩
theorem SDc_4 {G : Nat → Int32} {c l : Nat} {h h' : ev_H} (hf : ∀ q, 14 ≤ q → q ≤ 22 → h' q = h q) (s : SDc G c l h) : SDc G c l h' := by
  obtain ⟨⟨t1, e1⟩, ⟨t2, e2⟩, ⟨t3, e3⟩, ⟨t4, e4⟩⟩ := s
  exact ⟨⟨t1, (hf _ (by decide) (by decide)).trans e1⟩, ⟨t2, (hf _ (by decide) (by decide)).trans e2⟩, ⟨t3, (hf _ (by decide) (by decide)).trans e3⟩, ⟨t4, (hf _ (by decide) (by decide)).trans e4⟩⟩
theorem BR_f {G : Nat → Int32} {c l : Nat} {h h' : ev_H} (h7 : h' 427 = h 427) (h8 : h' 428 = h 428) (h9 : h' 429 = h 429) (h0 : h' 430 = h 430) (s : BR G c l h) : BR G c l h' := by
  obtain ⟨O1, T1, S1, W1, e1, e2, e3, e4, hp⟩ := s
  exact ⟨O1, T1, S1, W1, h7.trans e1, h8.trans e2, h9.trans e3, h0.trans e4, hp⟩
theorem BR_cg {G G' : Nat → Int32} {c l : Nat} {h : ev_H} (he : ∀ q, q < 6 * c → G q = G' q) (s : BR G c l h) : BR G' c l h := by
  unfold BR at *
  rw [← onP_cg 1 c he, ← onP_cg 2 c he]
  exact s
theorem RKb_m {k : Nat} (h1 : 2 ≤ k) (h2 : k ≤ 23) : RKb k = false := by
  simp [RKb]
  omega
theorem wO_t (p : Nat) : wO (fun _ => true) p = -1 := tb_ext (fun j hj => by rw [wO_tb _ p hj, tb_m1 ⟨j, hj⟩])
theorem wO_f (p : Nat) : wO (fun _ => false) p = 0 := tb_ext (fun j hj => by rw [wO_tb _ p hj, tb_0])
theorem sp_t (l : Nat) (hl : l = 0) : spP (fun _ => true) l = fun _ => true := funext (fun w => by
  subst hl
  rw [spP, Nat.and_zero]
  exact (ksB_iff 256).mpr ⟨0, by decide, rfl, rfl⟩)
/-- Sides' sets at the start -/
theorem SD_0 {G : Nat → Int32} {h : ev_H} (h5 : h 15 = .inl (1, 4, .inr (.inl (ws4 (fun _ => 0) (-1) (-1) (-1) (-1))))) (h7 : h 17 = .inl (1, 4, .inr (.inl (ws4 (fun _ => 0) (-1) (-1) (-1) (-1))))) (h9 : h 19 = .inl (1, 4, .inr (.inl (ws4 (fun _ => 0) (-1) (-1) (-1) (-1))))) (h1 : h 21 = .inl (1, 4, .inr (.inl (fun _ => 0)))) : SDc G 0 (shN G 0) h := by
  have e1 : onP G 1 0 = fun _ => true := funext (fun _ => rfl)
  have e2 : onP G 2 0 = fun _ => true := funext (fun _ => rfl)
  have es : shN G 0 = 0 := (by decide : ((0 : Int32) &&& 0).toNatClampNeg = 0)
  have ez : (fun _ => 0 : Nat → Int64) = ws4 (fun _ => 0) 0 0 0 0 := funext (fun j => by simp [ws4])
  unfold SDc
  rw [e1, e2, sp_t _ es]
  refine ⟨⟨fun _ => 0, ?_⟩, ⟨fun _ => 0, ?_⟩, ⟨fun _ => 0, ?_⟩, ⟨fun _ => 0, ?_⟩⟩
  · rw [wO_t, wO_t, wO_t, wO_t]; exact h5
  · rw [wO_t, wO_t, wO_t, wO_t]; exact h7
  · rw [wO_t, wO_t, wO_t, wO_t]; exact h9
  · show h 21 = .inl (1, 4, .inr (.inl (ws4 (fun _ => 0) (wO (fun _ => false) 0) (wO (fun _ => false) 1) (wO (fun _ => false) 2) (wO (fun _ => false) 3))))
    rw [wO_f, wO_f, wO_f, wO_f, ← ez]; exact h1
