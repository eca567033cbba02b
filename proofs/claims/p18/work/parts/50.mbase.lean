/-- since h nothing outside these cells has changed -/
def KM (Mod : List Nat) (h h' : ev_H) : Prop := ∀ k, k ∉ Mod → h' k = h k
theorem KM_rf {Mod : List Nat} (h : ev_H) : KM Mod h h := fun _ _ => rfl
theorem KM_up {Mod : List Nat} {h0 h : ev_H} {a : Nat} {x : va_E} (hF : KM Mod h0 h) (ha : a ∈ Mod) : KM Mod h0 (va_up h a x) := fun k hk => (va_up_ne (k := a) (j := k) _ _ (fun e => hk (by rw [e]; exact ha))).trans (hF k hk)
theorem KM_tr {Mod : List Nat} {a b c : ev_H} (h1 : KM Mod a b) (h2 : KM Mod b c) : KM Mod a c := fun k hk => (h2 k hk).trans (h1 k hk)
theorem KM_sb {Mod Mod' : List Nat} {a b : ev_H} (hs : ∀ k ∈ Mod', k ∈ Mod) (h : KM Mod' a b) : KM Mod a b := fun k hk => h k (fun z => hk (hs k z))
def LA (a n : Nat) : Prop := (2 ≤ a ∧ a < 434) ∧ cs0 a = .inl (1, n, .inr (.inl (fun _ => 0)))
def LI (a n : Nat) : Prop := (2 ≤ a ∧ a < 434) ∧ cs0 a = .inl (0, n, .inl (fun _ => 0))
theorem SH.la {h : ev_H} {a n : Nat} (hS : SH h) (ha : LA a n) : ∃ g, h a = .inl (1, n, .inr (.inl g)) := by
  have := hS.2 a ha.1.1 ha.1.2
  rw [ha.2] at this
  exact this
theorem SH.li {h : ev_H} {a n : Nat} (hS : SH h) (ha : LI a n) : ∃ g, h a = .inl (0, n, .inl g) := by
  have := hS.2 a ha.1.1 ha.1.2
  rw [ha.2] at this
  exact this
theorem LI_421 : LI 421 300 := ⟨by decide, rfl⟩
theorem LI_422 : LI 422 240 := ⟨by decide, rfl⟩
theorem LI_423 : LI 423 48 := ⟨by decide, rfl⟩
theorem LI_424 : LI 424 72 := ⟨by decide, rfl⟩
theorem LA_425 : LA 425 160 := ⟨by decide, rfl⟩
theorem LA_426 : LA 426 480 := ⟨by decide, rfl⟩
theorem LA_427 : LA 427 4 := ⟨by decide, rfl⟩
theorem LA_428 : LA 428 4 := ⟨by decide, rfl⟩
theorem LA_429 : LA 429 4 := ⟨by decide, rfl⟩
theorem LA_430 : LA 430 4 := ⟨by decide, rfl⟩
theorem LA_431 : LA 431 4 := ⟨by decide, rfl⟩
theorem LA_432 : LA 432 4 := ⟨by decide, rfl⟩
theorem LA_433 : LA 433 4 := ⟨by decide, rfl⟩
section MR
variable {xs : Nat → Int32} {L d : Nat} {M : ev_M} {h h0 : ev_H} {pc pc' : Nat} {ls : ev_L} {st : List Value} {Q : ev_Q} {Mod : List Nat}
theorem m_last {a n : Nat} {j : Int32} {x : Int64} {f : Nat → Int64} (hp : pc + 1 = pc') (hd : decode M.2.1 pc = .ok (.lastore, 1)) (ha : 2 ≤ a ∧ a < 434) (hS : SH h) (hF : KM Mod h0 h) (hm : a ∈ Mod) (hh : h a = .inl (1, n, .inr (.inl f))) (hj : vp_in j n) (k : ∀ h', SH h' → KM Mod h0 h' → KM [a] h h' → EV xs L d 0 0 M 434 h' pc' ls st Q) : EV xs L d 0 0 M 434 h pc ls (.long x :: .int j :: .ref a :: st) Q :=
  r_last hp hd ha.1 ha.2 hh hj rfl (k _ (hS.up (by rw [hh]; exact ⟨_, rfl⟩) trivial) (KM_up hF hm) (KM_up (KM_rf _) (List.mem_singleton.mpr rfl)))
theorem m_iast {a n : Nat} {j x : Int32} {f : Nat → Int32} (hp : pc + 1 = pc') (hd : decode M.2.1 pc = .ok (.iastore, 1)) (ha : 2 ≤ a ∧ a < 434) (hS : SH h) (hF : KM Mod h0 h) (hm : a ∈ Mod) (hh : h a = .inl (0, n, .inl f)) (hj : vp_in j n) (k : ∀ h', SH h' → KM Mod h0 h' → KM [a] h h' → EV xs L d 0 0 M 434 h' pc' ls st Q) : EV xs L d 0 0 M 434 h pc ls (.int x :: .int j :: .ref a :: st) Q :=
  r_iast hp hd ha.1 ha.2 hh hj rfl (k _ (hS.up (by rw [hh]; exact ⟨_, rfl⟩) trivial) (KM_up hF hm) (KM_up (KM_rf _) (List.mem_singleton.mpr rfl)))
theorem m_put {idx : Nat} {fs fs' : List Value} {v : Value} (f : Nat) (hp : pc + 3 = pc') (hd : decode M.2.1 pc = .ok (.putfield idx, 3)) (hS : SH h) (hF : KM Mod h0 h) (hm : 420 ∈ Mod) (hh : h 420 = .inr (12, fs)) (hf : ev_fp 0 M.1 idx 12 f v) (hl : f < fs.length) (he : fs.set f v = fs') (k : ∀ h', SH h' → KM Mod h0 h' → h' 420 = .inr (12, fs') → EV xs L d 0 0 M 434 h' pc' ls st Q) : EV xs L d 0 0 M 434 h pc ls (v :: .ref 420 :: st) Q :=
  k_putx f hp hd ⟨by decide, by decide⟩ hS hh hf hl he (fun h' eh hs => k h' hs (by rw [eh]; exact KM_up hF hm) (by rw [eh]; exact va_up_self _ _ _))
end MR
theorem inR_nat {x : Int32} {a b : Nat} (hb : a < 2 ^ 31 ∧ b < 2 ^ 31) (c : ¬ inR x (nI a) (nI b) = 0) : ∃ j : Nat, a ≤ j ∧ j ≤ b ∧ x = nI j := by
  unfold inR at c
  split at c
  · exact absurd rfl c
  · rename_i h1
    split at c
    · exact absurd rfl c
    · rename_i h2
      have h0 : ¬ x < 0 := fun z => h1 (by
        rw [Int32.lt_iff_toInt_lt] at z ⊢
        rw [nI_toInt hb.1]
        have e : (0 : Int32).toInt = 0 := rfl
        rw [e] at z
        omega)
      obtain ⟨j, hj, rfl⟩ := nI_of h0
      refine ⟨j, ?_, ?_, rfl⟩
      · exact Nat.not_lt.mp (fun z => h1 ((nI_ltI hj hb.1).mpr z))
      · exact Nat.not_lt.mp (fun z => h2 ((nI_ltI hb.2 hj).mpr z))
theorem inR_z (x a b : Int32) : inR x a b = 0 ∨ inR x a b = 1 := by
  unfold inR
  split
  · exact Or.inl rfl
  · split
    · exact Or.inl rfl
    · exact Or.inr rfl
def sh1 (c : Nat) : Nat := 2 ^ c
theorem sh1_d : ∀ c : Fin 17, (1 : Int32) <<< (nI c.1 &&& 31) = nI (sh1 c.1) ∧ sh1 c.1 ≤ 65536 := by decide +kernel
theorem sh1_e {c : Nat} (h : c ≤ 16) : (1 : Int32) <<< (nI c &&& 31) = nI (sh1 c) := (sh1_d ⟨c, by omega⟩).1
theorem sh1_le {c : Nat} (h : c ≤ 16) : sh1 c ≤ 65536 := (sh1_d ⟨c, by omega⟩).2
def xr8 (w l : Nat) : Nat := w ^^^ 2 ^ l
theorem xr8_d : ∀ l : Fin 8, ∀ w : Fin 256, nI w.1 ^^^ ((1 : Int32) <<< (nI l.1 &&& 31)) = nI (xr8 w.1 l.1) ∧ xr8 w.1 l.1 < 256 := by decide +kernel
theorem xr8_e {w l : Nat} (h : w < 256) (hl : l < 8) : nI w ^^^ ((1 : Int32) <<< (nI l &&& 31)) = nI (xr8 w l) := (xr8_d ⟨l, hl⟩ ⟨w, h⟩).1
theorem xr8_lt {w l : Nat} (h : w < 256) (hl : l < 8) : xr8 w l < 256 := (xr8_d ⟨l, hl⟩ ⟨w, h⟩).2
theorem nI_pm {n : Nat} (h : n < 2 ^ 31) : nI n - 1 < nI n := by
  rcases Nat.eq_zero_or_pos n with rfl | q
  · decide
  · obtain ⟨m, rfl⟩ : ∃ m, n = m + 1 := ⟨n - 1, by omega⟩
    rw [nI_pred]
    exact nI_lt (by omega) h
