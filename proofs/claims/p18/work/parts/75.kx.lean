/-- the cells of the sets' parts -/
def SP (k : Nat) : Prop := ∃ a, wsAt a ∧ k = a + 1
theorem SP_ws {a : Nat} (ha : wsAt a) : SP (a + 1) := ⟨a, ha, rfl⟩
theorem nSP {k : Nat} (h : ∀ z, cs0 k ≠ .inl (1, 4, .inr (.inl z))) : ¬ SP k := fun ⟨a, ha, e⟩ => h _ (by rw [e]; exact ha.2.1)
theorem nSP_2 : ¬ SP 2 := nSP (fun z e => by cases e)
theorem nSP_3 : ¬ SP 3 := nSP (fun z e => by cases e)
theorem nSP_4 : ¬ SP 4 := nSP (fun z e => by cases e)
theorem nSP_5 : ¬ SP 5 := nSP (fun z e => by cases e)
theorem nSP_6 : ¬ SP 6 := nSP (fun z e => by cases e)
theorem nSP_7 : ¬ SP 7 := nSP (fun z e => by cases e)
theorem nSP_8 : ¬ SP 8 := nSP (fun z e => by cases e)
theorem nSP_9 : ¬ SP 9 := nSP (fun z e => by cases e)
theorem nSP_10 : ¬ SP 10 := nSP (fun z e => by cases e)
theorem nSP_11 : ¬ SP 11 := nSP (fun z e => by cases e)
theorem nSP_12 : ¬ SP 12 := nSP (fun z e => by cases e)
theorem nSP_13 : ¬ SP 13 := nSP (fun z e => by cases e)
theorem nSP_24 : ¬ SP 24 := nSP (fun z e => by cases e)
theorem nSP_95 : ¬ SP 95 := nSP (fun z e => by cases e)
theorem nSP_ln {i : Nat} (hi : i < 40) : ¬ SP (100 + 8 * i) := nSP (fun z e => by rw [cs0_line hi] at e; cases e)
theorem wsAt_lt {a : Nat} (h : wsAt a) : a + 1 < 420 := by
  obtain ⟨h1, h2, h3, h4⟩ := h
  refine Nat.not_le.mp (fun z => ?_)
  have : ∀ k : Fin 434, 419 ≤ k.1 → (match cs0 k.1 with | .inr (10, _) => true | _ => false) = false := by decide +kernel
  have q := this ⟨a, by omega⟩ (by show 419 ≤ a; omega)
  rw [h1] at q
  cases q
theorem nSP_m {k : Nat} (hk : 420 ≤ k) : ¬ SP k := fun ⟨a, ha, e⟩ => by
  have := wsAt_lt ha
  omega
/-- nothing but these cells and the sets' parts has changed -/
def KX (l : List Nat) (h h' : ev_H) : Prop := ∀ k, k ∉ l → ¬ SP k → h' k = h k
theorem KX_rf {l : List Nat} (h : ev_H) : KX l h h := fun _ _ _ => rfl
theorem KX_tr {l : List Nat} {a b c : ev_H} (h1 : KX l a b) (h2 : KX l b c) : KX l a c := fun k hk hs => (h2 k hk hs).trans (h1 k hk hs)
theorem KX_sb {l l' : List Nat} {a b : ev_H} (hs : ∀ k ∈ l', k ∈ l) (h : KX l' a b) : KX l a b := fun k hk => h k (fun z => hk (hs k z))
theorem KX_p {l : List Nat} {h h' : ev_H} {a : Nat} {x : va_E} (ha : wsAt a) (e : h' = va_up h (a + 1) x) : KX l h h' := fun k _ hs => by rw [e]; exact va_up_ne _ _ (fun z => hs (by rw [z]; exact SP_ws ha))
theorem KX_M {l : List Nat} {h h' : ev_H} {Mod : List Nat} (hs : ∀ k ∈ Mod, k ∈ l) (hk : KM Mod h h') : KX l h h' := fun k z _ => hk k (fun e => z (hs k e))
theorem SH_p {h h' : ev_H} {a : Nat} {g : Nat → Int64} (hS : SH h) (ha : wsAt a) (e : h' = va_up h (a + 1) (.inl (1, 4, .inr (.inl g)))) : SH h' := by
  obtain ⟨z, hz⟩ := hS.ws ha
  rw [e]
  exact hS.up (by rw [hz.2.2.2]; exact ⟨_, rfl⟩) trivial
abbrev c13 (lo lt fk fs : Int32) : va_E := .inr (7, [.ref 14, .ref 16, .ref 18, .ref 20, .ref 22, .int lo, .int lt, .int fk, .int fs])
abbrev cLn (i : Nat) (p t o a b l : Int32) : va_E := .inr (3, [.ref (101 + 8 * i), .int p, .int t, .int o, .int a, .int b, .int l])
