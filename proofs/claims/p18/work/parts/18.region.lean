/-- all cells of the object but itself, its text, its reader and its core -/
def RB (k : Nat) : Prop := k = 1 ∨ (12 ≤ k ∧ k < 420 ∧ k ≠ 24)
theorem rfe_sse {R : Nat → Prop} {x y : va_E} (hs : sse x y) (hw : wte y) (hc : ∀ c, (∃ fs, x = .inr (c, fs)) → ∃ q, dp_cl[c]? = some q ∧ ∀ k, k < q.2.2 → (q.2.1 k).2.2.2 = true ∨ dp_ty c k = .int ∨ dp_ty c k = .long ∨ dp_ty c k = .boolean) (hx : rfe R x) : rfe R y := by
  obtain ⟨t, n, f | f | f | f | f⟩ | ⟨c, fs⟩ := x
  · obtain ⟨g, rfl⟩ := hs
    trivial
  · obtain ⟨g, rfl⟩ := hs
    trivial
  · cases hs
    exact hx
  · cases hs
    exact hx
  · cases hs
    exact hx
  · obtain ⟨gs, rfl, hf⟩ := hs
    obtain ⟨q, hq, hk⟩ := hc c ⟨fs, rfl⟩
    obtain ⟨hl, hv⟩ := hw q hq
    intro k a hka
    have hlt : k < q.2.2 := by
      rw [← hl]
      exact (List.getElem?_eq_some_iff.mp hka).1
    rcases hk k hlt with h1 | h1 | h1 | h1
    · exact hx k a (by rw [← hf q hq k h1]; exact hka)
    · have := hv k _ hka
      rw [h1] at this
      obtain ⟨z, hz⟩ := this
      cases hz
    · have := hv k _ hka
      rw [h1] at this
      obtain ⟨z, hz⟩ := this
      cases hz
    · have := hv k _ hka
      rw [h1] at this
      obtain ⟨z, hz⟩ := this
      cases hz
theorem dp_fin : ∀ c, c < 13 → ∃ q, dp_cl[c]? = some q ∧ ∀ k, k < q.2.2 → (q.2.1 k).2.2.2 = true ∨ dp_ty c k = .int ∨ dp_ty c k = .long ∨ dp_ty c k = .boolean := by
  intro c hc
  match c, hc with
  | 0, _ => exact ⟨_, rfl, by decide⟩
  | 1, _ => exact ⟨_, rfl, by decide⟩
  | 2, _ => exact ⟨_, rfl, by decide⟩
  | 3, _ => exact ⟨_, rfl, by decide⟩
  | 4, _ => exact ⟨_, rfl, by decide⟩
  | 5, _ => exact ⟨_, rfl, by decide⟩
  | 6, _ => exact ⟨_, rfl, by decide⟩
  | 7, _ => exact ⟨_, rfl, by decide⟩
  | 8, _ => exact ⟨_, rfl, by decide⟩
  | 9, _ => exact ⟨_, rfl, by decide⟩
  | 10, _ => exact ⟨_, rfl, by decide⟩
  | 11, _ => exact ⟨_, rfl, by decide⟩
  | 12, _ => exact ⟨_, rfl, by decide⟩
def rfB (R : Nat → Bool) (x : va_E) (m : Nat) : Bool := match x with
  | .inl (_, _, .inr (.inr (.inr (.inr f)))) => (List.range m).all (fun j => match f j with
    | some a => R a
    | none => true)
  | .inl _ => true
  | .inr (_, fs) => fs.all (fun v => match v with
    | .ref a => R a
    | _ => true)
theorem rfB_ok {R : Nat → Prop} {Rb : Nat → Bool} (hR : ∀ a, Rb a = true → R a) {x : va_E} {m : Nat} (hm : ∀ t n f, x = .inl (t, n, .inr (.inr (.inr (.inr f)))) → ∀ j, m ≤ j → f j = none) (h : rfB Rb x m = true) : rfe R x := by
  obtain ⟨t, n, f | f | f | f | f⟩ | ⟨c, fs⟩ := x
  · trivial
  · trivial
  · trivial
  · trivial
  · intro j a hja
    have h1 := List.all_eq_true.mp h
    by_cases hj : j < m
    · have := h1 j (List.mem_range.mpr hj)
      rw [hja] at this
      exact hR a this
    · have := hm t n f rfl j (by omega)
      rw [this] at hja
      cases hja
  · intro k a hka
    have := List.all_eq_true.mp h _ (List.mem_of_getElem? hka)
    exact hR a this
theorem cs0_cls : ∀ k, k < 434 → 2 ≤ k → (match cs0 k with | .inr (c, _) => decide (c < 13) | _ => true) = true := by decide +kernel
theorem cs0_RB : ∀ k, k < 420 → 12 ≤ k → k ≠ 24 → rfB (fun a => a == 1 || (decide (12 ≤ a) && (decide (a < 420) && decide (a ≠ 24)))) (cs0 k) 40 = true := by decide +kernel
theorem cs0_none {k : Nat} (h2 : 12 ≤ k) (h3 : k < 420) : ∀ t n f, cs0 k = .inl (t, n, .inr (.inr (.inr (.inr f)))) → ∀ j, 40 ≤ j → f j = none := by
  intro t n f he j hj
  unfold cs0 at he
  split at he <;> first | (cases he; done) | skip
  · cases he
    show (if j < _ then _ else _) = none
    exact if_neg (by omega)
  · cases he
    show (if j < _ then _ else _) = none
    exact if_neg (by omega)
  · cases he
    show (if j < _ then _ else _) = none
    exact if_neg (by omega)
  · split at he
    · split at he <;> cases he
    · split at he
      · split at he <;> cases he
      · split at he
        · cases he
        · split at he
          · cases he
            show (if j < _ then _ else _) = none
            exact if_neg (by omega)
          · split at he <;> cases he
theorem clo_RB {h : ev_H} (hS : SH h) : clo RB h := by
  intro k hk2 hk
  rcases hk with rfl | ⟨h1, h2, h3⟩
  · omega
  · refine rfe_sse (hS.2 k (by omega) (by omega)) (hS.1 k) (fun c hc => dp_fin c ?_) (rfB_ok (Rb := fun a => a == 1 || (decide (12 ≤ a) && (decide (a < 420) && decide (a ≠ 24)))) (fun a ha => ?_) (cs0_none h1 h2) (cs0_RB k h2 h1 h3))
    · obtain ⟨fs, hf⟩ := hc
      have := cs0_cls k (by omega) (by omega)
      rw [hf] at this
      exact of_decide_eq_true this
    · rcases Bool.or_eq_true_iff.mp ha with ha | ha
      · exact Or.inl (by simpa using ha)
      · obtain ⟨g1, g2⟩ := Bool.and_eq_true_iff.mp ha
        obtain ⟨g2, g3⟩ := Bool.and_eq_true_iff.mp g2
        exact Or.inr ⟨of_decide_eq_true g1, of_decide_eq_true g2, of_decide_eq_true g3⟩
theorem okl_n {R : Nat → Prop} : okl R [] := fun j v h => by simp at h
theorem okl_c {R : Nat → Prop} {v : Value} {l : ev_L} (hv : vr R v) (h : okl R l) : okl R (some v :: l) := fun j w hw => by
  match j, hw with
  | 0, hw => cases hw; exact hv
  | j + 1, hw => exact h j w hw
theorem okl_o {R : Nat → Prop} {l : ev_L} (h : okl R l) : okl R (none :: l) := fun j w hw => by
  match j, hw with
  | 0, hw => cases hw
  | j + 1, hw => exact h j w hw
theorem vr_r {R : Nat → Prop} {a : Nat} (h : R a) : vr R (.ref a) := fun b hb => by cases hb; exact h
theorem EV.shB {xs : Nat → Int32} {L d : Nat} {M : ev_M} {sz : Nat} {h : ev_H} {ls : ev_L} {Q : ev_Q} (hE : EV xs L d 0 0 M sz h 0 ls [] Q) (hS : SH h) (hl : okl RB ls) : EV xs L d 0 0 M sz h 0 ls [] (fun sz' h' r => Q sz' h' r ∧ sz' = sz ∧ SH h' ∧ (∀ k, ¬ RB k → h' k = h k)) :=
  EV.shR RB (Or.inl rfl) hE hS (clo_RB hS) hl (fun _ h => by cases h)
theorem RB_n {k : Nat} (h : k ≠ 1) (h2 : k < 12 ∨ 420 ≤ k ∨ k = 24) : ¬ RB k := fun q => by
  rcases q with q | q
  · exact h q
  · omega
