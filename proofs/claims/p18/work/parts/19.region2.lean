theorem k_putx {xs : Nat → Int32} {L d : Nat} {M : ev_M} {sz : Nat} {h : ev_H} {pc pc' : Nat} {ls : ev_L} {st : List Value} {Q : ev_Q} {idx a ci : Nat} {fs fs' : List Value} {v : Value} (f : Nat) (hp : pc + 3 = pc') (hd : decode M.2.1 pc = .ok (.putfield idx, 3)) (ha : 2 ≤ a ∧ a < sz) (hS : SH h) (hh : h a = .inr (ci, fs)) (hf : ev_fp 0 M.1 idx ci f v) (hl : f < fs.length) (he : fs.set f v = fs') (k : ∀ h', h' = va_up h a (.inr (ci, fs')) → SH h' → EV xs L d 0 0 M sz h' pc' ls st Q) : EV xs L d 0 0 M sz h pc ls (v :: .ref a :: st) Q := r_put hp hd ha.1 ha.2 hh f hf hl he (k _ rfl (by rw [← he]; exact hS.up (put_ok hS.1 hh hf hl).1 (put_ok hS.1 hh hf hl).2))
theorem k_iastx {xs : Nat → Int32} {L d : Nat} {M : ev_M} {sz : Nat} {h : ev_H} {pc pc' : Nat} {ls : ev_L} {st : List Value} {Q : ev_Q} {a n : Nat} {j x : Int32} {f : Nat → Int32} (hp : pc + 1 = pc') (hd : decode M.2.1 pc = .ok (.iastore, 1)) (ha : 2 ≤ a ∧ a < sz) (hS : SH h) (hh : h a = .inl (0, n, .inl f)) (hj : vp_in j n) (k : ∀ h', h' = va_up h a (.inl (0, n, .inl (upd f j.toNatClampNeg x))) → SH h' → EV xs L d 0 0 M sz h' pc' ls st Q) : EV xs L d 0 0 M sz h pc ls (.int x :: .int j :: .ref a :: st) Q := r_iast hp hd ha.1 ha.2 hh hj rfl (k _ rfl (hS.up (by rw [hh]; exact ⟨_, rfl⟩) trivial))
theorem cs0_none2 (k : Nat) : ∀ t n f, cs0 k = .inl (t, n, .inr (.inr (.inr (.inr f)))) → ∀ j, 40 ≤ j → f j = none := by
  intro t n f he j hj
  unfold cs0 at he
  split at he <;> first | (cases he; done) | skip
  · cases he
    show (if j < _ then _ else _) = none
    exact if_neg (by omega)
  · cases he
    show (if j < _ then _ else _) = none
    exact if_neg (by omega)
  · cases he
    show (if j < _ then _ else _) = none
    exact if_neg (by omega)
  · split at he
    · split at he <;> cases he
    · split at he
      · split at he <;> cases he
      · split at he
        · cases he
        · split at he
          · cases he
            show (if j < _ then _ else _) = none
            exact if_neg (by omega)
          · split at he <;> cases he
theorem clo_R {Rb : Nat → Bool} (hb : ∀ k, Rb k = true → k < 434) (hd : ∀ k, k < 434 → 2 ≤ k → Rb k = true → rfB Rb (cs0 k) 40 = true) {h : ev_H} (hS : SH h) : clo (fun k => Rb k = true) h := by
  intro k h2 hk
  have h3 := hb k hk
  refine rfe_sse (hS.2 k h2 h3) (hS.1 k) (fun c hc => dp_fin c ?_) (rfB_ok (Rb := Rb) (fun a ha => ha) (cs0_none2 k) (hd k h3 h2 hk))
  obtain ⟨fs, hf⟩ := hc
  have := cs0_cls k h3 h2
  rw [hf] at this
  exact of_decide_eq_true this
/-- lines and the core's sets -/
def RLb (k : Nat) : Bool := k == 1 || (decide (27 ≤ k) && decide (k < 95)) || (decide (100 ≤ k) && decide (k < 420))
theorem RLb_d : ∀ k, k < 434 → 2 ≤ k → RLb k = true → rfB RLb (cs0 k) 40 = true := by decide +kernel
theorem RLb_b : ∀ k, RLb k = true → k < 434 := by
  intro k hk
  simp [RLb] at hk
  omega
theorem EV.shL {xs : Nat → Int32} {L d : Nat} {M : ev_M} {sz : Nat} {h : ev_H} {ls : ev_L} {Q : ev_Q} (hE : EV xs L d 0 0 M sz h 0 ls [] Q) (hS : SH h) (hl : okl (fun k => RLb k = true) ls) : EV xs L d 0 0 M sz h 0 ls [] (fun sz' h' r => Q sz' h' r ∧ sz' = sz ∧ SH h' ∧ (∀ k, RLb k = false → h' k = h k)) :=
  EV.post (fun _ _ _ q => ⟨q.1, q.2.1, q.2.2.1, fun k hk => q.2.2.2 k (by rw [hk]; decide)⟩) (EV.shR (fun k => RLb k = true) rfl hE hS (clo_R RLb_b RLb_d hS) hl (fun _ h => by cases h))
theorem RLb_ln {i : Nat} (hi : i < 40) : RLb (100 + 8 * i) = true := by
  simp [RLb]
  omega
theorem RLb_hold {j : Nat} (hj : j < 16) : RLb (27 + 2 * j) = true := by
  simp [RLb]
  omega
abbrev c24 (cc kn bs bz : Int32) : va_E := .inr (0, [.ref 25, .ref 26, .int cc, .int kn, .int bs, .int bz])
/-- all cells of the object but itself, its text and its reader -/
def RCb (k : Nat) : Bool := k == 1 || (decide (12 ≤ k) && decide (k < 420))
theorem RCb_d : ∀ k, k < 434 → 2 ≤ k → RCb k = true → rfB RCb (cs0 k) 40 = true := by decide +kernel
theorem RCb_b : ∀ k, RCb k = true → k < 434 := by
  intro k hk
  simp [RCb] at hk
  omega
theorem EV.shC {xs : Nat → Int32} {L d : Nat} {M : ev_M} {sz : Nat} {h : ev_H} {ls : ev_L} {Q : ev_Q} (hE : EV xs L d 0 0 M sz h 0 ls [] Q) (hS : SH h) (hl : okl (fun k => RCb k = true) ls) : EV xs L d 0 0 M sz h 0 ls [] (fun sz' h' r => Q sz' h' r ∧ sz' = sz ∧ SH h' ∧ (∀ k, RCb k = false → h' k = h k)) :=
  EV.post (fun _ _ _ q => ⟨q.1, q.2.1, q.2.2.1, fun k hk => q.2.2.2 k (by rw [hk]; decide)⟩) (EV.shR (fun k => RCb k = true) rfl hE hS (clo_R RCb_b RCb_d hS) hl (fun _ h => by cases h))
