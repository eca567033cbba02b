theorem SH.o25 {h : ev_H} (hS : SH h) : h 25 = .inl (3, 16, .inr (.inr (.inr (.inr (fun j => if j < 16 then some (27 + 2 * j) else none))))) := hS.2 25 (by decide) (by decide)
theorem SH.o26 {h : ev_H} (hS : SH h) : h 26 = .inl (3, 17, .inr (.inr (.inr (.inr (fun j => if j < 17 then some (59 + 2 * j) else none))))) := hS.2 26 (by decide) (by decide)
theorem wsAt_hold {j : Nat} (hj : j < 16) : wsAt (27 + 2 * j) := wsAt_core (by omega)
theorem wsAt_open {j : Nat} (hj : j < 17) : wsAt (59 + 2 * j) := by
  have := wsAt_core (j := 16 + j) (by omega)
  rwa [show 27 + 2 * (16 + j) = 59 + 2 * j by omega] at this
theorem SH.o95 {h : ev_H} (hS : SH h) : ∃ x : Int64, h 95 = .inr (9, [.long x]) := ob_X9 (hS.2 95 (by decide) (by decide)) (hS.1 95)
theorem ob_0 {y : va_E} {c : Nat} {q : vw_C} (hq : dp_cl[c]? = some q) (hN : q.2.2 = 0) (hs : sse (.inr (c, [])) y) (hw : wte y) : y = .inr (c, []) := by
  obtain ⟨gs, rfl, hf⟩ := hs
  obtain ⟨hl, hk⟩ := hw _ hq
  rw [hN] at hl
  match gs, hl with
  | [], _ => rfl
theorem SH.o96 {h : ev_H} (hS : SH h) : h 96 = .inr (6, []) := ob_0 (q := (RX6, TX6, 0)) rfl rfl (hS.2 96 (by decide) (by decide)) (hS.1 96)
theorem SH.o97 {h : ev_H} (hS : SH h) : h 97 = .inr (2, []) := ob_0 (q := (RX2, TX2, 0)) rfl rfl (hS.2 97 (by decide) (by decide)) (hS.1 97)
theorem SH.o98 {h : ev_H} (hS : SH h) : h 98 = .inr (5, []) := ob_0 (q := (RX5, TX5, 0)) rfl rfl (hS.2 98 (by decide) (by decide)) (hS.1 98)
theorem SH.o99 {h : ev_H} (hS : SH h) : h 99 = .inr (1, []) := ob_0 (q := (RX1, TX1, 0)) rfl rfl (hS.2 99 (by decide) (by decide)) (hS.1 99)
theorem SH.ia6 {h : ev_H} (hS : SH h) : ∃ g, h 6 = .inl (0, 16, .inl g) := hS.2 6 (by decide) (by decide)
theorem SH.ia7 {h : ev_H} (hS : SH h) : ∃ g, h 7 = .inl (0, 16, .inl g) := hS.2 7 (by decide) (by decide)
theorem SH.ia8 {h : ev_H} (hS : SH h) : ∃ g, h 8 = .inl (0, 16, .inl g) := hS.2 8 (by decide) (by decide)
theorem SH.ia9 {h : ev_H} (hS : SH h) : ∃ g, h 9 = .inl (0, 24, .inl g) := hS.2 9 (by decide) (by decide)
theorem SH.ia10 {h : ev_H} (hS : SH h) : ∃ g, h 10 = .inl (0, 24, .inl g) := hS.2 10 (by decide) (by decide)
theorem SH.ia11 {h : ev_H} (hS : SH h) : ∃ g, h 11 = .inl (0, 24, .inl g) := hS.2 11 (by decide) (by decide)
