/-- the cells as the makers leave them: kinds, lengths, what each refers to -/
def cs0 (k : Nat) : va_E := match k with
  | 2 => .inr (11, [.ref 3, .ref 5, .ref 12, .ref 13, .ref 24, .ref 93, .ref 95, .ref 96, .ref 97, .ref 98, .ref 99, .int 0, .int 0, .int 0, .int 0, .int 0])
  | 3 => .inr (8, [.ref 4, .int 0, .int 0, .int 0, .int 0, .int 0])
  | 4 => .inl (2, 300, .inl (fun _ => 0))
  | 5 => .inr (4, [.ref 6, .ref 7, .ref 8, .int 0, .int 0, .int 0, .ref 9, .ref 10, .ref 11, .int 0])
  | 6 => .inl (0, 16, .inl (fun _ => 0))
  | 7 => .inl (0, 16, .inl (fun _ => 0))
  | 8 => .inl (0, 16, .inl (fun _ => 0))
  | 9 => .inl (0, 24, .inl (fun _ => 0))
  | 10 => .inl (0, 24, .inl (fun _ => 0))
  | 11 => .inl (0, 24, .inl (fun _ => 0))
  | 12 => .inl (4, 40, .inr (.inr (.inr (.inr (fun j => if j < 40 then some (100 + 8 * j) else none)))))
  | 13 => .inr (7, [.ref 14, .ref 16, .ref 18, .ref 20, .ref 22, .int 0, .int 0, .int 0, .int 0])
  | 24 => .inr (0, [.ref 25, .ref 26, .int 0, .int 0, .int 0, .int 0])
  | 25 => .inl (3, 16, .inr (.inr (.inr (.inr (fun j => if j < 16 then some (27 + 2 * j) else none)))))
  | 26 => .inl (3, 17, .inr (.inr (.inr (.inr (fun j => if j < 17 then some (59 + 2 * j) else none)))))
  | 95 => .inr (9, [.long 0])
  | 96 => .inr (6, [])
  | 97 => .inr (2, [])
  | 98 => .inr (5, [])
  | 99 => .inr (1, [])
  | 420 => .inr (12, [.int 0, .long 0, .ref 421, .int 0, .int 0, .int 0, .int 0, .int 0, .int 0, .int 0, .int 0, .int 0, .int 0, .ref 422, .ref 423, .ref 424, .ref 425, .ref 426, .ref 427, .ref 428, .ref 429, .ref 430, .ref 431, .ref 432, .ref 433])
  | 421 => .inl (0, 300, .inl (fun _ => 0))
  | 422 => .inl (0, 240, .inl (fun _ => 0))
  | 423 => .inl (0, 48, .inl (fun _ => 0))
  | 424 => .inl (0, 72, .inl (fun _ => 0))
  | 425 => .inl (1, 160, .inr (.inl (fun _ => 0)))
  | 426 => .inl (1, 480, .inr (.inl (fun _ => 0)))
  | 427 => .inl (1, 4, .inr (.inl (fun _ => 0)))
  | 428 => .inl (1, 4, .inr (.inl (fun _ => 0)))
  | 429 => .inl (1, 4, .inr (.inl (fun _ => 0)))
  | 430 => .inl (1, 4, .inr (.inl (fun _ => 0)))
  | 431 => .inl (1, 4, .inr (.inl (fun _ => 0)))
  | 432 => .inl (1, 4, .inr (.inl (fun _ => 0)))
  | 433 => .inl (1, 4, .inr (.inl (fun _ => 0)))
  | k => if k < 24 then (if k % 2 = 0 then .inr (10, [.ref (k + 1)]) else .inl (1, 4, .inr (.inl (fun _ => 0)))) else if k < 95 then (if k % 2 = 1 then .inr (10, [.ref (k + 1)]) else .inl (1, 4, .inr (.inl (fun _ => 0)))) else
    if (k - 100) % 8 = 0 then .inr (3, [.ref (k + 1), .int 0, .int 0, .int 0, .int 0, .int 0, .int 0]) else if (k - 100) % 8 = 1 then .inl (3, 3, .inr (.inr (.inr (.inr (fun j => if j < 3 then some (k + 1 + 2 * j) else none))))) else
    if k % 2 = 0 then .inr (10, [.ref (k + 1)]) else .inl (1, 4, .inr (.inl (fun _ => 0)))
def SH (h : ev_H) : Prop := WTH h ∧ ∀ k, 2 ≤ k → k < 434 → sse (cs0 k) (h k)
theorem ob_X0 {y : va_E} {a0 a1 : Nat} {u2 u3 u4 u5 : Value} (hs : sse (.inr (0, [.ref a0, .ref a1, u2, u3, u4, u5])) y) (hw : wte y) : ∃ (x2 : Int32) (x3 : Int32) (x4 : Int32) (x5 : Int32), y = .inr (0, [.ref a0, .ref a1, .int x2, .int x3, .int x4, .int x5]) := by
  obtain ⟨gs, rfl, hf⟩ := hs
  obtain ⟨hl, hk⟩ := hw _ rfl
  match gs, hl with
  | [g0, g1, g2, g3, g4, g5], _ =>
    obtain rfl : g0 = .ref a0 := Option.some.inj (hf _ rfl 0 rfl)
    obtain rfl : g1 = .ref a1 := Option.some.inj (hf _ rfl 1 rfl)
    obtain ⟨x2, rfl⟩ := hk 2 _ rfl
    obtain ⟨x3, rfl⟩ := hk 3 _ rfl
    obtain ⟨x4, rfl⟩ := hk 4 _ rfl
    obtain ⟨x5, rfl⟩ := hk 5 _ rfl
    exact ⟨x2, x3, x4, x5, rfl⟩
theorem ob_X3 {y : va_E} {a0 : Nat} {u1 u2 u3 u4 u5 u6 : Value} (hs : sse (.inr (3, [.ref a0, u1, u2, u3, u4, u5, u6])) y) (hw : wte y) : ∃ (x1 : Int32) (x2 : Int32) (x3 : Int32) (x4 : Int32) (x5 : Int32) (x6 : Int32), y = .inr (3, [.ref a0, .int x1, .int x2, .int x3, .int x4, .int x5, .int x6]) := by
  obtain ⟨gs, rfl, hf⟩ := hs
  obtain ⟨hl, hk⟩ := hw _ rfl
  match gs, hl with
  | [g0, g1, g2, g3, g4, g5, g6], _ =>
    obtain rfl : g0 = .ref a0 := Option.some.inj (hf _ rfl 0 rfl)
    obtain ⟨x1, rfl⟩ := hk 1 _ rfl
    obtain ⟨x2, rfl⟩ := hk 2 _ rfl
    obtain ⟨x3, rfl⟩ := hk 3 _ rfl
    obtain ⟨x4, rfl⟩ := hk 4 _ rfl
    obtain ⟨x5, rfl⟩ := hk 5 _ rfl
    obtain ⟨x6, rfl⟩ := hk 6 _ rfl
    exact ⟨x1, x2, x3, x4, x5, x6, rfl⟩
theorem ob_X4 {y : va_E} {a0 a1 a2 a6 a7 a8 : Nat} {u3 u4 u5 u9 : Value} (hs : sse (.inr (4, [.ref a0, .ref a1, .ref a2, u3, u4, u5, .ref a6, .ref a7, .ref a8, u9])) y) (hw : wte y) : ∃ (x3 : Int32) (x4 : Int32) (x5 : Int32) (x9 : Int32), y = .inr (4, [.ref a0, .ref a1, .ref a2, .int x3, .int x4, .int x5, .ref a6, .ref a7, .ref a8, .int x9]) := by
  obtain ⟨gs, rfl, hf⟩ := hs
  obtain ⟨hl, hk⟩ := hw _ rfl
  match gs, hl with
  | [g0, g1, g2, g3, g4, g5, g6, g7, g8, g9], _ =>
    obtain rfl : g0 = .ref a0 := Option.some.inj (hf _ rfl 0 rfl)
    obtain rfl : g1 = .ref a1 := Option.some.inj (hf _ rfl 1 rfl)
    obtain rfl : g2 = .ref a2 := Option.some.inj (hf _ rfl 2 rfl)
    obtain ⟨x3, rfl⟩ := hk 3 _ rfl
    obtain ⟨x4, rfl⟩ := hk 4 _ rfl
    obtain ⟨x5, rfl⟩ := hk 5 _ rfl
    obtain rfl : g6 = .ref a6 := Option.some.inj (hf _ rfl 6 rfl)
    obtain rfl : g7 = .ref a7 := Option.some.inj (hf _ rfl 7 rfl)
    obtain rfl : g8 = .ref a8 := Option.some.inj (hf _ rfl 8 rfl)
    obtain ⟨x9, rfl⟩ := hk 9 _ rfl
    exact ⟨x3, x4, x5, x9, rfl⟩
theorem ob_X7 {y : va_E} {a0 a1 a2 a3 a4 : Nat} {u5 u6 u7 u8 : Value} (hs : sse (.inr (7, [.ref a0, .ref a1, .ref a2, .ref a3, .ref a4, u5, u6, u7, u8])) y) (hw : wte y) : ∃ (x5 : Int32) (x6 : Int32) (x7 : Int32) (x8 : Int32), y = .inr (7, [.ref a0, .ref a1, .ref a2, .ref a3, .ref a4, .int x5, .int x6, .int x7, .int x8]) := by
  obtain ⟨gs, rfl, hf⟩ := hs
  obtain ⟨hl, hk⟩ := hw _ rfl
  match gs, hl with
  | [g0, g1, g2, g3, g4, g5, g6, g7, g8], _ =>
    obtain rfl : g0 = .ref a0 := Option.some.inj (hf _ rfl 0 rfl)
    obtain rfl : g1 = .ref a1 := Option.some.inj (hf _ rfl 1 rfl)
    obtain rfl : g2 = .ref a2 := Option.some.inj (hf _ rfl 2 rfl)
    obtain rfl : g3 = .ref a3 := Option.some.inj (hf _ rfl 3 rfl)
    obtain rfl : g4 = .ref a4 := Option.some.inj (hf _ rfl 4 rfl)
    obtain ⟨x5, rfl⟩ := hk 5 _ rfl
    obtain ⟨x6, rfl⟩ := hk 6 _ rfl
    obtain ⟨x7, rfl⟩ := hk 7 _ rfl
    obtain ⟨x8, rfl⟩ := hk 8 _ rfl
    exact ⟨x5, x6, x7, x8, rfl⟩
theorem ob_X8 {y : va_E} {a0 : Nat} {u1 u2 u3 u4 u5 : Value} (hs : sse (.inr (8, [.ref a0, u1, u2, u3, u4, u5])) y) (hw : wte y) : ∃ (x1 : Int32) (x2 : Int32) (x3 : Int32) (x4 : Int32) (x5 : Int32), y = .inr (8, [.ref a0, .int x1, .int x2, .int x3, .int x4, .int x5]) := by
  obtain ⟨gs, rfl, hf⟩ := hs
  obtain ⟨hl, hk⟩ := hw _ rfl
  match gs, hl with
  | [g0, g1, g2, g3, g4, g5], _ =>
    obtain rfl : g0 = .ref a0 := Option.some.inj (hf _ rfl 0 rfl)
    obtain ⟨x1, rfl⟩ := hk 1 _ rfl
    obtain ⟨x2, rfl⟩ := hk 2 _ rfl
    obtain ⟨x3, rfl⟩ := hk 3 _ rfl
    obtain ⟨x4, rfl⟩ := hk 4 _ rfl
    obtain ⟨x5, rfl⟩ := hk 5 _ rfl
    exact ⟨x1, x2, x3, x4, x5, rfl⟩
theorem ob_X9 {y : va_E} {u0 : Value} (hs : sse (.inr (9, [u0])) y) (hw : wte y) : ∃ (x0 : Int64), y = .inr (9, [.long x0]) := by
  obtain ⟨gs, rfl, hf⟩ := hs
  obtain ⟨hl, hk⟩ := hw _ rfl
  match gs, hl with
  | [g0], _ =>
    obtain ⟨x0, rfl⟩ := hk 0 _ rfl
    exact ⟨x0, rfl⟩
theorem ob_X10 {y : va_E} {a0 : Nat} (hs : sse (.inr (10, [.ref a0])) y) (hw : wte y) : y = .inr (10, [.ref a0]) := by
  obtain ⟨gs, rfl, hf⟩ := hs
  obtain ⟨hl, hk⟩ := hw _ rfl
  match gs, hl with
  | [g0], _ =>
    obtain rfl : g0 = .ref a0 := Option.some.inj (hf _ rfl 0 rfl)
    exact rfl
theorem ob_X11 {y : va_E} {a0 a1 a2 a3 a4 a5 a6 a7 a8 a9 a10 : Nat} {u11 u12 u13 u14 u15 : Value} (hs : sse (.inr (11, [.ref a0, .ref a1, .ref a2, .ref a3, .ref a4, .ref a5, .ref a6, .ref a7, .ref a8, .ref a9, .ref a10, u11, u12, u13, u14, u15])) y) (hw : wte y) : ∃ (x11 : Int32) (x12 : Int32) (x13 : Int32) (x14 : Int32) (x15 : Int32), y = .inr (11, [.ref a0, .ref a1, .ref a2, .ref a3, .ref a4, .ref a5, .ref a6, .ref a7, .ref a8, .ref a9, .ref a10, .int x11, .int x12, .int x13, .int x14, .int x15]) := by
  obtain ⟨gs, rfl, hf⟩ := hs
  obtain ⟨hl, hk⟩ := hw _ rfl
  match gs, hl with
  | [g0, g1, g2, g3, g4, g5, g6, g7, g8, g9, g10, g11, g12, g13, g14, g15], _ =>
    obtain rfl : g0 = .ref a0 := Option.some.inj (hf _ rfl 0 rfl)
    obtain rfl : g1 = .ref a1 := Option.some.inj (hf _ rfl 1 rfl)
    obtain rfl : g2 = .ref a2 := Option.some.inj (hf _ rfl 2 rfl)
    obtain rfl : g3 = .ref a3 := Option.some.inj (hf _ rfl 3 rfl)
    obtain rfl : g4 = .ref a4 := Option.some.inj (hf _ rfl 4 rfl)
    obtain rfl : g5 = .ref a5 := Option.some.inj (hf _ rfl 5 rfl)
    obtain rfl : g6 = .ref a6 := Option.some.inj (hf _ rfl 6 rfl)
    obtain rfl : g7 = .ref a7 := Option.some.inj (hf _ rfl 7 rfl)
    obtain rfl : g8 = .ref a8 := Option.some.inj (hf _ rfl 8 rfl)
    obtain rfl : g9 = .ref a9 := Option.some.inj (hf _ rfl 9 rfl)
    obtain rfl : g10 = .ref a10 := Option.some.inj (hf _ rfl 10 rfl)
    obtain ⟨x11, rfl⟩ := hk 11 _ rfl
    obtain ⟨x12, rfl⟩ := hk 12 _ rfl
    obtain ⟨x13, rfl⟩ := hk 13 _ rfl
    obtain ⟨x14, rfl⟩ := hk 14 _ rfl
    obtain ⟨x15, rfl⟩ := hk 15 _ rfl
    exact ⟨x11, x12, x13, x14, x15, rfl⟩
theorem ob_X12 {y : va_E} {a2 a13 a14 a15 a16 a17 a18 a19 a20 a21 a22 a23 a24 : Nat} {u0 u1 u3 u4 u5 u6 u7 u8 u9 u10 u11 u12 : Value} (hs : sse (.inr (12, [u0, u1, .ref a2, u3, u4, u5, u6, u7, u8, u9, u10, u11, u12, .ref a13, .ref a14, .ref a15, .ref a16, .ref a17, .ref a18, .ref a19, .ref a20, .ref a21, .ref a22, .ref a23, .ref a24])) y) (hw : wte y) : ∃ (x0 : Int32) (x1 : Int64) (x3 : Int32) (x4 : Int32) (x5 : Int32) (x6 : Int32) (x7 : Int32) (x8 : Int32) (x9 : Int32) (x10 : Int32) (x11 : Int32) (x12 : Int32), y = .inr (12, [.int x0, .long x1, .ref a2, .int x3, .int x4, .int x5, .int x6, .int x7, .int x8, .int x9, .int x10, .int x11, .int x12, .ref a13, .ref a14, .ref a15, .ref a16, .ref a17, .ref a18, .ref a19, .ref a20, .ref a21, .ref a22, .ref a23, .ref a24]) := by
  obtain ⟨gs, rfl, hf⟩ := hs
  obtain ⟨hl, hk⟩ := hw _ rfl
  match gs, hl with
  | [g0, g1, g2, g3, g4, g5, g6, g7, g8, g9, g10, g11, g12, g13, g14, g15, g16, g17, g18, g19, g20, g21, g22, g23, g24], _ =>
    obtain ⟨x0, rfl⟩ := hk 0 _ rfl
    obtain ⟨x1, rfl⟩ := hk 1 _ rfl
    obtain rfl : g2 = .ref a2 := Option.some.inj (hf _ rfl 2 rfl)
    obtain ⟨x3, rfl⟩ := hk 3 _ rfl
    obtain ⟨x4, rfl⟩ := hk 4 _ rfl
    obtain ⟨x5, rfl⟩ := hk 5 _ rfl
    obtain ⟨x6, rfl⟩ := hk 6 _ rfl
    obtain ⟨x7, rfl⟩ := hk 7 _ rfl
    obtain ⟨x8, rfl⟩ := hk 8 _ rfl
    obtain ⟨x9, rfl⟩ := hk 9 _ rfl
    obtain ⟨x10, rfl⟩ := hk 10 _ rfl
    obtain ⟨x11, rfl⟩ := hk 11 _ rfl
    obtain ⟨x12, rfl⟩ := hk 12 _ rfl
    obtain rfl : g13 = .ref a13 := Option.some.inj (hf _ rfl 13 rfl)
    obtain rfl : g14 = .ref a14 := Option.some.inj (hf _ rfl 14 rfl)
    obtain rfl : g15 = .ref a15 := Option.some.inj (hf _ rfl 15 rfl)
    obtain rfl : g16 = .ref a16 := Option.some.inj (hf _ rfl 16 rfl)
    obtain rfl : g17 = .ref a17 := Option.some.inj (hf _ rfl 17 rfl)
    obtain rfl : g18 = .ref a18 := Option.some.inj (hf _ rfl 18 rfl)
    obtain rfl : g19 = .ref a19 := Option.some.inj (hf _ rfl 19 rfl)
    obtain rfl : g20 = .ref a20 := Option.some.inj (hf _ rfl 20 rfl)
    obtain rfl : g21 = .ref a21 := Option.some.inj (hf _ rfl 21 rfl)
    obtain rfl : g22 = .ref a22 := Option.some.inj (hf _ rfl 22 rfl)
    obtain rfl : g23 = .ref a23 := Option.some.inj (hf _ rfl 23 rfl)
    obtain rfl : g24 = .ref a24 := Option.some.inj (hf _ rfl 24 rfl)
    exact ⟨x0, x1, x3, x4, x5, x6, x7, x8, x9, x10, x11, x12, rfl⟩
theorem SH.o2 {h : ev_H} (hS : SH h) : ∃ x11 x12 x13 x14 x15 : Int32, h 2 = .inr (11, [.ref 3, .ref 5, .ref 12, .ref 13, .ref 24, .ref 93, .ref 95, .ref 96, .ref 97, .ref 98, .ref 99, .int x11, .int x12, .int x13, .int x14, .int x15]) := ob_X11 (hS.2 2 (by decide) (by decide)) (hS.1 2)
theorem SH.o3 {h : ev_H} (hS : SH h) : ∃ x1 x2 x3 x4 x5 : Int32, h 3 = .inr (8, [.ref 4, .int x1, .int x2, .int x3, .int x4, .int x5]) := ob_X8 (hS.2 3 (by decide) (by decide)) (hS.1 3)
theorem SH.o4 {h : ev_H} (hS : SH h) : ∃ g, h 4 = .inl (2, 300, .inl g) := hS.2 4 (by decide) (by decide)
theorem SH.o5 {h : ev_H} (hS : SH h) : ∃ x3 x4 x5 x9 : Int32, h 5 = .inr (4, [.ref 6, .ref 7, .ref 8, .int x3, .int x4, .int x5, .ref 9, .ref 10, .ref 11, .int x9]) := ob_X4 (hS.2 5 (by decide) (by decide)) (hS.1 5)
theorem SH.o12 {h : ev_H} (hS : SH h) : h 12 = .inl (4, 40, .inr (.inr (.inr (.inr (fun j => if j < 40 then some (100 + 8 * j) else none))))) := hS.2 12 (by decide) (by decide)
theorem SH.o13 {h : ev_H} (hS : SH h) : ∃ x5 x6 x7 x8 : Int32, h 13 = .inr (7, [.ref 14, .ref 16, .ref 18, .ref 20, .ref 22, .int x5, .int x6, .int x7, .int x8]) := ob_X7 (hS.2 13 (by decide) (by decide)) (hS.1 13)
theorem SH.o24 {h : ev_H} (hS : SH h) : ∃ x2 x3 x4 x5 : Int32, h 24 = .inr (0, [.ref 25, .ref 26, .int x2, .int x3, .int x4, .int x5]) := ob_X0 (hS.2 24 (by decide) (by decide)) (hS.1 24)
theorem cs0_line {i : Nat} (hi : i < 40) : cs0 (100 + 8 * i) = .inr (3, [.ref (101 + 8 * i), .int 0, .int 0, .int 0, .int 0, .int 0, .int 0]) := by
  have key : ∀ i : Fin 40, cs0 (100 + 8 * i.val) = .inr (3, [.ref (100 + 8 * i.val + 1), .int 0, .int 0, .int 0, .int 0, .int 0, .int 0]) := by
    intro i
    match i with
    | ⟨i, hi⟩ =>
      have h1 : (100 + 8 * i - 100) % 8 = 0 := by omega
      have h2 : ¬ (100 + 8 * i < 24) := by omega
      have h3 : ¬ (100 + 8 * i < 95) := by omega
      unfold cs0
      split <;> first | omega | (simp only [h1, h2, h3, if_true, if_false])
  have := key ⟨i, hi⟩
  rw [this, show 100 + 8 * i + 1 = 101 + 8 * i by omega]
theorem SH.ln {h : ev_H} (hS : SH h) {i : Nat} (hi : i < 40) : ∃ x1 x2 x3 x4 x5 x6 : Int32, h (100 + 8 * i) = .inr (3, [.ref (101 + 8 * i), .int x1, .int x2, .int x3, .int x4, .int x5, .int x6]) := by
  have h1 := hS.2 (100 + 8 * i) (by omega) (by omega)
  rw [cs0_line hi] at h1
  exact ob_X3 h1 (hS.1 _)
theorem cs0_say {i : Nat} (hi : i < 40) : cs0 (101 + 8 * i) = .inl (3, 3, .inr (.inr (.inr (.inr (fun j => if j < 3 then some (102 + 8 * i + 2 * j) else none))))) := by
  have h1 : (101 + 8 * i - 100) % 8 = 1 := by omega
  have h2 : ¬ (101 + 8 * i < 24) := by omega
  have h3 : ¬ (101 + 8 * i < 95) := by omega
  have h4 : ¬ (101 + 8 * i - 100) % 8 = 0 := by omega
  have h5 : ∀ j, 101 + 8 * i + 1 + 2 * j = 102 + 8 * i + 2 * j := fun j => by omega
  unfold cs0
  split <;> first | omega | (simp only [h1, h2, h3, h4, h5, if_true, if_false]; done) | (simp [h1, h2, h3, h5]; done)
def wsAt (a : Nat) : Prop := cs0 a = .inr (10, [.ref (a + 1)]) ∧ cs0 (a + 1) = .inl (1, 4, .inr (.inl (fun _ => 0))) ∧ 2 ≤ a ∧ a + 1 < 434
theorem wsAt_ln {i w : Nat} (hi : i < 40) (hw : w < 3) : wsAt (102 + 8 * i + 2 * w) := by
  have a2 : ¬ (102 + 8 * i + 2 * w < 24) := by omega
  have a3 : ¬ (102 + 8 * i + 2 * w < 95) := by omega
  have a4 : ¬ (102 + 8 * i + 2 * w - 100) % 8 = 0 := by omega
  have a5 : ¬ (102 + 8 * i + 2 * w - 100) % 8 = 1 := by omega
  have a6 : (102 + 8 * i + 2 * w) % 2 = 0 := by omega
  have b2 : ¬ (102 + 8 * i + 2 * w + 1 < 24) := by omega
  have b3 : ¬ (102 + 8 * i + 2 * w + 1 < 95) := by omega
  have b4 : ¬ (102 + 8 * i + 2 * w + 1 - 100) % 8 = 0 := by omega
  have b5 : ¬ (102 + 8 * i + 2 * w + 1 - 100) % 8 = 1 := by omega
  have b6 : ¬ (102 + 8 * i + 2 * w + 1) % 2 = 0 := by omega
  refine ⟨?_, ?_, by omega, by omega⟩
  · unfold cs0
    split <;> first | omega | (simp only [a2, a3, a4, a5, a6, if_true, if_false])
  · unfold cs0
    split <;> first | omega | (simp only [b2, b3, b4, b5, b6, if_true, if_false])
theorem wsAt_core {j : Nat} (hj : j < 33) : wsAt (27 + 2 * j) := by
  have a2 : ¬ (27 + 2 * j < 24) := by omega
  have a3 : 27 + 2 * j < 95 := by omega
  have a6 : (27 + 2 * j) % 2 = 1 := by omega
  have b2 : ¬ (27 + 2 * j + 1 < 24) := by omega
  have b3 : 27 + 2 * j + 1 < 95 := by omega
  have b6 : ¬ (27 + 2 * j + 1) % 2 = 1 := by omega
  refine ⟨?_, ?_, by omega, by omega⟩
  · unfold cs0
    split <;> first | omega | (simp only [a2, a3, a6, if_true, if_false])
  · unfold cs0
    split <;> first | omega | (simp only [b2, b3, b6, if_true, if_false])
theorem wsAt_14 : wsAt 14 := ⟨rfl, rfl, by decide, by decide⟩
theorem wsAt_16 : wsAt 16 := ⟨rfl, rfl, by decide, by decide⟩
theorem wsAt_18 : wsAt 18 := ⟨rfl, rfl, by decide, by decide⟩
theorem wsAt_20 : wsAt 20 := ⟨rfl, rfl, by decide, by decide⟩
theorem wsAt_22 : wsAt 22 := ⟨rfl, rfl, by decide, by decide⟩
theorem wsAt_93 : wsAt 93 := ⟨rfl, rfl, by decide, by decide⟩
theorem SH.ws {h : ev_H} (hS : SH h) {a : Nat} (ha : wsAt a) : ∃ g, isWS h 434 a (a + 1) g (g 0) (g 1) (g 2) (g 3) := by
  obtain ⟨h1, h2, h3, h4⟩ := ha
  have e1 := hS.2 a h3 (by omega)
  have e2 := hS.2 (a + 1) (by omega) h4
  rw [h1] at e1
  rw [h2] at e2
  obtain ⟨g, hg⟩ := e2
  exact ⟨g, ⟨h3, by omega⟩, ⟨by omega, h4⟩, ob_X10 e1 (hS.1 a), by rw [hg, ← ws4_of]⟩
theorem SH.say {h : ev_H} (hS : SH h) {i : Nat} (hi : i < 40) : h (101 + 8 * i) = .inl (3, 3, .inr (.inr (.inr (.inr (fun j => if j < 3 then some (102 + 8 * i + 2 * j) else none))))) := by
  have h1 := hS.2 (101 + 8 * i) (by omega) (by omega)
  rw [cs0_say hi] at h1
  exact h1
theorem SH.up {h : ev_H} {a : Nat} {x : va_E} (hS : SH h) (hs : sse (h a) x) (hw : wte x) : SH (va_up h a x) := ⟨up_wt hS.1 hw, fun k h1 h2 => sse_tr (hS.2 k h1 h2) (up_sse hs k)⟩
theorem put_ok {h : ev_H} {a ci k idx : Nat} {fs : List Value} {v : Value} {y : MethodName} (hw : WTH h) (g3 : h a = .inr (ci, fs)) (g4 : ev_fp 0 y idx ci k v) (g5 : k < fs.length) : sse (h a) (.inr (ci, fs.set k v)) ∧ wte (.inr (ci, fs.set k v)) := by
  have hwa := hw a
  rw [g3] at hwa
  obtain ⟨q, e1, e2, e3, e4, e5⟩ := id g4
  have hnf : (q.2.1 k).2.2.2 = false := by
    rcases e5 with e5 | e5
    · exact e5.1
    · exact absurd e5.2.1 (Nat.lt_irrefl 0)
  refine ⟨?_, ?_⟩
  · rw [g3]
    refine ⟨_, rfl, fun q' hq' j hj => ?_⟩
    have : q' = q := Option.some.inj (hq'.symm.trans e1)
    subst this
    by_cases hjk : k = j
    · subst hjk
      rw [hnf] at hj
      cases hj
    · rw [List.getElem?_set_ne hjk]
  · intro q' hq'
    obtain ⟨w1, w2⟩ := hwa q' hq'
    refine ⟨by rw [List.length_set]; exact w1, fun j w hjw => ?_⟩
    by_cases hjk : k = j
    · subst hjk
      rw [List.getElem?_set_self g5] at hjw
      cases hjw
      exact kOK_fits e4
    · rw [List.getElem?_set_ne hjk] at hjw
      exact w2 j w hjw
theorem EV.sh {xs : Nat → Int32} {L d : Nat} {M : ev_M} {sz : Nat} {h : ev_H} {pc : Nat} {ls : ev_L} {st : List Value} {Q : ev_Q} (hE : EV xs L d 0 0 M sz h pc ls st Q) (hS : SH h) : EV xs L d 0 0 M sz h pc ls st (fun sz' h' r => Q sz' h' r ∧ sz' = sz ∧ SH h' ∧ ∀ k, sse (h k) (h' k)) :=
  EV.post (fun _ _ _ q => ⟨q.1, q.2.1, ⟨q.2.2.1, fun k h1 h2 => sse_tr (hS.2 k h1 h2) (q.2.2.2.2.1 k)⟩, q.2.2.2.2.1⟩) (EV.frame (fun _ => True) trivial hE hS.1 (fun k _ _ => by
    unfold rfe
    split
    · exact fun _ _ _ => trivial
    · trivial
    · exact fun _ _ _ => trivial) (fun _ _ _ _ _ => trivial) (fun _ _ _ _ => trivial))
theorem EV.shR {xs : Nat → Int32} {L d : Nat} {M : ev_M} {sz : Nat} {h : ev_H} {pc : Nat} {ls : ev_L} {st : List Value} {Q : ev_Q} (R : Nat → Prop) (hR1 : R 1) (hE : EV xs L d 0 0 M sz h pc ls st Q) (hS : SH h) (hc : clo R h) (hl : okl R ls) (hs : oks R st) : EV xs L d 0 0 M sz h pc ls st (fun sz' h' r => Q sz' h' r ∧ sz' = sz ∧ SH h' ∧ (∀ k, ¬ R k → h' k = h k)) :=
  EV.post (fun _ _ _ q => ⟨q.1, q.2.1, ⟨q.2.2.1, fun k h1 h2 => sse_tr (hS.2 k h1 h2) (q.2.2.2.2.1 k)⟩, q.2.2.2.2.2.1⟩) (EV.frame R hR1 hE hS.1 hc hl hs)
section KR
variable {xs : Nat → Int32} {L d : Nat} {M : ev_M} {sz : Nat} {h : ev_H} {pc pc' : Nat} {ls : ev_L} {st : List Value} {Q : ev_Q}
theorem k_put {idx a ci : Nat} {fs : List Value} {v : Value} (f : Nat) (hp : pc + 3 = pc') (hd : decode M.2.1 pc = .ok (.putfield idx, 3)) (ha : 2 ≤ a ∧ a < sz) (hS : SH h) (hh : h a = .inr (ci, fs)) (hf : ev_fp 0 M.1 idx ci f v) (hl : f < fs.length) (k : ∀ h', SH h' → EV xs L d 0 0 M sz h' pc' ls st Q) : EV xs L d 0 0 M sz h pc ls (v :: .ref a :: st) Q := r_put hp hd ha.1 ha.2 hh f hf hl rfl (k _ (hS.up (put_ok hS.1 hh hf hl).1 (put_ok hS.1 hh hf hl).2))
theorem k_iast {a n : Nat} {j x : Int32} {f : Nat → Int32} (hp : pc + 1 = pc') (hd : decode M.2.1 pc = .ok (.iastore, 1)) (ha : 2 ≤ a ∧ a < sz) (hS : SH h) (hh : h a = .inl (0, n, .inl f)) (hj : vp_in j n) (k : ∀ h', SH h' → EV xs L d 0 0 M sz h' pc' ls st Q) : EV xs L d 0 0 M sz h pc ls (.int x :: .int j :: .ref a :: st) Q := r_iast hp hd ha.1 ha.2 hh hj rfl (k _ (hS.up (by rw [hh]; exact ⟨_, rfl⟩) trivial))
theorem k_last {a n : Nat} {j : Int32} {x : Int64} {f : Nat → Int64} (hp : pc + 1 = pc') (hd : decode M.2.1 pc = .ok (.lastore, 1)) (ha : 2 ≤ a ∧ a < sz) (hS : SH h) (hh : h a = .inl (1, n, .inr (.inl f))) (hj : vp_in j n) (k : ∀ h', SH h' → EV xs L d 0 0 M sz h' pc' ls st Q) : EV xs L d 0 0 M sz h pc ls (.long x :: .int j :: .ref a :: st) Q := r_last hp hd ha.1 ha.2 hh hj rfl (k _ (hS.up (by rw [hh]; exact ⟨_, rfl⟩) trivial))
end KR
