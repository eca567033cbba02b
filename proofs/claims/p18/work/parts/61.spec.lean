section ER
variable {xs : Nat → Int32} {L d : Nat} {M : ev_M} {h h0 : ev_H} {pc pc' : Nat} {ls : ev_L} {st : List Value} {Q : ev_Q} {Mod : List Nat}
theorem e_put {idx a ci : Nat} {fs fs' : List Value} {v : Value} (f : Nat) (hp : pc + 3 = pc') (hd : decode M.2.1 pc = .ok (.putfield idx, 3)) (ha : 2 ≤ a ∧ a < 434) (hS : SH h) (hF : KM Mod h0 h) (hm : a ∈ Mod) (hh : h a = .inr (ci, fs)) (hf : ev_fp 0 M.1 idx ci f v) (hl : f < fs.length) (he : fs.set f v = fs') (k : ∀ h', SH h' → KM Mod h0 h' → KM [a] h h' → h' a = .inr (ci, fs') → EV xs L d 0 0 M 434 h' pc' ls st Q) : EV xs L d 0 0 M 434 h pc ls (v :: .ref a :: st) Q :=
  k_putx f hp hd ha hS hh hf hl he (fun h' eh hs => k h' hs (by rw [eh]; exact KM_up hF hm) (by rw [eh]; exact KM_up (KM_rf _) (List.mem_singleton.mpr rfl)) (by rw [eh]; exact va_up_self _ _ _))
theorem e_iast {a n jn : Nat} {j x : Int32} {f : Nat → Int32} (hp : pc + 1 = pc') (hd : decode M.2.1 pc = .ok (.iastore, 1)) (ha : 2 ≤ a ∧ a < 434) (hS : SH h) (hF : KM Mod h0 h) (hm : a ∈ Mod) (hh : h a = .inl (0, n, .inl f)) (hj : vp_in j n) (hjn : j.toNatClampNeg = jn) (k : ∀ h', SH h' → KM Mod h0 h' → KM [a] h h' → h' a = .inl (0, n, .inl (upd f jn x)) → EV xs L d 0 0 M 434 h' pc' ls st Q) : EV xs L d 0 0 M 434 h pc ls (.int x :: .int j :: .ref a :: st) Q :=
  r_iast hp hd ha.1 ha.2 hh hj hjn (k _ (hS.up (by rw [hh]; exact ⟨_, rfl⟩) trivial) (KM_up hF hm) (KM_up (KM_rf _) (List.mem_singleton.mpr rfl)) (va_up_self _ _ _))
end ER
abbrev c5 (cr pn tn sr : Int32) : va_E := .inr (4, [.ref 6, .ref 7, .ref 8, .int cr, .int pn, .int tn, .ref 9, .ref 10, .ref 11, .int sr])
abbrev cI (n : Nat) (A : Nat → Int32) : va_E := .inl (0, n, .inl A)
/-- the place of a LITERAL's LETTER, its bit, whether it can stand there -/
def lp (f : Nat → Int32) (n p : Nat) : Nat := if tK f n p = 5 then rdP f n p else p
def lb (f : Nat → Int32) (n p : Nat) : Int32 := 1 <<< (tV f n (lp f n p) &&& 31)
abbrev LIT (f : Nat → Int32) (n p : Nat) (u : Int32) : Prop := tK f n (lp f n p) = 3 ∧ u &&& lb f n p = 0
theorem lp_le (f : Nat → Int32) {n p : Nat} (hp : p ≤ n) : lp f n p ≤ n := by
  unfold lp
  split
  · exact rdP_le f hp
  · exact hp
/-- the LITERALS of a CLAUSE from the token at p on, m LETTERS left -/
def clL (f : Nat → Int32) (n : Nat) : Nat → Nat → Int32 → Int32 → Bool × Nat × Int32 × Int32
  | 0, p, pl, tu => if tK f n p = 6 then (true, p, pl, tu) else (false, lp f n p, pl, tu)
  | m + 1, p, pl, tu => if tK f n p = 6 then (true, p, pl, tu) else if LIT f n p (pl ||| tu) then clL f n m (rdP f n (lp f n p)) (if tK f n p = 5 then pl else pl ||| lb f n p) (if tK f n p = 5 then tu ||| lb f n p else tu) else (false, lp f n p, pl, tu)
theorem clL_le (f : Nat → Int32) (n : Nat) : ∀ (m p : Nat) (pl tu : Int32), p ≤ n → (clL f n m p pl tu).2.1 ≤ n ∧ ((clL f n m p pl tu).1 = true → tK f n (clL f n m p pl tu).2.1 = 6)
  | 0, p, pl, tu, hp => by
    unfold clL
    split
    · rename_i h; exact ⟨hp, fun _ => h⟩
    · exact ⟨lp_le f hp, fun z => absurd (show false = true from z) (by decide)⟩
  | m + 1, p, pl, tu, hp => by
    unfold clL
    split
    · rename_i h; exact ⟨hp, fun _ => h⟩
    · split
      · exact clL_le f n m _ _ _ (rdP_le f (lp_le f hp))
      · exact ⟨lp_le f hp, fun z => absurd (show false = true from z) (by decide)⟩
/-- the text's CLAUSES from the token at p on, i of them read, r may come: the place of the fault (-1: none), how many, their rows -/
def csL (f : Nat → Int32) (n : Nat) : Nat → Nat → Nat → (Nat → Int32) → (Nat → Int32) → (Nat → Int32) → Int32 × Nat × (Nat → Int32) × (Nat → Int32) × (Nat → Int32)
  | 0, p, i, A, B, C => (if tK f n p = 0 then -1 else nI (rdS f n p), i, A, B, C)
  | r + 1, p, i, A, B, C => if tK f n p = 0 then (-1, i, A, B, C) else if tK f n p = 1 then (if (clL f n 8 (rdP f n p) 0 0).1 = true then csL f n r (rdP f n (clL f n 8 (rdP f n p) 0 0).2.1) (i + 1) (upd A i (tV f n p)) (upd B i (clL f n 8 (rdP f n p) 0 0).2.2.1) (upd C i (clL f n 8 (rdP f n p) 0 0).2.2.2) else (nI (rdS f n (clL f n 8 (rdP f n p) 0 0).2.1), i, A, B, C)) else (nI (rdS f n p), i, A, B, C)
def pc8 (a : Nat) : Nat := (a % 2) + (a / 2 % 2) + (a / 4 % 2) + (a / 8 % 2) + (a / 16 % 2) + (a / 32 % 2) + (a / 64 % 2) + (a / 128 % 2)
/-- a set of LETTERS, m of them left -/
def UI (m : Nat) (u : Int32) : Prop := ∃ a : Nat, a < 256 ∧ u = nI a ∧ pc8 a + m = 8
theorem UI_d : ∀ v : Fin 8, ∀ a : Fin 256, ((nI a.1 >>> (nI v.1 &&& 31)) &&& 1 = 0 ↔ nI a.1 &&& ((1 : Int32) <<< (nI v.1 &&& 31)) = 0) ∧ (nI a.1 &&& ((1 : Int32) <<< (nI v.1 &&& 31)) = 0 → (nI a.1 ||| ((1 : Int32) <<< (nI v.1 &&& 31)) = nI (a.1 ||| 2 ^ v.1) ∧ a.1 ||| 2 ^ v.1 < 256 ∧ pc8 (a.1 ||| 2 ^ v.1) = pc8 a.1 + 1)) := by decide +kernel
theorem UI_8 : UI 8 0 := ⟨0, by decide, rfl, rfl⟩
theorem pc8_le (a : Nat) : pc8 a ≤ 8 := by unfold pc8; omega
theorem UI_s {m : Nat} {u x : Int32} {v : Nat} (hu : UI m u) (hv : v < 8) (hx : x = nI v) (hz : u &&& ((1 : Int32) <<< (x &&& 31)) = 0) : ∃ m', m = m' + 1 ∧ UI m' (u ||| ((1 : Int32) <<< (x &&& 31))) := by
  obtain ⟨a, ha, rfl, hm⟩ := hu
  subst hx
  obtain ⟨e1, e2, e3⟩ := (UI_d ⟨v, hv⟩ ⟨a, ha⟩).2 hz
  have := pc8_le (a ||| 2 ^ v)
  simp only [] at e1 e2 e3
  exact ⟨m - 1, by omega, _, e2, e1, by omega⟩
theorem UI_b {m : Nat} {u x : Int32} {v : Nat} (hu : UI m u) (hv : v < 8) (hx : x = nI v) : (u >>> (x &&& 31)) &&& 1 = 0 ↔ u &&& ((1 : Int32) <<< (x &&& 31)) = 0 := by
  obtain ⟨a, ha, rfl, hm⟩ := hu
  subst hx
  exact (UI_d ⟨v, hv⟩ ⟨a, ha⟩).1
/-- a STEP at p, of LINES ahead of z: whether it can stand, and the token behind it or the wrong one -/
def stS (f : Nat → Int32) (n : Nat) (z : Int32) (p : Nat) : Bool × Nat :=
  if tK f n p = 2 then
    (if tV f n (rdP f n p) < z ∧ tK f n (rdP f n p) = 4 then
      (if tV f n (rdP f n (rdP f n p)) < z ∧ tK f n (rdP f n (rdP f n p)) = 4 then
        (if tK f n (rdP f n (rdP f n (rdP f n p))) = 3 then
          (if tK f n (rdP f n (rdP f n (rdP f n (rdP f n p)))) = 6 then (true, rdP f n (rdP f n (rdP f n (rdP f n (rdP f n p)))))
          else (false, rdP f n (rdP f n (rdP f n (rdP f n p)))))
        else (false, rdP f n (rdP f n (rdP f n p))))
      else (false, rdP f n (rdP f n p)))
    else (false, rdP f n p))
  else (false, p)
theorem stS_le (f : Nat → Int32) {n p : Nat} (z : Int32) (hp : p ≤ n) : (stS f n z p).2 ≤ n := by
  have h1 := rdP_le f hp
  have h2 := rdP_le f h1
  have h3 := rdP_le f h2
  have h4 := rdP_le f h3
  have h5 := rdP_le f h4
  unfold stS
  repeat' split
  all_goals assumption
/-- the text's STEPS from the token at p on, i of them read, r may come, c CLAUSES ahead -/
def stL (f : Nat → Int32) (n c : Nat) : Nat → Nat → Nat → (Nat → Int32) → (Nat → Int32) → (Nat → Int32) → Int32 × Nat × (Nat → Int32) × (Nat → Int32) × (Nat → Int32)
  | 0, p, i, A, B, C => (if tK f n p = 0 then -1 else nI (rdS f n p), i, A, B, C)
  | r + 1, p, i, A, B, C => if tK f n p = 0 then (-1, i, A, B, C) else if (stS f n (nI (c + i)) p).1 = true then stL f n c r (stS f n (nI (c + i)) p).2 (i + 1) (upd A i (tV f n (rdP f n p))) (upd B i (tV f n (rdP f n (rdP f n p)))) (upd C i (tV f n (rdP f n (rdP f n (rdP f n p))))) else (nI (rdS f n (stS f n (nI (c + i)) p).2), i, A, B, C)
