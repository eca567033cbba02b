/-! THE CLAIM OUT OF ONE WALK OF THE LAW'S BODY. Your part is whole_start (and what it stands on); all else here is the same for every law, but numbers. -/
def R_law : String := "SharedSenseLaw"
def lw_P (b : Addr) (xs : List Int32) (args : Array Value) (s : State) : Prop := args = #[.ref b] ∧ s.IntsAt b xs ∧ xs.length ≤ 2048 ∧ (Jvm.Cond.and given_1 narrow_1).before args s = true
def lw_Q (_ : Array Value) (s : State) (o : Outcome) (t : State) : Prop := o = .returned (some (.int 1)) ∧ Framed s o t [] 600000 7302250
def lw_Z (below : List Frame) (a : Array Value) (s : State) : State → Prop := fun t => ∃ o, t.status = .running ∧ Ended t below o ∧ lw_Q a s o t
/-- the law's own end, with 1 on the stack, nothing written that was there before, its room as the claim has it -/
theorem lw_ret {p : Program} {l : Launch} {e : Env} {s : State} {m : MethodId} {below : List Frame} {meth : Method} {c : Code} {b : Nat} (hx : p.tables.exec = Jvm.exec) (hb : c.code = code) (hr : meth.sig.returnType = ret) (hlocks : meth.locks = false) {pc : Nat} {H : Heap} {ls : Array Slot} (hdg : decode code pc = .ok (.ireturn, 1)) : W p l e room_1 s m #[Value.ref b] below meth c H [] 600000 7302250 (lw_Z below #[Value.ref b] s) (F0 m pc ls [.int 1]) := by
  intro T hT X
  obtain ⟨fs, hret, hrun, hended, hW, hframe⟩ := X.leave (v := some (.int 1)) (hlocks := hlocks) (fun h => by rw [hr] at h; cases h)
  have hmeth' : T.vm.method? m = some meth := X.method'
  refine ⟨T.setFrames fs, ?_, .returned (some (.int 1)), hrun, hended, rfl, ⟨_, rfl⟩, hW, hframe⟩
  jvm_step X.here [X.here.top, hx, hb, hdg, hmeth', hr, ret, narrow_b1]
  (try refine ⟨rfl, ?_⟩); (try refine ⟨rfl, ?_⟩)
  first | (intro acts; rw [hret _ acts rfl rfl rfl]) | rw [hret _ _ rfl rfl rfl]
  exact Steps.refl _
/-- what holds at the law's entry: the machine, the code, the tables' words (any of lw_tbl by 'hts w (by decide +kernel)'), the script of L ints xs at the cell b, what the Statement gives of the start (any of its parts by flat_of_before) -/
def lw_At (p : Program) (s : State) (m : MethodId) (meth : Method) (c : Code) (b L : Nat) (xs : Nat → Int32) : Prop :=
  p.tables.exec = Jvm.exec ∧ c.code = code ∧ meth.sig.returnType = ret ∧ c.maxLocals = 4 ∧ s.vm.findClass R_law = some m.cls ∧ (∀ w ∈ lw_tbl, w.before #[Value.ref b] s = true) ∧ va_X b L xs s s.heap ∧ b < s.heap.size ∧ meth.locks = false ∧ (Jvm.Cond.and given_1 narrow_1).before #[Value.ref b] s = true
theorem dp_of {w : Cond} (hw : dp_isN w = true) {A : Array Value} {s : State} (h : w.before A s = true) : va_Nw w s := by
  unfold dp_isN at hw
  split at hw
  · exact va_AO.of h
  · exact va_Nw.of rfl h
  · exact va_Nw.of rfl h
  · cases hw
abbrev M_law : ev_M := (x, code, 4, ret)
theorem ev_dA {s : State} {args : Array Value} (hts : ∀ w ∈ lw_tbl, w.before args s = true) : ∃ dA : Nat → ClassId, ∀ (k : Nat) (q : ClassId × FieldType), (dp_tys dA)[k]? = some q → ArrOfT s q.1 q.2 ∧ va_RA s q.1 q.2 := by
  have prim : ∀ ty : FieldType, (Cond.arrayClass ty) ∈ lw_tbl → (∀ C, ty ≠ .object C) → ∃ cA : ClassId, ArrOfT s cA ty ∧ va_RA s cA ty := by
    intro ty hm hno
    obtain ⟨c, k, comp, h1, h2, h3⟩ := Cond.arrayClass_spec (hts _ hm)
    refine ⟨c, fun n z => ⟨fun k h => (by cases h), k, h2, comp, h3⟩, ?_⟩
    cases ty with
    | object C => exact absurd rfl (hno C)
    | _ => exact h1
  have obj : ∀ C : String, (Cond.arrayOver (.object C)) ∈ lw_tbl → ∃ cA : ClassId, ArrOfT s cA (.object C) ∧ va_RA s cA (.object C) := by
    intro C hm
    obtain ⟨comp, c, k, h1, h2, h3, h4, h5⟩ := Cond.arrayOver_spec (hts _ hm)
    exact ⟨c, fun n z => ⟨fun k h => (by cases h), k, h3, comp, h4⟩, k, comp, h3, h4, h1, h5⟩
  obtain ⟨c0, g0⟩ := prim .int (by decide +kernel) (fun C h => by cases h)
  obtain ⟨c1, g1⟩ := prim .long (by decide +kernel) (fun C h => by cases h)
  obtain ⟨c2, g2⟩ := prim .byte (by decide +kernel) (fun C h => by cases h)
  obtain ⟨c3, g3⟩ := obj RX10 (by decide +kernel)
  obtain ⟨c4, g4⟩ := obj RX3 (by decide +kernel)
  refine ⟨fun k => match k with | 0 => c0 | 1 => c1 | 2 => c2 | 3 => c3 | _ => c4, ?_⟩
  intro k q hq
  match k, hq with
  | 0, hq => cases hq; exact g0
  | 1, hq => cases hq; exact g1
  | 2, hq => cases hq; exact g2
  | 3, hq => cases hq; exact g3
  | 4, hq => cases hq; exact g4
  | k + 5, hq => simp [dp_tys] at hq
theorem ev_D {s : State} {args : Array Value} (hts : ∀ w ∈ lw_tbl, w.before args s = true) : ∃ D : va_G, ∀ (c : Nat) (q : vw_C), dp_cl[c]? = some q → u_Kn s q.1 q.2.1 q.2.2 (D.1 c) (D.2 c) := by
  have one : ∀ (c : Nat), ∃ z : ClassId × (Nat → Nat), ∀ q : vw_C, dp_cl[c]? = some q → u_Kn s q.1 q.2.1 q.2.2 z.1 z.2 := by
    intro c
    cases hq : dp_cl[c]? with
    | none => exact ⟨(0, fun _ => 0), fun q h => by cases h⟩
    | some q =>
      have hi : Cond.instantiable q.1 q.2.2 ∈ lw_tbl := by
        match c, hq with
        | 0, hq => cases hq; decide +kernel
        | 1, hq => cases hq; decide +kernel
        | 2, hq => cases hq; decide +kernel
        | 3, hq => cases hq; decide +kernel
        | 4, hq => cases hq; decide +kernel
        | 5, hq => cases hq; decide +kernel
        | 6, hq => cases hq; decide +kernel
        | 7, hq => cases hq; decide +kernel
        | 8, hq => cases hq; decide +kernel
        | 9, hq => cases hq; decide +kernel
        | 10, hq => cases hq; decide +kernel
        | 11, hq => cases hq; decide +kernel
        | 12, hq => cases hq; decide +kernel
        | c + 13, hq => simp [dp_cl] at hq
      obtain ⟨cC, iS, h⟩ := u_known (n := q.2.2) hts (dp_in c q hq) (hts _ hi)
      exact ⟨(cC, iS), fun q' h' => by cases h'; exact h⟩
  refine ⟨(fun c => (Classical.choose (one c)).1, fun c => (Classical.choose (one c)).2), fun c q hq => Classical.choose_spec (one c) q hq⟩
/-- the claim out of EV of the law's body -/
theorem ev_whole {p : Program} {e : Env} {s : State} {m : MethodId} {below : List Frame} {meth : Method} {c : Code} (l : Launch) {b L : Nat} {xs : Nat → Int32} (C0 : lw_At p s m meth c b L xs) (hn : meth.name = x.name) {d : Nat} (hd : d ≤ 1000) {h0 : ev_H} (hE : EV xs L d 600000 7302250 M_law 2 h0 0 (ev_en [.ref 0] 4) [] (fun _ _ r => r = [.int 1])) : W p l e room_1 s m #[Value.ref b] below meth c s.heap [] 0 0 (lw_Z below #[Value.ref b] s) (entryFrame m ([Value.ref b] : List Value).toArray 4) := by
  obtain ⟨hx, hb, hr, hml, hown, hts, hX, hbl, hlocks, hgv⟩ := id C0
  obtain ⟨D, hD⟩ := ev_D hts
  obtain ⟨dA, hdA⟩ := ev_dA hts
  have hs := flat_of_before _ hgv
  have hA : ∀ a : Nat, a < s.heap.size → ¬ ev_A s.heap.size a := fun a h => Nat.not_le.mpr h
  obtain ⟨a1, ht1, hT⟩ := va_Tof (ty := .long) (N := 6) (f := fun j => .long (ev_so j)) (A := ev_A s.heap.size) (tm := .static RX10 "SO" "[J") (by decide) (hs _ (by decide +kernel)) (va_eqt (hs (Cond.eq (.length (.static RX10 "SO" "[J")) (.int 6)) (by decide +kernel))) (fun j hj => by
    match j, hj with
    | 0, _ => exact va_eqtl (hs _ (by decide +kernel))
    | 1, _ => exact va_eqtl (hs _ (by decide +kernel))
    | 2, _ => exact va_eqtl (hs _ (by decide +kernel))
    | 3, _ => exact va_eqtl (hs _ (by decide +kernel))
    | 4, _ => exact va_eqtl (hs _ (by decide +kernel))
    | 5, _ => exact va_eqtl (hs _ (by decide +kernel))) hA
  have hZ := va_Zof (A := ev_A s.heap.size) (hts (Cond.laysStatic RX10 "SO" "[J") (by decide +kernel)) (hts (Cond.initialized RX10) (by decide +kernel)) ht1 hA
  have hC : ev_CT D dA s.heap.size b a1 xs L s := ⟨⟨hD, hdA⟩, hX, hT, hZ, fun w hw => dp_of (List.mem_filter.mp hw).2 (hts w (List.mem_filter.mp hw).1), hbl, Nat.le_refl _⟩
  have hWD : ev_WD D dA s.heap.size b a1 2 h0 s.heap := ⟨rfl, Nat.le_refl _, fun k h1 h2 => by omega⟩
  have hl := ev_LV.entry (ev_am s.heap.size b a1) [.ref 0] 4 (by decide)
  rw [lg_entry_eq]
  refine ev_sound (D := D) (dA := dA) (b := s.heap.size) (a0 := b) (a1 := a1) hE p e room_1 s m #[Value.ref b] below meth c s.heap [] 0 0 600000 7302250 _ _ hx hb hml hown (fun w hw => hts w (List.mem_filter.mp hw).1) hn hC va_S.rf hWD hl (Nat.le_trans hd (by decide)) (Nat.le_trans (Nat.mul_le_mul_left 60 hd) (by decide)) (by decide) (by decide) (Nat.le_refl _) (Nat.le_refl _) ?_
  intro pc lsB H locs sz h r i hq hW' hS hdg hrt
  subst hq
  rcases hrt with ⟨rfl, v, h1, ty, h2, h3⟩ | ⟨rfl, v, h1, h2⟩ | ⟨rfl, v, h1, h2, h3⟩ | ⟨rfl, h1, h2⟩
  · cases h1
    exact va_forget hS.2.2 (lw_ret hx hb hr hlocks hdg)
  · cases h1
  · cases h1
    rcases h2 with h2 | ⟨a, h2⟩ <;> cases h2
  · cases h1
