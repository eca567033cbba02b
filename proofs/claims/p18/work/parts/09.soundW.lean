def ev_W (l : Launch) (D : va_G) (dA : Nat → ClassId) (b a0 a1 : Nat) (xs : Nat → Int32) (L : Nat) : ev_X := fun d kc ks M sz h pc ls st Q =>
  ∀ (p : Program) (e : Env) (R : Room) (s : State) (m : MethodId) (args : Array Value) (below : List Frame) (meth : Method) (c : Code) (H : Heap) (locs : List Loc) (cells slots mc ms : Nat) (lsA : Array Slot) (Qf : State → Prop),
    p.tables.exec = Jvm.exec → c.code = M.2.1 → c.maxLocals = M.2.2.1 → s.vm.findClass M.1.cls = some m.cls → (∀ w ∈ dp_tb, w.before args s = true) → meth.name = M.1.name → ev_CT D dA b a0 a1 xs L s →
    va_S (ev_A b) s.heap H locs → ev_WD D dA b a0 a1 sz h H → ev_LV (ev_am b a0 a1) lsA M.2.2.1 ls → d ≤ R.frames → 60 * d ≤ R.locals → cells + kc ≤ mc → slots + ks ≤ ms → mc ≤ R.cells → ms ≤ R.slots →
    (∀ (pc : Nat) (lsB : Array Slot) (H : Heap) (locs : List Loc) (sz : Nat) (h : ev_H) (r : List Value) (i : Instr), Q sz h r → ev_WD D dA b a0 a1 sz h H → va_S (ev_A b) s.heap H locs → decode M.2.1 pc = .ok (i, 1) → ev_rt M.2.2.2 i r → W p l e R s m args below meth c H locs mc ms Qf (F0 m pc lsB (r.map (ev_v (ev_am b a0 a1))))) →
    W p l e R s m args below meth c H locs cells slots Qf (F0 m pc lsA (st.map (ev_v (ev_am b a0 a1))))
theorem ev_CT.moved {D : va_G} {dA : Nat → ClassId} {b a0 a1 : Nat} {xs : Nat → Int32} {L : Nat} {s U : State} {H : Heap} {locs : List Loc} (h : ev_CT D dA b a0 a1 xs L s) (hS : va_S (ev_A b) s.heap H locs) (hU : U.heap = H) (hW : s.WarmedH U.vm) : ev_CT D dA b a0 a1 xs L U := by
  obtain ⟨h1, h2, h3, h4, h5, h6, h7⟩ := h
  have hlt : a0 < s.heap.size := by omega
  refine ⟨va_K.moved hW.alike h1, ?_, ?_, ?_, fun w hw => dp_warm (List.mem_filter.mp hw).2 hW (h5 w hw), h6, by rw [hU]; exact Nat.le_trans h7 hS.1⟩
  · rw [hU]
    exact (h2.kept (hS.2.1 a0 hlt (Nat.not_le.mpr h6))).moved hW.alike
  · rw [hU]
    exact (h3.kept (fun a g1 g2 => hS.2.1 a g1 g2)).moved hW.alike
  · rw [hU]
    exact (h4.kept (fun a g1 g2 => hS.2.1 a g1 g2)).moved hW.alike
theorem ev_CT.vm {D : va_G} {dA : Nat → ClassId} {b a0 a1 : Nat} {xs : Nat → Int32} {L : Nat} {s U : State} (h : ev_CT D dA b a0 a1 xs L s) (hU : U.heap = s.heap) (hv : s.vm = U.vm) : ev_CT D dA b a0 a1 xs L U := by
  have hal : s.vm.Alike U.vm := by rw [hv]; exact Vm.Alike.refl _
  obtain ⟨h1, h2, h3, h4, h5, h6, h7⟩ := h
  refine ⟨va_K.moved hal h1, ?_, ?_, ?_, fun w hw => dp_vm (List.mem_filter.mp hw).2 hv (h5 w hw), h6, by rw [hU]; exact h7⟩
  · rw [hU]; exact h2.moved hal
  · rw [hU]; exact h3.moved hal
  · rw [hU]; exact h4.moved hal
theorem ev_sl_lg (am : Nat → Nat) : ∀ As : List Value, (lg_sl (As.map (ev_v am))).length = (ev_sl As).length
  | [] => rfl
  | v :: vs => by
    have ih := ev_sl_lg am vs
    unfold lg_sl at ih ⊢
    rw [List.map_cons, List.flatMap_cons, List.length_append, ih, ev_cat]
    show _ = (if v.category = 2 then some v :: none :: ev_sl vs else some v :: ev_sl vs).length
    by_cases hc : v.category = 2
    · rw [if_pos hc, if_pos hc]
      simp only [List.length_cons, List.length_nil]
      omega
    · rw [if_neg hc, if_neg hc]
      simp only [List.length_cons, List.length_nil]
      omega
theorem ev_sl_at (am : Nat → Nat) : ∀ (As : List Value) (i j : Nat) (w : Value), (ev_sl As)[j]? = some (some w) → (i + j, ev_v am w) ∈ lv_args i (As.map (ev_v am))
  | [], i, j, w, h => by simp [ev_sl] at h
  | v :: vs, i, j, w, h => by
    rw [List.map_cons]
    unfold lv_args
    rw [ev_cat]
    unfold ev_sl at h
    by_cases hc : v.category = 2
    · rw [if_pos hc] at h ⊢
      match j, h with
      | 0, h =>
        cases h
        exact List.mem_cons_self
      | 1, h => cases h
      | j + 2, h =>
        have := ev_sl_at am vs (i + 2) j w h
        exact List.mem_cons_of_mem _ (by rw [show i + (j + 2) = i + 2 + j by omega]; exact this)
    · rw [if_neg hc] at h ⊢
      match j, h with
      | 0, h =>
        cases h
        exact List.mem_cons_self
      | j + 1, h =>
        have := ev_sl_at am vs (i + 1) j w h
        exact List.mem_cons_of_mem _ (by rw [show i + (j + 1) = i + 1 + j by omega]; exact this)
theorem ev_LV.entry (am : Nat → Nat) (As : List Value) (n : Nat) (h : (ev_sl As).length ≤ n) : ev_LV am ((lg_sl (As.map (ev_v am)) ++ List.replicate (n - (lg_sl (As.map (ev_v am))).length) Slot.unset).toArray) n (ev_en As n) := by
  have hl := lv_entry (As.map (ev_v am)) (n := n) (by rw [ev_sl_lg]; exact h)
  refine ⟨hl.1, hl.2.1, ?_, fun j w hw => ?_⟩
  · unfold ev_en
    rw [List.length_append, List.length_replicate]
    omega
  · unfold ev_en at hw
    by_cases hj : j < (ev_sl As).length
    · rw [List.getElem?_append_left hj] at hw
      have := ev_sl_at am As 0 j w hw
      rw [Nat.zero_add] at this
      exact hl.2.2 (j, ev_v am w) this
    · rw [List.getElem?_append_right (by omega), List.getElem?_replicate] at hw
      split at hw <;> cases hw
/-- what a callee leaves -/
def ev_Qc (D : va_G) (dA : Nat → ClassId) (b a0 a1 : Nat) (Q : ev_Q) : Array Value → State → Outcome → State → Prop := fun _ st oc t => ∃ (sz : Nat) (h : ev_H) (r : List Value), oc = .returned (r.map (ev_v (ev_am b a0 a1))).head? ∧ r.length ≤ 1 ∧ Q sz h r ∧ ev_WD D dA b a0 a1 sz h t.heap ∧ va_F (ev_A b) st t
abbrev ev_Pc (D : va_G) (dA : Nat → ClassId) (b a0 a1 : Nat) (xs : Nat → Int32) (L sz : Nat) (h : ev_H) (As : List Value) : Array Value → State → Prop := va_Pc (As.map (ev_v (ev_am b a0 a1))) (fun U => ev_CT D dA b a0 a1 xs L U ∧ ev_WD D dA b a0 a1 sz h U.heap)
abbrev ev_rm (d kc ks : Nat) : Room := { frames := d, cells := kc, slots := ks, locals := 60 * d }
abbrev ev_ws (M : ev_M) : List Cond := Cond.code M.1 M.2.1 M.2.2.1 M.2.2.2 :: dp_tb
theorem ev_met {l : Launch} {D : va_G} {dA : Nat → ClassId} {b a0 a1 : Nat} {xs : Nat → Int32} {L d kc ks : Nat} {M : ev_M} {sz : Nat} {h : ev_H} {As : List Value} {Q : ev_Q} (hy : plainName M.1.cls = true) (hlen : (ev_sl As).length ≤ M.2.2.1) (hE : ev_W l D dA b a0 a1 xs L d kc ks M sz h 0 (ev_en As M.2.2.1) [] Q) :
    Met l M.1 (ev_ws M) (ev_rm d kc ks) (ev_Pc D dA b a0 a1 xs L sz h As) (ev_Qc D dA b a0 a1 Q) kc ks (ev_A b) := by
  refine Met.ofW (cc := M.2.1) (maxL := M.2.2.1) (ret := M.2.2.2) hy rfl ?_
  intro p e s m args below meth c s₁ B hml hv
  obtain ⟨rfl, hC, hWD⟩ := hv
  have hx := B.exec
  have hb := B.bytes
  have hr := B.returns
  have hts := atoms_spec (ws := ev_ws M) B.pre
  have hown : s.vm.findClass M.1.cls = some m.cls := findClass_of_methodNamed B.named
  have hlocks := B.notSynchronized
  have hin : meth.name = M.1.name := (name_of_methodNamed B.named B.method).1
  rw [lg_entry_eq]
  refine hE p e _ s m _ below meth c s.heap [] 0 0 kc ks _ _ hx hb hml hown (fun w hw => hts w (List.mem_cons_of_mem _ hw)) hin hC va_S.rf hWD (ev_LV.entry _ As _ hlen) (Nat.le_refl _) (Nat.le_refl _) (by omega) (by omega) (Nat.le_refl _) (Nat.le_refl _) ?_
  intro pc lsB H locs sz' h' r i hq hW' hS hd hrt
  rcases hrt with ⟨rfl, v, rfl, ty, h1, h2⟩ | ⟨rfl, v, rfl, h1⟩ | ⟨rfl, v, rfl, h1, n, h2⟩ | ⟨rfl, rfl, h1⟩
  · exact W.zret hx hb (hr.trans h1) h2 (fun t ht hW => ⟨sz', h', [.int v], rfl, Nat.le_refl _, hq, by rw [ht]; exact hW', hS.F ht⟩) hS.2.2 hd
  · exact W.lret hx hb (hr.trans h1) (fun t ht hW => ⟨sz', h', [.long v], rfl, Nat.le_refl _, hq, by rw [ht]; exact hW', hS.F ht⟩) hS.2.2 hd
  · refine W.aret (v := ev_v (ev_am b a0 a1) v) hx hb (hr.trans h2) (Or.inl ⟨_, rfl⟩) ?_ (fun t ht hW => ⟨sz', h', [v], rfl, Nat.le_refl _, hq, by rw [ht]; exact hW', hS.F ht⟩) hS.2.2 hd
    rcases h1 with rfl | ⟨a, rfl⟩
    · exact Or.inl rfl
    · exact Or.inr ⟨_, rfl⟩
  · exact W.vret hx hb (hr.trans h1) (fun t ht hW => ⟨sz', h', [], rfl, Nat.zero_le _, hq, by rw [ht]; exact hW', hS.F ht⟩) hS.2.2 hd
