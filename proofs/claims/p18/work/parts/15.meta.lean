def kOK (ty : FieldType) (v : Value) : Prop := match ty with
  | .int => ∃ x, v = .int x
  | .boolean => ∃ x, v = .int x
  | .long => ∃ x, v = .long x
  | _ => True
theorem kOK_fits {ty : FieldType} {v : Value} (h : fits ty v = true) : kOK ty v := by
  cases ty <;> cases v <;> simp_all [fits, kOK]
def wte (x : va_E) : Prop := match x with
  | .inr (c, fs) => ∀ q, dp_cl[c]? = some q → fs.length = q.2.2 ∧ ∀ (k : Nat) (v : Value), fs[k]? = some v → kOK (dp_ty c k) v
  | .inl _ => True
def WTH (h : ev_H) : Prop := ∀ k, wte (h k)
def sse (x y : va_E) : Prop := match x with
  | .inl (t, n, .inl _) => ∃ g, y = .inl (t, n, .inl g)
  | .inl (t, n, .inr (.inl _)) => ∃ g, y = .inl (t, n, .inr (.inl g))
  | .inl z => y = .inl z
  | .inr (c, fs) => ∃ gs : List Value, y = .inr (c, gs) ∧ ∀ q, dp_cl[c]? = some q → ∀ k : Nat, (q.2.1 k).2.2.2 = true → gs[k]? = fs[k]?
theorem sse_rf (x : va_E) : sse x x := by
  obtain ⟨t, n, f | f | f | f | f⟩ | ⟨c, fs⟩ := x
  · exact ⟨f, rfl⟩
  · exact ⟨f, rfl⟩
  · rfl
  · rfl
  · rfl
  · exact ⟨fs, rfl, fun _ _ _ _ => rfl⟩
theorem sse_tr {x y z : va_E} (h1 : sse x y) (h2 : sse y z) : sse x z := by
  obtain ⟨t, n, f | f | f | f | f⟩ | ⟨c, fs⟩ := x
  · obtain ⟨g, rfl⟩ := h1
    exact h2
  · obtain ⟨g, rfl⟩ := h1
    exact h2
  · cases h1
    exact h2
  · cases h1
    exact h2
  · cases h1
    exact h2
  · obtain ⟨gs, rfl, hg⟩ := h1
    obtain ⟨ks, rfl, hk⟩ := h2
    exact ⟨ks, rfl, fun q hq k hf => (hk q hq k hf).trans (hg q hq k hf)⟩
def rfe (R : Nat → Prop) (x : va_E) : Prop := match x with
  | .inl (_, _, .inr (.inr (.inr (.inr f)))) => ∀ j a, f j = some a → R a
  | .inl _ => True
  | .inr (_, fs) => ∀ (k : Nat) (a : Nat), fs[k]? = some (.ref a) → R a
def clo (R : Nat → Prop) (h : ev_H) : Prop := ∀ k, 2 ≤ k → R k → rfe R (h k)
def vr (R : Nat → Prop) (v : Value) : Prop := ∀ a, v = .ref a → R a
def okl (R : Nat → Prop) (ls : ev_L) : Prop := ∀ (j : Nat) (v : Value), ls[j]? = some (some v) → vr R v
def oks (R : Nat → Prop) (st : List Value) : Prop := ∀ v ∈ st, vr R v
theorem oks_c {R : Nat → Prop} {v : Value} {st : List Value} : oks R (v :: st) ↔ vr R v ∧ oks R st := List.forall_mem_cons
theorem vr_i {R : Nat → Prop} (x : Int32) : vr R (.int x) := fun _ h => by cases h
theorem vr_l {R : Nat → Prop} (x : Int64) : vr R (.long x) := fun _ h => by cases h
theorem vr_n {R : Nat → Prop} : vr R .null := fun _ h => by cases h
theorem okl_s1 {R : Nat → Prop} {ls : ev_L} {i : Nat} {v : Value} (h : okl R ls) (hv : vr R v) : okl R (ev_s1 ls i v) := by
  intro j w hw
  unfold ev_s1 at hw
  by_cases hj : i = j
  · subst hj
    have hl : i < (ev_kl ls i).length := by
      have := (List.getElem?_eq_some_iff.mp hw).1
      rwa [List.length_set] at this
    rw [List.getElem?_set_self hl] at hw
    cases hw
    exact hv
  · rw [List.getElem?_set_ne hj] at hw
    exact h j w (ev_kl_get hw).1
theorem okl_s2 {R : Nat → Prop} {ls : ev_L} {i : Nat} {v : Value} (h : okl R ls) (hv : vr R v) : okl R (ev_s2 ls i v) := by
  intro j w hw
  unfold ev_s2 at hw
  by_cases hj : i = j
  · subst hj
    have hl : i < ((ev_kl ls i).set (i + 1) none).length := by
      have := (List.getElem?_eq_some_iff.mp hw).1
      rwa [List.length_set] at this
    rw [List.getElem?_set_self hl] at hw
    cases hw
    exact hv
  · rw [List.getElem?_set_ne hj] at hw
    by_cases hk : i + 1 = j
    · subst hk
      have hl : i + 1 < (ev_kl ls i).length := by
        have := (List.getElem?_eq_some_iff.mp hw).1
        rwa [List.length_set] at this
      rw [List.getElem?_set_self hl] at hw
      cases hw
    · rw [List.getElem?_set_ne hk] at hw
      exact h j w (ev_kl_get hw).1
set_option maxHeartbeats 4000000 in
theorem ev_pu_vr {R : Nat → Prop} {i : Instr} {pc pc' : Nat} {ls ls' : ev_L} {st st' : List Value} (h : ev_pu i pc ls st = some (pc', ls', st')) (hl : okl R ls) (hs : oks R st) : okl R ls' ∧ oks R st' := by
  unfold ev_pu at h
  split at h
  · cases h; exact ⟨hl, oks_c.mpr ⟨vr_i _, hs⟩⟩
  · cases h; exact ⟨hl, oks_c.mpr ⟨vr_i _, hs⟩⟩
  · cases h; exact ⟨hl, oks_c.mpr ⟨vr_i _, hs⟩⟩
  · cases h; exact ⟨hl, oks_c.mpr ⟨vr_l _, hs⟩⟩
  · cases h; exact ⟨hl, oks_c.mpr ⟨vr_n, hs⟩⟩
  all_goals first
    | (obtain ⟨v, hv, h9⟩ := Option.map_eq_some_iff.mp h; clear h; unfold ev_ldi at hv; split at hv <;> cases hv; cases h9; exact ⟨hl, oks_c.mpr ⟨vr_i _, hs⟩⟩)
    | (obtain ⟨v, hv, h9⟩ := Option.map_eq_some_iff.mp h; clear h; unfold ev_ldl at hv; split at hv <;> cases hv; cases h9; exact ⟨hl, oks_c.mpr ⟨vr_l _, hs⟩⟩)
    | (obtain ⟨v, hv, h9⟩ := Option.map_eq_some_iff.mp h; clear h; unfold ev_lda at hv; split at hv <;> cases hv <;> cases h9 <;> exact ⟨hl, oks_c.mpr ⟨hl _ _ (by assumption), hs⟩⟩)
    | (obtain ⟨v, hv, h9⟩ := Option.map_eq_some_iff.mp h; clear h; unfold ev_sti at hv; split at hv <;> first | (cases hv; done) | skip; split at hv <;> cases hv; cases h9; exact ⟨okl_s1 hl (vr_i _), (oks_c.mp hs).2⟩)
    | (obtain ⟨v, hv, h9⟩ := Option.map_eq_some_iff.mp h; clear h; unfold ev_stl at hv; split at hv <;> first | (cases hv; done) | skip; split at hv <;> cases hv; cases h9; exact ⟨okl_s2 hl (vr_l _), (oks_c.mp hs).2⟩)
    | (obtain ⟨v, hv, h9⟩ := Option.map_eq_some_iff.mp h; clear h; unfold ev_sta at hv; split at hv <;> first | (cases hv; done) | skip; all_goals (split at hv <;> cases hv); all_goals (cases h9); all_goals exact ⟨okl_s1 hl (oks_c.mp hs).1, (oks_c.mp hs).2⟩)
    | (obtain ⟨v, hv, h9⟩ := Option.map_eq_some_iff.mp h; clear h; unfold ev_inc at hv; split at hv <;> first | (cases hv; done) | skip; split at hv <;> cases hv; cases h9; exact ⟨okl_s1 hl (vr_i _), hs⟩)
    | (obtain ⟨v, hv, h9⟩ := Option.map_eq_some_iff.mp h; clear h; unfold ev_2i at hv; split at hv <;> cases hv; cases h9; exact ⟨hl, oks_c.mpr ⟨vr_i _, (oks_c.mp (oks_c.mp hs).2).2⟩⟩)
    | (obtain ⟨v, hv, h9⟩ := Option.map_eq_some_iff.mp h; clear h; unfold ev_2l at hv; split at hv <;> cases hv; cases h9; exact ⟨hl, oks_c.mpr ⟨by first | exact vr_l _ | exact vr_i _, (oks_c.mp (oks_c.mp hs).2).2⟩⟩)
    | (obtain ⟨v, hv, h9⟩ := Option.map_eq_some_iff.mp h; clear h; unfold ev_li at hv; split at hv <;> cases hv; cases h9; exact ⟨hl, oks_c.mpr ⟨vr_l _, (oks_c.mp (oks_c.mp hs).2).2⟩⟩)
    | (obtain ⟨v, hv, h9⟩ := Option.map_eq_some_iff.mp h; clear h; unfold ev_1i at hv; split at hv <;> cases hv; cases h9; exact ⟨hl, oks_c.mpr ⟨by first | exact vr_l _ | exact vr_i _, (oks_c.mp hs).2⟩⟩)
    | (obtain ⟨v, hv, h9⟩ := Option.map_eq_some_iff.mp h; clear h; unfold ev_1l at hv; split at hv <;> cases hv; cases h9; exact ⟨hl, oks_c.mpr ⟨by first | exact vr_l _ | exact vr_i _, (oks_c.mp hs).2⟩⟩)
    | (obtain ⟨v, hv, h9⟩ := Option.map_eq_some_iff.mp h; clear h; unfold ev_div at hv; split at hv <;> first | (cases hv; done) | skip; split at hv <;> cases hv; cases h9; exact ⟨hl, oks_c.mpr ⟨vr_i _, (oks_c.mp (oks_c.mp hs).2).2⟩⟩)
    | (obtain ⟨v, hv, h9⟩ := Option.map_eq_some_iff.mp h; clear h; unfold ev_dup at hv; split at hv <;> first | (cases hv; done) | skip; split at hv <;> cases hv; cases h9; exact ⟨hl, oks_c.mpr ⟨(oks_c.mp hs).1, hs⟩⟩)
    | (obtain ⟨v, hv, h9⟩ := Option.map_eq_some_iff.mp h; clear h; unfold ev_pop at hv; split at hv <;> first | (cases hv; done) | skip; split at hv <;> cases hv; cases h9; exact ⟨hl, (oks_c.mp hs).2⟩)
    | (obtain ⟨v, hv, h9⟩ := Option.map_eq_some_iff.mp h; clear h; unfold ev_pop2 at hv; split at hv <;> first | (cases hv; done) | skip; split at hv <;> cases hv; cases h9; exact ⟨hl, (oks_c.mp hs).2⟩)
    | (obtain ⟨v, hv, h9⟩ := Option.map_eq_some_iff.mp h; clear h; unfold ev_dup2 at hv; split at hv <;> first | (cases hv; done) | skip; split at hv; (cases hv; cases h9; exact ⟨hl, oks_c.mpr ⟨(oks_c.mp hs).1, hs⟩⟩); split at hv <;> first | (cases hv; done) | skip; split at hv <;> cases hv; cases h9; exact ⟨hl, oks_c.mpr ⟨(oks_c.mp hs).1, oks_c.mpr ⟨(oks_c.mp (oks_c.mp hs).2).1, hs⟩⟩⟩)
    | (obtain ⟨v, hv, h9⟩ := Option.map_eq_some_iff.mp h; clear h; cases h9; exact ⟨hl, hs⟩)
    | (cases h; done)
theorem ev_br_vr {R : Nat → Prop} {i : Instr} {st r : List Value} {cd ce : Prop} {off : Int} (h : ev_br i st = some (cd, ce, r, off)) (hs : oks R st) : oks R r := by
  unfold ev_br at h
  split at h
  · split at h <;> first | (cases h; done) | skip
    split at h <;> cases h <;> exact (oks_c.mp hs).2
  · split at h <;> first | (cases h; done) | skip
    split at h <;> cases h <;> exact (oks_c.mp (oks_c.mp hs).2).2
  · split at h <;> cases h <;> exact (oks_c.mp hs).2
  · split at h <;> cases h <;> exact (oks_c.mp hs).2
  · cases h
/-- what a method that makes nothing keeps: kinds, final fields, cells out of R -/
def fr (R : Nat → Prop) (sz : Nat) (h : ev_H) (Q : ev_Q) : ev_Q := fun sz' h' r => Q sz' h' r ∧ sz' = sz ∧ WTH h' ∧ clo R h' ∧ (∀ k, sse (h k) (h' k)) ∧ (∀ k, ¬ R k → h' k = h k) ∧ oks R r
theorem fr_tr {R : Nat → Prop} {sz : Nat} {h h2 : ev_H} {Q : ev_Q} (h1 : ∀ k, sse (h k) (h2 k)) (hk : ∀ k, ¬ R k → h2 k = h k) : ∀ a b c, fr R sz h2 Q a b c → fr R sz h Q a b c := fun _ _ _ q => ⟨q.1, q.2.1, q.2.2.1, q.2.2.2.1, fun k => sse_tr (h1 k) (q.2.2.2.2.1 k), fun k hn => (q.2.2.2.2.2.1 k hn).trans (hk k hn), q.2.2.2.2.2.2⟩
theorem up_sse {h : ev_H} {a : Nat} {x : va_E} (hx : sse (h a) x) : ∀ k, sse (h k) (va_up h a x k) := fun k => by
  by_cases hk : k = a
  · subst hk; rw [va_up_self]; exact hx
  · rw [va_up_ne _ _ hk]; exact sse_rf _
theorem up_fr {R : Nat → Prop} {h : ev_H} {a : Nat} {x : va_E} (ha : R a) : ∀ k, ¬ R k → va_up h a x k = h k := fun k hk => va_up_ne _ _ (fun q => hk (q ▸ ha))
theorem up_wt {h : ev_H} {a : Nat} {x : va_E} (hw : WTH h) (hx : wte x) : WTH (va_up h a x) := fun k => by
  by_cases hk : k = a
  · subst hk; rw [va_up_self]; exact hx
  · rw [va_up_ne _ _ hk]; exact hw k
theorem up_clo {R : Nat → Prop} {h : ev_H} {a : Nat} {x : va_E} (hc : clo R h) (hx : rfe R x) : clo R (va_up h a x) := fun k h2 hR => by
  by_cases hk : k = a
  · subst hk; rw [va_up_self]; exact hx
  · rw [va_up_ne _ _ hk]; exact hc k h2 hR
theorem oks_app {R : Nat → Prop} {a b : List Value} : oks R (a ++ b) ↔ oks R a ∧ oks R b := List.forall_mem_append
theorem okl_en {R : Nat → Prop} {As : List Value} {n : Nat} (h : oks R As) : okl R (ev_en As n) := by
  have key : ∀ (As : List Value), oks R As → ∀ (j : Nat) (v : Value), (ev_sl As)[j]? = some (some v) → vr R v := by
    intro As
    induction As with
    | nil => intro _ j v hv; simp [ev_sl] at hv
    | cons w ws ih =>
      intro ho j v hv
      unfold ev_sl at hv
      by_cases hc : w.category = 2
      · rw [if_pos hc] at hv
        match j, hv with
        | 0, hv => cases hv; exact (oks_c.mp ho).1
        | 1, hv => cases hv
        | j + 2, hv => exact ih (oks_c.mp ho).2 j v hv
      · rw [if_neg hc] at hv
        match j, hv with
        | 0, hv => cases hv; exact (oks_c.mp ho).1
        | j + 1, hv => exact ih (oks_c.mp ho).2 j v hv
  intro j v hv
  unfold ev_en at hv
  by_cases hj : j < (ev_sl As).length
  · rw [List.getElem?_append_left hj] at hv
    exact key As h j v hv
  · rw [List.getElem?_append_right (by omega), List.getElem?_replicate] at hv
    split at hv <;> cases hv
theorem oks_rev {R : Nat → Prop} {a : List Value} (h : oks R a.reverse) : oks R a := fun v hv => h v (List.mem_reverse.mpr hv)
theorem ev_ca_vr {R : Nat → Prop} {M M' : ev_M} {i : Instr} {sz : Nat} {h : ev_H} {st As rest : List Value} (hc : ev_ca M i sz h st M' As rest) (hs : oks R st) : oks R As ∧ oks R rest := by
  rcases hc.2 with ⟨idx, -, rfl, -⟩ | ⟨idx, a, B, q, ci, fs, -, rfl, rfl, -⟩ | ⟨idx, a, B, -, rfl, rfl, -⟩ | ⟨idx, a, B, q, ci, fs, -, rfl, rfl, -⟩
  · exact ⟨oks_rev (oks_app.mp hs).1, (oks_app.mp hs).2⟩
  · have h2 := oks_c.mp (oks_app.mp hs).2
    exact ⟨oks_c.mpr ⟨h2.1, oks_rev (oks_app.mp hs).1⟩, h2.2⟩
  · have h2 := oks_c.mp (oks_app.mp hs).2
    exact ⟨oks_c.mpr ⟨h2.1, oks_rev (oks_app.mp hs).1⟩, h2.2⟩
  · have h2 := oks_c.mp (oks_app.mp hs).2
    exact ⟨oks_c.mpr ⟨h2.1, oks_rev (oks_app.mp hs).1⟩, h2.2⟩
theorem EV.frame {xs : Nat → Int32} {L d : Nat} {M : ev_M} {sz : Nat} {h : ev_H} {pc : Nat} {ls : ev_L} {st : List Value} {Q : ev_Q} (R : Nat → Prop) (hR1 : R 1) (hE : EV xs L d 0 0 M sz h pc ls st Q) (hw : WTH h) (hc : clo R h) (hl : okl R ls) (hs : oks R st) : EV xs L d 0 0 M sz h pc ls st (fr R sz h Q) := by
  refine hE (fun d kc ks M sz h pc ls st Q => kc = 0 → ks = 0 → WTH h → clo R h → okl R ls → oks R st → EV xs L d 0 0 M sz h pc ls st (fr R sz h Q)) ?_ rfl rfl hw hc hl hs
  clear hE hw hc hl hs
  intro d kc ks M sz h pc ls st Q hst hkc hks hw hc hl hs
  subst hkc hks
  obtain ⟨i, len, hd, hcs⟩ := hst
  rcases hcs with ⟨h0, pc', ls', st', h1, h2⟩ | ⟨h0, cd, ce, r, off, tgt, h1, h2, h3, h4⟩ | ⟨dflt, lo, hi, offs, x, r, off, tgt, h1, h2, h3, h4, h5⟩ | h1 | ⟨h0, M', As, rest, d', kc', ks', kc2, ks2, Qm, h1, h2, h3, h4, h5, h6⟩ | ⟨h0, h1, h2⟩
  · obtain ⟨g1, g2⟩ := ev_pu_vr h1 hl hs
    exact EV.in ⟨i, len, hd, Or.inl ⟨h0, pc', ls', st', h1, h2 rfl rfl hw hc g1 g2⟩⟩
  · have g := ev_br_vr h1 hs
    exact EV.in ⟨i, len, hd, Or.inr (Or.inl ⟨h0, cd, ce, r, off, tgt, h1, h2, fun q => h3 q rfl rfl hw hc hl g, fun q => h4 q rfl rfl hw hc hl g⟩)⟩
  · subst h2
    exact EV.in ⟨i, len, hd, Or.inr (Or.inr (Or.inl ⟨dflt, lo, hi, offs, x, r, off, tgt, h1, rfl, h3, h4, h5 rfl rfl hw hc hl (oks_c.mp hs).2⟩))⟩
  · refine EV.in ⟨i, len, hd, Or.inr (Or.inr (Or.inr (Or.inl ?_)))⟩
    unfold ev_hp at h1 ⊢
    split at h1
    · obtain ⟨a, r, ci, fs, k, v, rfl, g1, g2, g3, g4, g5, g6, kk⟩ := h1
      have hra := (oks_c.mp hs).1 a rfl
      have hv : vr R v := fun b hb => by
        have h9 := hc a g1 hra
        rw [g3] at h9
        exact h9 k b (by rw [g5, hb])
      exact ⟨a, r, ci, fs, k, v, rfl, g1, g2, g3, g4, g5, g6, kk rfl rfl hw hc hl (oks_c.mpr ⟨hv, (oks_c.mp hs).2⟩)⟩
    · obtain ⟨a, r, ci, fs, k, v, rfl, g1, g2, g3, g4, g5, g6, kk⟩ := h1
      have hs2 := oks_c.mp (oks_c.mp hs).2
      have hra := hs2.1 a rfl
      have hrf := hc a g1 hra
      have hwa := hw a
      rw [g3] at hrf hwa
      obtain ⟨q, e1, e2, e3, e4, e5⟩ := id g4
      have hnf : (q.2.1 k).2.2.2 = false := by
        rcases e5 with e5 | e5
        · exact e5.1
        · exact absurd e5.2.1 (Nat.lt_irrefl 0)
      have hwt : wte (.inr (ci, fs.set k v)) := by
        intro q' hq'
        obtain ⟨w1, w2⟩ := hwa q' hq'
        refine ⟨by rw [List.length_set]; exact w1, fun j w hjw => ?_⟩
        by_cases hjk : k = j
        · subst hjk
          rw [List.getElem?_set_self g5] at hjw
          cases hjw
          exact kOK_fits e4
        · rw [List.getElem?_set_ne hjk] at hjw
          exact w2 j w hjw
      have hrx : rfe R (.inr (ci, fs.set k v)) := by
        intro j b hjb
        by_cases hjk : k = j
        · subst hjk
          rw [List.getElem?_set_self g5] at hjb
          exact (oks_c.mp hs).1 b (Option.some.inj hjb)
        · rw [List.getElem?_set_ne hjk] at hjb
          exact hrf j b hjb
      have hsx : sse (h a) (.inr (ci, fs.set k v)) := by
        rw [g3]
        refine ⟨_, rfl, fun q' hq' j hj => ?_⟩
        have : q' = q := Option.some.inj (hq'.symm.trans e1)
        subst this
        by_cases hjk : k = j
        · subst hjk
          rw [hnf] at hj
          cases hj
        · rw [List.getElem?_set_ne hjk]
      exact ⟨a, r, ci, fs, k, v, rfl, g1, g2, g3, g4, g5, g6, EV.post (fr_tr (up_sse hsx) (up_fr hra)) (kk rfl rfl (up_wt hw hwt) (up_clo hc hrx) hl hs2.2)⟩
    · obtain ⟨a, r, j, rfl, ⟨n, f, g1, g2, g3, g4, g5, kk⟩ | ⟨g1, g4, g5, kk⟩⟩ := h1
      · exact ⟨a, r, j, rfl, Or.inl ⟨n, f, g1, g2, g3, g4, g5, kk rfl rfl hw hc hl (oks_c.mpr ⟨vr_i _, (oks_c.mp (oks_c.mp hs).2).2⟩)⟩⟩
      · exact ⟨a, r, j, rfl, Or.inr ⟨g1, g4, g5, kk rfl rfl hw hc hl (oks_c.mpr ⟨vr_i _, (oks_c.mp (oks_c.mp hs).2).2⟩)⟩⟩
    · obtain ⟨a, r, j, rfl, ⟨n, f, g1, g2, g3, g4, g5, kk⟩ | ⟨g1, g4, g5, kk⟩⟩ := h1
      · exact ⟨a, r, j, rfl, Or.inl ⟨n, f, g1, g2, g3, g4, g5, kk rfl rfl hw hc hl (oks_c.mpr ⟨vr_l _, (oks_c.mp (oks_c.mp hs).2).2⟩)⟩⟩
      · exact ⟨a, r, j, rfl, Or.inr ⟨g1, g4, g5, kk rfl rfl hw hc hl (oks_c.mpr ⟨vr_l _, (oks_c.mp (oks_c.mp hs).2).2⟩)⟩⟩
    · obtain ⟨a, r, j, n, f, rfl, g1, g2, g3, g4, g5, kk⟩ := h1
      exact ⟨a, r, j, n, f, rfl, g1, g2, g3, g4, g5, kk rfl rfl hw hc hl (oks_c.mpr ⟨vr_i _, (oks_c.mp (oks_c.mp hs).2).2⟩)⟩
    · obtain ⟨a, r, j, t, n, f, rfl, g1, g2, g3, g4, g5, g6, kk⟩ := h1
      have hra := (oks_c.mp (oks_c.mp hs).2).1 a rfl
      have hv : vr R (va_rf (f j.toNatClampNeg)) := fun b hb => by
        have h9 := hc a g1 hra
        rw [g3] at h9
        cases hf : f j.toNatClampNeg with
        | none => rw [hf] at hb; cases hb
        | some y =>
          rw [hf] at hb
          cases hb
          exact h9 _ _ hf
      exact ⟨a, r, j, t, n, f, rfl, g1, g2, g3, g4, g5, g6, kk rfl rfl hw hc hl (oks_c.mpr ⟨hv, (oks_c.mp (oks_c.mp hs).2).2⟩)⟩
    · obtain ⟨a, r, j, x, n, f, rfl, g1, g2, g3, g4, g5, kk⟩ := h1
      have hs2 := oks_c.mp (oks_c.mp (oks_c.mp hs).2).2
      have hra := hs2.1 a rfl
      exact ⟨a, r, j, x, n, f, rfl, g1, g2, g3, g4, g5, EV.post (fr_tr (up_sse (by rw [g3]; exact ⟨_, rfl⟩)) (up_fr hra)) (kk rfl rfl (up_wt hw trivial) (up_clo hc trivial) hl hs2.2)⟩
    · obtain ⟨a, r, j, x, n, f, rfl, g1, g2, g3, g4, g5, kk⟩ := h1
      have hs2 := oks_c.mp (oks_c.mp (oks_c.mp hs).2).2
      have hra := hs2.1 a rfl
      exact ⟨a, r, j, x, n, f, rfl, g1, g2, g3, g4, g5, EV.post (fr_tr (up_sse (by rw [g3]; exact ⟨_, rfl⟩)) (up_fr hra)) (kk rfl rfl (up_wt hw trivial) (up_clo hc trivial) hl hs2.2)⟩
    · obtain ⟨a, r, j, x, n, f, rfl, g1, g2, g3, g4, g5, kk⟩ := h1
      have hs2 := oks_c.mp (oks_c.mp (oks_c.mp hs).2).2
      have hra := hs2.1 a rfl
      exact ⟨a, r, j, x, n, f, rfl, g1, g2, g3, g4, g5, EV.post (fr_tr (up_sse (by rw [g3]; exact ⟨_, rfl⟩)) (up_fr hra)) (kk rfl rfl (up_wt hw trivial) (up_clo hc trivial) hl hs2.2)⟩
    · obtain ⟨a, r, j, v, t, n, f, ci, fs, q, rfl, g1, g2, g3, g4, g5, g6, g7, g8, g9, kk⟩ := h1
      exact absurd g9 (Nat.lt_irrefl 0)
    · obtain ⟨a, r, rfl, ⟨t, x, g1, g2, g3, g4, g5, kk⟩ | ⟨g1, g5, kk⟩ | ⟨g1, g5, kk⟩⟩ := h1
      · exact ⟨a, r, rfl, Or.inl ⟨t, x, g1, g2, g3, g4, g5, kk rfl rfl hw hc hl (oks_c.mpr ⟨vr_i _, (oks_c.mp hs).2⟩)⟩⟩
      · exact ⟨a, r, rfl, Or.inr (Or.inl ⟨g1, g5, kk rfl rfl hw hc hl (oks_c.mpr ⟨vr_i _, (oks_c.mp hs).2⟩)⟩)⟩
      · exact ⟨a, r, rfl, Or.inr (Or.inr ⟨g1, g5, kk rfl rfl hw hc hl (oks_c.mpr ⟨vr_i _, (oks_c.mp hs).2⟩)⟩)⟩
    · obtain ⟨r, n, N, t, x, kc', ks', rfl, g1, g2, g3, g4, g5, g6, -⟩ := h1
      omega
    · obtain ⟨r, n, N, t, C, kc', ks', rfl, g1, g2, g3, g4, g5, g6, g7, -⟩ := h1
      omega
    · obtain ⟨ci, q, fs, kc', ks', g1, g2, g3, g4, g5, g6, -⟩ := h1
      omega
    · exact ⟨h1.1, h1.2.1, h1.2.2 rfl rfl hw hc hl (oks_c.mpr ⟨fun a ha => by cases ha; exact hR1, hs⟩)⟩
    · obtain ⟨v, g1, g2, kk⟩ := h1
      exact ⟨v, g1, g2, kk rfl rfl hw hc hl (oks_c.mpr ⟨vr_i _, hs⟩)⟩
    · obtain ⟨v, g1, g2, kk⟩ := h1
      exact ⟨v, g1, g2, kk rfl rfl hw hc hl (oks_c.mpr ⟨vr_i _, hs⟩)⟩
    · obtain ⟨v, g1, g2, kk⟩ := h1
      exact ⟨v, g1, g2, kk rfl rfl hw hc hl (oks_c.mpr ⟨vr_l _, hs⟩)⟩
    · obtain ⟨a, r, rfl, g0, g1, g2, g3, g4, g5, kk⟩ := h1
      exact ⟨a, r, rfl, g0, g1, g2, g3, g4, g5, kk rfl rfl hw hc hl (oks_c.mp hs).2⟩
    · obtain ⟨x, y, r, rfl, g0, g1, g2, g3, g4, g5, g6, kk⟩ := h1
      exact ⟨x, y, r, rfl, g0, g1, g2, g3, g4, g5, g6, kk rfl rfl hw hc hl (oks_c.mpr ⟨vr_i _, (oks_c.mp (oks_c.mp hs).2).2⟩)⟩
    · exact h1.elim
  · obtain ⟨hA, hr⟩ := ev_ca_vr h4 hs
    have e1 : kc' = 0 := by omega
    have e2 : ks' = 0 := by omega
    have e3 : kc2 = 0 := by omega
    have e4 : ks2 = 0 := by omega
    subst e1 e2 e3 e4
    refine EV.in ⟨i, len, hd, Or.inr (Or.inr (Or.inr (Or.inr (Or.inl ⟨h0, M', As, rest, d', 0, 0, 0, 0, fr R sz h Qm, h1, rfl, rfl, h4, h5 rfl rfl hw hc (okl_en hA) (fun _ h => by cases h), ?_⟩))))⟩
    intro sz' h' r ⟨q1, q2, q3, q4, q5, q6, q7⟩
    subst q2
    exact EV.post (fr_tr q5 q6) (h6 _ _ _ q1 rfl rfl q3 q4 hl (oks_app.mpr ⟨q7, hr⟩))
  · exact EV.in ⟨i, len, hd, Or.inr (Or.inr (Or.inr (Or.inr (Or.inr ⟨h0, h1, h2, rfl, hw, hc, fun k => sse_rf _, fun _ _ => rfl, hs⟩))))⟩
