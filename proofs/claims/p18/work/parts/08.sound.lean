def ev_sl : List Value → ev_L
  | [] => []
  | v :: vs => if v.category = 2 then some v :: none :: ev_sl vs else some v :: ev_sl vs
def ev_en (As : List Value) (n : Nat) : ev_L := ev_sl As ++ List.replicate (n - (ev_sl As).length) none
def ev_rt (ret : Option FieldType) (i : Instr) (r : List Value) : Prop :=
  (i = .ireturn ∧ ∃ v, r = [.int v] ∧ ∃ ty, ret = some ty ∧ narrow ty (.int v) = .int v) ∨ (i = .lreturn ∧ ∃ v, r = [.long v] ∧ ret = some .long) ∨
  (i = .areturn ∧ ∃ v, r = [v] ∧ (v = .null ∨ ∃ a, v = .ref a) ∧ ∃ n, ret = some (.object n)) ∨ (i = .return_ ∧ r = [] ∧ ret = none)
/-- a call's target: the callee, its arguments, what is left of the stack -/
def ev_ca (M : ev_M) (i : Instr) (sz : Nat) (h : ev_H) (st : List Value) (M' : ev_M) (As rest : List Value) : Prop :=
  (plainName M'.1.cls = true ∧ Cond.code M'.1 M'.2.1 M'.2.2.1 M'.2.2.2 ∈ dp_tb ∧ Cond.initialized M'.1.cls ∈ dp_tb ∧ M'.2.2.1 ≤ 40 ∧ (M'.1.cls ≠ "java/lang/invoke/MethodHandle" ∧ M'.1.cls ≠ "java/lang/invoke/VarHandle") ∧ (ev_sl As).length ≤ M'.2.2.1 ∧ ev_cs rest ≤ 8) ∧
  ((∃ idx, i = .invokestatic idx ∧ st = As.reverse ++ rest ∧ Cond.static M'.1 ∈ dp_tb ∧ (parseMethodDescriptor M'.1.desc).map (fun d => d.parameters.length) = some As.length ∧ (Cond.methodLink M.1.cls idx M'.1 ∈ dp_tb ∨ ∃ host, Cond.methodLinkNest M.1.cls idx M'.1 host ∈ dp_nb)) ∨
   (∃ idx a B q ci fs, i = .invokevirtual idx ∧ As = .ref a :: B ∧ st = B.reverse ++ .ref a :: rest ∧ 2 ≤ a ∧ a < sz ∧ h a = .inr (ci, fs) ∧ dp_cl[ci]? = some q ∧ (parseMethodDescriptor M'.1.desc).map (fun d => d.parameters.length) = some B.length ∧ Cond.instanceMethod M'.1 ∈ dp_tb ∧
     ((Cond.selects q.1 M'.1 M'.1 ∈ dp_tb ∧ M'.1.cls = q.1 ∧ (Cond.methodLink M.1.cls idx M'.1 ∈ dp_tb ∨ ∃ host, Cond.methodLinkNest M.1.cls idx M'.1 host ∈ dp_nb)) ∨
      (∃ (x : MethodName) (b0 : ByteArray) (m0 : Nat) (r0 : Option FieldType), (x.cls ≠ "java/lang/invoke/MethodHandle" ∧ x.cls ≠ "java/lang/invoke/VarHandle") ∧ (parseMethodDescriptor x.desc).map (fun d => d.parameters.length) = some B.length ∧ Cond.methodLink M.1.cls idx x ∈ dp_tb ∧ Cond.sameMethod x.cls x.cls x.name x.desc ∈ dp_tb ∧ Cond.instanceMethod x ∈ dp_tb ∧ Cond.selects q.1 x M'.1 ∈ dp_tb ∧ Cond.code x b0 m0 r0 ∈ dp_tb))) ∨
   (∃ idx a B, i = .invokespecial idx ∧ As = .ref a :: B ∧ st = B.reverse ++ .ref a :: rest ∧ M'.1.name = "<init>" ∧ M'.2.2.2 = none ∧ Cond.instanceMethod M'.1 ∈ dp_tb ∧ (parseMethodDescriptor M'.1.desc).map (fun d => d.parameters.length) = some B.length ∧ (Cond.methodLink M.1.cls idx M'.1 ∈ dp_tb ∨ ∃ host, Cond.methodLinkNest M.1.cls idx M'.1 host ∈ dp_nb)) ∨
   (∃ idx a B q ci fs, i = .invokespecial idx ∧ As = .ref a :: B ∧ st = B.reverse ++ .ref a :: rest ∧ 2 ≤ a ∧ a < sz ∧ h a = .inr (ci, fs) ∧ dp_cl[ci]? = some q ∧ (parseMethodDescriptor M'.1.desc).map (fun d => d.parameters.length) = some B.length ∧ M'.1.name ≠ "<init>" ∧ Cond.methodLink M.1.cls idx M'.1 ∈ dp_tb ∧ Cond.sameMethod M'.1.cls M'.1.cls M'.1.name M'.1.desc ∈ dp_tb ∧ Cond.superclass M.1.cls M'.1.cls ∈ dp_tb ∧ Cond.instanceMethod M'.1 ∈ dp_tb))
/-- one step, over what is known of what comes behind it -/
def ev_st (xs : Nat → Int32) (L : Nat) (X : ev_X) : ev_X := fun d kc ks M sz h pc ls st Q => ∃ i len, decode M.2.1 pc = .ok (i, len) ∧
  ((len = ev_ln i ∧ ∃ pc' ls' st', ev_pu i pc ls st = some (pc', ls', st') ∧ X d kc ks M sz h pc' ls' st' Q) ∨
   (len = 3 ∧ ∃ cd ce r off tgt, ev_br i st = some (cd, ce, r, off) ∧ (pc : Int) + off = (tgt : Nat) ∧ (cd → X d kc ks M sz h tgt ls r Q) ∧ (ce → X d kc ks M sz h (pc + 3) ls r Q)) ∨
   (∃ dflt lo hi offs x r off tgt, i = .tableswitch dflt lo hi offs ∧ st = .int x :: r ∧ ((x.toInt < lo ∨ hi < x.toInt) ∧ off = dflt ∨ ¬ x.toInt < lo ∧ ¬ hi < x.toInt ∧ offs[(x.toInt - lo).toNat]? = some off) ∧ (pc : Int) + off = (tgt : Nat) ∧ X d kc ks M sz h tgt ls r Q) ∨
   (ev_hp xs L d M i kc ks sz h st (fun kc' ks' sz' h' len' st' => len' = len ∧ X d kc' ks' M sz' h' (pc + len') ls st' Q)) ∨
   (len = 3 ∧ ∃ M' As rest d' kc' ks' kc2 ks2 Qm, d = d' + 1 ∧ kc = kc' + kc2 ∧ ks = ks' + ks2 ∧ ev_ca M i sz h st M' As rest ∧ X d' kc' ks' M' sz h 0 (ev_en As M'.2.2.1) [] Qm ∧ ∀ sz' h' r, Qm sz' h' r → X d kc2 ks2 M sz' h' (pc + 3) ls (r ++ rest) Q) ∨
   (len = 1 ∧ ev_rt M.2.2.2 i st ∧ Q sz h st))
/-- the least that is closed under the step: from here the method comes to its end, with Q -/
def EV (xs : Nat → Int32) (L : Nat) : ev_X := fun d kc ks M sz h pc ls st Q => ∀ X : ev_X, (∀ d kc ks M sz h pc ls st Q, ev_st xs L X d kc ks M sz h pc ls st Q → X d kc ks M sz h pc ls st Q) → X d kc ks M sz h pc ls st Q
theorem ev_hp_mono {xs : Nat → Int32} {L d : Nat} {M : ev_M} {i : Instr} {kc ks sz : Nat} {h : ev_H} {st : List Value} {K K' : Nat → Nat → Nat → ev_H → Nat → List Value → Prop} (hk : ∀ a b c d e f, K a b c d e f → K' a b c d e f) (hh : ev_hp xs L d M i kc ks sz h st K) : ev_hp xs L d M i kc ks sz h st K' := by
  unfold ev_hp at hh ⊢
  split at hh
  · obtain ⟨a, r, ci, fs, k, v, h1, h2, h3, h4, h5, h6, kk⟩ := hh
    exact ⟨a, r, ci, fs, k, v, h1, h2, h3, h4, h5, h6, hk _ _ _ _ _ _ kk⟩
  · obtain ⟨a, r, ci, fs, k, v, h1, h2, h3, h4, h5, h6, kk⟩ := hh
    exact ⟨a, r, ci, fs, k, v, h1, h2, h3, h4, h5, h6, hk _ _ _ _ _ _ kk⟩
  · obtain ⟨a, r, j, h0, ⟨n, f, h1, h2, h3, h4, kk⟩ | ⟨h1, h4, kk⟩⟩ := hh
    · exact ⟨a, r, j, h0, Or.inl ⟨n, f, h1, h2, h3, h4, hk _ _ _ _ _ _ kk⟩⟩
    · exact ⟨a, r, j, h0, Or.inr ⟨h1, h4, hk _ _ _ _ _ _ kk⟩⟩
  · obtain ⟨a, r, j, h0, ⟨n, f, h1, h2, h3, h4, kk⟩ | ⟨h1, h4, kk⟩⟩ := hh
    · exact ⟨a, r, j, h0, Or.inl ⟨n, f, h1, h2, h3, h4, hk _ _ _ _ _ _ kk⟩⟩
    · exact ⟨a, r, j, h0, Or.inr ⟨h1, h4, hk _ _ _ _ _ _ kk⟩⟩
  · obtain ⟨a, r, j, n, f, h0, h1, h2, h3, h4, kk⟩ := hh
    exact ⟨a, r, j, n, f, h0, h1, h2, h3, h4, hk _ _ _ _ _ _ kk⟩
  · obtain ⟨a, r, j, t, n, f, h0, h1, h2, h3, h4, h5, kk⟩ := hh
    exact ⟨a, r, j, t, n, f, h0, h1, h2, h3, h4, h5, hk _ _ _ _ _ _ kk⟩
  · obtain ⟨a, r, j, x, n, f, h0, h1, h2, h3, h4, kk⟩ := hh
    exact ⟨a, r, j, x, n, f, h0, h1, h2, h3, h4, hk _ _ _ _ _ _ kk⟩
  · obtain ⟨a, r, j, x, n, f, h0, h1, h2, h3, h4, kk⟩ := hh
    exact ⟨a, r, j, x, n, f, h0, h1, h2, h3, h4, hk _ _ _ _ _ _ kk⟩
  · obtain ⟨a, r, j, x, n, f, h0, h1, h2, h3, h4, kk⟩ := hh
    exact ⟨a, r, j, x, n, f, h0, h1, h2, h3, h4, hk _ _ _ _ _ _ kk⟩
  · obtain ⟨a, r, j, v, t, n, f, ci, fs, q, h0, h1, h2, h3, h4, h5, h6, h7, h8, h9, h10, kk⟩ := hh
    exact ⟨a, r, j, v, t, n, f, ci, fs, q, h0, h1, h2, h3, h4, h5, h6, h7, h8, h9, h10, hk _ _ _ _ _ _ kk⟩
  · obtain ⟨a, r, h0, ⟨t, x, h1, h2, h3, h4, kk⟩ | ⟨h1, kk⟩ | ⟨h1, kk⟩⟩ := hh
    · exact ⟨a, r, h0, Or.inl ⟨t, x, h1, h2, h3, h4, hk _ _ _ _ _ _ kk⟩⟩
    · exact ⟨a, r, h0, Or.inr (Or.inl ⟨h1, hk _ _ _ _ _ _ kk⟩)⟩
    · exact ⟨a, r, h0, Or.inr (Or.inr ⟨h1, hk _ _ _ _ _ _ kk⟩)⟩
  · obtain ⟨r, n, N, t, x, kc', ks', h0, h1, h2, h3, h4, h5, h6, h7, kk⟩ := hh
    exact ⟨r, n, N, t, x, kc', ks', h0, h1, h2, h3, h4, h5, h6, h7, hk _ _ _ _ _ _ kk⟩
  · obtain ⟨r, n, N, t, C, kc', ks', h0, h1, h2, h3, h4, h5, h6, h7, h8, kk⟩ := hh
    exact ⟨r, n, N, t, C, kc', ks', h0, h1, h2, h3, h4, h5, h6, h7, h8, hk _ _ _ _ _ _ kk⟩
  · obtain ⟨ci, q, fs, kc', ks', h1, h2, h3, h4, h5, h6, h7, kk⟩ := hh
    exact ⟨ci, q, fs, kc', ks', h1, h2, h3, h4, h5, h6, h7, hk _ _ _ _ _ _ kk⟩
  · exact ⟨hh.1, hk _ _ _ _ _ _ hh.2⟩
  · obtain ⟨v, h1, kk⟩ := hh
    exact ⟨v, h1, hk _ _ _ _ _ _ kk⟩
  · obtain ⟨v, h1, kk⟩ := hh
    exact ⟨v, h1, hk _ _ _ _ _ _ kk⟩
  · obtain ⟨v, h1, kk⟩ := hh
    exact ⟨v, h1, hk _ _ _ _ _ _ kk⟩
  · obtain ⟨a, r, h0, h1, h2, h3, h4, h5, kk⟩ := hh
    exact ⟨a, r, h0, h1, h2, h3, h4, h5, hk _ _ _ _ _ _ kk⟩
  · obtain ⟨x, y, r, h0, h1, h2, h3, h4, h5, h6, kk⟩ := hh
    exact ⟨x, y, r, h0, h1, h2, h3, h4, h5, h6, hk _ _ _ _ _ _ kk⟩
  · exact hh.elim
theorem ev_st_mono {xs : Nat → Int32} {L : Nat} {X Y : ev_X} (hX : ∀ d kc ks M sz h pc ls st Q, X d kc ks M sz h pc ls st Q → Y d kc ks M sz h pc ls st Q) {d kc ks : Nat} {M : ev_M} {sz : Nat} {h : ev_H} {pc : Nat} {ls : ev_L} {st : List Value} {Q : ev_Q} (hh : ev_st xs L X d kc ks M sz h pc ls st Q) : ev_st xs L Y d kc ks M sz h pc ls st Q := by
  obtain ⟨i, len, hd, hc⟩ := hh
  refine ⟨i, len, hd, ?_⟩
  rcases hc with ⟨h0, pc', ls', st', h1, h2⟩ | ⟨h0, cd, ce, r, off, tgt, h1, h2, h3, h4⟩ | ⟨dflt, lo, hi, offs, x, r, off, tgt, h1, h2, h3, h4, h5⟩ | h1 | ⟨h0, M', As, rest, d', kc', ks', kc2, ks2, Qm, h1, h2, h3, h4, h5, h6⟩ | h1
  · exact Or.inl ⟨h0, pc', ls', st', h1, hX _ _ _ _ _ _ _ _ _ _ h2⟩
  · exact Or.inr (Or.inl ⟨h0, cd, ce, r, off, tgt, h1, h2, fun q => hX _ _ _ _ _ _ _ _ _ _ (h3 q), fun q => hX _ _ _ _ _ _ _ _ _ _ (h4 q)⟩)
  · exact Or.inr (Or.inr (Or.inl ⟨dflt, lo, hi, offs, x, r, off, tgt, h1, h2, h3, h4, hX _ _ _ _ _ _ _ _ _ _ h5⟩))
  · exact Or.inr (Or.inr (Or.inr (Or.inl (ev_hp_mono (fun _ _ _ _ _ _ q => ⟨q.1, hX _ _ _ _ _ _ _ _ _ _ q.2⟩) h1))))
  · exact Or.inr (Or.inr (Or.inr (Or.inr (Or.inl ⟨h0, M', As, rest, d', kc', ks', kc2, ks2, Qm, h1, h2, h3, h4, hX _ _ _ _ _ _ _ _ _ _ h5, fun a b c q => hX _ _ _ _ _ _ _ _ _ _ (h6 a b c q)⟩))))
  · exact Or.inr (Or.inr (Or.inr (Or.inr (Or.inr h1))))
theorem EV.in {xs : Nat → Int32} {L d kc ks : Nat} {M : ev_M} {sz : Nat} {h : ev_H} {pc : Nat} {ls : ev_L} {st : List Value} {Q : ev_Q} (hh : ev_st xs L (EV xs L) d kc ks M sz h pc ls st Q) : EV xs L d kc ks M sz h pc ls st Q :=
  fun X hX => hX _ _ _ _ _ _ _ _ _ _ (ev_st_mono (fun _ _ _ _ _ _ _ _ _ _ q => q X hX) hh)
theorem EV.post {xs : Nat → Int32} {L d kc ks : Nat} {M : ev_M} {sz : Nat} {h : ev_H} {pc : Nat} {ls : ev_L} {st : List Value} {Q Q' : ev_Q} (hq : ∀ a b c, Q a b c → Q' a b c) (hh : EV xs L d kc ks M sz h pc ls st Q) : EV xs L d kc ks M sz h pc ls st Q' := by
  refine hh (fun d kc ks M sz h pc ls st Q => ∀ Q' : ev_Q, (∀ a b c, Q a b c → Q' a b c) → EV xs L d kc ks M sz h pc ls st Q') ?_ Q' hq
  intro d kc ks M sz h pc ls st Q hs Q' hq
  obtain ⟨i, len, hd, hc⟩ := hs
  refine EV.in ⟨i, len, hd, ?_⟩
  rcases hc with ⟨h0, pc', ls', st', h1, h2⟩ | ⟨h0, cd, ce, r, off, tgt, h1, h2, h3, h4⟩ | ⟨dflt, lo, hi, offs, x, r, off, tgt, h1, h2, h3, h4, h5⟩ | h1 | ⟨h0, M', As, rest, d', kc', ks', kc2, ks2, Qm, h1, h2, h3, h4, h5, h6⟩ | h1
  · exact Or.inl ⟨h0, pc', ls', st', h1, h2 Q' hq⟩
  · exact Or.inr (Or.inl ⟨h0, cd, ce, r, off, tgt, h1, h2, fun q => h3 q Q' hq, fun q => h4 q Q' hq⟩)
  · exact Or.inr (Or.inr (Or.inl ⟨dflt, lo, hi, offs, x, r, off, tgt, h1, h2, h3, h4, h5 Q' hq⟩))
  · exact Or.inr (Or.inr (Or.inr (Or.inl (ev_hp_mono (fun _ _ _ _ _ _ q => ⟨q.1, q.2 Q' hq⟩) h1))))
  · exact Or.inr (Or.inr (Or.inr (Or.inr (Or.inl ⟨h0, M', As, rest, d', kc', ks', kc2, ks2, Qm, h1, h2, h3, h4, h5 Qm (fun _ _ _ q => q), fun a b c q => h6 a b c q Q' hq⟩))))
  · exact Or.inr (Or.inr (Or.inr (Or.inr (Or.inr ⟨h1.1, h1.2.1, hq _ _ _ h1.2.2⟩))))
