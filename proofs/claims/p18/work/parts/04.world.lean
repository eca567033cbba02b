def dp_tb : List Cond := lw_tbl.filter goodWord
def dp_isN (w : Cond) : Bool := match w with
  | .arrayOver (.object _) => true
  | .methodLinkNest _ _ _ _ => true
  | .fieldLinkNest _ _ _ _ _ _ => true
  | _ => false
def dp_nb : List Cond := lw_tbl.filter dp_isN
theorem dp_tbGood : ∀ w ∈ dp_tb, (w.onTables && w.keeps) = true ∨ ∃ ty, w = .arrayClass ty := fun _ h => good_of_word (List.mem_filter.mp h).2
theorem dp_warm {w : Cond} (hw : dp_isN w = true) {s U : State} (hW : s.WarmedH U.vm) (h : va_Nw w s) : va_Nw w U := by
  unfold dp_isN at hw
  split at hw
  · exact va_AO.moved hW.alike h
  · exact va_Nw.warmM hW h
  · exact va_Nw.warmF hW h
  · cases hw
theorem dp_vm {w : Cond} (hw : dp_isN w = true) {s U : State} (hv : s.vm = U.vm) (h : va_Nw w s) : va_Nw w U := by
  unfold dp_isN at hw
  split at hw
  · exact va_AO.moved (by rw [hv]; exact Vm.Alike.refl _) h
  · exact va_Nw.same rfl hv h
  · exact va_Nw.same rfl hv h
  · cases hw
def ev_am (b a0 a1 : Nat) (k : Nat) : Nat := match k with
  | 0 => a0
  | 1 => a1
  | k + 2 => b + k
def ev_v (am : Nat → Nat) (v : Value) : Value := match v with
  | .ref a => .ref (am a)
  | v => v
def ev_e (am : Nat → Nat) (dA : Nat → ClassId) (e : va_E) : va_E := match e with
  | .inl (t, n, .inr (.inr (.inr (.inr f)))) => .inl (dA t, n, .inr (.inr (.inr (.inr (fun j => (f j).map am)))))
  | .inl (t, n, .inl f) => .inl (dA t, n, .inl f)
  | .inl (t, n, .inr (.inl f)) => .inl (dA t, n, .inr (.inl f))
  | .inl (t, n, .inr (.inr (.inl f))) => .inl (dA t, n, .inr (.inr (.inl f)))
  | .inl (t, n, .inr (.inr (.inr (.inl f)))) => .inl (dA t, n, .inr (.inr (.inr (.inl f))))
  | .inr (ci, fs) => .inr (ci, fs.map (ev_v am))
theorem ev_am_lt {b a0 a1 : Nat} {k : Nat} (h : 2 ≤ k) : ev_am b a0 a1 k = b + (k - 2) := by
  match k, h with
  | k + 2, _ => simp [ev_am]
theorem ev_cat (am : Nat → Nat) (v : Value) : (ev_v am v).category = v.category := by cases v <;> rfl
def ev_A (b : Nat) : Nat → Prop := fun q => b ≤ q
def ev_so (j : Nat) : Int64 := match j with
  | 0 => -6148914691236517206
  | 1 => -3689348814741910324
  | 2 => -1085102592571150096
  | 3 => -71777214294589696
  | 4 => -281470681808896
  | _ => -4294967296
abbrev dp_tys (dA : Nat → ClassId) : List (ClassId × FieldType) := [(dA 0, .int), (dA 1, .long), (dA 2, .byte), (dA 3, .object RX10), (dA 4, .object RX3)]
def ev_CT (D : va_G) (dA : Nat → ClassId) (b a0 a1 : Nat) (xs : Nat → Int32) (L : Nat) (U : State) : Prop :=
  va_K D dp_cl (dp_tys dA) U ∧ va_X a0 L xs U U.heap ∧ va_T .long a1 6 (fun j => .long (ev_so j)) (ev_A b) U U.heap ∧ va_Z RX10 "SO" "[J" (.ref a1) (ev_A b) U U.heap ∧ (∀ w ∈ dp_nb, va_Nw w U) ∧ a0 < b ∧ b ≤ U.heap.size
def ev_WD (D : va_G) (dA : Nat → ClassId) (b a0 a1 : Nat) (sz : Nat) (h : ev_H) (H : Heap) : Prop :=
  H.size + 2 = b + sz ∧ 2 ≤ sz ∧ ∀ k, 2 ≤ k → k < sz → va_at D dp_cl (ev_am b a0 a1 k, ev_e (ev_am b a0 a1) dA (h k)) H
def ev_LV (am : Nat → Nat) (lsA : Array Slot) (n : Nat) (ls : ev_L) : Prop := lsA.size = n ∧ lv_wf lsA ∧ ls.length = n ∧ ∀ (j : Nat) (v : Value), ls[j]? = some (some v) → lsA[j]? = some (Slot.val (ev_v am v))
def ev_as (am : Nat → Nat) (ls : ev_L) : List (Nat × Value) := (List.range ls.length).filterMap (fun j => match ls[j]? with
  | some (some v) => some (j, ev_v am v)
  | _ => none)
theorem ev_as_mem {am : Nat → Nat} {ls : ev_L} {j : Nat} {w : Value} : (j, w) ∈ ev_as am ls ↔ ∃ v, ls[j]? = some (some v) ∧ w = ev_v am v := by
  constructor
  · intro h
    obtain ⟨i, -, hi⟩ := List.mem_filterMap.mp h
    split at hi
    · cases hi
      exact ⟨_, by assumption, rfl⟩
    · cases hi
  · rintro ⟨v, hv, rfl⟩
    refine List.mem_filterMap.mpr ⟨j, List.mem_range.mpr (List.getElem?_eq_some_iff.mp hv).1, ?_⟩
    rw [hv]
theorem ev_LV.has {am : Nat → Nat} {lsA : Array Slot} {n : Nat} {ls : ev_L} (h : ev_LV am lsA n ls) : lv_has lsA n (ev_as am ls) := by
  refine ⟨h.1, h.2.1, fun q hq => ?_⟩
  obtain ⟨j, w⟩ := q
  obtain ⟨v, hv, rfl⟩ := ev_as_mem.mp hq
  exact h.2.2.2 j v hv
theorem ev_kl_len (ls : ev_L) (i : Nat) : (ev_kl ls i).length = ls.length := by
  unfold ev_kl
  split
  · rfl
  · split <;> simp
theorem ev_kl_get {ls : ev_L} {i j : Nat} {w : Value} (h : (ev_kl ls i)[j]? = some (some w)) : ls[j]? = some (some w) ∧ ¬ (j + 1 = i ∧ w.category = 2) := by
  unfold ev_kl at h
  split at h
  · exact ⟨h, fun q => by omega⟩
  · rename_i k
    split at h
    · rename_i x hx
      by_cases hj : k = j
      · subst hj
        rw [List.getElem?_set_self (List.getElem?_eq_some_iff.mp hx).1] at h
        cases h
      · rw [List.getElem?_set_ne hj] at h
        exact ⟨h, fun q => hj (by omega)⟩
    · rename_i x hx
      by_cases hj : k = j
      · subst hj
        rw [List.getElem?_set_self (List.getElem?_eq_some_iff.mp hx).1] at h
        cases h
      · rw [List.getElem?_set_ne hj] at h
        exact ⟨h, fun q => hj (by omega)⟩
    · rename_i n1 n2
      refine ⟨h, fun q => ?_⟩
      obtain ⟨q1, q2⟩ := q
      have e : j = k := by omega
      subst e
      cases w with
      | long z => exact n1 z h
      | double z => exact n2 z h
      | _ => simp [Value.category] at q2
theorem ev_LV.s1 {am : Nat → Nat} {lsA : Array Slot} {n i : Nat} {ls : ev_L} {v : Value} (hn : ls.length = n) (h : lv_has lsA n ((i, ev_v am v) :: (ev_as am ls).filter (fun q => !(q.1 == i) && !(q.1 + 1 == i && q.2.category == 2)))) : ev_LV am lsA n (ev_s1 ls i v) := by
  refine ⟨h.1, h.2.1, by unfold ev_s1; rw [List.length_set, ev_kl_len, hn], fun j w hw => ?_⟩
  unfold ev_s1 at hw
  by_cases hj : i = j
  · subst hj
    have hl : i < (ev_kl ls i).length := by
      have := (List.getElem?_eq_some_iff.mp hw).1
      rwa [List.length_set] at this
    rw [List.getElem?_set_self hl] at hw
    cases hw
    exact h.2.2 (i, ev_v am v) List.mem_cons_self
  · rw [List.getElem?_set_ne hj] at hw
    obtain ⟨h1, h2⟩ := ev_kl_get hw
    refine h.2.2 (j, ev_v am w) (List.mem_cons_of_mem _ (List.mem_filter.mpr ⟨ev_as_mem.mpr ⟨w, h1, rfl⟩, ?_⟩))
    simp only [ev_cat]
    have hj' : j ≠ i := fun q => hj q.symm
    by_cases h3 : j + 1 = i
    · have h4 : w.category ≠ 2 := fun q => h2 ⟨h3, q⟩
      simp [hj', h4]
    · simp [hj', h3]
theorem ev_LV.s2 {am : Nat → Nat} {lsA : Array Slot} {n i : Nat} {ls : ev_L} {v : Value} (hn : ls.length = n) (h : lv_has lsA n ((i, ev_v am v) :: (ev_as am ls).filter (fun q => !(q.1 == i) && (!(q.1 == i + 1) && !(q.1 + 1 == i && q.2.category == 2))))) : ev_LV am lsA n (ev_s2 ls i v) := by
  refine ⟨h.1, h.2.1, by unfold ev_s2; rw [List.length_set, List.length_set, ev_kl_len, hn], fun j w hw => ?_⟩
  unfold ev_s2 at hw
  by_cases hj : i = j
  · subst hj
    have hl : i < ((ev_kl ls i).set (i + 1) none).length := by
      have := (List.getElem?_eq_some_iff.mp hw).1
      rwa [List.length_set] at this
    rw [List.getElem?_set_self hl] at hw
    cases hw
    exact h.2.2 (i, ev_v am v) List.mem_cons_self
  · rw [List.getElem?_set_ne hj] at hw
    by_cases hk : i + 1 = j
    · subst hk
      have hl : i + 1 < (ev_kl ls i).length := by
        have := (List.getElem?_eq_some_iff.mp hw).1
        rwa [List.length_set] at this
      rw [List.getElem?_set_self hl] at hw
      cases hw
    · rw [List.getElem?_set_ne hk] at hw
      obtain ⟨h1, h2⟩ := ev_kl_get hw
      refine h.2.2 (j, ev_v am w) (List.mem_cons_of_mem _ (List.mem_filter.mpr ⟨ev_as_mem.mpr ⟨w, h1, rfl⟩, ?_⟩))
      simp only [ev_cat]
      have hj' : j ≠ i := fun q => hj q.symm
      have hk' : j ≠ i + 1 := fun q => hk q.symm
      by_cases h3 : j + 1 = i
      · have h4 : w.category ≠ 2 := fun q => h2 ⟨h3, q⟩
        simp [hj', hk', h4]
      · simp [hj', hk', h3]
section EVP
variable {p : Program} {l : Launch} {e : Env} {R : Room} {s : State} {m : MethodId} {args : Array Value} {below : List Frame} {meth : Method} {c : Code} {H : Heap} {locs : List Loc} {cells slots : Nat} {Qf : State → Prop} {cc : ByteArray} {am : Nat → Nat}
set_option maxHeartbeats 4000000 in
theorem ev_pu_ok (hx : p.tables.exec = Jvm.exec) (hb : c.code = cc) {i : Instr} {pc pc' n : Nat} {ls ls' : ev_L} {st st' : List Value} {lsA : Array Slot} (h : ev_pu i pc ls st = some (pc', ls', st')) (hd : decode cc pc = .ok (i, ev_ln i)) (hl : ev_LV am lsA n ls)
    (kk : ∀ lsB, ev_LV am lsB n ls' → W p l e R s m args below meth c H locs cells slots Qf (F0 m pc' lsB (st'.map (ev_v am)))) : W p l e R s m args below meth c H locs cells slots Qf (F0 m pc lsA (st.map (ev_v am))) := by
  have get : ∀ {j : Nat} {v : Value}, ls[j]? = some (some v) → lsA[j]? = some (Slot.val (ev_v am v)) := fun q => hl.2.2.2 _ _ q
  unfold ev_pu at h
  split at h
  · cases h; exact lv_iconst hx hb hd rfl (kk _ hl)
  · cases h; exact lv_bipush hx hb hd rfl (kk _ hl)
  · cases h; exact lv_sipush hx hb hd rfl (kk _ hl)
  · cases h; exact lv_lconst hx hb hd rfl (kk _ hl)
  · cases h; exact lv_null hx hb hd (kk _ hl)
  all_goals first
    | (obtain ⟨v, hv, h⟩ := Option.map_eq_some_iff.mp h; unfold ev_ldi at hv; split at hv <;> cases hv; cases h; first | exact lv_iload_n hx hb hd rfl (get (by assumption)) (kk _ hl) | exact lv_iload hx hb hd (get (by assumption)) (kk _ hl))
    | (obtain ⟨v, hv, h⟩ := Option.map_eq_some_iff.mp h; unfold ev_ldl at hv; split at hv <;> cases hv; cases h; first | exact lv_lload_n hx hb hd rfl (get (by assumption)) (kk _ hl) | exact lv_lload hx hb hd (get (by assumption)) (kk _ hl))
    | (obtain ⟨v, hv, h⟩ := Option.map_eq_some_iff.mp h; unfold ev_lda at hv; split at hv <;> cases hv <;> cases h <;> first | exact lv_aload_n hx hb hd rfl (get (by assumption)) (kk _ hl) | exact lv_aload hx hb hd (get (by assumption)) (kk _ hl) | exact lv_aload_nN hx hb hd rfl (get (by assumption)) (kk _ hl) | exact lv_aloadN hx hb hd (get (by assumption)) (kk _ hl))
    | (obtain ⟨v, hv, h⟩ := Option.map_eq_some_iff.mp h; unfold ev_sti at hv; split at hv <;> first | (cases hv; done) | skip; split at hv <;> cases hv; cases h; first | exact lv_istore_n hx hb hd rfl hl.has (by rw [← hl.2.2.1]; assumption) rfl (fun lsB h9 => kk lsB (ev_LV.s1 hl.2.2.1 h9)) | exact lv_istore hx hb hd hl.has (by rw [← hl.2.2.1]; assumption) rfl (fun lsB h9 => kk lsB (ev_LV.s1 hl.2.2.1 h9)))
    | (obtain ⟨v, hv, h⟩ := Option.map_eq_some_iff.mp h; unfold ev_stl at hv; split at hv <;> first | (cases hv; done) | skip; split at hv <;> cases hv; cases h; first | exact lv_lstore_n hx hb hd rfl hl.has (by rw [← hl.2.2.1]; assumption) rfl (fun lsB h9 => kk lsB (ev_LV.s2 hl.2.2.1 h9)) | exact lv_lstore hx hb hd hl.has (by rw [← hl.2.2.1]; assumption) rfl (fun lsB h9 => kk lsB (ev_LV.s2 hl.2.2.1 h9)))
    | (obtain ⟨v, hv, h⟩ := Option.map_eq_some_iff.mp h; unfold ev_inc at hv; split at hv <;> first | (cases hv; done) | skip; rename_i x hg; split at hv <;> cases hv; cases h; obtain ⟨k9, hk9⟩ := List.getElem?_of_mem (ev_as_mem (am := am).mpr ⟨_, hg, rfl⟩); exact lv_iinc hx hb hd hl.has hk9 rfl (by rw [← hl.2.2.1]; assumption) rfl (fun lsB h9 => kk lsB (ev_LV.s1 hl.2.2.1 h9)))
    | (obtain ⟨v, hv, h⟩ := Option.map_eq_some_iff.mp h; unfold ev_2i at hv; split at hv <;> cases hv; cases h; first | exact lv_iadd hx hb hd (kk _ hl) | exact lv_isub hx hb hd (kk _ hl) | exact lv_imul hx hb hd (kk _ hl) | exact lv_iand hx hb hd (kk _ hl) | exact lv_ior hx hb hd (kk _ hl) | exact lv_ixor hx hb hd (kk _ hl) | exact lv_ishl hx hb hd (kk _ hl) | exact lv_ishr hx hb hd (kk _ hl) | exact lv_iushr hx hb hd rfl (kk _ hl))
    | (obtain ⟨v, hv, h⟩ := Option.map_eq_some_iff.mp h; unfold ev_2l at hv; split at hv <;> cases hv; cases h; first | exact lv_ladd hx hb hd (kk _ hl) | exact lv_lsub hx hb hd (kk _ hl) | exact lv_land hx hb hd (kk _ hl) | exact lv_lor hx hb hd (kk _ hl) | exact lv_lxor hx hb hd (kk _ hl) | exact W.lcmp hx hb hd (kk _ hl))
    | (obtain ⟨v, hv, h⟩ := Option.map_eq_some_iff.mp h; unfold ev_li at hv; split at hv <;> cases hv; cases h; first | exact lv_lshl hx hb hd rfl (kk _ hl) | exact lv_lshr hx hb hd rfl (kk _ hl) | exact lv_lushr hx hb hd rfl (kk _ hl))
    | (obtain ⟨v, hv, h⟩ := Option.map_eq_some_iff.mp h; unfold ev_1i at hv; split at hv <;> cases hv; cases h; first | exact lv_i2l hx hb hd rfl (kk _ hl) | exact lv_i2b hx hb hd rfl (kk _ hl))
    | (obtain ⟨v, hv, h⟩ := Option.map_eq_some_iff.mp h; unfold ev_1l at hv; split at hv <;> cases hv; cases h; first | exact lv_lneg hx hb hd (kk _ hl) | exact lv_l2i hx hb hd rfl (kk _ hl))
    | (obtain ⟨v, hv, h⟩ := Option.map_eq_some_iff.mp h; unfold ev_div at hv; split at hv <;> first | (cases hv; done) | skip; split at hv <;> cases hv; cases h; exact lv_idiv hx hb hd (by assumption) (kk _ hl))
    | (obtain ⟨v, hv, h⟩ := Option.map_eq_some_iff.mp h; unfold ev_dup at hv; split at hv <;> first | (cases hv; done) | skip; split at hv <;> cases hv; cases h; exact lv_dup hx hb hd (by rw [ev_cat]; assumption) (kk _ hl))
    | (obtain ⟨v, hv, h⟩ := Option.map_eq_some_iff.mp h; unfold ev_pop at hv; split at hv <;> first | (cases hv; done) | skip; split at hv <;> cases hv; cases h; exact lv_pop hx hb hd (by rw [ev_cat]; assumption) (kk _ hl))
    | (obtain ⟨v, hv, h⟩ := Option.map_eq_some_iff.mp h; unfold ev_pop2 at hv; split at hv <;> first | (cases hv; done) | skip; split at hv <;> cases hv; cases h; exact lv_pop2_2 hx hb hd (by rw [ev_cat]; assumption) (kk _ hl))
    | (obtain ⟨v, hv, h⟩ := Option.map_eq_some_iff.mp h; unfold ev_dup2 at hv; split at hv <;> first | (cases hv; done) | skip; split at hv; (cases hv; cases h; exact lv_dup2_2 hx hb hd (by rw [ev_cat]; assumption) (kk _ hl)); split at hv <;> first | (cases hv; done) | skip; split at hv <;> cases hv; cases h; exact lv_dup2_11 hx hb hd (by rw [ev_cat]; exact (lv_cat _).resolve_right (by assumption)) (by rw [ev_cat]; exact (lv_cat _).resolve_right (by assumption)) (kk _ hl))
    | (obtain ⟨v, hv, h⟩ := Option.map_eq_some_iff.mp h; unfold ev_to at hv; split at hv <;> cases hv; cases h; exact lv_goto hx hb hd (Int.toNat_of_nonneg (by assumption)).symm (kk _ hl))
    | (cases h; done)
    | skip
  · obtain ⟨v, hv, h9⟩ := Option.map_eq_some_iff.mp h
    clear h
    unfold ev_sta at hv
    split at hv
    · split at hv
      · cases hv
        cases h9
        exact lv_astore_n hx hb hd rfl hl.has (by rw [← hl.2.2.1]; assumption) rfl (fun lsB h9 => kk lsB (ev_LV.s1 hl.2.2.1 h9))
      · cases hv
    · split at hv
      · cases hv
        cases h9
        exact lv_astore_nN hx hb hd rfl hl.has (by rw [← hl.2.2.1]; assumption) rfl (fun lsB h9 => kk lsB (ev_LV.s1 hl.2.2.1 h9))
      · cases hv
    · cases hv
  · obtain ⟨v, hv, h9⟩ := Option.map_eq_some_iff.mp h
    clear h
    unfold ev_sta at hv
    split at hv
    · split at hv
      · cases hv
        cases h9
        exact lv_astore hx hb hd hl.has (by rw [← hl.2.2.1]; assumption) rfl (fun lsB h9 => kk lsB (ev_LV.s1 hl.2.2.1 h9))
      · cases hv
    · split at hv
      · cases hv
        cases h9
        exact lv_astoreN hx hb hd hl.has (by rw [← hl.2.2.1]; assumption) rfl (fun lsB h9 => kk lsB (ev_LV.s1 hl.2.2.1 h9))
      · cases hv
    · cases hv
  · obtain ⟨v, hv, h9⟩ := Option.map_eq_some_iff.mp h
    clear h
    unfold ev_pop at hv
    split at hv
    · rename_i w r
      split at hv
      · rename_i hc
        cases hv
        cases h9
        exact lv_pop (va := ev_v am w) hx hb hd (by rw [ev_cat]; exact hc) (kk _ hl)
      · cases hv
    · cases hv
  · obtain ⟨v, hv, h9⟩ := Option.map_eq_some_iff.mp h
    clear h
    unfold ev_pop2 at hv
    split at hv
    · rename_i w r
      split at hv
      · rename_i hc
        cases hv
        cases h9
        exact lv_pop2_2 (va := ev_v am w) hx hb hd (by rw [ev_cat]; exact hc) (kk _ hl)
      · cases hv
    · cases hv
theorem ev_br_ok (hx : p.tables.exec = Jvm.exec) (hb : c.code = cc) {i : Instr} {pc tgt : Nat} {st r : List Value} {cd ce : Prop} {off : Int} {lsA : Array Slot} (h : ev_br i st = some (cd, ce, r, off)) (hd : decode cc pc = .ok (i, 3)) (ht : (pc : Int) + off = (tgt : Int))
    (kt : cd → W p l e R s m args below meth c H locs cells slots Qf (F0 m tgt lsA (r.map (ev_v am)))) (kf : ce → W p l e R s m args below meth c H locs cells slots Qf (F0 m (pc + 3) lsA (r.map (ev_v am)))) : W p l e R s m args below meth c H locs cells slots Qf (F0 m pc lsA (st.map (ev_v am))) := by
  unfold ev_br at h
  split at h
  · split at h <;> first | (cases h; done) | skip
    split at h <;> cases h <;> first | exact lv_if_eq hx hb hd ht kt kf | exact lv_if_lt hx hb hd ht kt kf | exact lv_if_ge hx hb hd ht kt kf | exact lv_if_gt hx hb hd ht kt kf | exact lv_if_le hx hb hd ht kt kf | exact lv_if_ne hx hb hd ht kt kf
  · split at h <;> first | (cases h; done) | skip
    split at h <;> cases h <;> first | exact lv_icmp_eq hx hb hd ht kt kf | exact lv_icmp_lt hx hb hd ht kt kf | exact lv_icmp_ge hx hb hd ht kt kf | exact lv_icmp_gt hx hb hd ht kt kf | exact lv_icmp_le hx hb hd ht kt kf | exact lv_icmp_ne hx hb hd ht kt kf
  · split at h <;> cases h
    · exact lv_ifnull hx hb hd (kf trivial)
    · exact lv_ifnullN hx hb hd ht (kt trivial)
  · split at h <;> cases h
    · exact lv_ifnonnull hx hb hd ht (kt trivial)
    · exact lv_ifnonnullN hx hb hd (kf trivial)
  · cases h
end EVP
