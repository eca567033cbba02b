theorem ev_arr {am : Nat → Nat} {dA : Nat → ClassId} {t n : Nat} {f : Nat → Int32} : ev_e am dA (.inl (t, n, .inl f)) = .inl (dA t, n, .inl f) := rfl
theorem ev_arrL {am : Nat → Nat} {dA : Nat → ClassId} {t n : Nat} {f : Nat → Int64} : ev_e am dA (.inl (t, n, .inr (.inl f))) = .inl (dA t, n, .inr (.inl f)) := rfl
theorem ev_arrQ {am : Nat → Nat} {dA : Nat → ClassId} {t n : Nat} {f : Nat → Option Nat} : ev_e am dA (.inl (t, n, .inr (.inr (.inr (.inr f))))) = .inl (dA t, n, .inr (.inr (.inr (.inr (fun j => (f j).map am))))) := rfl
theorem ev_rf (am : Nat → Nat) (r : Option Nat) : ev_v am (va_rf r) = va_rf (r.map am) := by cases r <;> rfl
theorem ev_len {am : Nat → Nat} {dA : Nat → ClassId} {t : Nat} {x : vp_A} : ∃ y : vp_A, ev_e am dA (.inl (t, x)) = .inl (dA t, y) ∧ y.1 = x.1 := by
  obtain ⟨n, f | f | f | f | f⟩ := x
  · exact ⟨_, rfl, rfl⟩
  · exact ⟨_, rfl, rfl⟩
  · exact ⟨_, rfl, rfl⟩
  · exact ⟨_, rfl, rfl⟩
  · exact ⟨_, rfl, rfl⟩
section EVH
variable {p : Program} {l : Launch} {e : Env} {R : Room} {s : State} {m : MethodId} {args : Array Value} {below : List Frame} {meth : Method} {c : Code} {H : Heap} {locs : List Loc} {cells slots : Nat} {Qf : State → Prop}
variable {D : va_G} {dA : Nat → ClassId} {b a0 a1 : Nat} {xs : Nat → Int32} {L d : Nat} {M : ev_M} {kc ks sz : Nat} {h : ev_H} {pc len mc ms : Nat} {lsA : Array Slot} {st : List Value}
theorem ev_Sme {b : Nat} {H0 H : Heap} {locs : List Loc} (hS : va_S (ev_A b) H0 H locs) : va_S (ev_A b) H H locs := ⟨Nat.le_refl _, fun _ _ _ => rfl, hS.2.2⟩
theorem ev_XH (hC : ev_CT D dA b a0 a1 xs L s) (hS : va_S (ev_A b) s.heap H locs) : va_X a0 L xs s H ∧ a0 < H.size ∧ ¬ ev_A b a0 := by
  obtain ⟨-, hX, -, -, -, h1, h2⟩ := hC
  have hlt : a0 < s.heap.size := by omega
  exact ⟨hX.kept (hS.2.1 a0 hlt (Nat.not_le.mpr h1)), Nat.lt_of_lt_of_le hlt hS.1, Nat.not_le.mpr h1⟩
set_option maxHeartbeats 4000000 in
theorem ev_hp_ok (hx : p.tables.exec = Jvm.exec) (hb : c.code = M.2.1) (hml : lsA.size = c.maxLocals) (hown : s.vm.findClass M.1.cls = some m.cls) (hts : ∀ w ∈ dp_tb, w.before args s = true) (hin : meth.name = M.1.name) (hC : ev_CT D dA b a0 a1 xs L s) (hS : va_S (ev_A b) s.heap H locs) (hW : ev_WD D dA b a0 a1 sz h H)
    (hfr : d ≤ R.frames) (hlo : 60 * d ≤ R.locals) (hmc : mc ≤ R.cells) (hms : ms ≤ R.slots) (hc1 : cells + kc ≤ mc) (hc2 : slots + ks ≤ ms) {i : Instr} (hd : decode M.2.1 pc = .ok (i, len))
    (hh : ev_hp xs L d M i kc ks sz h st (fun kc' ks' sz' h' len' st' => len' = len ∧ ∀ (H' : Heap) (locs' : List Loc) (cells' slots' : Nat), va_S (ev_A b) s.heap H' locs' → ev_WD D dA b a0 a1 sz' h' H' → cells' + kc' ≤ mc → slots' + ks' ≤ ms → W p l e R s m args below meth c H' locs' cells' slots' Qf (F0 m (pc + len') lsA (st'.map (ev_v (ev_am b a0 a1)))))) :
    W p l e R s m args below meth c H locs cells slots Qf (F0 m pc lsA (st.map (ev_v (ev_am b a0 a1)))) := by
  have hK := hC.1
  unfold ev_hp at hh
  split at hh
  · obtain ⟨a, r, ci, fs, k, v, rfl, h1, h2, h3, h4, h5, rfl, kk⟩ := hh
    exact ev_getf hx hb hown hts hC hW h1 h2 h3 h4 h5 hd (kk H locs cells slots hS hW hc1 hc2)
  · obtain ⟨a, r, ci, fs, k, v, rfl, h1, h2, h3, h4, h5, rfl, kk⟩ := hh
    exact ev_putf hx hb hown hts hin hC hS hW h1 h2 h3 h4 h5 hd (fun H' locs' g1 g2 => kk H' locs' cells slots g1 g2 hc1 hc2)
  · obtain ⟨a, r, j, rfl, ⟨n, f, h1, h2, h3, h4, rfl, kk⟩ | ⟨rfl, h4, rfl, kk⟩⟩ := hh
    · have hat := hW.2.2 a h1 h2
      rw [h3, ev_arr] at hat
      exact va_iald hx hb hK (ev_P1 hat) 0 0 rfl rfl h4 hd (kk H locs cells slots hS hW hc1 hc2)
    · obtain ⟨g1, g2, g3⟩ := ev_XH hC hS
      exact va_sld hx hb g1 g2 g3 (ev_Sme hS) h4 hd (kk H locs cells slots hS hW hc1 hc2)
  · obtain ⟨a, r, j, rfl, ⟨n, f, h1, h2, h3, h4, rfl, kk⟩ | ⟨rfl, h4, rfl, kk⟩⟩ := hh
    · have hat := hW.2.2 a h1 h2
      rw [h3, ev_arrL] at hat
      exact va_lald hx hb hK (ev_P1 hat) 0 1 rfl rfl h4 hd (kk H locs cells slots hS hW hc1 hc2)
    · exact va_tl hx hb hC.2.2.1 hS h4 rfl hd (kk H locs cells slots hS hW hc1 hc2)
  · obtain ⟨a, r, j, n, f, rfl, h1, h2, h3, h4, rfl, kk⟩ := hh
    have hat := hW.2.2 a h1 h2
    rw [h3, ev_arr] at hat
    exact va_bald hx hb hK (ev_P1 hat) 0 2 rfl rfl h4 hd (kk H locs cells slots hS hW hc1 hc2)
  · obtain ⟨a, r, j, t, n, f, rfl, h1, h2, h3, ht, h4, rfl, kk⟩ := hh
    have hat := hW.2.2 a h1 h2
    rw [h3, ev_arrQ] at hat
    have kk2 := kk H locs cells slots hS hW hc1 hc2
    rw [List.map_cons, ev_rf] at kk2
    rcases ht with rfl | rfl
    · exact va_aldq hx hb hK (ev_P1 hat) 0 3 rfl rfl h4 hd kk2
    · exact va_aldq hx hb hK (ev_P1 hat) 0 4 rfl rfl h4 hd kk2
  · obtain ⟨a, r, j, x, n, f, rfl, h1, h2, h3, h4, rfl, kk⟩ := hh
    have hat := hW.2.2 a h1 h2
    rw [h3, ev_arr] at hat
    refine W.iast hx hb hat ((hK.2 0 _ rfl).1 n (fun j => .int (f j))) (fun q => by cases q) (by show ¬ (j < 0 ∨ (arrV _ _ _).slots.size ≤ _); rw [arrV_size]; exact h4) rfl rfl hd fun H1 e z oq => ?_
    refine kk H1 _ cells slots (hS.put z oq (by show b ≤ _; rw [ev_am_lt h1]; omega)) (hW.set h1 ?_ z oq) hc1 hc2
    rw [ev_arr]
    show H1[_]? = some (vp_cell _ _)
    rw [e]
    rw [vp_cell_i, vp_cell_i, arrV_store]
    congr 2
    funext q
    by_cases hq : q = j.toNatClampNeg
    · subst hq
      simp [updV, upd]
    · simp [updV, upd, hq]
  · obtain ⟨a, r, j, x, n, f, rfl, h1, h2, h3, h4, rfl, kk⟩ := hh
    have hat := hW.2.2 a h1 h2
    rw [h3, ev_arrL] at hat
    refine W.last hx hb hat ((hK.2 1 _ rfl).1 n (fun j => .long (f j))) (fun q => by cases q) (by show ¬ (j < 0 ∨ (arrV _ _ _).slots.size ≤ _); rw [arrV_size]; exact h4) rfl rfl hd fun H1 e z oq => ?_
    refine kk H1 _ cells slots (hS.put z oq (by show b ≤ _; rw [ev_am_lt h1]; omega)) (hW.set h1 ?_ z oq) hc1 hc2
    rw [ev_arrL]
    show H1[_]? = some (vp_cell _ _)
    rw [e]
    rw [vp_cell_l, vp_cell_l, arrV_store]
    congr 2
    funext q
    by_cases hq : q = j.toNatClampNeg
    · subst hq
      simp [updV, vp_updL]
    · simp [updV, vp_updL, hq]
  · obtain ⟨a, r, j, x, n, f, rfl, h1, h2, h3, h4, rfl, kk⟩ := hh
    have hat := hW.2.2 a h1 h2
    rw [h3, ev_arr] at hat
    refine W.bast hx hb hat ((hK.2 2 _ rfl).1 n (fun j => .int (f j))) (fun q => by cases q) (by show ¬ (j < 0 ∨ (arrV _ _ _).slots.size ≤ _); rw [arrV_size]; exact h4) rfl rfl hd fun H1 e z oq => ?_
    refine kk H1 _ cells slots (hS.put z oq (by show b ≤ _; rw [ev_am_lt h1]; omega)) (hW.set h1 ?_ z oq) hc1 hc2
    rw [ev_arr]
    show H1[_]? = some (vp_cell _ _)
    rw [e]
    rw [vp_cell_i, vp_cell_i, arrV_store]
    congr 2
    funext q
    by_cases hq : q = j.toNatClampNeg
    · subst hq
      simp [updV, upd, vp_nar_byte, narrow]
    · simp [updV, upd, hq]
  · obtain ⟨a, r, j, v, t, n, f, ci, fs, q, rfl, h1, h2, h3, h4, h5, h6, h7, ht, -, h8, rfl, kk⟩ := hh
    have hat := hW.2.2 a h1 h2
    rw [h5, ev_arrQ] at hat
    have hav := hW.2.2 v h3 h4
    rw [h6, ev_ob] at hav
    have hlt : j.toNatClampNeg < n := Nat.not_le.mp fun q => h8 (Or.inr q)
    have h0 : ¬ j < 0 := fun q => h8 (Or.inl q)
    obtain ⟨r', hr', cellV, g1, g2, g3, -⟩ := hav
    have hcls := (hK.1 ci q h7).2
    obtain ⟨kA, comp, k1, k2, k3⟩ : ∃ (kA : Class) (comp : ClassId), s.vm.classes[dA t]? = some kA ∧ kA.kind = .array comp (.object q.1) ∧ s.vm.findClass q.1 = some comp := by
      rcases ht with ⟨rfl, e9⟩ | ⟨rfl, e9⟩
      · obtain ⟨kA, comp, k1, k2, k3, -⟩ := (hK.2 3 _ rfl).2
        rw [e9]
        exact ⟨kA, comp, k1, k2, k3⟩
      · obtain ⟨kA, comp, k1, k2, k3, -⟩ := (hK.2 4 _ rfl).2
        rw [e9]
        exact ⟨kA, comp, k1, k2, k3⟩
    have hcomp : comp = D.1 ci := Option.some.inj (k3.symm.trans hcls.1)
    subst hcomp
    obtain ⟨kC, hkC, -⟩ := hcls.2
    refine W.aast hx hb hat (fun q h => by cases h) (fun h => by cases h) k1 k2 rfl hkC ⟨h0, by show _ < (arrV _ _ _).slots.size; rw [arrV_size]; exact hlt⟩ g1 (fun q h => by rw [g3] at h; cases h) (by rw [g2]; exact hkC) (by rw [g2]; exact va_assign hcls) rfl rfl hd fun H1 e z oq => ?_
    refine kk H1 _ cells slots (hS.put z oq (by show b ≤ _; rw [ev_am_lt h1]; omega)) (hW.set h1 ?_ z oq) hc1 hc2
    rw [ev_arrQ]
    show H1[_]? = some (vp_cell _ _)
    rw [e]
    rw [vp_cell_q, vp_cell_q, arrV_store]
    congr 2
    funext q
    by_cases hq : q = j.toNatClampNeg
    · subst hq
      simp [updV, va_up, va_rf]
    · simp [updV, va_up, hq]
  · obtain ⟨a, r, rfl, ⟨t, x, h1, h2, h3, h4, rfl, kk⟩ | ⟨rfl, rfl, kk⟩ | ⟨rfl, rfl, kk⟩⟩ := hh
    · have hat := hW.2.2 a h1 h2
      obtain ⟨y, hy, hyx⟩ := ev_len (am := ev_am b a0 a1) (dA := dA) (t := t) (x := x)
      rw [h3, hy] at hat
      have kk2 := kk H locs cells slots hS hW hc1 hc2
      match t, h4 with
      | 0, _ => exact va_alen hx hb hK (ev_P1 hat) 0 0 rfl rfl (by rw [hyx]) hd kk2
      | 1, _ => exact va_alen hx hb hK (ev_P1 hat) 0 1 rfl rfl (by rw [hyx]) hd kk2
      | 2, _ => exact va_alen hx hb hK (ev_P1 hat) 0 2 rfl rfl (by rw [hyx]) hd kk2
      | 3, _ => exact va_alen hx hb hK (ev_P1 hat) 0 3 rfl rfl (by rw [hyx]) hd kk2
      | 4, _ => exact va_alen hx hb hK (ev_P1 hat) 0 4 rfl rfl (by rw [hyx]) hd kk2
    · obtain ⟨g1, g2, g3⟩ := ev_XH hC hS
      exact va_slen hx hb g1 g2 g3 (ev_Sme hS) hd (kk H locs cells slots hS hW hc1 hc2)
    · exact va_tlen hx hb hC.2.2.1 hS rfl hd (kk H locs cells slots hS hW hc1 hc2)
  · rename_i ty
    obtain ⟨r, n, N, t, x, kc', ks', rfl, h1, h2, h3, h4, h5, rfl, rfl, rfl, kk⟩ := hh
    refine va_newaK hx hb (hts _ h5) rfl hd rfl h1 h2 ?_ (by omega) (by omega) rfl fun H1 cA e1 z1 o1 hAr hNm => ?_
    · have : componentBytes (newarray.typeOf ty) ≤ 8 := by
        unfold ev_at at h4
        split at h4 <;> first | (cases h4; done) | decide
      exact Nat.le_trans (Nat.mul_le_mul h3 this) (by decide)
    · have kk2 := kk H1 locs (cells + 1) (slots + N) (ev_S.push hS z1 o1) (hW.push ?_ z1 o1) (by omega) (by omega)
      · rw [List.map_cons, show ev_v (ev_am b a0 a1) (.ref sz) = .ref H.size from by rw [← hW.am]; rfl] at kk2
        exact kk2
      · unfold ev_at at h4
        split at h4
        · cases h4
          have e9 : cA = dA 0 := Option.some.inj (hNm.symm.trans (hK.2 0 _ rfl).2)
          subst e9
          exact e1
        · cases h4
          have e9 : cA = dA 1 := Option.some.inj (hNm.symm.trans (hK.2 1 _ rfl).2)
          subst e9
          exact e1
        · cases h4
          have e9 : cA = dA 2 := Option.some.inj (hNm.symm.trans (hK.2 2 _ rfl).2)
          subst e9
          exact e1
        · cases h4
  · obtain ⟨r, n, N, t, C, kc', ks', rfl, h1, h2, h3, h4, h5, h6, rfl, rfl, rfl, kk⟩ := hh
    subst h2
    refine W.anew hx hb hown (hts _ h5) (va_AO.use (hC.2.2.2.2.1 _ h6)) rfl hd rfl h1 (Nat.le_trans (Nat.mul_le_mul_right 4 h3) (by decide)) (by omega) (by omega) fun cA kA comp f1 f2 f3 f4 => ?_
    generalize hH1 : H.push ({ cls := cA, slots := Array.replicate n.toNatClampNeg .null, vm := .none } : Cell) = H1
    have z1 : H1.size = H.size + 1 := by rw [← hH1, Array.size_push]
    have e1 : H1[H.size]? = some (arrV cA n.toNatClampNeg (fun _ => .null)) := by rw [← hH1, Array.getElem?_push_size, ← arrV_new]
    have o1 : ∀ q : Nat, q < H.size → H1[q]? = H[q]? := fun q hq => by rw [← hH1, Array.getElem?_push, if_neg (Nat.ne_of_lt hq)]
    have kk2 := kk H1 locs (cells + 1) (slots + n.toNatClampNeg) (ev_S.push hS z1 o1) (hW.push ?_ z1 o1) (by omega) (by omega)
    · rw [List.map_cons, show ev_v (ev_am b a0 a1) (.ref sz) = .ref H.size from by rw [← hW.am]; rfl] at kk2
      exact kk2
    · rcases h4 with ⟨rfl, rfl⟩ | ⟨rfl, rfl⟩
      · obtain ⟨kA', comp', k1, k2, k3, k4⟩ := (hK.2 3 _ rfl).2
        have e9 : cA = dA 3 := Option.some.inj (f1.symm.trans k4)
        subst e9
        exact e1
      · obtain ⟨kA', comp', k1, k2, k3, k4⟩ := (hK.2 4 _ rfl).2
        have e9 : cA = dA 4 := Option.some.inj (f1.symm.trans k4)
        subst e9
        exact e1
  · obtain ⟨ci, q, fs, kc', ks', h1, h2, h3, h4, rfl, rfl, rfl, rfl, kk⟩ := hh
    have hKn := hK.1 ci _ h1
    have hin2 : ∀ w ∈ u_ws q.1 q.2.1 q.2.2, w ∈ dp_tb := fun w hw => by
      refine List.mem_filter.mpr ⟨dp_in ci q h1 w hw, ?_⟩
      obtain ⟨j, -, hj⟩ := List.mem_map.mp hw
      rw [← hj]
      unfold u_lay
      split <;> rfl
    refine W.newcK hx hb hown (hts _ h2) (hts _ h3) (hts _ h4) rfl hd (by omega) (by omega) hKn.2.1 rfl fun H1 kC hkC e1 z1 o1 => ?_
    have kk2 := kk H1 locs (cells + 1) (slots + q.2.2) (ev_S.push hS z1 o1) (hW.push ?_ z1 o1) (by omega) (by omega)
    · rw [List.map_cons, show ev_v (ev_am b a0 a1) (.ref sz) = .ref H.size from by rw [← hW.am]; rfl] at kk2
      exact kk2
    · rw [ev_ob]
      refine ⟨_, h1, (u_born (dp_ty ci) hts hin2 hKn hkC e1 (dp_ty_ok ci q h1)).to fun k hk => ?_⟩
      have hdv : ev_v (ev_am b a0 a1) (defaultValue (dp_ty ci k)) = defaultValue (dp_ty ci k) := by
        cases dp_ty ci k <;> rfl
      simp [vp_V, hk, hdv]
  · obtain ⟨h1, rfl, kk⟩ := hh
    exact va_gets hx hb hC.2.2.2.1 hS hown (hts _ h1) (fun _ h9 => h9) hd (kk H locs cells slots hS hW hc1 hc2)
  · obtain ⟨v, h1, rfl, kk⟩ := hh
    exact lv_ldc hx hb hown (hts _ h1) hd (kk H locs cells slots hS hW hc1 hc2)
  · obtain ⟨v, h1, rfl, kk⟩ := hh
    exact lv_ldcw hx hb hown (hts _ h1) hd (kk H locs cells slots hS hW hc1 hc2)
  · obtain ⟨v, h1, rfl, kk⟩ := hh
    exact lv_ldc2 hx hb hown (hts _ h1) hd (kk H locs cells slots hS hW hc1 hc2)
  · obtain ⟨a, r, rfl, h1, h2, h3, h4, h5, rfl, kk⟩ := hh
    refine W.objInit hx hb hown (hts _ h3) (hts _ h4) (hts _ h5) rfl hml rfl hd (by omega) ?_ ?_
    · have h9 : ((r.map (ev_v (ev_am b a0 a1))).map fun v => v.category) = r.map fun v => v.category := by
        rw [List.map_map]
        exact List.map_congr_left fun v _ => ev_cat _ v
      have h8 : 2 * (F0 m pc lsA ((Value.ref a :: r).map (ev_v (ev_am b a0 a1)))).monitorRoom + ((r.map (ev_v (ev_am b a0 a1))).map fun v => v.category).sum ≤ 8 := lv_room (by rw [h9]; exact h2)
      omega
    · exact kk H locs cells slots hS hW hc1 hc2
  · obtain ⟨x, y, r, rfl, h1, h2, h3, h4, h5, h6, rfl, kk⟩ := hh
    refine va_mmin hx hb hml.symm hown (hts _ h3) (hts _ h4) (hts _ h5) (hts _ h6) (by omega) ?_ (by omega) (by omega) hd (kk H locs cells slots hS hW hc1 hc2)
    have h9 : ((r.map (ev_v (ev_am b a0 a1))).map fun v => v.category) = r.map fun v => v.category := by
      rw [List.map_map]
      exact List.map_congr_left fun v _ => ev_cat _ v
    rw [h9]
    have h8 : (r.map fun v => v.category).sum ≤ 8 := h2
    omega
  · exact hh.elim
end EVH
