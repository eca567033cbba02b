theorem ev_P1 {D : va_G} {cl : List vw_C} {q : Nat × va_E} {H : Heap} (h : va_at D cl q H) : va_P D cl [q] H := by
  intro k x hk
  match k, hk with
  | 0, hk => cases hk; exact h
  | k + 1, hk => simp at hk
theorem ev_am_ne {b a0 a1 j k : Nat} (hj : 2 ≤ j) (hk : 2 ≤ k) (h : j ≠ k) : ev_am b a0 a1 j ≠ ev_am b a0 a1 k := by
  rw [ev_am_lt hj, ev_am_lt hk]
  omega
theorem ev_WD.set {D : va_G} {dA : Nat → ClassId} {b a0 a1 sz a : Nat} {h : ev_H} {H H1 : Heap} {x : va_E} (hW : ev_WD D dA b a0 a1 sz h H) (ha : 2 ≤ a) (he : va_at D dp_cl (ev_am b a0 a1 a, ev_e (ev_am b a0 a1) dA x) H1) (hz : H1.size = H.size) (oq : ∀ q : Nat, q ≠ ev_am b a0 a1 a → H1[q]? = H[q]?) : ev_WD D dA b a0 a1 sz (va_up h a x) H1 := by
  refine ⟨by rw [hz]; exact hW.1, hW.2.1, fun k h2 hk => ?_⟩
  by_cases hka : k = a
  · subst hka
    rw [va_up_self]
    exact he
  · rw [va_up_ne _ _ hka]
    exact (hW.2.2 k h2 hk).kept (oq _ (ev_am_ne h2 ha hka))
theorem ev_WD.am {D : va_G} {dA : Nat → ClassId} {b a0 a1 sz : Nat} {h : ev_H} {H : Heap} (hW : ev_WD D dA b a0 a1 sz h H) : ev_am b a0 a1 sz = H.size := by
  rw [ev_am_lt hW.2.1]
  have := hW.1
  have := hW.2.1
  omega
theorem ev_WD.push {D : va_G} {dA : Nat → ClassId} {b a0 a1 sz : Nat} {h : ev_H} {H H1 : Heap} {x : va_E} (hW : ev_WD D dA b a0 a1 sz h H) (he : va_at D dp_cl (H.size, ev_e (ev_am b a0 a1) dA x) H1) (hz : H1.size = H.size + 1) (oq : ∀ q : Nat, q < H.size → H1[q]? = H[q]?) : ev_WD D dA b a0 a1 (sz + 1) (va_up h sz x) H1 := by
  have hw := hW.1
  have hw2 := hW.2.1
  refine ⟨by omega, by omega, fun k h2 hk => ?_⟩
  by_cases hka : k = sz
  · subst hka
    rw [va_up_self, hW.am]
    exact he
  · rw [va_up_ne _ _ hka]
    refine (hW.2.2 k h2 (by omega)).kept (oq _ ?_)
    rw [ev_am_lt h2]
    omega
theorem ev_S.push {b : Nat} {H0 H H1 : Heap} {locs : List Loc} (hS : va_S (ev_A b) H0 H locs) (hz : H1.size = H.size + 1) (oq : ∀ q : Nat, q < H.size → H1[q]? = H[q]?) : va_S (ev_A b) H0 H1 locs :=
  ⟨Nat.le_trans hS.1 (by omega), fun x h1 h2 => (oq x (Nat.lt_of_lt_of_le h1 hS.1)).trans (hS.2.1 x h1 h2), hS.2.2⟩
theorem ev_narrow {ty : FieldType} {v : Value} (am : Nat → Nat) (h : narrow ty v = v) : narrow ty (ev_v am v) = ev_v am v := by
  cases v with
  | ref a => cases ty <;> simp_all [narrow, ev_v]
  | _ => exact h
theorem ev_fits {ty : FieldType} {v : Value} (am : Nat → Nat) (h : fits ty v = true) : fits ty (ev_v am v) = true := by
  cases v with
  | ref a => cases ty <;> simp_all [fits, ev_v]
  | _ => exact h
theorem ev_ob {am : Nat → Nat} {dA : Nat → ClassId} {ci : Nat} {fs : List Value} : ev_e am dA (.inr (ci, fs)) = .inr (ci, fs.map (ev_v am)) := rfl
section EVH
variable {p : Program} {l : Launch} {e : Env} {R : Room} {s : State} {m : MethodId} {args : Array Value} {below : List Frame} {meth : Method} {c : Code} {H : Heap} {locs : List Loc} {cells slots : Nat} {Qf : State → Prop}
variable {D : va_G} {dA : Nat → ClassId} {b a0 a1 : Nat} {xs : Nat → Int32} {L d : Nat} {M : ev_M} {kc ks sz : Nat} {h : ev_H} {pc len mc ms : Nat} {lsA : Array Slot} {st : List Value}
theorem ev_putf (hx : p.tables.exec = Jvm.exec) (hb : c.code = M.2.1) (hown : s.vm.findClass M.1.cls = some m.cls) (hts : ∀ w ∈ dp_tb, w.before args s = true) (hin : meth.name = M.1.name) (hC : ev_CT D dA b a0 a1 xs L s) (hS : va_S (ev_A b) s.heap H locs) (hW : ev_WD D dA b a0 a1 sz h H)
    {idx a ci k : Nat} {r fs : List Value} {v : Value} (ha : 2 ≤ a) (hs : a < sz) (hh : h a = .inr (ci, fs)) (hl : ev_fp ks M.1 idx ci k v) (hk : k < fs.length) (hd : decode M.2.1 pc = .ok (.putfield idx, 3))
    (kk : ∀ H' locs', va_S (ev_A b) s.heap H' locs' → ev_WD D dA b a0 a1 sz (va_up h a (.inr (ci, fs.set k v))) H' → W p l e R s m args below meth c H' locs' cells slots Qf (F0 m (pc + 3) lsA (r.map (ev_v (ev_am b a0 a1))))) :
    W p l e R s m args below meth c H locs cells slots Qf (F0 m pc lsA ((v :: .ref a :: r).map (ev_v (ev_am b a0 a1)))) := by
  obtain ⟨q, hq, hkq, hn, hf, hcase⟩ := hl
  have hK := hC.1
  have hin1 : ∀ w ∈ u_ws q.1 q.2.1 q.2.2, w ∈ lw_tbl := dp_in ci q hq
  have hin2 : ∀ w ∈ u_ws q.1 q.2.1 q.2.2, w ∈ dp_tb := fun w hw => by
    refine List.mem_filter.mpr ⟨hin1 w hw, ?_⟩
    obtain ⟨j, -, hj⟩ := List.mem_map.mp hw
    rw [← hj]
    unfold u_lay
    split <;> rfl
  have hap := va_apart (own := M.1.cls) hts hin2 (dp_ty ci) (dp_ty_ok ci q hq) (dp_nm ci q hq) hK hq
  have hat := hW.2.2 a ha hs
  rw [hh, ev_ob] at hat
  obtain ⟨r', h1, cell, q1, q2, q3, q4⟩ := hat
  have hr : r' = q := Option.some.inj (h1.symm.trans hq)
  subst hr
  obtain ⟨hSl, hfc, kC, hkC, hkind⟩ := hK.1 ci _ hq
  obtain ⟨cf, kf, fi, f, hi, hsl⟩ := hSl k hkq
  have hlay := hts _ (hin2 _ (u_in_lay hkq))
  unfold u_lay at hlay
  have hst := (u_facts hfc hkC (u_lays hts hin2 hkq) hi).1
  have hty := dp_ty_ok ci _ hq k hkq
  have fin : ∀ (H' : Heap), H'[ev_am b a0 a1 a]? = some (cell.setSlot f.slot (ev_v (ev_am b a0 a1) v)) → H'.size = H.size → (∀ q, q ≠ ev_am b a0 a1 a → H'[q]? = H[q]?) → W p l e R s m args below meth c H' (locs ++ [⟨ev_am b a0 a1 a, f.slot⟩]) cells slots Qf (F0 m (pc + 3) lsA (r.map (ev_v (ev_am b a0 a1)))) := by
    intro H' e1 e2 e3
    rw [hsl] at e1
    refine kk H' _ (hS.put e2 e3 (by show b ≤ _; rw [ev_am_lt ha]; omega)) (hW.set ha ?_ e2 e3)
    rw [ev_ob, List.map_set]
    exact ⟨_, hq, t_OB.to (V := updV (vp_V (fs.map (ev_v (ev_am b a0 a1)))) k (ev_v (ev_am b a0 a1) v)) ⟨_, e1, q2, q3, t_set q4 hap hkq _⟩ (fun j _ => vp_updV_set (by rw [List.length_map]; exact hk) _ j)⟩
  rcases hcase with ⟨hfin, hlink | ⟨host, hlink⟩⟩ | ⟨hfin, -, hnm, hdecl, hlink⟩
  · rw [if_neg (by rw [hfin]; decide)] at hlay
    have h6 := u_store hfc hkC hkind hlay hi hty (ev_narrow (ev_am b a0 a1) hn) (ev_fits (ev_am b a0 a1) hf)
    exact W.putK hx hb (f := f) ⟨hown, hts _ hlink, ⟨_, _, _, hi⟩, hst⟩ (by rw [q2]; exact h6) q1 q3 (by rw [hsl]; exact k2_hasslot (q4 k hkq)) rfl rfl hd fin
  · rw [if_neg (by rw [hfin]; decide)] at hlay
    have h6 := u_store hfc hkC hkind hlay hi hty (ev_narrow (ev_am b a0 a1) hn) (ev_fits (ev_am b a0 a1) hf)
    exact va_WputK hx hb (f := f) hown (va_Nw.use rfl (hC.2.2.2.2.1 _ hlink)) hi hst (by rw [q2]; exact h6) q1 q3 (by rw [hsl]; exact k2_hasslot (q4 k hkq)) rfl rfl hd fin
  · rw [if_pos hfin] at hlay
    have hcf : m.cls = cf := by
      obtain ⟨_, _, c', _, _, _, -, -, hf', -, -, -, hown2, -⟩ := Cond.laysFinal_spec hlay
      have e1 : c' = cf := by have := hi.symm.trans hf'; simp at this; exact this.1.symm
      rw [hdecl] at hown2
      rw [← e1]; exact Option.some.inj (hown.symm.trans hown2)
    have h6 := u_fits hfc hkC hkind (Or.inr hlay) hi hty (ev_narrow (ev_am b a0 a1) hn) (ev_fits (ev_am b a0 a1) hf)
    exact W.putFinK hx hb hown (hts _ hlink) hi hst hcf (hin.trans hnm) (by rw [q2]; exact h6) q1 q3 (by rw [hsl]; exact k2_hasslot (q4 k hkq)) rfl rfl hd fin
theorem ev_getf (hx : p.tables.exec = Jvm.exec) (hb : c.code = M.2.1) (hown : s.vm.findClass M.1.cls = some m.cls) (hts : ∀ w ∈ dp_tb, w.before args s = true) (hC : ev_CT D dA b a0 a1 xs L s) (hW : ev_WD D dA b a0 a1 sz h H)
    {idx a ci k : Nat} {r fs : List Value} {v : Value} (ha : 2 ≤ a) (hs : a < sz) (hh : h a = .inr (ci, fs)) (hl : ev_fl M.1.cls idx ci k) (hv : fs[k]? = some v) (hd : decode M.2.1 pc = .ok (.getfield idx, 3))
    (kk : W p l e R s m args below meth c H locs cells slots Qf (F0 m (pc + 3) lsA ((v :: r).map (ev_v (ev_am b a0 a1))))) :
    W p l e R s m args below meth c H locs cells slots Qf (F0 m pc lsA ((.ref a :: r).map (ev_v (ev_am b a0 a1)))) := by
  obtain ⟨q, hq, hkq, hcase⟩ := hl
  have hin2 : ∀ w ∈ u_ws q.1 q.2.1 q.2.2, w ∈ dp_tb := fun w hw => by
    refine List.mem_filter.mpr ⟨dp_in ci q hq w hw, ?_⟩
    obtain ⟨j, -, hj⟩ := List.mem_map.mp hw
    rw [← hj]
    unfold u_lay
    split <;> rfl
  have hat := hW.2.2 a ha hs
  rw [hh, ev_ob] at hat
  have hv2 : (fs.map (ev_v (ev_am b a0 a1)))[k]? = some (ev_v (ev_am b a0 a1) v) := by rw [List.getElem?_map, hv]; rfl
  rcases hcase with hlink | ⟨host, hlink⟩
  · exact va_get hx hb hts hin2 hown hC.1 (ev_P1 hat) 0 rfl hq k hkq (hts _ hlink) (fun _ h9 => h9) hv2 hd kk
  · exact va_getN hx hb hts hin2 hown hC.1 (ev_P1 hat) 0 rfl hq k hkq (va_Nw.use rfl (hC.2.2.2.2.1 _ hlink)) (fun _ h9 => h9) hv2 hd kk
end EVH
