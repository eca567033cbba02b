section EVC
variable {p : Program} {l : Launch} {e : Env} {R : Room} {s : State} {m : MethodId} {args : Array Value} {below : List Frame} {meth : Method} {c : Code} {H : Heap} {locs : List Loc} {cells slots : Nat} {Qf : State → Prop}
variable {D : va_G} {dA : Nat → ClassId} {b a0 a1 : Nat} {xs : Nat → Int32} {L d : Nat} {M : ev_M} {kc ks sz : Nat} {h : ev_H} {pc len mc ms : Nat} {lsA : Array Slot} {st : List Value}
theorem ev_callG {Qm : ev_Q} {st0 rest : List Value} {av : Array Value} (hr : va_Run p l e R s m args below meth c H locs cells slots kc ks (F0 m pc lsA st0) rest (ev_Qc D dA b a0 a1 Qm av) (ev_A b)) (hS : va_S (ev_A b) s.heap H locs)
    (kk : ∀ (sz' : Nat) (h' : ev_H) (r : List Value) (H1 : Heap) (locs1 : List Loc), Qm sz' h' r → ev_WD D dA b a0 a1 sz' h' H1 → va_S (ev_A b) s.heap H1 locs1 → W p l e R s m args below meth c H1 locs1 (cells + kc) (slots + ks) Qf (F0 m (pc + 3) lsA (r.map (ev_v (ev_am b a0 a1)) ++ rest))) :
    W p l e R s m args below meth c H locs cells slots Qf (F0 m pc lsA st0) := by
  intro T hT X
  obtain ⟨v, st₀, t, T', L', h0, X', hL, e1, e2, ⟨sz', h', r, hv, hlen, hq, hWD, hz, hk⟩, hst⟩ := hr T hT X
  rw [h0] at hz hk
  have hvr : v.toList = r.map (ev_v (ev_am b a0 a1)) := by
    have hv := Outcome.returned.inj hv
    subst hv
    match r, hlen with
    | [], _ => rfl
    | [x], _ => rfl
  obtain ⟨t2, g1, g2⟩ := kk sz' h' r T'.heap (locs ++ L') hq (by rw [e1]; exact hWD) ⟨Nat.le_trans hS.1 (by rw [e1]; exact hz), fun q h1 h2 => by rw [e1, hk q (Nat.lt_of_lt_of_le h1 hS.1) h2]; exact hS.2.1 q h1 h2, fun q hq => by
      rcases List.mem_append.mp hq with h | h
      · exact hS.2.2 q h
      · exact hL q h⟩ T' rfl X'
  refine ⟨t2, hst t2 ?_, g2⟩
  rw [hvr]
  exact g1
theorem ev_good (hcode : Cond.code M.1 M.2.1 M.2.2.1 M.2.2.2 ∈ dp_tb) : GoodIn dp_tb (ev_ws M) := by
  intro w hw
  rcases List.mem_cons.mp hw with rfl | hw
  · exact ⟨hcode, dp_tbGood _ hcode⟩
  · exact ⟨hw, dp_tbGood _ hw⟩
theorem ev_blind {As : List Value} : FrameBlind (ev_Pc D dA b a0 a1 xs L sz h As) := fun a U g mk q => ⟨q.1, q.2.1.vm rfl rfl, q.2.2⟩
theorem ev_catsum (am : Nat → Nat) (r : List Value) : ((r.map (ev_v am)).map fun v => v.category).sum = ev_cs r := by
  unfold ev_cs
  rw [List.map_map]
  congr 1
  exact List.map_congr_left fun v _ => ev_cat _ v
set_option maxHeartbeats 4000000 in
theorem ev_call_ok (hx : p.tables.exec = Jvm.exec) (hb : c.code = M.2.1) (hml : c.maxLocals = M.2.2.1) (hsz : lsA.size = M.2.2.1) (hown : s.vm.findClass M.1.cls = some m.cls) (hts : ∀ w ∈ dp_tb, w.before args s = true) (hC : ev_CT D dA b a0 a1 xs L s) (hS : va_S (ev_A b) s.heap H locs) (hW : ev_WD D dA b a0 a1 sz h H)
    (hfr : d + 1 ≤ R.frames) (hlo : 60 * (d + 1) ≤ R.locals) (hc1 : cells + kc ≤ R.cells) (hc2 : slots + ks ≤ R.slots) {i : Instr} (hd : decode M.2.1 pc = .ok (i, 3)) {M' : ev_M} {As rest : List Value} {Qm : ev_Q} (hca : ev_ca M i sz h st M' As rest)
    (hE : ev_W l D dA b a0 a1 xs L d kc ks M' sz h 0 (ev_en As M'.2.2.1) [] Qm)
    (kk : ∀ (sz' : Nat) (h' : ev_H) (r : List Value) (H1 : Heap) (locs1 : List Loc), Qm sz' h' r → ev_WD D dA b a0 a1 sz' h' H1 → va_S (ev_A b) s.heap H1 locs1 → W p l e R s m args below meth c H1 locs1 (cells + kc) (slots + ks) Qf (F0 m (pc + 3) lsA ((r ++ rest).map (ev_v (ev_am b a0 a1))))) :
    W p l e R s m args below meth c H locs cells slots Qf (F0 m pc lsA (st.map (ev_v (ev_am b a0 a1)))) := by
  obtain ⟨⟨hpl, hcode, hini, hmx, hmh, hlen, hcs⟩, hk⟩ := hca
  have hMet := ev_met hpl hlen hE
  have hG := ev_good hcode
  have hR : (ev_rm d kc ks).frames + 1 ≤ R.frames ∧ 8 + (M'.2.2.1 + 11) + (ev_rm d kc ks).locals ≤ R.locals := ⟨hfr, by show 8 + (M'.2.2.1 + 11) + 60 * d ≤ R.locals; omega⟩
  have S : CallFix p m c M.2.1 M.2.2.1 s args dp_tb M.1.cls := ⟨hx, hb, hml, hown, hts⟩
  have hroom : 2 * (F0 m pc lsA (st.map (ev_v (ev_am b a0 a1)))).monitorRoom + ((rest.map (ev_v (ev_am b a0 a1))).map fun v => v.category).sum ≤ 8 := lv_room (by rw [ev_catsum]; exact hcs)
  have hPre : ∀ U : State, U.heap = H → s.WarmedH U.vm → ev_Pc D dA b a0 a1 xs L sz h As (As.map (ev_v (ev_am b a0 a1))).toArray U := fun U hU hWm => ⟨rfl, hC.moved hS hU hWm, by rw [hU]; exact hW⟩
  have kk2 : ∀ (sz' : Nat) (h' : ev_H) (r : List Value) (H1 : Heap) (locs1 : List Loc), Qm sz' h' r → ev_WD D dA b a0 a1 sz' h' H1 → va_S (ev_A b) s.heap H1 locs1 → W p l e R s m args below meth c H1 locs1 (cells + kc) (slots + ks) Qf (F0 m (pc + 3) lsA (r.map (ev_v (ev_am b a0 a1)) ++ rest.map (ev_v (ev_am b a0 a1)))) := fun sz' h' r H1 locs1 g1 g2 g3 => by
    have := kk sz' h' r H1 locs1 g1 g2 g3
    rwa [List.map_append] at this
  rcases hk with ⟨idx, rfl, rfl, h1, h2, hlk⟩ | ⟨idx, a, B, q, ci, fs, rfl, rfl, rfl, g1, g2, g3, g4, h2, h1, hsel⟩ | ⟨idx, a, B, rfl, rfl, rfl, h1, h2, h3, h4, hlk⟩ | ⟨idx, a, B, q, ci, fs, rfl, rfl, rfl, g1, g2, g3, g4, h2, h3, h4, h5, h6, h7⟩
  · have hstk : (F0 m pc lsA ((As.reverse ++ rest).map (ev_v (ev_am b a0 a1)))).stack = (As.map (ev_v (ev_am b a0 a1))).reverse ++ rest.map (ev_v (ev_am b a0 a1)) := by
      show (As.reverse ++ rest).map _ = _
      rw [List.map_append, List.map_reverse]
    rcases hlk with hlk | ⟨host, hlk⟩
    · have cw := callB_of (R := R) (mc := kc) (ms := ks) (rm := ev_rm d kc ks) As.length hts hG rfl rfl rfl (hts _ hini) (hts _ hlk) ⟨hmh.1, hmh.2, h2⟩ hR
      exact ev_callG (va_runS S hMet ⟨cw, hts _ h1⟩ ⟨ev_blind, hPre⟩ rfl (by rw [List.length_map]) hsz hstk hroom hd ⟨hc1, hc2⟩) hS kk2
    · have cw := va_cnB (R := R) (mc := kc) (ms := ks) (rm := ev_rm d kc ks) As.length hts hG rfl rfl rfl (hC.2.2.2.2.1 _ hlk) (hts _ hini) ⟨hmh.1, hmh.2, h2⟩ hR
      exact ev_callG (va_runSN S hMet ⟨cw, hts _ h1, trivial⟩ ⟨ev_blind, hPre⟩ rfl (by rw [List.length_map]) hsz hstk hroom hd ⟨hc1, hc2⟩) hS kk2
  · have hstk : (F0 m pc lsA ((B.reverse ++ Value.ref a :: rest).map (ev_v (ev_am b a0 a1)))).stack = (B.map (ev_v (ev_am b a0 a1))).reverse ++ Value.ref (ev_am b a0 a1 a) :: rest.map (ev_v (ev_am b a0 a1)) := by
      show (B.reverse ++ Value.ref a :: rest).map _ = _
      rw [List.map_append, List.map_reverse]
      rfl
    have hat := hW.2.2 a g1 g2
    rw [g3, ev_ob] at hat
    have hrec := va_recv hC.1 (ev_P1 hat) (q0 := 0) g4 rfl
    rcases hsel with ⟨hs1, hs2, hlk | ⟨host, hlk⟩⟩ | ⟨x, b0, m0, r0, hm0, hp0, hl1, hl2, hl3, hl4, hl5⟩
    · have cw := callB_of (R := R) (mc := kc) (ms := ks) (rm := ev_rm d kc ks) B.length hts hG rfl rfl rfl (hts _ hini) (hts _ hlk) ⟨hmh.1, hmh.2, h2⟩ hR
      exact ev_callG (va_runV (C := q.1) S hMet ⟨cw, hts _ h1, hts _ hs1⟩ ⟨ev_blind, hrec, hPre⟩ rfl (by rw [List.length_map]) hsz hstk hroom hd ⟨hc1, hc2⟩) hS kk2
    · have cw := va_cnB (R := R) (mc := kc) (ms := ks) (rm := ev_rm d kc ks) B.length hts hG rfl rfl rfl (hC.2.2.2.2.1 _ hlk) (hts _ hini) ⟨hmh.1, hmh.2, h2⟩ hR
      exact ev_callG (va_runVN (C := q.1) S hMet ⟨cw, hts _ h1, hts _ hs1⟩ ⟨ev_blind, hrec, hPre⟩ rfl (by rw [List.length_map]) hsz hstk hroom hd ⟨hc1, hc2⟩) hS kk2
    · have hGU : GoodIn dp_tb (va_wsO M.1.cls idx q.1 x.cls x M'.1 (ev_ws M')) := by
        intro w hw
        unfold va_wsO at hw
        rcases List.mem_append.mp hw with hw | hw
        · have hm : w ∈ dp_tb := by
            simp only [List.mem_cons, List.not_mem_nil, or_false] at hw
            rcases hw with rfl | rfl | rfl | rfl | rfl | rfl
            · exact hl1
            · exact hl2
            · exact hl3
            · exact hl4
            · exact h1
            · exact hini
          exact ⟨hm, dp_tbGood _ hm⟩
        · exact hG w hw
      have cw := va_cwO (R := R) (mc := kc) (ms := ks) (rm := ev_rm d kc ks) B.length hts hGU rfl rfl rfl hl5 ⟨hm0.1, hm0.2, hp0⟩ hR
      exact ev_callG (va_runU S hMet cw ⟨ev_blind, hrec, hPre⟩ rfl (by rw [List.length_map]) hsz hstk hroom hd ⟨hc1, hc2⟩) hS kk2
  · have hstk : (F0 m pc lsA ((B.reverse ++ Value.ref a :: rest).map (ev_v (ev_am b a0 a1)))).stack = (B.map (ev_v (ev_am b a0 a1))).reverse ++ Value.ref (ev_am b a0 a1 a) :: rest.map (ev_v (ev_am b a0 a1)) := by
      show (B.reverse ++ Value.ref a :: rest).map _ = _
      rw [List.map_append, List.map_reverse]
      rfl
    obtain ⟨y', cc', mL', rt'⟩ := M'
    have h2 : rt' = none := h2
    subst h2
    rcases hlk with hlk | ⟨host, hlk⟩
    · have cw := callB_of (R := R) (mc := kc) (ms := ks) (rm := ev_rm d kc ks) B.length hts hG rfl rfl rfl (hts _ hini) (hts _ hlk) ⟨hmh.1, hmh.2, h4⟩ hR
      exact ev_callG (va_runI S hMet ⟨cw, h1, hts _ h3⟩ ⟨ev_blind, hPre⟩ rfl (by rw [List.length_map]) hsz hstk hroom hd ⟨hc1, hc2⟩) hS kk2
    · have cw := va_cnB (R := R) (mc := kc) (ms := ks) (rm := ev_rm d kc ks) B.length hts hG rfl rfl rfl (hC.2.2.2.2.1 _ hlk) (hts _ hini) ⟨hmh.1, hmh.2, h4⟩ hR
      exact ev_callG (va_runIN S hMet ⟨cw, h1, hts _ h3⟩ ⟨ev_blind, hPre⟩ rfl (by rw [List.length_map]) hsz hstk hroom hd ⟨hc1, hc2⟩) hS kk2
  · have hstk : (F0 m pc lsA ((B.reverse ++ Value.ref a :: rest).map (ev_v (ev_am b a0 a1)))).stack = (B.map (ev_v (ev_am b a0 a1))).reverse ++ Value.ref (ev_am b a0 a1 a) :: rest.map (ev_v (ev_am b a0 a1)) := by
      show (B.reverse ++ Value.ref a :: rest).map _ = _
      rw [List.map_append, List.map_reverse]
      rfl
    have hat := hW.2.2 a g1 g2
    rw [g3, ev_ob] at hat
    have hrec := va_recv hC.1 (ev_P1 hat) (q0 := 0) g4 rfl
    have hGU : GoodIn dp_tb (va_wsSU M.1.cls idx M'.1 (ev_ws M')) := by
      intro w hw
      unfold va_wsSU at hw
      rcases List.mem_append.mp hw with hw | hw
      · have hm : w ∈ dp_tb := by
          simp only [List.mem_cons, List.not_mem_nil, or_false] at hw
          rcases hw with rfl | rfl | rfl | rfl | rfl
          · exact h4
          · exact h5
          · exact h6
          · exact h7
          · exact hini
        exact ⟨hm, dp_tbGood _ hm⟩
      · exact hG w hw
    have cw := va_cwSU (R := R) (mc := kc) (ms := ks) (rm := ev_rm d kc ks) B.length hts hGU rfl rfl rfl ⟨h3, h2⟩ hR
    exact ev_callG (va_runSU (C := q.1) (hC.1.1 ci _ g4).2 S hMet cw ⟨ev_blind, hrec, hPre⟩ rfl (by rw [List.length_map]) hsz hstk hroom hd ⟨hc1, hc2⟩) hS kk2
end EVC
/-- what EV says holds of the machine -/
theorem ev_sound {l : Launch} {D : va_G} {dA : Nat → ClassId} {b a0 a1 : Nat} {xs : Nat → Int32} {L d kc ks : Nat} {M : ev_M} {sz : Nat} {h : ev_H} {pc : Nat} {ls : ev_L} {st : List Value} {Q : ev_Q} (hh : EV xs L d kc ks M sz h pc ls st Q) : ev_W l D dA b a0 a1 xs L d kc ks M sz h pc ls st Q := by
  refine hh (ev_W l D dA b a0 a1 xs L) ?_
  intro d kc ks M sz h pc ls st Q hs
  intro p e R s m args below meth c H locs cells slots mc ms lsA Qf hx hb hml hown hts hin hC hS hW hl hfr hlo hc1 hc2 hmc hms hend
  obtain ⟨i, len, hd, hc⟩ := hs
  rcases hc with ⟨rfl, pc', ls', st', h1, h2⟩ | ⟨rfl, cd, ce, r, off, tgt, h1, h2, h3, h4⟩ | ⟨dflt, lo, hi, offs, x, r, off, tgt, rfl, rfl, h3, h4, h5⟩ | h1 | ⟨rfl, M', As, rest, d', kc', ks', kc2, ks2, Qm, rfl, rfl, rfl, h4, h5, h6⟩ | ⟨rfl, h1, h2⟩
  · exact ev_pu_ok hx hb h1 hd hl (fun lsB hlB => h2 p e R s m args below meth c H locs cells slots mc ms lsB Qf hx hb hml hown hts hin hC hS hW hlB hfr hlo hc1 hc2 hmc hms hend)
  · exact ev_br_ok hx hb h1 hd h2 (fun q => h3 q p e R s m args below meth c H locs cells slots mc ms lsA Qf hx hb hml hown hts hin hC hS hW hl hfr hlo hc1 hc2 hmc hms hend) (fun q => h4 q p e R s m args below meth c H locs cells slots mc ms lsA Qf hx hb hml hown hts hin hC hS hW hl hfr hlo hc1 hc2 hmc hms hend)
  · have k5 := h5 p e R s m args below meth c H locs cells slots mc ms lsA Qf hx hb hml hown hts hin hC hS hW hl hfr hlo hc1 hc2 hmc hms hend
    rcases h3 with ⟨h3, rfl⟩ | ⟨h3, h6, h7⟩
    · exact lv_tableOut hx hb hd h3 h4 k5
    · exact lv_tableIn hx hb hd h3 h6 h7 h4 k5
  · refine ev_hp_ok hx hb (hl.1.trans hml.symm) hown hts hin hC hS hW hfr hlo hmc hms hc1 hc2 hd (ev_hp_mono (fun kc' ks' sz' h' len' st' q => ⟨q.1, ?_⟩) h1)
    intro H' locs' cells' slots' g1 g2 g3 g4
    exact q.2 p e R s m args below meth c H' locs' cells' slots' mc ms lsA Qf hx hb hml hown hts hin hC g1 g2 hl hfr hlo g3 g4 hmc hms hend
  · refine ev_call_ok (kc := kc') (ks := ks') hx hb hml hl.1 hown hts hC hS hW hfr hlo (by omega) (by omega) hd h4 h5 ?_
    intro sz' h' r H1 locs1 g1 g2 g3
    exact h6 sz' h' r g1 p e R s m args below meth c H1 locs1 _ _ mc ms lsA Qf hx hb hml hown hts hin hC g3 g2 hl hfr hlo (by omega) (by omega) hmc hms hend
  · exact W.widen (by omega) (by omega) (hend pc lsA H locs sz h st i h2 hW hS hd h1)
