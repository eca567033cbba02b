/-- the set at a has these four parts -/
def WD (h : ev_H) (a : Nat) (V : Nat → Int64) : Prop := ∃ t, h (a + 1) = .inl (1, 4, .inr (.inl (ws4 t (V 0) (V 1) (V 2) (V 3))))
def K1 (a : Nat) (h h' : ev_H) : Prop := ∀ k, k ≠ a + 1 → h' k = h k
theorem K1_rf (a : Nat) (h : ev_H) : K1 a h h := fun _ _ => rfl
theorem K1_tr {a : Nat} {h h' h'' : ev_H} (h1 : K1 a h h') (h2 : K1 a h' h'') : K1 a h h'' := fun k hk => (h2 k hk).trans (h1 k hk)
theorem K1_up {a : Nat} {h h' : ev_H} {x : va_E} (e : h' = va_up h (a + 1) x) : K1 a h h' := fun k hk => by rw [e]; exact va_up_ne _ _ hk
theorem K1_X {a : Nat} {l : List Nat} {h h' : ev_H} (ha : wsAt a) (hk : K1 a h h') : KX l h h' := fun k _ hs => hk k (fun z => hs (by rw [z]; exact SP_ws ha))
theorem WD.is {h : ev_H} {a : Nat} {V : Nat → Int64} (hw : WD h a V) (hS : SH h) (ha : wsAt a) : ∃ t, isWS h 434 a (a + 1) t (V 0) (V 1) (V 2) (V 3) := by
  obtain ⟨t, e⟩ := hw
  obtain ⟨g, hg⟩ := hS.ws ha
  exact ⟨t, hg.1, hg.2.1, hg.2.2.1, e⟩
theorem SH.wd {h : ev_H} (hS : SH h) {a : Nat} (ha : wsAt a) : ∃ V, WD h a V := by
  obtain ⟨g, hg⟩ := hS.ws ha
  exact ⟨g, g, hg.2.2.2⟩
theorem WD_1 {h h' : ev_H} {a b : Nat} {V : Nat → Int64} (hk : K1 a h h') (hne : b ≠ a) (w : WD h b V) : WD h' b V := by
  obtain ⟨t, e⟩ := w
  exact ⟨t, (hk _ (by omega)).trans e⟩
theorem WD_up {h h' : ev_H} {a : Nat} {V t : Nat → Int64} {x0 x1 x2 x3 : Int64} (e : h' = va_up h (a + 1) (.inl (1, 4, .inr (.inl (ws4 t x0 x1 x2 x3))))) (e0 : V 0 = x0) (e1 : V 1 = x1) (e2 : V 2 = x2) (e3 : V 3 = x3) : WD h' a V := ⟨t, by rw [e, va_up_self, e0, e1, e2, e3]⟩
theorem WD_cg {h : ev_H} {a : Nat} {V V' : Nat → Int64} (hv : ∀ z, z < 4 → V z = V' z) (w : WD h a V) : WD h a V' := by
  obtain ⟨t, e⟩ := w
  exact ⟨t, by rw [e, hv 0 (by decide), hv 1 (by decide), hv 2 (by decide), hv 3 (by decide)]⟩
/-- the worlds in which a literal of these LETTERS is so, LETTERS 0 .. k - 1 looked at -/
def gwV (p t am : Int32) : Nat → Nat → Int64
  | 0, _ => 0
  | k + 1, q => if t &&& ((1 <<< (nI k &&& 31)) &&& am) = 0 then (if p &&& ((1 <<< (nI k &&& 31)) &&& am) = 0 then gwV p t am k q else gwV p t am k q ||| pws (nI k) (nI q)) else (if p &&& ((1 <<< (nI k &&& 31)) &&& am) = 0 then gwV p t am k q else gwV p t am k q ||| pws (nI k) (nI q)) ||| (pws (nI k) (nI q) ^^^ (-1))
set_option maxRecDepth 20000 in
set_option maxHeartbeats 1000000 in
theorem v_gw_z {xs : Nat → Int32} {L d : Nat} {h : ev_H} {h0 : ev_H} {i q k : Nat} {p t o a b l m : Int32} {u : Option Value} (hS : SH h) (hi : i < 40) (hq : wsAt q) (hK : K1 q h0 h) (fl : h (100 + 8 * i) = cLn i p t o a b l) (hW : WD h q (gwV p t m k)) (hk : k = 8) : EV xs L (d + 2) 0 0 M_X3_gatherWorlds 434 h 6 [some (.ref (100 + 8 * i)), some (.ref q), some (.int m), some (.int (nI k)), u] [] (fun sz' h' r => sz' = 434 ∧ SH h' ∧ K1 q h0 h' ∧ WD h' q (gwV p t m 8) ∧ r = []) := by
  refine r_iload_n rfl dX3_gatherWorlds_6 rfl ?_
  refine r_bipush (v := 8) rfl dX3_gatherWorlds_7 (by decide) ?_
  refine r_icmp_ge (tgt := 57) rfl rfl dX3_gatherWorlds_9 (fun _ => ?_) (fun zc => absurd (show nI 8 ≤ nI k from nI_le (a := 8) (b := k) (by omega) (by omega)) zc)
  subst hk
  exact r_ret dX3_gatherWorlds_57 (rt_v rfl) ⟨rfl, hS, hK, hW, rfl⟩
set_option maxRecDepth 20000 in
set_option maxHeartbeats 1000000 in
theorem v_gw_s {xs : Nat → Int32} {L d : Nat} {h : ev_H} {h0 : ev_H} {i q k : Nat} {p t o a b l m : Int32} {u : Option Value} (hS : SH h) (hi : i < 40) (hq : wsAt q) (hK : K1 q h0 h) (fl : h (100 + 8 * i) = cLn i p t o a b l) (hW : WD h q (gwV p t m k)) (hk : k < 8) (ih : ∀ (h' : ev_H) (u' : Option Value), SH h' → K1 q h0 h' → h' (100 + 8 * i) = cLn i p t o a b l → WD h' q (gwV p t m (k + 1)) → EV xs L (d + 2) 0 0 M_X3_gatherWorlds 434 h' 6 [some (.ref (100 + 8 * i)), some (.ref q), some (.int m), some (.int (nI (k + 1))), u'] [] (fun sz' h' r => sz' = 434 ∧ SH h' ∧ K1 q h0 h' ∧ WD h' q (gwV p t m 8) ∧ r = [])) : EV xs L (d + 2) 0 0 M_X3_gatherWorlds 434 h 6 [some (.ref (100 + 8 * i)), some (.ref q), some (.int m), some (.int (nI k)), u] [] (fun sz' h' r => sz' = 434 ∧ SH h' ∧ K1 q h0 h' ∧ WD h' q (gwV p t m 8) ∧ r = []) := by
  refine r_iload_n rfl dX3_gatherWorlds_6 rfl ?_
  refine r_bipush (v := 8) rfl dX3_gatherWorlds_7 (by decide) ?_
  refine r_icmp_ge (tgt := 57) rfl rfl dX3_gatherWorlds_9 (fun zc => absurd zc (show ¬ nI 8 ≤ nI k from nI_ge (a := k) (b := 8) (by omega) (by omega))) (fun _ => ?_)
  refine r_iconst (v := 1) rfl dX3_gatherWorlds_12 (by decide) ?_
  refine r_iload_n rfl dX3_gatherWorlds_13 rfl ?_
  refine r_ishl rfl dX3_gatherWorlds_14 ?_
  refine r_iload_n rfl dX3_gatherWorlds_15 rfl ?_
  refine r_iand rfl dX3_gatherWorlds_16 ?_
  refine r_topi (fun x51 e52 => ?_)
  refine r_istore (ls' := [some (.ref (100 + 8 * i)), some (.ref q), some (.int m), some (.int (nI k)), some (.int x51)]) rfl dX3_gatherWorlds_17 (Nat.le_of_ble_eq_true rfl) rfl ?_
  refine r_aload_n rfl dX3_gatherWorlds_19 rfl ?_
  refine r_getv 1 rfl dX3_gatherWorlds_20 (show 2 ≤ 100 + 8 * i ∧ 100 + 8 * i < 434 by omega) fl fl_X3_28 rfl ?_
  refine r_iload rfl dX3_gatherWorlds_23 rfl ?_
  refine r_iand rfl dX3_gatherWorlds_25 ?_
  refine r_if_eq (tgt := 35) rfl rfl dX3_gatherWorlds_26 (fun c53 => ?_) (fun c53 => ?_)
  · refine r_aload_n rfl dX3_gatherWorlds_35 rfl ?_
    refine r_getv 2 rfl dX3_gatherWorlds_36 (show 2 ≤ 100 + 8 * i ∧ 100 + 8 * i < 434 by omega) fl fl_X3_31 rfl ?_
    refine r_iload rfl dX3_gatherWorlds_39 rfl ?_
    refine r_iand rfl dX3_gatherWorlds_41 ?_
    refine r_if_eq (tgt := 51) rfl rfl dX3_gatherWorlds_42 (fun c54 => ?_) (fun c54 => ?_)
    · refine r_iinc (y := nI (k + 1)) (ls' := [some (.ref (100 + 8 * i)), some (.ref q), some (.int m), some (.int (nI (k + 1))), some (.int x51)]) rfl dX3_gatherWorlds_51 rfl (nI_1 k) (Nat.le_of_ble_eq_true rfl) rfl ?_
      refine r_goto (pc' := 6) rfl dX3_gatherWorlds_54 ?_
      subst e52
      exact ih h _ hS hK fl (WD_cg (fun z _ => by rw [gwV, if_pos c54, if_pos c53]) hW)
    · refine r_aload_n rfl dX3_gatherWorlds_45 rfl ?_
      refine r_iload_n rfl dX3_gatherWorlds_46 rfl ?_
      refine r_iconst (v := 0) rfl dX3_gatherWorlds_47 (by decide) ?_
      obtain ⟨t55, hw56⟩ := hW.is hS hq
      refine cl_X3_46 rfl rfl dX3_gatherWorlds_48 (show _ ∧ _ from ⟨(hq).2.2.1, Nat.lt_of_succ_lt (hq).2.2.2⟩).1 (show _ ∧ _ from ⟨(hq).2.2.1, Nat.lt_of_succ_lt (hq).2.2.2⟩).2 hw56.2.2.1 (Nat.le_of_ble_eq_true rfl) (s_X10_joinWhere hw56) ?_
      rintro _ h57 _ ⟨rfl, eh58, rfl⟩
      have hS59 := SH_p hS hq eh58
      have hk60 : K1 (q) h h57 := K1_up eh58
      have w61 : WD h57 (q) (fun z => (gwV p t m k) z ||| (pws (nI k) (nI z) ^^^ (-1))) := WD_up eh58 rfl rfl rfl rfl
      have f62 : h57 (100 + 8 * i) = .inr (3, [.ref (101 + 8 * i), .int p, .int t, .int o, .int a, .int b, .int l]) := (hk60 _ (fun z => (nSP_ln (i := i) (by omega)) ⟨_, hq, z⟩)).trans fl
      have hK63 := K1_tr hK hk60
      refine r_iinc (y := nI (k + 1)) (ls' := [some (.ref (100 + 8 * i)), some (.ref q), some (.int m), some (.int (nI (k + 1))), some (.int x51)]) rfl dX3_gatherWorlds_51 rfl (nI_1 k) (Nat.le_of_ble_eq_true rfl) rfl ?_
      refine r_goto (pc' := 6) rfl dX3_gatherWorlds_54 ?_
      subst e52
      exact ih h57 _ hS59 hK63 f62 (WD_cg (fun z _ => by rw [gwV, if_neg c54, if_pos c53]) w61)
  · refine r_aload_n rfl dX3_gatherWorlds_29 rfl ?_
    refine r_iload_n rfl dX3_gatherWorlds_30 rfl ?_
    refine r_iconst (v := 1) rfl dX3_gatherWorlds_31 (by decide) ?_
    obtain ⟨t64, hw65⟩ := hW.is hS hq
    refine cl_X3_46 rfl rfl dX3_gatherWorlds_32 (show _ ∧ _ from ⟨(hq).2.2.1, Nat.lt_of_succ_lt (hq).2.2.2⟩).1 (show _ ∧ _ from ⟨(hq).2.2.1, Nat.lt_of_succ_lt (hq).2.2.2⟩).2 hw65.2.2.1 (Nat.le_of_ble_eq_true rfl) (s_X10_joinWhere hw65) ?_
    rintro _ h66 _ ⟨rfl, eh67, rfl⟩
    have hS68 := SH_p hS hq eh67
    have hk69 : K1 (q) h h66 := K1_up eh67
    have w70 : WD h66 (q) (fun z => (gwV p t m k) z ||| pws (nI k) (nI z)) := WD_up eh67 rfl rfl rfl rfl
    have f71 : h66 (100 + 8 * i) = .inr (3, [.ref (101 + 8 * i), .int p, .int t, .int o, .int a, .int b, .int l]) := (hk69 _ (fun z => (nSP_ln (i := i) (by omega)) ⟨_, hq, z⟩)).trans fl
    have hK72 := K1_tr hK hk69
    refine r_aload_n rfl dX3_gatherWorlds_35 rfl ?_
    refine r_getv 2 rfl dX3_gatherWorlds_36 (show 2 ≤ 100 + 8 * i ∧ 100 + 8 * i < 434 by omega) f71 fl_X3_31 rfl ?_
    refine r_iload rfl dX3_gatherWorlds_39 rfl ?_
    refine r_iand rfl dX3_gatherWorlds_41 ?_
    refine r_if_eq (tgt := 51) rfl rfl dX3_gatherWorlds_42 (fun c73 => ?_) (fun c73 => ?_)
    · refine r_iinc (y := nI (k + 1)) (ls' := [some (.ref (100 + 8 * i)), some (.ref q), some (.int m), some (.int (nI (k + 1))), some (.int x51)]) rfl dX3_gatherWorlds_51 rfl (nI_1 k) (Nat.le_of_ble_eq_true rfl) rfl ?_
      refine r_goto (pc' := 6) rfl dX3_gatherWorlds_54 ?_
      subst e52
      exact ih h66 _ hS68 hK72 f71 (WD_cg (fun z _ => by rw [gwV, if_pos c73, if_neg c53]) w70)
    · refine r_aload_n rfl dX3_gatherWorlds_45 rfl ?_
      refine r_iload_n rfl dX3_gatherWorlds_46 rfl ?_
      refine r_iconst (v := 0) rfl dX3_gatherWorlds_47 (by decide) ?_
      obtain ⟨t74, hw75⟩ := w70.is hS68 hq
      refine cl_X3_46 rfl rfl dX3_gatherWorlds_48 (show _ ∧ _ from ⟨(hq).2.2.1, Nat.lt_of_succ_lt (hq).2.2.2⟩).1 (show _ ∧ _ from ⟨(hq).2.2.1, Nat.lt_of_succ_lt (hq).2.2.2⟩).2 hw75.2.2.1 (Nat.le_of_ble_eq_true rfl) (s_X10_joinWhere hw75) ?_
      rintro _ h76 _ ⟨rfl, eh77, rfl⟩
      have hS78 := SH_p hS68 hq eh77
      have hk79 : K1 (q) h66 h76 := K1_up eh77
      have w80 : WD h76 (q) (fun z => (fun z => (gwV p t m k) z ||| pws (nI k) (nI z)) z ||| (pws (nI k) (nI z) ^^^ (-1))) := WD_up eh77 rfl rfl rfl rfl
      have f81 : h76 (100 + 8 * i) = .inr (3, [.ref (101 + 8 * i), .int p, .int t, .int o, .int a, .int b, .int l]) := (hk79 _ (fun z => (nSP_ln (i := i) (by omega)) ⟨_, hq, z⟩)).trans f71
      have hK82 := K1_tr hK72 hk79
      refine r_iinc (y := nI (k + 1)) (ls' := [some (.ref (100 + 8 * i)), some (.ref q), some (.int m), some (.int (nI (k + 1))), some (.int x51)]) rfl dX3_gatherWorlds_51 rfl (nI_1 k) (Nat.le_of_ble_eq_true rfl) rfl ?_
      refine r_goto (pc' := 6) rfl dX3_gatherWorlds_54 ?_
      subst e52
      exact ih h76 _ hS78 hK82 f81 (WD_cg (fun z _ => by rw [gwV, if_neg c73, if_neg c53]) w80)
theorem v_gw {xs : Nat → Int32} {L d : Nat} {h0 : ev_H} {i q : Nat} {p t o a b l m : Int32} (hi : i < 40) (hq : wsAt q) : ∀ (n k : Nat) (h : ev_H) (u : Option Value), k + n = 8 → SH h → K1 q h0 h → h (100 + 8 * i) = cLn i p t o a b l → WD h q (gwV p t m k) → EV xs L (d + 2) 0 0 M_X3_gatherWorlds 434 h 6 [some (.ref (100 + 8 * i)), some (.ref q), some (.int m), some (.int (nI k)), u] [] (fun sz' h' r => sz' = 434 ∧ SH h' ∧ K1 q h0 h' ∧ WD h' q (gwV p t m 8) ∧ r = []) := by
  intro n
  induction n with
  | zero => intro k h u hk hS hK fl hW; exact v_gw_z hS hi hq hK fl hW (by omega)
  | succ n ih => intro k h u hk hS hK fl hW; exact v_gw_s hS hi hq hK fl hW (by omega) (fun h' u' q1 q2 q3 q4 => ih (k + 1) h' u' (by omega) q1 q2 q3 q4)
set_option maxRecDepth 20000 in
set_option maxHeartbeats 1000000 in
theorem v_X3_gatherWorlds {xs : Nat → Int32} {L d : Nat} {h : ev_H} {i q : Nat} {p t o a b l m : Int32} (hS : SH h) (hi : i < 40) (hq : wsAt q) (fl : h (100 + 8 * i) = cLn i p t o a b l) : EV xs L (d + 2) 0 0 M_X3_gatherWorlds 434 h 0 [some (.ref (100 + 8 * i)), some (.ref q), some (.int m), none, none] [] (fun sz' h' r => sz' = 434 ∧ SH h' ∧ K1 q h h' ∧ WD h' q (gwV p t m 8) ∧ r = []) := by
  obtain ⟨V51, w52⟩ := hS.wd hq
  refine r_aload_n rfl dX3_gatherWorlds_0 rfl ?_
  obtain ⟨t53, hw54⟩ := w52.is hS hq
  refine cl_X3_43 rfl rfl dX3_gatherWorlds_1 (show _ ∧ _ from ⟨(hq).2.2.1, Nat.lt_of_succ_lt (hq).2.2.2⟩).1 (show _ ∧ _ from ⟨(hq).2.2.1, Nat.lt_of_succ_lt (hq).2.2.2⟩).2 hw54.2.2.1 (Nat.le_of_ble_eq_true rfl) (s_X10_wipe hw54) ?_
  rintro _ h55 _ ⟨rfl, eh56, rfl⟩
  have hS57 := SH_p hS hq eh56
  have hk58 : K1 (q) h h55 := K1_up eh56
  have w59 : WD h55 (q) (fun _ => 0) := WD_up eh56 rfl rfl rfl rfl
  have f60 : h55 (100 + 8 * i) = .inr (3, [.ref (101 + 8 * i), .int p, .int t, .int o, .int a, .int b, .int l]) := (hk58 _ (fun z => (nSP_ln (i := i) (by omega)) ⟨_, hq, z⟩)).trans fl
  have hK61 := K1_tr (K1_rf _ _) hk58
  refine r_iconst (v := 0) rfl dX3_gatherWorlds_4 (by decide) ?_
  refine r_istore_n (ls' := [some (.ref (100 + 8 * i)), some (.ref q), some (.int m), some (.int 0), none]) rfl dX3_gatherWorlds_5 (Nat.le_of_ble_eq_true rfl) rfl ?_
  exact v_gw hi hq 8 0 h55 _ rfl hS57 hK61 f60 w59
