def K3 (i : Nat) (h h' : ev_H) : Prop := ∀ k, k ≠ 103 + 8 * i → k ≠ 105 + 8 * i → k ≠ 107 + 8 * i → h' k = h k
theorem K3_rf (i : Nat) (h : ev_H) : K3 i h h := fun _ _ _ _ => rfl
theorem K3_1 {i w : Nat} {h h' h'' : ev_H} (hw : w < 3) (h1 : K3 i h h') (h2 : K1 (102 + 8 * i + 2 * w) h' h'') : K3 i h h'' := fun k a b c => (h2 k (by omega)).trans (h1 k a b c)
theorem WD_3 {i a : Nat} {h h' : ev_H} {V : Nat → Int64} (hk : K3 i h h') (h1 : a ≠ 102 + 8 * i) (h2 : a ≠ 104 + 8 * i) (h3 : a ≠ 106 + 8 * i) (w : WD h a V) : WD h' a V := by
  obtain ⟨t, e⟩ := w
  exact ⟨t, (hk _ (by omega) (by omega) (by omega)).trans e⟩
/-- what a CLAUSE says, by the class -/
def scV (o p t m : Int32) (w z : Nat) : Int64 := if o = 1 then (if w = 0 then gwV p t m 8 z else 0) else (if w = 1 then gwV p t m 8 z ^^^ (-1) else (-1))
/-- what a STEP's LINE says, by the class -/
def cuV (c l : Int32) (w : Nat) (A B : Nat → Int64) (z : Nat) : Int64 := if w = 2 ∧ c = 3 then (pws l (nI z) &&& B z) ||| ((pws l (nI z) ^^^ (-1)) &&& A z) else if c = 1 ∨ (c = 3 ∧ w = 1) then A z ||| B z else A z &&& B z
theorem W3 {P : Nat → Prop} (h0 : P 0) (h1 : P 1) (h2 : P 2) : ∀ w, w < 3 → P w := fun w hw => match w, hw with
  | 0, _ => h0
  | 1, _ => h1
  | 2, _ => h2
set_option maxRecDepth 20000 in
set_option maxHeartbeats 1000000 in
theorem v_X3_sayAsClause {xs : Nat → Int32} {L d : Nat} {h : ev_H} {i : Nat} {p t o a b l m : Int32} (hS : SH h) (hi : i < 40) (fl : h (100 + 8 * i) = cLn i p t o a b l) : EV xs L (d + 3) 0 0 M_X3_sayAsClause 434 h 0 [some (.ref (100 + 8 * i)), some (.int m)] [] (fun sz' h' r => sz' = 434 ∧ SH h' ∧ K3 i h h' ∧ (∀ w, w < 3 → WD h' (102 + 8 * i + 2 * w) (scV o p t m w)) ∧ r = []) := by
  refine r_aload_n rfl dX3_sayAsClause_0 rfl ?_
  refine r_getv 3 rfl dX3_sayAsClause_1 (show 2 ≤ 100 + 8 * i ∧ 100 + 8 * i < 434 by omega) fl fl_X3_34 rfl ?_
  refine r_iconst (v := 1) rfl dX3_sayAsClause_4 (by decide) ?_
  refine r_icmp_ne (tgt := 40) rfl rfl dX3_sayAsClause_5 (fun c51 => ?_) (fun c51 => ?_)
  · refine r_aload_n rfl dX3_sayAsClause_40 rfl ?_
    refine r_getv 0 rfl dX3_sayAsClause_41 (show 2 ≤ 100 + 8 * i ∧ 100 + 8 * i < 434 by omega) fl fl_X3_11 rfl ?_
    refine r_iconst (v := 0) rfl dX3_sayAsClause_44 (by decide) ?_
    refine r_aald (jn := 0) (v := .ref (102 + 8 * i + 2 * 0)) rfl dX3_sayAsClause_45 (show 2 ≤ 101 + 8 * i ∧ 101 + 8 * i < 434 by omega).1 (show 2 ≤ 101 + 8 * i ∧ 101 + 8 * i < 434 by omega).2 (hS.say (i := i) (by omega)) (by decide) (vp_in_nI (n := 0) (by omega) (by decide)) (nI_clamp (n := 0) (by omega)) (by show va_rf (if _ < _ then _ else _) = _; rw [if_pos (show 0 < 3 by omega)]; rfl) ?_
    obtain ⟨g52, hw53⟩ := hS.ws (wsAt_ln (i := i) (w := 0) (by omega) (by omega))
    refine cl_X3_54 rfl rfl dX3_sayAsClause_46 (show _ ∧ _ from ⟨((wsAt_ln (i := i) (w := 0) (by omega) (by omega))).2.2.1, Nat.lt_of_succ_lt ((wsAt_ln (i := i) (w := 0) (by omega) (by omega))).2.2.2⟩).1 (show _ ∧ _ from ⟨((wsAt_ln (i := i) (w := 0) (by omega) (by omega))).2.2.1, Nat.lt_of_succ_lt ((wsAt_ln (i := i) (w := 0) (by omega) (by omega))).2.2.2⟩).2 hw53.2.2.1 (Nat.le_of_ble_eq_true rfl) (s_X10_fill hw53) ?_
    rintro _ h54 _ ⟨rfl, eh55, rfl⟩
    have hS56 := SH_p hS (wsAt_ln (i := i) (w := 0) (by omega) (by omega)) eh55
    have hk57 : K1 (102 + 8 * i + 2 * 0) h h54 := K1_up eh55
    have w58 : WD h54 (102 + 8 * i + 2 * 0) (fun _ => (-1)) := WD_up eh55 rfl rfl rfl rfl
    have f59 : h54 (100 + 8 * i) = .inr (3, [.ref (101 + 8 * i), .int p, .int t, .int o, .int a, .int b, .int l]) := (hk57 _ (fun z => (nSP_ln (i := i) (by omega)) ⟨_, (wsAt_ln (i := i) (w := 0) (by omega) (by omega)), z⟩)).trans fl
    have hK60 := K3_1 (w := 0) (by decide) (K3_rf i h) hk57
    refine r_aload_n rfl dX3_sayAsClause_49 rfl ?_
    refine r_aload_n rfl dX3_sayAsClause_50 rfl ?_
    refine r_getv 0 rfl dX3_sayAsClause_51 (show 2 ≤ 100 + 8 * i ∧ 100 + 8 * i < 434 by omega) f59 fl_X3_11 rfl ?_
    refine r_iconst (v := 1) rfl dX3_sayAsClause_54 (by decide) ?_
    refine r_aald (jn := 1) (v := .ref (102 + 8 * i + 2 * 1)) rfl dX3_sayAsClause_55 (show 2 ≤ 101 + 8 * i ∧ 101 + 8 * i < 434 by omega).1 (show 2 ≤ 101 + 8 * i ∧ 101 + 8 * i < 434 by omega).2 (hS56.say (i := i) (by omega)) (by decide) (vp_in_nI (n := 1) (by omega) (by decide)) (nI_clamp (n := 1) (by omega)) (by show va_rf (if _ < _ then _ else _) = _; rw [if_pos (show 1 < 3 by omega)]; rfl) ?_
    refine r_iload_n rfl dX3_sayAsClause_56 rfl ?_
    refine cl_X3_50 rfl rfl dX3_sayAsClause_57 (show 2 ≤ 100 + 8 * i ∧ 100 + 8 * i < 434 by omega).1 (show 2 ≤ 100 + 8 * i ∧ 100 + 8 * i < 434 by omega).2 f59 (Nat.le_of_ble_eq_true rfl) (v_X3_gatherWorlds hS56 (i := i) (by omega) (wsAt_ln (i := i) (w := 1) (by omega) (by omega)) f59) ?_
    rintro _ h61 _ ⟨rfl, hS62, hk63, w64, rfl⟩
    have f65 : h61 (100 + 8 * i) = .inr (3, [.ref (101 + 8 * i), .int p, .int t, .int o, .int a, .int b, .int l]) := (hk63 _ (fun z => (nSP_ln (i := i) (by omega)) ⟨_, (wsAt_ln (i := i) (w := 1) (by omega) (by omega)), z⟩)).trans f59
    have w66 : WD h61 (102 + 8 * i + 2 * 0) (fun _ => (-1)) := WD_1 hk63 (by omega) w58
    have hK67 := K3_1 (w := 1) (by decide) hK60 hk63
    refine r_aload_n rfl dX3_sayAsClause_60 rfl ?_
    refine r_getv 0 rfl dX3_sayAsClause_61 (show 2 ≤ 100 + 8 * i ∧ 100 + 8 * i < 434 by omega) f65 fl_X3_11 rfl ?_
    refine r_iconst (v := 1) rfl dX3_sayAsClause_64 (by decide) ?_
    refine r_aald (jn := 1) (v := .ref (102 + 8 * i + 2 * 1)) rfl dX3_sayAsClause_65 (show 2 ≤ 101 + 8 * i ∧ 101 + 8 * i < 434 by omega).1 (show 2 ≤ 101 + 8 * i ∧ 101 + 8 * i < 434 by omega).2 (hS62.say (i := i) (by omega)) (by decide) (vp_in_nI (n := 1) (by omega) (by decide)) (nI_clamp (n := 1) (by omega)) (by show va_rf (if _ < _ then _ else _) = _; rw [if_pos (show 1 < 3 by omega)]; rfl) ?_
    obtain ⟨t68, hw69⟩ := w64.is hS62 (wsAt_ln (i := i) (w := 1) (by omega) (by omega))
    refine cl_X3_57 rfl rfl dX3_sayAsClause_66 (show _ ∧ _ from ⟨((wsAt_ln (i := i) (w := 1) (by omega) (by omega))).2.2.1, Nat.lt_of_succ_lt ((wsAt_ln (i := i) (w := 1) (by omega) (by omega))).2.2.2⟩).1 (show _ ∧ _ from ⟨((wsAt_ln (i := i) (w := 1) (by omega) (by omega))).2.2.1, Nat.lt_of_succ_lt ((wsAt_ln (i := i) (w := 1) (by omega) (by omega))).2.2.2⟩).2 hw69.2.2.1 (Nat.le_of_ble_eq_true rfl) (s_X10_turn hw69) ?_
    rintro _ h70 _ ⟨rfl, eh71, rfl⟩
    have hS72 := SH_p hS62 (wsAt_ln (i := i) (w := 1) (by omega) (by omega)) eh71
    have hk73 : K1 (102 + 8 * i + 2 * 1) h61 h70 := K1_up eh71
    have w74 : WD h70 (102 + 8 * i + 2 * 1) (fun z => (gwV p t m 8) z ^^^ (-1)) := WD_up eh71 rfl rfl rfl rfl
    have f75 : h70 (100 + 8 * i) = .inr (3, [.ref (101 + 8 * i), .int p, .int t, .int o, .int a, .int b, .int l]) := (hk73 _ (fun z => (nSP_ln (i := i) (by omega)) ⟨_, (wsAt_ln (i := i) (w := 1) (by omega) (by omega)), z⟩)).trans f65
    have w76 : WD h70 (102 + 8 * i + 2 * 0) (fun _ => (-1)) := WD_1 hk73 (by omega) w66
    have hK77 := K3_1 (w := 1) (by decide) hK67 hk73
    refine r_aload_n rfl dX3_sayAsClause_69 rfl ?_
    refine r_getv 0 rfl dX3_sayAsClause_70 (show 2 ≤ 100 + 8 * i ∧ 100 + 8 * i < 434 by omega) f75 fl_X3_11 rfl ?_
    refine r_iconst (v := 2) rfl dX3_sayAsClause_73 (by decide) ?_
    refine r_aald (jn := 2) (v := .ref (102 + 8 * i + 2 * 2)) rfl dX3_sayAsClause_74 (show 2 ≤ 101 + 8 * i ∧ 101 + 8 * i < 434 by omega).1 (show 2 ≤ 101 + 8 * i ∧ 101 + 8 * i < 434 by omega).2 (hS72.say (i := i) (by omega)) (by decide) (vp_in_nI (n := 2) (by omega) (by decide)) (nI_clamp (n := 2) (by omega)) (by show va_rf (if _ < _ then _ else _) = _; rw [if_pos (show 2 < 3 by omega)]; rfl) ?_
    obtain ⟨g78, hw79⟩ := hS72.ws (wsAt_ln (i := i) (w := 2) (by omega) (by omega))
    refine cl_X3_54 rfl rfl dX3_sayAsClause_75 (show _ ∧ _ from ⟨((wsAt_ln (i := i) (w := 2) (by omega) (by omega))).2.2.1, Nat.lt_of_succ_lt ((wsAt_ln (i := i) (w := 2) (by omega) (by omega))).2.2.2⟩).1 (show _ ∧ _ from ⟨((wsAt_ln (i := i) (w := 2) (by omega) (by omega))).2.2.1, Nat.lt_of_succ_lt ((wsAt_ln (i := i) (w := 2) (by omega) (by omega))).2.2.2⟩).2 hw79.2.2.1 (Nat.le_of_ble_eq_true rfl) (s_X10_fill hw79) ?_
    rintro _ h80 _ ⟨rfl, eh81, rfl⟩
    have hS82 := SH_p hS72 (wsAt_ln (i := i) (w := 2) (by omega) (by omega)) eh81
    have hk83 : K1 (102 + 8 * i + 2 * 2) h70 h80 := K1_up eh81
    have w84 : WD h80 (102 + 8 * i + 2 * 2) (fun _ => (-1)) := WD_up eh81 rfl rfl rfl rfl
    have f85 : h80 (100 + 8 * i) = .inr (3, [.ref (101 + 8 * i), .int p, .int t, .int o, .int a, .int b, .int l]) := (hk83 _ (fun z => (nSP_ln (i := i) (by omega)) ⟨_, (wsAt_ln (i := i) (w := 2) (by omega) (by omega)), z⟩)).trans f75
    have w86 : WD h80 (102 + 8 * i + 2 * 0) (fun _ => (-1)) := WD_1 hk83 (by omega) w76
    have w87 : WD h80 (102 + 8 * i + 2 * 1) (fun z => (gwV p t m 8) z ^^^ (-1)) := WD_1 hk83 (by omega) w74
    have hK88 := K3_1 (w := 2) (by decide) hK77 hk83
    exact r_ret dX3_sayAsClause_78 (rt_v rfl) ⟨rfl, hS82, hK88, W3 (WD_cg (fun z _ => by rw [scV, if_neg c51, if_neg (by decide)]) w86) (WD_cg (fun z _ => by rw [scV, if_neg c51, if_pos rfl]) w87) (WD_cg (fun z _ => by rw [scV, if_neg c51, if_neg (by decide)]) w84), rfl⟩
  · refine r_aload_n rfl dX3_sayAsClause_8 rfl ?_
    refine r_aload_n rfl dX3_sayAsClause_9 rfl ?_
    refine r_getv 0 rfl dX3_sayAsClause_10 (show 2 ≤ 100 + 8 * i ∧ 100 + 8 * i < 434 by omega) fl fl_X3_11 rfl ?_
    refine r_iconst (v := 0) rfl dX3_sayAsClause_13 (by decide) ?_
    refine r_aald (jn := 0) (v := .ref (102 + 8 * i + 2 * 0)) rfl dX3_sayAsClause_14 (show 2 ≤ 101 + 8 * i ∧ 101 + 8 * i < 434 by omega).1 (show 2 ≤ 101 + 8 * i ∧ 101 + 8 * i < 434 by omega).2 (hS.say (i := i) (by omega)) (by decide) (vp_in_nI (n := 0) (by omega) (by decide)) (nI_clamp (n := 0) (by omega)) (by show va_rf (if _ < _ then _ else _) = _; rw [if_pos (show 0 < 3 by omega)]; rfl) ?_
    refine r_iload_n rfl dX3_sayAsClause_15 rfl ?_
    refine cl_X3_50 rfl rfl dX3_sayAsClause_16 (show 2 ≤ 100 + 8 * i ∧ 100 + 8 * i < 434 by omega).1 (show 2 ≤ 100 + 8 * i ∧ 100 + 8 * i < 434 by omega).2 fl (Nat.le_of_ble_eq_true rfl) (v_X3_gatherWorlds hS (i := i) (by omega) (wsAt_ln (i := i) (w := 0) (by omega) (by omega)) fl) ?_
    rintro _ h89 _ ⟨rfl, hS90, hk91, w92, rfl⟩
    have f93 : h89 (100 + 8 * i) = .inr (3, [.ref (101 + 8 * i), .int p, .int t, .int o, .int a, .int b, .int l]) := (hk91 _ (fun z => (nSP_ln (i := i) (by omega)) ⟨_, (wsAt_ln (i := i) (w := 0) (by omega) (by omega)), z⟩)).trans fl
    have hK94 := K3_1 (w := 0) (by decide) (K3_rf i h) hk91
    refine r_aload_n rfl dX3_sayAsClause_19 rfl ?_
    refine r_getv 0 rfl dX3_sayAsClause_20 (show 2 ≤ 100 + 8 * i ∧ 100 + 8 * i < 434 by omega) f93 fl_X3_11 rfl ?_
    refine r_iconst (v := 1) rfl dX3_sayAsClause_23 (by decide) ?_
    refine r_aald (jn := 1) (v := .ref (102 + 8 * i + 2 * 1)) rfl dX3_sayAsClause_24 (show 2 ≤ 101 + 8 * i ∧ 101 + 8 * i < 434 by omega).1 (show 2 ≤ 101 + 8 * i ∧ 101 + 8 * i < 434 by omega).2 (hS90.say (i := i) (by omega)) (by decide) (vp_in_nI (n := 1) (by omega) (by decide)) (nI_clamp (n := 1) (by omega)) (by show va_rf (if _ < _ then _ else _) = _; rw [if_pos (show 1 < 3 by omega)]; rfl) ?_
    obtain ⟨g95, hw96⟩ := hS90.ws (wsAt_ln (i := i) (w := 1) (by omega) (by omega))
    refine cl_X3_43 rfl rfl dX3_sayAsClause_25 (show _ ∧ _ from ⟨((wsAt_ln (i := i) (w := 1) (by omega) (by omega))).2.2.1, Nat.lt_of_succ_lt ((wsAt_ln (i := i) (w := 1) (by omega) (by omega))).2.2.2⟩).1 (show _ ∧ _ from ⟨((wsAt_ln (i := i) (w := 1) (by omega) (by omega))).2.2.1, Nat.lt_of_succ_lt ((wsAt_ln (i := i) (w := 1) (by omega) (by omega))).2.2.2⟩).2 hw96.2.2.1 (Nat.le_of_ble_eq_true rfl) (s_X10_wipe hw96) ?_
    rintro _ h97 _ ⟨rfl, eh98, rfl⟩
    have hS99 := SH_p hS90 (wsAt_ln (i := i) (w := 1) (by omega) (by omega)) eh98
    have hk100 : K1 (102 + 8 * i + 2 * 1) h89 h97 := K1_up eh98
    have w101 : WD h97 (102 + 8 * i + 2 * 1) (fun _ => 0) := WD_up eh98 rfl rfl rfl rfl
    have f102 : h97 (100 + 8 * i) = .inr (3, [.ref (101 + 8 * i), .int p, .int t, .int o, .int a, .int b, .int l]) := (hk100 _ (fun z => (nSP_ln (i := i) (by omega)) ⟨_, (wsAt_ln (i := i) (w := 1) (by omega) (by omega)), z⟩)).trans f93
    have w103 : WD h97 (102 + 8 * i + 2 * 0) (gwV p t m 8) := WD_1 hk100 (by omega) w92
    have hK104 := K3_1 (w := 1) (by decide) hK94 hk100
    refine r_aload_n rfl dX3_sayAsClause_28 rfl ?_
    refine r_getv 0 rfl dX3_sayAsClause_29 (show 2 ≤ 100 + 8 * i ∧ 100 + 8 * i < 434 by omega) f102 fl_X3_11 rfl ?_
    refine r_iconst (v := 2) rfl dX3_sayAsClause_32 (by decide) ?_
    refine r_aald (jn := 2) (v := .ref (102 + 8 * i + 2 * 2)) rfl dX3_sayAsClause_33 (show 2 ≤ 101 + 8 * i ∧ 101 + 8 * i < 434 by omega).1 (show 2 ≤ 101 + 8 * i ∧ 101 + 8 * i < 434 by omega).2 (hS99.say (i := i) (by omega)) (by decide) (vp_in_nI (n := 2) (by omega) (by decide)) (nI_clamp (n := 2) (by omega)) (by show va_rf (if _ < _ then _ else _) = _; rw [if_pos (show 2 < 3 by omega)]; rfl) ?_
    obtain ⟨g105, hw106⟩ := hS99.ws (wsAt_ln (i := i) (w := 2) (by omega) (by omega))
    refine cl_X3_43 rfl rfl dX3_sayAsClause_34 (show _ ∧ _ from ⟨((wsAt_ln (i := i) (w := 2) (by omega) (by omega))).2.2.1, Nat.lt_of_succ_lt ((wsAt_ln (i := i) (w := 2) (by omega) (by omega))).2.2.2⟩).1 (show _ ∧ _ from ⟨((wsAt_ln (i := i) (w := 2) (by omega) (by omega))).2.2.1, Nat.lt_of_succ_lt ((wsAt_ln (i := i) (w := 2) (by omega) (by omega))).2.2.2⟩).2 hw106.2.2.1 (Nat.le_of_ble_eq_true rfl) (s_X10_wipe hw106) ?_
    rintro _ h107 _ ⟨rfl, eh108, rfl⟩
    have hS109 := SH_p hS99 (wsAt_ln (i := i) (w := 2) (by omega) (by omega)) eh108
    have hk110 : K1 (102 + 8 * i + 2 * 2) h97 h107 := K1_up eh108
    have w111 : WD h107 (102 + 8 * i + 2 * 2) (fun _ => 0) := WD_up eh108 rfl rfl rfl rfl
    have f112 : h107 (100 + 8 * i) = .inr (3, [.ref (101 + 8 * i), .int p, .int t, .int o, .int a, .int b, .int l]) := (hk110 _ (fun z => (nSP_ln (i := i) (by omega)) ⟨_, (wsAt_ln (i := i) (w := 2) (by omega) (by omega)), z⟩)).trans f102
    have w113 : WD h107 (102 + 8 * i + 2 * 0) (gwV p t m 8) := WD_1 hk110 (by omega) w103
    have w114 : WD h107 (102 + 8 * i + 2 * 1) (fun _ => 0) := WD_1 hk110 (by omega) w101
    have hK115 := K3_1 (w := 2) (by decide) hK104 hk110
    refine r_goto (pc' := 78) rfl dX3_sayAsClause_37 ?_
    exact r_ret dX3_sayAsClause_78 (rt_v rfl) ⟨rfl, hS109, hK115, W3 (WD_cg (fun z _ => by rw [scV, if_pos c51, if_pos rfl]) w113) (WD_cg (fun z _ => by rw [scV, if_pos c51, if_neg (by decide)]) w114) (WD_cg (fun z _ => by rw [scV, if_pos c51, if_neg (by decide)]) w111), rfl⟩
def jnC (y c : Int32) : Int32 := if c = 1 then 1 else if c = 3 then (if y = 1 then 1 else 0) else 0
set_option maxRecDepth 20000 in
set_option maxHeartbeats 1000000 in
theorem s_X3_joinsv {xs : Nat → Int32} {L d : Nat} {h : ev_H} {y c : Int32}  : EV xs L (d + 0) 0 0 M_X3_joins 434 h 0 [some (.int y), some (.int c)] [] (fun sz' h' r => sz' = 434 ∧ h' = h ∧ r = [.int (jnC y c)]) := by
  refine r_iload_n rfl dX3_joins_0 rfl ?_
  refine r_iconst (v := 1) rfl dX3_joins_1 (by decide) ?_
  refine r_icmp_eq (tgt := 15) rfl rfl dX3_joins_2 (fun c51 => ?_) (fun c51 => ?_)
  · refine r_iconst (v := 1) rfl dX3_joins_15 (by decide) ?_
    refine r_goto (pc' := 20) rfl dX3_joins_16 ?_
    exact r_ret dX3_joins_20 (rt_z rfl (Or.inr rfl)) ⟨rfl, rfl, by rw [jnC, if_pos c51]⟩
  · refine r_iload_n rfl dX3_joins_5 rfl ?_
    refine r_iconst (v := 3) rfl dX3_joins_6 (by decide) ?_
    refine r_icmp_ne (tgt := 19) rfl rfl dX3_joins_7 (fun c52 => ?_) (fun c52 => ?_)
    · refine r_iconst (v := 0) rfl dX3_joins_19 (by decide) ?_
      exact r_ret dX3_joins_20 (rt_z rfl (Or.inl rfl)) ⟨rfl, rfl, by rw [jnC, if_neg c51, if_neg c52]⟩
    · refine r_iload_n rfl dX3_joins_10 rfl ?_
      refine r_iconst (v := 1) rfl dX3_joins_11 (by decide) ?_
      refine r_icmp_ne (tgt := 19) rfl rfl dX3_joins_12 (fun c53 => ?_) (fun c53 => ?_)
      · refine r_iconst (v := 0) rfl dX3_joins_19 (by decide) ?_
        exact r_ret dX3_joins_20 (rt_z rfl (Or.inl rfl)) ⟨rfl, rfl, by rw [jnC, if_neg c51, if_pos c52, if_neg c53]⟩
      · refine r_iconst (v := 1) rfl dX3_joins_15 (by decide) ?_
        refine r_goto (pc' := 20) rfl dX3_joins_16 ?_
        exact r_ret dX3_joins_20 (rt_z rfl (Or.inr rfl)) ⟨rfl, rfl, by rw [jnC, if_neg c51, if_pos c52, if_pos c53]⟩
set_option maxRecDepth 20000 in
set_option maxHeartbeats 1000000 in
theorem v_sayAsCut0 {xs : Nat → Int32} {L d : Nat} {h : ev_H} {i j m : Nat} {p t o a b l p1 t1 o1 a1 b1 l1 p2 t2 o2 a2 b2 l2 : Int32} {A B : Nat → Nat → Int64} (hS : SH h) (hi : i < 40) (fl : h (100 + 8 * i) = cLn i p t o a b l) (hj : j < 40) (hm : m < 40) (fj : h (100 + 8 * j) = cLn j p1 t1 o1 a1 b1 l1) (fm : h (100 + 8 * m) = cLn m p2 t2 o2 a2 b2 l2) (hij : i ≠ j) (him : i ≠ m) (hji : j < i) (hmi : m < i) (hA : ∀ w, w < 3 → WD h (102 + 8 * j + 2 * w) (A w)) (hB : ∀ w, w < 3 → WD h (102 + 8 * m + 2 * w) (B w)) : EV xs L (d + 2) 0 0 M_X3_sayAsCut 434 h 0 [some (.ref (100 + 8 * i)), some (.ref (100 + 8 * j)), some (.ref (100 + 8 * m)), some (.int 0), none, none, none] [] (fun sz' h' r => sz' = 434 ∧ SH h' ∧ K3 i h h' ∧ (∀ w, w < 3 → WD h' (102 + 8 * i + 2 * w) (cuV 0 l w (A w) (B w))) ∧ r = []) := by
  have w51 : WD h (102 + 8 * j + 2 * 0) (A 0) := hA 0 (by decide)
  have w52 : WD h (102 + 8 * j + 2 * 1) (A 1) := hA 1 (by decide)
  have w53 : WD h (102 + 8 * j + 2 * 2) (A 2) := hA 2 (by decide)
  have w54 : WD h (102 + 8 * m + 2 * 0) (B 0) := hB 0 (by decide)
  have w55 : WD h (102 + 8 * m + 2 * 1) (B 1) := hB 1 (by decide)
  have w56 : WD h (102 + 8 * m + 2 * 2) (B 2) := hB 2 (by decide)
  refine r_iconst (v := 0) rfl dX3_sayAsCut_0 (by decide) ?_
  refine r_istore (ls' := [some (.ref (100 + 8 * i)), some (.ref (100 + 8 * j)), some (.ref (100 + 8 * m)), some (.int 0), some (.int 0), none, none]) rfl dX3_sayAsCut_1 (Nat.le_of_ble_eq_true rfl) rfl ?_
  refine r_iload rfl dX3_sayAsCut_3 rfl ?_
  refine r_iconst (v := 3) rfl dX3_sayAsCut_5 (by decide) ?_
  refine r_icmp_ge (tgt := 113) rfl rfl dX3_sayAsCut_6 (fun zc => absurd zc (by decide)) (fun _ => ?_)
  refine r_aload_n rfl dX3_sayAsCut_9 rfl ?_
  refine r_getv 0 rfl dX3_sayAsCut_10 (show 2 ≤ 100 + 8 * j ∧ 100 + 8 * j < 434 by omega) fj fl_X3_11 rfl ?_
  refine r_iload rfl dX3_sayAsCut_13 rfl ?_
  refine r_aald (jn := 0) (v := .ref (102 + 8 * j + 2 * 0)) rfl dX3_sayAsCut_15 (show 2 ≤ 101 + 8 * j ∧ 101 + 8 * j < 434 by omega).1 (show 2 ≤ 101 + 8 * j ∧ 101 + 8 * j < 434 by omega).2 (hS.say (i := j) (by omega)) (by decide) (vp_in_nI (n := 0) (by omega) (by decide)) (nI_clamp (n := 0) (by omega)) (by show va_rf (if _ < _ then _ else _) = _; rw [if_pos (show 0 < 3 by omega)]; rfl) ?_
  refine r_astore (ls' := [some (.ref (100 + 8 * i)), some (.ref (100 + 8 * j)), some (.ref (100 + 8 * m)), some (.int 0), some (.int 0), some (.ref (102 + 8 * j + 2 * 0)), none]) rfl dX3_sayAsCut_16 (Nat.le_of_ble_eq_true rfl) rfl ?_
  refine r_aload_n rfl dX3_sayAsCut_18 rfl ?_
  refine r_getv 0 rfl dX3_sayAsCut_19 (show 2 ≤ 100 + 8 * m ∧ 100 + 8 * m < 434 by omega) fm fl_X3_11 rfl ?_
  refine r_iload rfl dX3_sayAsCut_22 rfl ?_
  refine r_aald (jn := 0) (v := .ref (102 + 8 * m + 2 * 0)) rfl dX3_sayAsCut_24 (show 2 ≤ 101 + 8 * m ∧ 101 + 8 * m < 434 by omega).1 (show 2 ≤ 101 + 8 * m ∧ 101 + 8 * m < 434 by omega).2 (hS.say (i := m) (by omega)) (by decide) (vp_in_nI (n := 0) (by omega) (by decide)) (nI_clamp (n := 0) (by omega)) (by show va_rf (if _ < _ then _ else _) = _; rw [if_pos (show 0 < 3 by omega)]; rfl) ?_
  refine r_astore (ls' := [some (.ref (100 + 8 * i)), some (.ref (100 + 8 * j)), some (.ref (100 + 8 * m)), some (.int 0), some (.int 0), some (.ref (102 + 8 * j + 2 * 0)), some (.ref (102 + 8 * m + 2 * 0))]) rfl dX3_sayAsCut_25 (Nat.le_of_ble_eq_true rfl) rfl ?_
  refine r_iload rfl dX3_sayAsCut_27 rfl ?_
  refine r_iconst (v := 2) rfl dX3_sayAsCut_29 (by decide) ?_
  refine r_icmp_ne (tgt := 59) rfl rfl dX3_sayAsCut_30 (fun _ => ?_) (fun zc => absurd zc (by decide))
  refine r_aload_n rfl dX3_sayAsCut_59 rfl ?_
  refine r_getv 0 rfl dX3_sayAsCut_60 (show 2 ≤ 100 + 8 * i ∧ 100 + 8 * i < 434 by omega) fl fl_X3_11 rfl ?_
  refine r_iload rfl dX3_sayAsCut_63 rfl ?_
  refine r_aald (jn := 0) (v := .ref (102 + 8 * i + 2 * 0)) rfl dX3_sayAsCut_65 (show 2 ≤ 101 + 8 * i ∧ 101 + 8 * i < 434 by omega).1 (show 2 ≤ 101 + 8 * i ∧ 101 + 8 * i < 434 by omega).2 (hS.say (i := i) (by omega)) (by decide) (vp_in_nI (n := 0) (by omega) (by decide)) (nI_clamp (n := 0) (by omega)) (by show va_rf (if _ < _ then _ else _) = _; rw [if_pos (show 0 < 3 by omega)]; rfl) ?_
  refine r_aload rfl dX3_sayAsCut_66 rfl ?_
  obtain ⟨g57, hw58⟩ := hS.ws (wsAt_ln (i := i) (w := 0) (by omega) (by omega))
  obtain ⟨t59, hw60⟩ := w51.is hS (wsAt_ln (i := j) (w := 0) (by omega) (by omega))
  refine cl_X3_64 rfl rfl dX3_sayAsCut_68 (show _ ∧ _ from ⟨((wsAt_ln (i := i) (w := 0) (by omega) (by omega))).2.2.1, Nat.lt_of_succ_lt ((wsAt_ln (i := i) (w := 0) (by omega) (by omega))).2.2.2⟩).1 (show _ ∧ _ from ⟨((wsAt_ln (i := i) (w := 0) (by omega) (by omega))).2.2.1, Nat.lt_of_succ_lt ((wsAt_ln (i := i) (w := 0) (by omega) (by omega))).2.2.2⟩).2 hw58.2.2.1 (Nat.le_of_ble_eq_true rfl) (s_X10_become hw58 hw60 (by omega)) ?_
  rintro _ h61 _ ⟨rfl, eh62, rfl⟩
  have hS63 := SH_p hS (wsAt_ln (i := i) (w := 0) (by omega) (by omega)) eh62
  have hk64 : K1 (102 + 8 * i + 2 * 0) h h61 := K1_up eh62
  have w65 : WD h61 (102 + 8 * i + 2 * 0) (fun z => (A 0) z) := WD_up eh62 rfl rfl rfl rfl
  have f66 : h61 (100 + 8 * i) = .inr (3, [.ref (101 + 8 * i), .int p, .int t, .int o, .int a, .int b, .int l]) := (hk64 _ (fun z => (nSP_ln (i := i) (by omega)) ⟨_, (wsAt_ln (i := i) (w := 0) (by omega) (by omega)), z⟩)).trans fl
  have f67 : h61 (100 + 8 * j) = .inr (3, [.ref (101 + 8 * j), .int p1, .int t1, .int o1, .int a1, .int b1, .int l1]) := (hk64 _ (fun z => (nSP_ln (i := j) (by omega)) ⟨_, (wsAt_ln (i := i) (w := 0) (by omega) (by omega)), z⟩)).trans fj
  have f68 : h61 (100 + 8 * m) = .inr (3, [.ref (101 + 8 * m), .int p2, .int t2, .int o2, .int a2, .int b2, .int l2]) := (hk64 _ (fun z => (nSP_ln (i := m) (by omega)) ⟨_, (wsAt_ln (i := i) (w := 0) (by omega) (by omega)), z⟩)).trans fm
  have w69 : WD h61 (102 + 8 * j + 2 * 0) (A 0) := WD_1 hk64 (by omega) w51
  have w70 : WD h61 (102 + 8 * j + 2 * 1) (A 1) := WD_1 hk64 (by omega) w52
  have w71 : WD h61 (102 + 8 * j + 2 * 2) (A 2) := WD_1 hk64 (by omega) w53
  have w72 : WD h61 (102 + 8 * m + 2 * 0) (B 0) := WD_1 hk64 (by omega) w54
  have w73 : WD h61 (102 + 8 * m + 2 * 1) (B 1) := WD_1 hk64 (by omega) w55
  have w74 : WD h61 (102 + 8 * m + 2 * 2) (B 2) := WD_1 hk64 (by omega) w56
  have hK75 := K3_1 (w := 0) (by decide) (K3_rf i h) hk64
  refine r_iload rfl dX3_sayAsCut_71 rfl ?_
  refine r_iload_n rfl dX3_sayAsCut_73 rfl ?_
  refine cl_X3_68 rfl rfl dX3_sayAsCut_74 (Nat.le_of_ble_eq_true rfl) s_X3_joinsv ?_
  rintro _ h76 _ ⟨rfl, e77, rfl⟩
  replace e77 := e77.symm
  subst e77
  refine r_eqi (y := 0) (by decide) ?_
  refine r_if_eq (tgt := 95) rfl rfl dX3_sayAsCut_77 (fun _ => ?_) (fun zc => absurd zc (by decide))
  refine r_aload_n rfl dX3_sayAsCut_95 rfl ?_
  refine r_getv 0 rfl dX3_sayAsCut_96 (show 2 ≤ 100 + 8 * i ∧ 100 + 8 * i < 434 by omega) f66 fl_X3_11 rfl ?_
  refine r_iload rfl dX3_sayAsCut_99 rfl ?_
  refine r_aald (jn := 0) (v := .ref (102 + 8 * i + 2 * 0)) rfl dX3_sayAsCut_101 (show 2 ≤ 101 + 8 * i ∧ 101 + 8 * i < 434 by omega).1 (show 2 ≤ 101 + 8 * i ∧ 101 + 8 * i < 434 by omega).2 (hS63.say (i := i) (by omega)) (by decide) (vp_in_nI (n := 0) (by omega) (by decide)) (nI_clamp (n := 0) (by omega)) (by show va_rf (if _ < _ then _ else _) = _; rw [if_pos (show 0 < 3 by omega)]; rfl) ?_
  refine r_aload rfl dX3_sayAsCut_102 rfl ?_
  obtain ⟨t78, hw79⟩ := w65.is hS63 (wsAt_ln (i := i) (w := 0) (by omega) (by omega))
  obtain ⟨t80, hw81⟩ := w72.is hS63 (wsAt_ln (i := m) (w := 0) (by omega) (by omega))
  refine cl_X3_75 rfl rfl dX3_sayAsCut_104 (show _ ∧ _ from ⟨((wsAt_ln (i := i) (w := 0) (by omega) (by omega))).2.2.1, Nat.lt_of_succ_lt ((wsAt_ln (i := i) (w := 0) (by omega) (by omega))).2.2.2⟩).1 (show _ ∧ _ from ⟨((wsAt_ln (i := i) (w := 0) (by omega) (by omega))).2.2.1, Nat.lt_of_succ_lt ((wsAt_ln (i := i) (w := 0) (by omega) (by omega))).2.2.2⟩).2 hw79.2.2.1 (Nat.le_of_ble_eq_true rfl) (s_X10_meet hw79 hw81 (by omega)) ?_
  rintro _ h82 _ ⟨rfl, eh83, rfl⟩
  have hS84 := SH_p hS63 (wsAt_ln (i := i) (w := 0) (by omega) (by omega)) eh83
  have hk85 : K1 (102 + 8 * i + 2 * 0) h61 h82 := K1_up eh83
  have w86 : WD h82 (102 + 8 * i + 2 * 0) (fun z => (fun z => (A 0) z) z &&& (B 0) z) := WD_up eh83 rfl rfl rfl rfl
  have f87 : h82 (100 + 8 * i) = .inr (3, [.ref (101 + 8 * i), .int p, .int t, .int o, .int a, .int b, .int l]) := (hk85 _ (fun z => (nSP_ln (i := i) (by omega)) ⟨_, (wsAt_ln (i := i) (w := 0) (by omega) (by omega)), z⟩)).trans f66
  have f88 : h82 (100 + 8 * j) = .inr (3, [.ref (101 + 8 * j), .int p1, .int t1, .int o1, .int a1, .int b1, .int l1]) := (hk85 _ (fun z => (nSP_ln (i := j) (by omega)) ⟨_, (wsAt_ln (i := i) (w := 0) (by omega) (by omega)), z⟩)).trans f67
  have f89 : h82 (100 + 8 * m) = .inr (3, [.ref (101 + 8 * m), .int p2, .int t2, .int o2, .int a2, .int b2, .int l2]) := (hk85 _ (fun z => (nSP_ln (i := m) (by omega)) ⟨_, (wsAt_ln (i := i) (w := 0) (by omega) (by omega)), z⟩)).trans f68
  have w90 : WD h82 (102 + 8 * j + 2 * 0) (A 0) := WD_1 hk85 (by omega) w69
  have w91 : WD h82 (102 + 8 * j + 2 * 1) (A 1) := WD_1 hk85 (by omega) w70
  have w92 : WD h82 (102 + 8 * j + 2 * 2) (A 2) := WD_1 hk85 (by omega) w71
  have w93 : WD h82 (102 + 8 * m + 2 * 0) (B 0) := WD_1 hk85 (by omega) w72
  have w94 : WD h82 (102 + 8 * m + 2 * 1) (B 1) := WD_1 hk85 (by omega) w73
  have w95 : WD h82 (102 + 8 * m + 2 * 2) (B 2) := WD_1 hk85 (by omega) w74
  have hK96 := K3_1 (w := 0) (by decide) hK75 hk85
  refine r_iinc (y := 1) (ls' := [some (.ref (100 + 8 * i)), some (.ref (100 + 8 * j)), some (.ref (100 + 8 * m)), some (.int 0), some (.int 1), some (.ref (102 + 8 * j + 2 * 0)), some (.ref (102 + 8 * m + 2 * 0))]) rfl dX3_sayAsCut_107 rfl (by decide) (Nat.le_of_ble_eq_true rfl) rfl ?_
  refine r_goto (pc' := 3) rfl dX3_sayAsCut_110 ?_
  refine r_iload rfl dX3_sayAsCut_3 rfl ?_
  refine r_iconst (v := 3) rfl dX3_sayAsCut_5 (by decide) ?_
  refine r_icmp_ge (tgt := 113) rfl rfl dX3_sayAsCut_6 (fun zc => absurd zc (by decide)) (fun _ => ?_)
  refine r_aload_n rfl dX3_sayAsCut_9 rfl ?_
  refine r_getv 0 rfl dX3_sayAsCut_10 (show 2 ≤ 100 + 8 * j ∧ 100 + 8 * j < 434 by omega) f88 fl_X3_11 rfl ?_
  refine r_iload rfl dX3_sayAsCut_13 rfl ?_
  refine r_aald (jn := 1) (v := .ref (102 + 8 * j + 2 * 1)) rfl dX3_sayAsCut_15 (show 2 ≤ 101 + 8 * j ∧ 101 + 8 * j < 434 by omega).1 (show 2 ≤ 101 + 8 * j ∧ 101 + 8 * j < 434 by omega).2 (hS84.say (i := j) (by omega)) (by decide) (vp_in_nI (n := 1) (by omega) (by decide)) (nI_clamp (n := 1) (by omega)) (by show va_rf (if _ < _ then _ else _) = _; rw [if_pos (show 1 < 3 by omega)]; rfl) ?_
  refine r_astore (ls' := [some (.ref (100 + 8 * i)), some (.ref (100 + 8 * j)), some (.ref (100 + 8 * m)), some (.int 0), some (.int 1), some (.ref (102 + 8 * j + 2 * 1)), some (.ref (102 + 8 * m + 2 * 0))]) rfl dX3_sayAsCut_16 (Nat.le_of_ble_eq_true rfl) rfl ?_
  refine r_aload_n rfl dX3_sayAsCut_18 rfl ?_
  refine r_getv 0 rfl dX3_sayAsCut_19 (show 2 ≤ 100 + 8 * m ∧ 100 + 8 * m < 434 by omega) f89 fl_X3_11 rfl ?_
  refine r_iload rfl dX3_sayAsCut_22 rfl ?_
  refine r_aald (jn := 1) (v := .ref (102 + 8 * m + 2 * 1)) rfl dX3_sayAsCut_24 (show 2 ≤ 101 + 8 * m ∧ 101 + 8 * m < 434 by omega).1 (show 2 ≤ 101 + 8 * m ∧ 101 + 8 * m < 434 by omega).2 (hS84.say (i := m) (by omega)) (by decide) (vp_in_nI (n := 1) (by omega) (by decide)) (nI_clamp (n := 1) (by omega)) (by show va_rf (if _ < _ then _ else _) = _; rw [if_pos (show 1 < 3 by omega)]; rfl) ?_
  refine r_astore (ls' := [some (.ref (100 + 8 * i)), some (.ref (100 + 8 * j)), some (.ref (100 + 8 * m)), some (.int 0), some (.int 1), some (.ref (102 + 8 * j + 2 * 1)), some (.ref (102 + 8 * m + 2 * 1))]) rfl dX3_sayAsCut_25 (Nat.le_of_ble_eq_true rfl) rfl ?_
  refine r_iload rfl dX3_sayAsCut_27 rfl ?_
  refine r_iconst (v := 2) rfl dX3_sayAsCut_29 (by decide) ?_
  refine r_icmp_ne (tgt := 59) rfl rfl dX3_sayAsCut_30 (fun _ => ?_) (fun zc => absurd zc (by decide))
  refine r_aload_n rfl dX3_sayAsCut_59 rfl ?_
  refine r_getv 0 rfl dX3_sayAsCut_60 (show 2 ≤ 100 + 8 * i ∧ 100 + 8 * i < 434 by omega) f87 fl_X3_11 rfl ?_
  refine r_iload rfl dX3_sayAsCut_63 rfl ?_
  refine r_aald (jn := 1) (v := .ref (102 + 8 * i + 2 * 1)) rfl dX3_sayAsCut_65 (show 2 ≤ 101 + 8 * i ∧ 101 + 8 * i < 434 by omega).1 (show 2 ≤ 101 + 8 * i ∧ 101 + 8 * i < 434 by omega).2 (hS84.say (i := i) (by omega)) (by decide) (vp_in_nI (n := 1) (by omega) (by decide)) (nI_clamp (n := 1) (by omega)) (by show va_rf (if _ < _ then _ else _) = _; rw [if_pos (show 1 < 3 by omega)]; rfl) ?_
  refine r_aload rfl dX3_sayAsCut_66 rfl ?_
  obtain ⟨g97, hw98⟩ := hS84.ws (wsAt_ln (i := i) (w := 1) (by omega) (by omega))
  obtain ⟨t99, hw100⟩ := w91.is hS84 (wsAt_ln (i := j) (w := 1) (by omega) (by omega))
  refine cl_X3_64 rfl rfl dX3_sayAsCut_68 (show _ ∧ _ from ⟨((wsAt_ln (i := i) (w := 1) (by omega) (by omega))).2.2.1, Nat.lt_of_succ_lt ((wsAt_ln (i := i) (w := 1) (by omega) (by omega))).2.2.2⟩).1 (show _ ∧ _ from ⟨((wsAt_ln (i := i) (w := 1) (by omega) (by omega))).2.2.1, Nat.lt_of_succ_lt ((wsAt_ln (i := i) (w := 1) (by omega) (by omega))).2.2.2⟩).2 hw98.2.2.1 (Nat.le_of_ble_eq_true rfl) (s_X10_become hw98 hw100 (by omega)) ?_
  rintro _ h101 _ ⟨rfl, eh102, rfl⟩
  have hS103 := SH_p hS84 (wsAt_ln (i := i) (w := 1) (by omega) (by omega)) eh102
  have hk104 : K1 (102 + 8 * i + 2 * 1) h82 h101 := K1_up eh102
  have w105 : WD h101 (102 + 8 * i + 2 * 1) (fun z => (A 1) z) := WD_up eh102 rfl rfl rfl rfl
  have f106 : h101 (100 + 8 * i) = .inr (3, [.ref (101 + 8 * i), .int p, .int t, .int o, .int a, .int b, .int l]) := (hk104 _ (fun z => (nSP_ln (i := i) (by omega)) ⟨_, (wsAt_ln (i := i) (w := 1) (by omega) (by omega)), z⟩)).trans f87
  have f107 : h101 (100 + 8 * j) = .inr (3, [.ref (101 + 8 * j), .int p1, .int t1, .int o1, .int a1, .int b1, .int l1]) := (hk104 _ (fun z => (nSP_ln (i := j) (by omega)) ⟨_, (wsAt_ln (i := i) (w := 1) (by omega) (by omega)), z⟩)).trans f88
  have f108 : h101 (100 + 8 * m) = .inr (3, [.ref (101 + 8 * m), .int p2, .int t2, .int o2, .int a2, .int b2, .int l2]) := (hk104 _ (fun z => (nSP_ln (i := m) (by omega)) ⟨_, (wsAt_ln (i := i) (w := 1) (by omega) (by omega)), z⟩)).trans f89
  have w109 : WD h101 (102 + 8 * j + 2 * 0) (A 0) := WD_1 hk104 (by omega) w90
  have w110 : WD h101 (102 + 8 * j + 2 * 1) (A 1) := WD_1 hk104 (by omega) w91
  have w111 : WD h101 (102 + 8 * j + 2 * 2) (A 2) := WD_1 hk104 (by omega) w92
  have w112 : WD h101 (102 + 8 * m + 2 * 0) (B 0) := WD_1 hk104 (by omega) w93
  have w113 : WD h101 (102 + 8 * m + 2 * 1) (B 1) := WD_1 hk104 (by omega) w94
  have w114 : WD h101 (102 + 8 * m + 2 * 2) (B 2) := WD_1 hk104 (by omega) w95
  have w115 : WD h101 (102 + 8 * i + 2 * 0) (fun z => (fun z => (A 0) z) z &&& (B 0) z) := WD_1 hk104 (by omega) w86
  have hK116 := K3_1 (w := 1) (by decide) hK96 hk104
  refine r_iload rfl dX3_sayAsCut_71 rfl ?_
  refine r_iload_n rfl dX3_sayAsCut_73 rfl ?_
  refine cl_X3_68 rfl rfl dX3_sayAsCut_74 (Nat.le_of_ble_eq_true rfl) s_X3_joinsv ?_
  rintro _ h117 _ ⟨rfl, e118, rfl⟩
  replace e118 := e118.symm
  subst e118
  refine r_eqi (y := 0) (by decide) ?_
  refine r_if_eq (tgt := 95) rfl rfl dX3_sayAsCut_77 (fun _ => ?_) (fun zc => absurd zc (by decide))
  refine r_aload_n rfl dX3_sayAsCut_95 rfl ?_
  refine r_getv 0 rfl dX3_sayAsCut_96 (show 2 ≤ 100 + 8 * i ∧ 100 + 8 * i < 434 by omega) f106 fl_X3_11 rfl ?_
  refine r_iload rfl dX3_sayAsCut_99 rfl ?_
  refine r_aald (jn := 1) (v := .ref (102 + 8 * i + 2 * 1)) rfl dX3_sayAsCut_101 (show 2 ≤ 101 + 8 * i ∧ 101 + 8 * i < 434 by omega).1 (show 2 ≤ 101 + 8 * i ∧ 101 + 8 * i < 434 by omega).2 (hS103.say (i := i) (by omega)) (by decide) (vp_in_nI (n := 1) (by omega) (by decide)) (nI_clamp (n := 1) (by omega)) (by show va_rf (if _ < _ then _ else _) = _; rw [if_pos (show 1 < 3 by omega)]; rfl) ?_
  refine r_aload rfl dX3_sayAsCut_102 rfl ?_
  obtain ⟨t119, hw120⟩ := w105.is hS103 (wsAt_ln (i := i) (w := 1) (by omega) (by omega))
  obtain ⟨t121, hw122⟩ := w113.is hS103 (wsAt_ln (i := m) (w := 1) (by omega) (by omega))
  refine cl_X3_75 rfl rfl dX3_sayAsCut_104 (show _ ∧ _ from ⟨((wsAt_ln (i := i) (w := 1) (by omega) (by omega))).2.2.1, Nat.lt_of_succ_lt ((wsAt_ln (i := i) (w := 1) (by omega) (by omega))).2.2.2⟩).1 (show _ ∧ _ from ⟨((wsAt_ln (i := i) (w := 1) (by omega) (by omega))).2.2.1, Nat.lt_of_succ_lt ((wsAt_ln (i := i) (w := 1) (by omega) (by omega))).2.2.2⟩).2 hw120.2.2.1 (Nat.le_of_ble_eq_true rfl) (s_X10_meet hw120 hw122 (by omega)) ?_
  rintro _ h123 _ ⟨rfl, eh124, rfl⟩
  have hS125 := SH_p hS103 (wsAt_ln (i := i) (w := 1) (by omega) (by omega)) eh124
  have hk126 : K1 (102 + 8 * i + 2 * 1) h101 h123 := K1_up eh124
  have w127 : WD h123 (102 + 8 * i + 2 * 1) (fun z => (fun z => (A 1) z) z &&& (B 1) z) := WD_up eh124 rfl rfl rfl rfl
  have f128 : h123 (100 + 8 * i) = .inr (3, [.ref (101 + 8 * i), .int p, .int t, .int o, .int a, .int b, .int l]) := (hk126 _ (fun z => (nSP_ln (i := i) (by omega)) ⟨_, (wsAt_ln (i := i) (w := 1) (by omega) (by omega)), z⟩)).trans f106
  have f129 : h123 (100 + 8 * j) = .inr (3, [.ref (101 + 8 * j), .int p1, .int t1, .int o1, .int a1, .int b1, .int l1]) := (hk126 _ (fun z => (nSP_ln (i := j) (by omega)) ⟨_, (wsAt_ln (i := i) (w := 1) (by omega) (by omega)), z⟩)).trans f107
  have f130 : h123 (100 + 8 * m) = .inr (3, [.ref (101 + 8 * m), .int p2, .int t2, .int o2, .int a2, .int b2, .int l2]) := (hk126 _ (fun z => (nSP_ln (i := m) (by omega)) ⟨_, (wsAt_ln (i := i) (w := 1) (by omega) (by omega)), z⟩)).trans f108
  have w131 : WD h123 (102 + 8 * j + 2 * 0) (A 0) := WD_1 hk126 (by omega) w109
  have w132 : WD h123 (102 + 8 * j + 2 * 1) (A 1) := WD_1 hk126 (by omega) w110
  have w133 : WD h123 (102 + 8 * j + 2 * 2) (A 2) := WD_1 hk126 (by omega) w111
  have w134 : WD h123 (102 + 8 * m + 2 * 0) (B 0) := WD_1 hk126 (by omega) w112
  have w135 : WD h123 (102 + 8 * m + 2 * 1) (B 1) := WD_1 hk126 (by omega) w113
  have w136 : WD h123 (102 + 8 * m + 2 * 2) (B 2) := WD_1 hk126 (by omega) w114
  have w137 : WD h123 (102 + 8 * i + 2 * 0) (fun z => (fun z => (A 0) z) z &&& (B 0) z) := WD_1 hk126 (by omega) w115
  have hK138 := K3_1 (w := 1) (by decide) hK116 hk126
  refine r_iinc (y := 2) (ls' := [some (.ref (100 + 8 * i)), some (.ref (100 + 8 * j)), some (.ref (100 + 8 * m)), some (.int 0), some (.int 2), some (.ref (102 + 8 * j + 2 * 1)), some (.ref (102 + 8 * m + 2 * 1))]) rfl dX3_sayAsCut_107 rfl (by decide) (Nat.le_of_ble_eq_true rfl) rfl ?_
  refine r_goto (pc' := 3) rfl dX3_sayAsCut_110 ?_
  refine r_iload rfl dX3_sayAsCut_3 rfl ?_
  refine r_iconst (v := 3) rfl dX3_sayAsCut_5 (by decide) ?_
  refine r_icmp_ge (tgt := 113) rfl rfl dX3_sayAsCut_6 (fun zc => absurd zc (by decide)) (fun _ => ?_)
  refine r_aload_n rfl dX3_sayAsCut_9 rfl ?_
  refine r_getv 0 rfl dX3_sayAsCut_10 (show 2 ≤ 100 + 8 * j ∧ 100 + 8 * j < 434 by omega) f129 fl_X3_11 rfl ?_
  refine r_iload rfl dX3_sayAsCut_13 rfl ?_
  refine r_aald (jn := 2) (v := .ref (102 + 8 * j + 2 * 2)) rfl dX3_sayAsCut_15 (show 2 ≤ 101 + 8 * j ∧ 101 + 8 * j < 434 by omega).1 (show 2 ≤ 101 + 8 * j ∧ 101 + 8 * j < 434 by omega).2 (hS125.say (i := j) (by omega)) (by decide) (vp_in_nI (n := 2) (by omega) (by decide)) (nI_clamp (n := 2) (by omega)) (by show va_rf (if _ < _ then _ else _) = _; rw [if_pos (show 2 < 3 by omega)]; rfl) ?_
  refine r_astore (ls' := [some (.ref (100 + 8 * i)), some (.ref (100 + 8 * j)), some (.ref (100 + 8 * m)), some (.int 0), some (.int 2), some (.ref (102 + 8 * j + 2 * 2)), some (.ref (102 + 8 * m + 2 * 1))]) rfl dX3_sayAsCut_16 (Nat.le_of_ble_eq_true rfl) rfl ?_
  refine r_aload_n rfl dX3_sayAsCut_18 rfl ?_
  refine r_getv 0 rfl dX3_sayAsCut_19 (show 2 ≤ 100 + 8 * m ∧ 100 + 8 * m < 434 by omega) f130 fl_X3_11 rfl ?_
  refine r_iload rfl dX3_sayAsCut_22 rfl ?_
  refine r_aald (jn := 2) (v := .ref (102 + 8 * m + 2 * 2)) rfl dX3_sayAsCut_24 (show 2 ≤ 101 + 8 * m ∧ 101 + 8 * m < 434 by omega).1 (show 2 ≤ 101 + 8 * m ∧ 101 + 8 * m < 434 by omega).2 (hS125.say (i := m) (by omega)) (by decide) (vp_in_nI (n := 2) (by omega) (by decide)) (nI_clamp (n := 2) (by omega)) (by show va_rf (if _ < _ then _ else _) = _; rw [if_pos (show 2 < 3 by omega)]; rfl) ?_
  refine r_astore (ls' := [some (.ref (100 + 8 * i)), some (.ref (100 + 8 * j)), some (.ref (100 + 8 * m)), some (.int 0), some (.int 2), some (.ref (102 + 8 * j + 2 * 2)), some (.ref (102 + 8 * m + 2 * 2))]) rfl dX3_sayAsCut_25 (Nat.le_of_ble_eq_true rfl) rfl ?_
  refine r_iload rfl dX3_sayAsCut_27 rfl ?_
  refine r_iconst (v := 2) rfl dX3_sayAsCut_29 (by decide) ?_
  refine r_icmp_ne (tgt := 59) rfl rfl dX3_sayAsCut_30 (fun zc => absurd zc (by decide)) (fun _ => ?_)
  refine r_iload_n rfl dX3_sayAsCut_33 rfl ?_
  refine r_iconst (v := 3) rfl dX3_sayAsCut_34 (by decide) ?_
  refine r_icmp_ne (tgt := 59) rfl rfl dX3_sayAsCut_35 (fun _ => ?_) (fun zc => absurd zc (by decide))
  refine r_aload_n rfl dX3_sayAsCut_59 rfl ?_
  refine r_getv 0 rfl dX3_sayAsCut_60 (show 2 ≤ 100 + 8 * i ∧ 100 + 8 * i < 434 by omega) f128 fl_X3_11 rfl ?_
  refine r_iload rfl dX3_sayAsCut_63 rfl ?_
  refine r_aald (jn := 2) (v := .ref (102 + 8 * i + 2 * 2)) rfl dX3_sayAsCut_65 (show 2 ≤ 101 + 8 * i ∧ 101 + 8 * i < 434 by omega).1 (show 2 ≤ 101 + 8 * i ∧ 101 + 8 * i < 434 by omega).2 (hS125.say (i := i) (by omega)) (by decide) (vp_in_nI (n := 2) (by omega) (by decide)) (nI_clamp (n := 2) (by omega)) (by show va_rf (if _ < _ then _ else _) = _; rw [if_pos (show 2 < 3 by omega)]; rfl) ?_
  refine r_aload rfl dX3_sayAsCut_66 rfl ?_
  obtain ⟨g139, hw140⟩ := hS125.ws (wsAt_ln (i := i) (w := 2) (by omega) (by omega))
  obtain ⟨t141, hw142⟩ := w133.is hS125 (wsAt_ln (i := j) (w := 2) (by omega) (by omega))
  refine cl_X3_64 rfl rfl dX3_sayAsCut_68 (show _ ∧ _ from ⟨((wsAt_ln (i := i) (w := 2) (by omega) (by omega))).2.2.1, Nat.lt_of_succ_lt ((wsAt_ln (i := i) (w := 2) (by omega) (by omega))).2.2.2⟩).1 (show _ ∧ _ from ⟨((wsAt_ln (i := i) (w := 2) (by omega) (by omega))).2.2.1, Nat.lt_of_succ_lt ((wsAt_ln (i := i) (w := 2) (by omega) (by omega))).2.2.2⟩).2 hw140.2.2.1 (Nat.le_of_ble_eq_true rfl) (s_X10_become hw140 hw142 (by omega)) ?_
  rintro _ h143 _ ⟨rfl, eh144, rfl⟩
  have hS145 := SH_p hS125 (wsAt_ln (i := i) (w := 2) (by omega) (by omega)) eh144
  have hk146 : K1 (102 + 8 * i + 2 * 2) h123 h143 := K1_up eh144
  have w147 : WD h143 (102 + 8 * i + 2 * 2) (fun z => (A 2) z) := WD_up eh144 rfl rfl rfl rfl
  have f148 : h143 (100 + 8 * i) = .inr (3, [.ref (101 + 8 * i), .int p, .int t, .int o, .int a, .int b, .int l]) := (hk146 _ (fun z => (nSP_ln (i := i) (by omega)) ⟨_, (wsAt_ln (i := i) (w := 2) (by omega) (by omega)), z⟩)).trans f128
  have f149 : h143 (100 + 8 * j) = .inr (3, [.ref (101 + 8 * j), .int p1, .int t1, .int o1, .int a1, .int b1, .int l1]) := (hk146 _ (fun z => (nSP_ln (i := j) (by omega)) ⟨_, (wsAt_ln (i := i) (w := 2) (by omega) (by omega)), z⟩)).trans f129
  have f150 : h143 (100 + 8 * m) = .inr (3, [.ref (101 + 8 * m), .int p2, .int t2, .int o2, .int a2, .int b2, .int l2]) := (hk146 _ (fun z => (nSP_ln (i := m) (by omega)) ⟨_, (wsAt_ln (i := i) (w := 2) (by omega) (by omega)), z⟩)).trans f130
  have w151 : WD h143 (102 + 8 * j + 2 * 0) (A 0) := WD_1 hk146 (by omega) w131
  have w152 : WD h143 (102 + 8 * j + 2 * 1) (A 1) := WD_1 hk146 (by omega) w132
  have w153 : WD h143 (102 + 8 * j + 2 * 2) (A 2) := WD_1 hk146 (by omega) w133
  have w154 : WD h143 (102 + 8 * m + 2 * 0) (B 0) := WD_1 hk146 (by omega) w134
  have w155 : WD h143 (102 + 8 * m + 2 * 1) (B 1) := WD_1 hk146 (by omega) w135
  have w156 : WD h143 (102 + 8 * m + 2 * 2) (B 2) := WD_1 hk146 (by omega) w136
  have w157 : WD h143 (102 + 8 * i + 2 * 0) (fun z => (fun z => (A 0) z) z &&& (B 0) z) := WD_1 hk146 (by omega) w137
  have w158 : WD h143 (102 + 8 * i + 2 * 1) (fun z => (fun z => (A 1) z) z &&& (B 1) z) := WD_1 hk146 (by omega) w127
  have hK159 := K3_1 (w := 2) (by decide) hK138 hk146
  refine r_iload rfl dX3_sayAsCut_71 rfl ?_
  refine r_iload_n rfl dX3_sayAsCut_73 rfl ?_
  refine cl_X3_68 rfl rfl dX3_sayAsCut_74 (Nat.le_of_ble_eq_true rfl) s_X3_joinsv ?_
  rintro _ h160 _ ⟨rfl, e161, rfl⟩
  replace e161 := e161.symm
  subst e161
  refine r_eqi (y := 0) (by decide) ?_
  refine r_if_eq (tgt := 95) rfl rfl dX3_sayAsCut_77 (fun _ => ?_) (fun zc => absurd zc (by decide))
  refine r_aload_n rfl dX3_sayAsCut_95 rfl ?_
  refine r_getv 0 rfl dX3_sayAsCut_96 (show 2 ≤ 100 + 8 * i ∧ 100 + 8 * i < 434 by omega) f148 fl_X3_11 rfl ?_
  refine r_iload rfl dX3_sayAsCut_99 rfl ?_
  refine r_aald (jn := 2) (v := .ref (102 + 8 * i + 2 * 2)) rfl dX3_sayAsCut_101 (show 2 ≤ 101 + 8 * i ∧ 101 + 8 * i < 434 by omega).1 (show 2 ≤ 101 + 8 * i ∧ 101 + 8 * i < 434 by omega).2 (hS145.say (i := i) (by omega)) (by decide) (vp_in_nI (n := 2) (by omega) (by decide)) (nI_clamp (n := 2) (by omega)) (by show va_rf (if _ < _ then _ else _) = _; rw [if_pos (show 2 < 3 by omega)]; rfl) ?_
  refine r_aload rfl dX3_sayAsCut_102 rfl ?_
  obtain ⟨t162, hw163⟩ := w147.is hS145 (wsAt_ln (i := i) (w := 2) (by omega) (by omega))
  obtain ⟨t164, hw165⟩ := w156.is hS145 (wsAt_ln (i := m) (w := 2) (by omega) (by omega))
  refine cl_X3_75 rfl rfl dX3_sayAsCut_104 (show _ ∧ _ from ⟨((wsAt_ln (i := i) (w := 2) (by omega) (by omega))).2.2.1, Nat.lt_of_succ_lt ((wsAt_ln (i := i) (w := 2) (by omega) (by omega))).2.2.2⟩).1 (show _ ∧ _ from ⟨((wsAt_ln (i := i) (w := 2) (by omega) (by omega))).2.2.1, Nat.lt_of_succ_lt ((wsAt_ln (i := i) (w := 2) (by omega) (by omega))).2.2.2⟩).2 hw163.2.2.1 (Nat.le_of_ble_eq_true rfl) (s_X10_meet hw163 hw165 (by omega)) ?_
  rintro _ h166 _ ⟨rfl, eh167, rfl⟩
  have hS168 := SH_p hS145 (wsAt_ln (i := i) (w := 2) (by omega) (by omega)) eh167
  have hk169 : K1 (102 + 8 * i + 2 * 2) h143 h166 := K1_up eh167
  have w170 : WD h166 (102 + 8 * i + 2 * 2) (fun z => (fun z => (A 2) z) z &&& (B 2) z) := WD_up eh167 rfl rfl rfl rfl
  have f171 : h166 (100 + 8 * i) = .inr (3, [.ref (101 + 8 * i), .int p, .int t, .int o, .int a, .int b, .int l]) := (hk169 _ (fun z => (nSP_ln (i := i) (by omega)) ⟨_, (wsAt_ln (i := i) (w := 2) (by omega) (by omega)), z⟩)).trans f148
  have f172 : h166 (100 + 8 * j) = .inr (3, [.ref (101 + 8 * j), .int p1, .int t1, .int o1, .int a1, .int b1, .int l1]) := (hk169 _ (fun z => (nSP_ln (i := j) (by omega)) ⟨_, (wsAt_ln (i := i) (w := 2) (by omega) (by omega)), z⟩)).trans f149
  have f173 : h166 (100 + 8 * m) = .inr (3, [.ref (101 + 8 * m), .int p2, .int t2, .int o2, .int a2, .int b2, .int l2]) := (hk169 _ (fun z => (nSP_ln (i := m) (by omega)) ⟨_, (wsAt_ln (i := i) (w := 2) (by omega) (by omega)), z⟩)).trans f150
  have w174 : WD h166 (102 + 8 * j + 2 * 0) (A 0) := WD_1 hk169 (by omega) w151
  have w175 : WD h166 (102 + 8 * j + 2 * 1) (A 1) := WD_1 hk169 (by omega) w152
  have w176 : WD h166 (102 + 8 * j + 2 * 2) (A 2) := WD_1 hk169 (by omega) w153
  have w177 : WD h166 (102 + 8 * m + 2 * 0) (B 0) := WD_1 hk169 (by omega) w154
  have w178 : WD h166 (102 + 8 * m + 2 * 1) (B 1) := WD_1 hk169 (by omega) w155
  have w179 : WD h166 (102 + 8 * m + 2 * 2) (B 2) := WD_1 hk169 (by omega) w156
  have w180 : WD h166 (102 + 8 * i + 2 * 0) (fun z => (fun z => (A 0) z) z &&& (B 0) z) := WD_1 hk169 (by omega) w157
  have w181 : WD h166 (102 + 8 * i + 2 * 1) (fun z => (fun z => (A 1) z) z &&& (B 1) z) := WD_1 hk169 (by omega) w158
  have hK182 := K3_1 (w := 2) (by decide) hK159 hk169
  refine r_iinc (y := 3) (ls' := [some (.ref (100 + 8 * i)), some (.ref (100 + 8 * j)), some (.ref (100 + 8 * m)), some (.int 0), some (.int 3), some (.ref (102 + 8 * j + 2 * 2)), some (.ref (102 + 8 * m + 2 * 2))]) rfl dX3_sayAsCut_107 rfl (by decide) (Nat.le_of_ble_eq_true rfl) rfl ?_
  refine r_goto (pc' := 3) rfl dX3_sayAsCut_110 ?_
  refine r_iload rfl dX3_sayAsCut_3 rfl ?_
  refine r_iconst (v := 3) rfl dX3_sayAsCut_5 (by decide) ?_
  refine r_icmp_ge (tgt := 113) rfl rfl dX3_sayAsCut_6 (fun _ => ?_) (fun zc => absurd zc (by decide))
  exact r_ret dX3_sayAsCut_113 (rt_v rfl) ⟨rfl, hS168, hK182, W3 (WD_cg (fun z _ => by rw [cuV, if_neg (by decide), if_neg (by decide)]) w180) (WD_cg (fun z _ => by rw [cuV, if_neg (by decide), if_neg (by decide)]) w181) (WD_cg (fun z _ => by rw [cuV, if_neg (by decide), if_neg (by decide)]) w170), rfl⟩
set_option maxRecDepth 20000 in
set_option maxHeartbeats 1000000 in
theorem v_sayAsCut1 {xs : Nat → Int32} {L d : Nat} {h : ev_H} {i j m : Nat} {p t o a b l p1 t1 o1 a1 b1 l1 p2 t2 o2 a2 b2 l2 : Int32} {A B : Nat → Nat → Int64} (hS : SH h) (hi : i < 40) (fl : h (100 + 8 * i) = cLn i p t o a b l) (hj : j < 40) (hm : m < 40) (fj : h (100 + 8 * j) = cLn j p1 t1 o1 a1 b1 l1) (fm : h (100 + 8 * m) = cLn m p2 t2 o2 a2 b2 l2) (hij : i ≠ j) (him : i ≠ m) (hji : j < i) (hmi : m < i) (hA : ∀ w, w < 3 → WD h (102 + 8 * j + 2 * w) (A w)) (hB : ∀ w, w < 3 → WD h (102 + 8 * m + 2 * w) (B w)) : EV xs L (d + 2) 0 0 M_X3_sayAsCut 434 h 0 [some (.ref (100 + 8 * i)), some (.ref (100 + 8 * j)), some (.ref (100 + 8 * m)), some (.int 1), none, none, none] [] (fun sz' h' r => sz' = 434 ∧ SH h' ∧ K3 i h h' ∧ (∀ w, w < 3 → WD h' (102 + 8 * i + 2 * w) (cuV 1 l w (A w) (B w))) ∧ r = []) := by
  have w51 : WD h (102 + 8 * j + 2 * 0) (A 0) := hA 0 (by decide)
  have w52 : WD h (102 + 8 * j + 2 * 1) (A 1) := hA 1 (by decide)
  have w53 : WD h (102 + 8 * j + 2 * 2) (A 2) := hA 2 (by decide)
  have w54 : WD h (102 + 8 * m + 2 * 0) (B 0) := hB 0 (by decide)
  have w55 : WD h (102 + 8 * m + 2 * 1) (B 1) := hB 1 (by decide)
  have w56 : WD h (102 + 8 * m + 2 * 2) (B 2) := hB 2 (by decide)
  refine r_iconst (v := 0) rfl dX3_sayAsCut_0 (by decide) ?_
  refine r_istore (ls' := [some (.ref (100 + 8 * i)), some (.ref (100 + 8 * j)), some (.ref (100 + 8 * m)), some (.int 1), some (.int 0), none, none]) rfl dX3_sayAsCut_1 (Nat.le_of_ble_eq_true rfl) rfl ?_
  refine r_iload rfl dX3_sayAsCut_3 rfl ?_
  refine r_iconst (v := 3) rfl dX3_sayAsCut_5 (by decide) ?_
  refine r_icmp_ge (tgt := 113) rfl rfl dX3_sayAsCut_6 (fun zc => absurd zc (by decide)) (fun _ => ?_)
  refine r_aload_n rfl dX3_sayAsCut_9 rfl ?_
  refine r_getv 0 rfl dX3_sayAsCut_10 (show 2 ≤ 100 + 8 * j ∧ 100 + 8 * j < 434 by omega) fj fl_X3_11 rfl ?_
  refine r_iload rfl dX3_sayAsCut_13 rfl ?_
  refine r_aald (jn := 0) (v := .ref (102 + 8 * j + 2 * 0)) rfl dX3_sayAsCut_15 (show 2 ≤ 101 + 8 * j ∧ 101 + 8 * j < 434 by omega).1 (show 2 ≤ 101 + 8 * j ∧ 101 + 8 * j < 434 by omega).2 (hS.say (i := j) (by omega)) (by decide) (vp_in_nI (n := 0) (by omega) (by decide)) (nI_clamp (n := 0) (by omega)) (by show va_rf (if _ < _ then _ else _) = _; rw [if_pos (show 0 < 3 by omega)]; rfl) ?_
  refine r_astore (ls' := [some (.ref (100 + 8 * i)), some (.ref (100 + 8 * j)), some (.ref (100 + 8 * m)), some (.int 1), some (.int 0), some (.ref (102 + 8 * j + 2 * 0)), none]) rfl dX3_sayAsCut_16 (Nat.le_of_ble_eq_true rfl) rfl ?_
  refine r_aload_n rfl dX3_sayAsCut_18 rfl ?_
  refine r_getv 0 rfl dX3_sayAsCut_19 (show 2 ≤ 100 + 8 * m ∧ 100 + 8 * m < 434 by omega) fm fl_X3_11 rfl ?_
  refine r_iload rfl dX3_sayAsCut_22 rfl ?_
  refine r_aald (jn := 0) (v := .ref (102 + 8 * m + 2 * 0)) rfl dX3_sayAsCut_24 (show 2 ≤ 101 + 8 * m ∧ 101 + 8 * m < 434 by omega).1 (show 2 ≤ 101 + 8 * m ∧ 101 + 8 * m < 434 by omega).2 (hS.say (i := m) (by omega)) (by decide) (vp_in_nI (n := 0) (by omega) (by decide)) (nI_clamp (n := 0) (by omega)) (by show va_rf (if _ < _ then _ else _) = _; rw [if_pos (show 0 < 3 by omega)]; rfl) ?_
  refine r_astore (ls' := [some (.ref (100 + 8 * i)), some (.ref (100 + 8 * j)), some (.ref (100 + 8 * m)), some (.int 1), some (.int 0), some (.ref (102 + 8 * j + 2 * 0)), some (.ref (102 + 8 * m + 2 * 0))]) rfl dX3_sayAsCut_25 (Nat.le_of_ble_eq_true rfl) rfl ?_
  refine r_iload rfl dX3_sayAsCut_27 rfl ?_
  refine r_iconst (v := 2) rfl dX3_sayAsCut_29 (by decide) ?_
  refine r_icmp_ne (tgt := 59) rfl rfl dX3_sayAsCut_30 (fun _ => ?_) (fun zc => absurd zc (by decide))
  refine r_aload_n rfl dX3_sayAsCut_59 rfl ?_
  refine r_getv 0 rfl dX3_sayAsCut_60 (show 2 ≤ 100 + 8 * i ∧ 100 + 8 * i < 434 by omega) fl fl_X3_11 rfl ?_
  refine r_iload rfl dX3_sayAsCut_63 rfl ?_
  refine r_aald (jn := 0) (v := .ref (102 + 8 * i + 2 * 0)) rfl dX3_sayAsCut_65 (show 2 ≤ 101 + 8 * i ∧ 101 + 8 * i < 434 by omega).1 (show 2 ≤ 101 + 8 * i ∧ 101 + 8 * i < 434 by omega).2 (hS.say (i := i) (by omega)) (by decide) (vp_in_nI (n := 0) (by omega) (by decide)) (nI_clamp (n := 0) (by omega)) (by show va_rf (if _ < _ then _ else _) = _; rw [if_pos (show 0 < 3 by omega)]; rfl) ?_
  refine r_aload rfl dX3_sayAsCut_66 rfl ?_
  obtain ⟨g57, hw58⟩ := hS.ws (wsAt_ln (i := i) (w := 0) (by omega) (by omega))
  obtain ⟨t59, hw60⟩ := w51.is hS (wsAt_ln (i := j) (w := 0) (by omega) (by omega))
  refine cl_X3_64 rfl rfl dX3_sayAsCut_68 (show _ ∧ _ from ⟨((wsAt_ln (i := i) (w := 0) (by omega) (by omega))).2.2.1, Nat.lt_of_succ_lt ((wsAt_ln (i := i) (w := 0) (by omega) (by omega))).2.2.2⟩).1 (show _ ∧ _ from ⟨((wsAt_ln (i := i) (w := 0) (by omega) (by omega))).2.2.1, Nat.lt_of_succ_lt ((wsAt_ln (i := i) (w := 0) (by omega) (by omega))).2.2.2⟩).2 hw58.2.2.1 (Nat.le_of_ble_eq_true rfl) (s_X10_become hw58 hw60 (by omega)) ?_
  rintro _ h61 _ ⟨rfl, eh62, rfl⟩
  have hS63 := SH_p hS (wsAt_ln (i := i) (w := 0) (by omega) (by omega)) eh62
  have hk64 : K1 (102 + 8 * i + 2 * 0) h h61 := K1_up eh62
  have w65 : WD h61 (102 + 8 * i + 2 * 0) (fun z => (A 0) z) := WD_up eh62 rfl rfl rfl rfl
  have f66 : h61 (100 + 8 * i) = .inr (3, [.ref (101 + 8 * i), .int p, .int t, .int o, .int a, .int b, .int l]) := (hk64 _ (fun z => (nSP_ln (i := i) (by omega)) ⟨_, (wsAt_ln (i := i) (w := 0) (by omega) (by omega)), z⟩)).trans fl
  have f67 : h61 (100 + 8 * j) = .inr (3, [.ref (101 + 8 * j), .int p1, .int t1, .int o1, .int a1, .int b1, .int l1]) := (hk64 _ (fun z => (nSP_ln (i := j) (by omega)) ⟨_, (wsAt_ln (i := i) (w := 0) (by omega) (by omega)), z⟩)).trans fj
  have f68 : h61 (100 + 8 * m) = .inr (3, [.ref (101 + 8 * m), .int p2, .int t2, .int o2, .int a2, .int b2, .int l2]) := (hk64 _ (fun z => (nSP_ln (i := m) (by omega)) ⟨_, (wsAt_ln (i := i) (w := 0) (by omega) (by omega)), z⟩)).trans fm
  have w69 : WD h61 (102 + 8 * j + 2 * 0) (A 0) := WD_1 hk64 (by omega) w51
  have w70 : WD h61 (102 + 8 * j + 2 * 1) (A 1) := WD_1 hk64 (by omega) w52
  have w71 : WD h61 (102 + 8 * j + 2 * 2) (A 2) := WD_1 hk64 (by omega) w53
  have w72 : WD h61 (102 + 8 * m + 2 * 0) (B 0) := WD_1 hk64 (by omega) w54
  have w73 : WD h61 (102 + 8 * m + 2 * 1) (B 1) := WD_1 hk64 (by omega) w55
  have w74 : WD h61 (102 + 8 * m + 2 * 2) (B 2) := WD_1 hk64 (by omega) w56
  have hK75 := K3_1 (w := 0) (by decide) (K3_rf i h) hk64
  refine r_iload rfl dX3_sayAsCut_71 rfl ?_
  refine r_iload_n rfl dX3_sayAsCut_73 rfl ?_
  refine cl_X3_68 rfl rfl dX3_sayAsCut_74 (Nat.le_of_ble_eq_true rfl) s_X3_joinsv ?_
  rintro _ h76 _ ⟨rfl, e77, rfl⟩
  replace e77 := e77.symm
  subst e77
  refine r_eqi (y := 1) (by decide) ?_
  refine r_if_eq (tgt := 95) rfl rfl dX3_sayAsCut_77 (fun zc => absurd zc (by decide)) (fun _ => ?_)
  refine r_aload_n rfl dX3_sayAsCut_80 rfl ?_
  refine r_getv 0 rfl dX3_sayAsCut_81 (show 2 ≤ 100 + 8 * i ∧ 100 + 8 * i < 434 by omega) f66 fl_X3_11 rfl ?_
  refine r_iload rfl dX3_sayAsCut_84 rfl ?_
  refine r_aald (jn := 0) (v := .ref (102 + 8 * i + 2 * 0)) rfl dX3_sayAsCut_86 (show 2 ≤ 101 + 8 * i ∧ 101 + 8 * i < 434 by omega).1 (show 2 ≤ 101 + 8 * i ∧ 101 + 8 * i < 434 by omega).2 (hS63.say (i := i) (by omega)) (by decide) (vp_in_nI (n := 0) (by omega) (by decide)) (nI_clamp (n := 0) (by omega)) (by show va_rf (if _ < _ then _ else _) = _; rw [if_pos (show 0 < 3 by omega)]; rfl) ?_
  refine r_aload rfl dX3_sayAsCut_87 rfl ?_
  obtain ⟨t78, hw79⟩ := w65.is hS63 (wsAt_ln (i := i) (w := 0) (by omega) (by omega))
  obtain ⟨t80, hw81⟩ := w72.is hS63 (wsAt_ln (i := m) (w := 0) (by omega) (by omega))
  refine cl_X3_72 rfl rfl dX3_sayAsCut_89 (show _ ∧ _ from ⟨((wsAt_ln (i := i) (w := 0) (by omega) (by omega))).2.2.1, Nat.lt_of_succ_lt ((wsAt_ln (i := i) (w := 0) (by omega) (by omega))).2.2.2⟩).1 (show _ ∧ _ from ⟨((wsAt_ln (i := i) (w := 0) (by omega) (by omega))).2.2.1, Nat.lt_of_succ_lt ((wsAt_ln (i := i) (w := 0) (by omega) (by omega))).2.2.2⟩).2 hw79.2.2.1 (Nat.le_of_ble_eq_true rfl) (s_X10_join hw79 hw81 (by omega)) ?_
  rintro _ h82 _ ⟨rfl, eh83, rfl⟩
  have hS84 := SH_p hS63 (wsAt_ln (i := i) (w := 0) (by omega) (by omega)) eh83
  have hk85 : K1 (102 + 8 * i + 2 * 0) h61 h82 := K1_up eh83
  have w86 : WD h82 (102 + 8 * i + 2 * 0) (fun z => (fun z => (A 0) z) z ||| (B 0) z) := WD_up eh83 rfl rfl rfl rfl
  have f87 : h82 (100 + 8 * i) = .inr (3, [.ref (101 + 8 * i), .int p, .int t, .int o, .int a, .int b, .int l]) := (hk85 _ (fun z => (nSP_ln (i := i) (by omega)) ⟨_, (wsAt_ln (i := i) (w := 0) (by omega) (by omega)), z⟩)).trans f66
  have f88 : h82 (100 + 8 * j) = .inr (3, [.ref (101 + 8 * j), .int p1, .int t1, .int o1, .int a1, .int b1, .int l1]) := (hk85 _ (fun z => (nSP_ln (i := j) (by omega)) ⟨_, (wsAt_ln (i := i) (w := 0) (by omega) (by omega)), z⟩)).trans f67
  have f89 : h82 (100 + 8 * m) = .inr (3, [.ref (101 + 8 * m), .int p2, .int t2, .int o2, .int a2, .int b2, .int l2]) := (hk85 _ (fun z => (nSP_ln (i := m) (by omega)) ⟨_, (wsAt_ln (i := i) (w := 0) (by omega) (by omega)), z⟩)).trans f68
  have w90 : WD h82 (102 + 8 * j + 2 * 0) (A 0) := WD_1 hk85 (by omega) w69
  have w91 : WD h82 (102 + 8 * j + 2 * 1) (A 1) := WD_1 hk85 (by omega) w70
  have w92 : WD h82 (102 + 8 * j + 2 * 2) (A 2) := WD_1 hk85 (by omega) w71
  have w93 : WD h82 (102 + 8 * m + 2 * 0) (B 0) := WD_1 hk85 (by omega) w72
  have w94 : WD h82 (102 + 8 * m + 2 * 1) (B 1) := WD_1 hk85 (by omega) w73
  have w95 : WD h82 (102 + 8 * m + 2 * 2) (B 2) := WD_1 hk85 (by omega) w74
  have hK96 := K3_1 (w := 0) (by decide) hK75 hk85
  refine r_goto (pc' := 107) rfl dX3_sayAsCut_92 ?_
  refine r_iinc (y := 1) (ls' := [some (.ref (100 + 8 * i)), some (.ref (100 + 8 * j)), some (.ref (100 + 8 * m)), some (.int 1), some (.int 1), some (.ref (102 + 8 * j + 2 * 0)), some (.ref (102 + 8 * m + 2 * 0))]) rfl dX3_sayAsCut_107 rfl (by decide) (Nat.le_of_ble_eq_true rfl) rfl ?_
  refine r_goto (pc' := 3) rfl dX3_sayAsCut_110 ?_
  refine r_iload rfl dX3_sayAsCut_3 rfl ?_
  refine r_iconst (v := 3) rfl dX3_sayAsCut_5 (by decide) ?_
  refine r_icmp_ge (tgt := 113) rfl rfl dX3_sayAsCut_6 (fun zc => absurd zc (by decide)) (fun _ => ?_)
  refine r_aload_n rfl dX3_sayAsCut_9 rfl ?_
  refine r_getv 0 rfl dX3_sayAsCut_10 (show 2 ≤ 100 + 8 * j ∧ 100 + 8 * j < 434 by omega) f88 fl_X3_11 rfl ?_
  refine r_iload rfl dX3_sayAsCut_13 rfl ?_
  refine r_aald (jn := 1) (v := .ref (102 + 8 * j + 2 * 1)) rfl dX3_sayAsCut_15 (show 2 ≤ 101 + 8 * j ∧ 101 + 8 * j < 434 by omega).1 (show 2 ≤ 101 + 8 * j ∧ 101 + 8 * j < 434 by omega).2 (hS84.say (i := j) (by omega)) (by decide) (vp_in_nI (n := 1) (by omega) (by decide)) (nI_clamp (n := 1) (by omega)) (by show va_rf (if _ < _ then _ else _) = _; rw [if_pos (show 1 < 3 by omega)]; rfl) ?_
  refine r_astore (ls' := [some (.ref (100 + 8 * i)), some (.ref (100 + 8 * j)), some (.ref (100 + 8 * m)), some (.int 1), some (.int 1), some (.ref (102 + 8 * j + 2 * 1)), some (.ref (102 + 8 * m + 2 * 0))]) rfl dX3_sayAsCut_16 (Nat.le_of_ble_eq_true rfl) rfl ?_
  refine r_aload_n rfl dX3_sayAsCut_18 rfl ?_
  refine r_getv 0 rfl dX3_sayAsCut_19 (show 2 ≤ 100 + 8 * m ∧ 100 + 8 * m < 434 by omega) f89 fl_X3_11 rfl ?_
  refine r_iload rfl dX3_sayAsCut_22 rfl ?_
  refine r_aald (jn := 1) (v := .ref (102 + 8 * m + 2 * 1)) rfl dX3_sayAsCut_24 (show 2 ≤ 101 + 8 * m ∧ 101 + 8 * m < 434 by omega).1 (show 2 ≤ 101 + 8 * m ∧ 101 + 8 * m < 434 by omega).2 (hS84.say (i := m) (by omega)) (by decide) (vp_in_nI (n := 1) (by omega) (by decide)) (nI_clamp (n := 1) (by omega)) (by show va_rf (if _ < _ then _ else _) = _; rw [if_pos (show 1 < 3 by omega)]; rfl) ?_
  refine r_astore (ls' := [some (.ref (100 + 8 * i)), some (.ref (100 + 8 * j)), some (.ref (100 + 8 * m)), some (.int 1), some (.int 1), some (.ref (102 + 8 * j + 2 * 1)), some (.ref (102 + 8 * m + 2 * 1))]) rfl dX3_sayAsCut_25 (Nat.le_of_ble_eq_true rfl) rfl ?_
  refine r_iload rfl dX3_sayAsCut_27 rfl ?_
  refine r_iconst (v := 2) rfl dX3_sayAsCut_29 (by decide) ?_
  refine r_icmp_ne (tgt := 59) rfl rfl dX3_sayAsCut_30 (fun _ => ?_) (fun zc => absurd zc (by decide))
  refine r_aload_n rfl dX3_sayAsCut_59 rfl ?_
  refine r_getv 0 rfl dX3_sayAsCut_60 (show 2 ≤ 100 + 8 * i ∧ 100 + 8 * i < 434 by omega) f87 fl_X3_11 rfl ?_
  refine r_iload rfl dX3_sayAsCut_63 rfl ?_
  refine r_aald (jn := 1) (v := .ref (102 + 8 * i + 2 * 1)) rfl dX3_sayAsCut_65 (show 2 ≤ 101 + 8 * i ∧ 101 + 8 * i < 434 by omega).1 (show 2 ≤ 101 + 8 * i ∧ 101 + 8 * i < 434 by omega).2 (hS84.say (i := i) (by omega)) (by decide) (vp_in_nI (n := 1) (by omega) (by decide)) (nI_clamp (n := 1) (by omega)) (by show va_rf (if _ < _ then _ else _) = _; rw [if_pos (show 1 < 3 by omega)]; rfl) ?_
  refine r_aload rfl dX3_sayAsCut_66 rfl ?_
  obtain ⟨g97, hw98⟩ := hS84.ws (wsAt_ln (i := i) (w := 1) (by omega) (by omega))
  obtain ⟨t99, hw100⟩ := w91.is hS84 (wsAt_ln (i := j) (w := 1) (by omega) (by omega))
  refine cl_X3_64 rfl rfl dX3_sayAsCut_68 (show _ ∧ _ from ⟨((wsAt_ln (i := i) (w := 1) (by omega) (by omega))).2.2.1, Nat.lt_of_succ_lt ((wsAt_ln (i := i) (w := 1) (by omega) (by omega))).2.2.2⟩).1 (show _ ∧ _ from ⟨((wsAt_ln (i := i) (w := 1) (by omega) (by omega))).2.2.1, Nat.lt_of_succ_lt ((wsAt_ln (i := i) (w := 1) (by omega) (by omega))).2.2.2⟩).2 hw98.2.2.1 (Nat.le_of_ble_eq_true rfl) (s_X10_become hw98 hw100 (by omega)) ?_
  rintro _ h101 _ ⟨rfl, eh102, rfl⟩
  have hS103 := SH_p hS84 (wsAt_ln (i := i) (w := 1) (by omega) (by omega)) eh102
  have hk104 : K1 (102 + 8 * i + 2 * 1) h82 h101 := K1_up eh102
  have w105 : WD h101 (102 + 8 * i + 2 * 1) (fun z => (A 1) z) := WD_up eh102 rfl rfl rfl rfl
  have f106 : h101 (100 + 8 * i) = .inr (3, [.ref (101 + 8 * i), .int p, .int t, .int o, .int a, .int b, .int l]) := (hk104 _ (fun z => (nSP_ln (i := i) (by omega)) ⟨_, (wsAt_ln (i := i) (w := 1) (by omega) (by omega)), z⟩)).trans f87
  have f107 : h101 (100 + 8 * j) = .inr (3, [.ref (101 + 8 * j), .int p1, .int t1, .int o1, .int a1, .int b1, .int l1]) := (hk104 _ (fun z => (nSP_ln (i := j) (by omega)) ⟨_, (wsAt_ln (i := i) (w := 1) (by omega) (by omega)), z⟩)).trans f88
  have f108 : h101 (100 + 8 * m) = .inr (3, [.ref (101 + 8 * m), .int p2, .int t2, .int o2, .int a2, .int b2, .int l2]) := (hk104 _ (fun z => (nSP_ln (i := m) (by omega)) ⟨_, (wsAt_ln (i := i) (w := 1) (by omega) (by omega)), z⟩)).trans f89
  have w109 : WD h101 (102 + 8 * j + 2 * 0) (A 0) := WD_1 hk104 (by omega) w90
  have w110 : WD h101 (102 + 8 * j + 2 * 1) (A 1) := WD_1 hk104 (by omega) w91
  have w111 : WD h101 (102 + 8 * j + 2 * 2) (A 2) := WD_1 hk104 (by omega) w92
  have w112 : WD h101 (102 + 8 * m + 2 * 0) (B 0) := WD_1 hk104 (by omega) w93
  have w113 : WD h101 (102 + 8 * m + 2 * 1) (B 1) := WD_1 hk104 (by omega) w94
  have w114 : WD h101 (102 + 8 * m + 2 * 2) (B 2) := WD_1 hk104 (by omega) w95
  have w115 : WD h101 (102 + 8 * i + 2 * 0) (fun z => (fun z => (A 0) z) z ||| (B 0) z) := WD_1 hk104 (by omega) w86
  have hK116 := K3_1 (w := 1) (by decide) hK96 hk104
  refine r_iload rfl dX3_sayAsCut_71 rfl ?_
  refine r_iload_n rfl dX3_sayAsCut_73 rfl ?_
  refine cl_X3_68 rfl rfl dX3_sayAsCut_74 (Nat.le_of_ble_eq_true rfl) s_X3_joinsv ?_
  rintro _ h117 _ ⟨rfl, e118, rfl⟩
  replace e118 := e118.symm
  subst e118
  refine r_eqi (y := 1) (by decide) ?_
  refine r_if_eq (tgt := 95) rfl rfl dX3_sayAsCut_77 (fun zc => absurd zc (by decide)) (fun _ => ?_)
  refine r_aload_n rfl dX3_sayAsCut_80 rfl ?_
  refine r_getv 0 rfl dX3_sayAsCut_81 (show 2 ≤ 100 + 8 * i ∧ 100 + 8 * i < 434 by omega) f106 fl_X3_11 rfl ?_
  refine r_iload rfl dX3_sayAsCut_84 rfl ?_
  refine r_aald (jn := 1) (v := .ref (102 + 8 * i + 2 * 1)) rfl dX3_sayAsCut_86 (show 2 ≤ 101 + 8 * i ∧ 101 + 8 * i < 434 by omega).1 (show 2 ≤ 101 + 8 * i ∧ 101 + 8 * i < 434 by omega).2 (hS103.say (i := i) (by omega)) (by decide) (vp_in_nI (n := 1) (by omega) (by decide)) (nI_clamp (n := 1) (by omega)) (by show va_rf (if _ < _ then _ else _) = _; rw [if_pos (show 1 < 3 by omega)]; rfl) ?_
  refine r_aload rfl dX3_sayAsCut_87 rfl ?_
  obtain ⟨t119, hw120⟩ := w105.is hS103 (wsAt_ln (i := i) (w := 1) (by omega) (by omega))
  obtain ⟨t121, hw122⟩ := w113.is hS103 (wsAt_ln (i := m) (w := 1) (by omega) (by omega))
  refine cl_X3_72 rfl rfl dX3_sayAsCut_89 (show _ ∧ _ from ⟨((wsAt_ln (i := i) (w := 1) (by omega) (by omega))).2.2.1, Nat.lt_of_succ_lt ((wsAt_ln (i := i) (w := 1) (by omega) (by omega))).2.2.2⟩).1 (show _ ∧ _ from ⟨((wsAt_ln (i := i) (w := 1) (by omega) (by omega))).2.2.1, Nat.lt_of_succ_lt ((wsAt_ln (i := i) (w := 1) (by omega) (by omega))).2.2.2⟩).2 hw120.2.2.1 (Nat.le_of_ble_eq_true rfl) (s_X10_join hw120 hw122 (by omega)) ?_
  rintro _ h123 _ ⟨rfl, eh124, rfl⟩
  have hS125 := SH_p hS103 (wsAt_ln (i := i) (w := 1) (by omega) (by omega)) eh124
  have hk126 : K1 (102 + 8 * i + 2 * 1) h101 h123 := K1_up eh124
  have w127 : WD h123 (102 + 8 * i + 2 * 1) (fun z => (fun z => (A 1) z) z ||| (B 1) z) := WD_up eh124 rfl rfl rfl rfl
  have f128 : h123 (100 + 8 * i) = .inr (3, [.ref (101 + 8 * i), .int p, .int t, .int o, .int a, .int b, .int l]) := (hk126 _ (fun z => (nSP_ln (i := i) (by omega)) ⟨_, (wsAt_ln (i := i) (w := 1) (by omega) (by omega)), z⟩)).trans f106
  have f129 : h123 (100 + 8 * j) = .inr (3, [.ref (101 + 8 * j), .int p1, .int t1, .int o1, .int a1, .int b1, .int l1]) := (hk126 _ (fun z => (nSP_ln (i := j) (by omega)) ⟨_, (wsAt_ln (i := i) (w := 1) (by omega) (by omega)), z⟩)).trans f107
  have f130 : h123 (100 + 8 * m) = .inr (3, [.ref (101 + 8 * m), .int p2, .int t2, .int o2, .int a2, .int b2, .int l2]) := (hk126 _ (fun z => (nSP_ln (i := m) (by omega)) ⟨_, (wsAt_ln (i := i) (w := 1) (by omega) (by omega)), z⟩)).trans f108
  have w131 : WD h123 (102 + 8 * j + 2 * 0) (A 0) := WD_1 hk126 (by omega) w109
  have w132 : WD h123 (102 + 8 * j + 2 * 1) (A 1) := WD_1 hk126 (by omega) w110
  have w133 : WD h123 (102 + 8 * j + 2 * 2) (A 2) := WD_1 hk126 (by omega) w111
  have w134 : WD h123 (102 + 8 * m + 2 * 0) (B 0) := WD_1 hk126 (by omega) w112
  have w135 : WD h123 (102 + 8 * m + 2 * 1) (B 1) := WD_1 hk126 (by omega) w113
  have w136 : WD h123 (102 + 8 * m + 2 * 2) (B 2) := WD_1 hk126 (by omega) w114
  have w137 : WD h123 (102 + 8 * i + 2 * 0) (fun z => (fun z => (A 0) z) z ||| (B 0) z) := WD_1 hk126 (by omega) w115
  have hK138 := K3_1 (w := 1) (by decide) hK116 hk126
  refine r_goto (pc' := 107) rfl dX3_sayAsCut_92 ?_
  refine r_iinc (y := 2) (ls' := [some (.ref (100 + 8 * i)), some (.ref (100 + 8 * j)), some (.ref (100 + 8 * m)), some (.int 1), some (.int 2), some (.ref (102 + 8 * j + 2 * 1)), some (.ref (102 + 8 * m + 2 * 1))]) rfl dX3_sayAsCut_107 rfl (by decide) (Nat.le_of_ble_eq_true rfl) rfl ?_
  refine r_goto (pc' := 3) rfl dX3_sayAsCut_110 ?_
  refine r_iload rfl dX3_sayAsCut_3 rfl ?_
  refine r_iconst (v := 3) rfl dX3_sayAsCut_5 (by decide) ?_
  refine r_icmp_ge (tgt := 113) rfl rfl dX3_sayAsCut_6 (fun zc => absurd zc (by decide)) (fun _ => ?_)
  refine r_aload_n rfl dX3_sayAsCut_9 rfl ?_
  refine r_getv 0 rfl dX3_sayAsCut_10 (show 2 ≤ 100 + 8 * j ∧ 100 + 8 * j < 434 by omega) f129 fl_X3_11 rfl ?_
  refine r_iload rfl dX3_sayAsCut_13 rfl ?_
  refine r_aald (jn := 2) (v := .ref (102 + 8 * j + 2 * 2)) rfl dX3_sayAsCut_15 (show 2 ≤ 101 + 8 * j ∧ 101 + 8 * j < 434 by omega).1 (show 2 ≤ 101 + 8 * j ∧ 101 + 8 * j < 434 by omega).2 (hS125.say (i := j) (by omega)) (by decide) (vp_in_nI (n := 2) (by omega) (by decide)) (nI_clamp (n := 2) (by omega)) (by show va_rf (if _ < _ then _ else _) = _; rw [if_pos (show 2 < 3 by omega)]; rfl) ?_
  refine r_astore (ls' := [some (.ref (100 + 8 * i)), some (.ref (100 + 8 * j)), some (.ref (100 + 8 * m)), some (.int 1), some (.int 2), some (.ref (102 + 8 * j + 2 * 2)), some (.ref (102 + 8 * m + 2 * 1))]) rfl dX3_sayAsCut_16 (Nat.le_of_ble_eq_true rfl) rfl ?_
  refine r_aload_n rfl dX3_sayAsCut_18 rfl ?_
  refine r_getv 0 rfl dX3_sayAsCut_19 (show 2 ≤ 100 + 8 * m ∧ 100 + 8 * m < 434 by omega) f130 fl_X3_11 rfl ?_
  refine r_iload rfl dX3_sayAsCut_22 rfl ?_
  refine r_aald (jn := 2) (v := .ref (102 + 8 * m + 2 * 2)) rfl dX3_sayAsCut_24 (show 2 ≤ 101 + 8 * m ∧ 101 + 8 * m < 434 by omega).1 (show 2 ≤ 101 + 8 * m ∧ 101 + 8 * m < 434 by omega).2 (hS125.say (i := m) (by omega)) (by decide) (vp_in_nI (n := 2) (by omega) (by decide)) (nI_clamp (n := 2) (by omega)) (by show va_rf (if _ < _ then _ else _) = _; rw [if_pos (show 2 < 3 by omega)]; rfl) ?_
  refine r_astore (ls' := [some (.ref (100 + 8 * i)), some (.ref (100 + 8 * j)), some (.ref (100 + 8 * m)), some (.int 1), some (.int 2), some (.ref (102 + 8 * j + 2 * 2)), some (.ref (102 + 8 * m + 2 * 2))]) rfl dX3_sayAsCut_25 (Nat.le_of_ble_eq_true rfl) rfl ?_
  refine r_iload rfl dX3_sayAsCut_27 rfl ?_
  refine r_iconst (v := 2) rfl dX3_sayAsCut_29 (by decide) ?_
  refine r_icmp_ne (tgt := 59) rfl rfl dX3_sayAsCut_30 (fun zc => absurd zc (by decide)) (fun _ => ?_)
  refine r_iload_n rfl dX3_sayAsCut_33 rfl ?_
  refine r_iconst (v := 3) rfl dX3_sayAsCut_34 (by decide) ?_
  refine r_icmp_ne (tgt := 59) rfl rfl dX3_sayAsCut_35 (fun _ => ?_) (fun zc => absurd zc (by decide))
  refine r_aload_n rfl dX3_sayAsCut_59 rfl ?_
  refine r_getv 0 rfl dX3_sayAsCut_60 (show 2 ≤ 100 + 8 * i ∧ 100 + 8 * i < 434 by omega) f128 fl_X3_11 rfl ?_
  refine r_iload rfl dX3_sayAsCut_63 rfl ?_
  refine r_aald (jn := 2) (v := .ref (102 + 8 * i + 2 * 2)) rfl dX3_sayAsCut_65 (show 2 ≤ 101 + 8 * i ∧ 101 + 8 * i < 434 by omega).1 (show 2 ≤ 101 + 8 * i ∧ 101 + 8 * i < 434 by omega).2 (hS125.say (i := i) (by omega)) (by decide) (vp_in_nI (n := 2) (by omega) (by decide)) (nI_clamp (n := 2) (by omega)) (by show va_rf (if _ < _ then _ else _) = _; rw [if_pos (show 2 < 3 by omega)]; rfl) ?_
  refine r_aload rfl dX3_sayAsCut_66 rfl ?_
  obtain ⟨g139, hw140⟩ := hS125.ws (wsAt_ln (i := i) (w := 2) (by omega) (by omega))
  obtain ⟨t141, hw142⟩ := w133.is hS125 (wsAt_ln (i := j) (w := 2) (by omega) (by omega))
  refine cl_X3_64 rfl rfl dX3_sayAsCut_68 (show _ ∧ _ from ⟨((wsAt_ln (i := i) (w := 2) (by omega) (by omega))).2.2.1, Nat.lt_of_succ_lt ((wsAt_ln (i := i) (w := 2) (by omega) (by omega))).2.2.2⟩).1 (show _ ∧ _ from ⟨((wsAt_ln (i := i) (w := 2) (by omega) (by omega))).2.2.1, Nat.lt_of_succ_lt ((wsAt_ln (i := i) (w := 2) (by omega) (by omega))).2.2.2⟩).2 hw140.2.2.1 (Nat.le_of_ble_eq_true rfl) (s_X10_become hw140 hw142 (by omega)) ?_
  rintro _ h143 _ ⟨rfl, eh144, rfl⟩
  have hS145 := SH_p hS125 (wsAt_ln (i := i) (w := 2) (by omega) (by omega)) eh144
  have hk146 : K1 (102 + 8 * i + 2 * 2) h123 h143 := K1_up eh144
  have w147 : WD h143 (102 + 8 * i + 2 * 2) (fun z => (A 2) z) := WD_up eh144 rfl rfl rfl rfl
  have f148 : h143 (100 + 8 * i) = .inr (3, [.ref (101 + 8 * i), .int p, .int t, .int o, .int a, .int b, .int l]) := (hk146 _ (fun z => (nSP_ln (i := i) (by omega)) ⟨_, (wsAt_ln (i := i) (w := 2) (by omega) (by omega)), z⟩)).trans f128
  have f149 : h143 (100 + 8 * j) = .inr (3, [.ref (101 + 8 * j), .int p1, .int t1, .int o1, .int a1, .int b1, .int l1]) := (hk146 _ (fun z => (nSP_ln (i := j) (by omega)) ⟨_, (wsAt_ln (i := i) (w := 2) (by omega) (by omega)), z⟩)).trans f129
  have f150 : h143 (100 + 8 * m) = .inr (3, [.ref (101 + 8 * m), .int p2, .int t2, .int o2, .int a2, .int b2, .int l2]) := (hk146 _ (fun z => (nSP_ln (i := m) (by omega)) ⟨_, (wsAt_ln (i := i) (w := 2) (by omega) (by omega)), z⟩)).trans f130
  have w151 : WD h143 (102 + 8 * j + 2 * 0) (A 0) := WD_1 hk146 (by omega) w131
  have w152 : WD h143 (102 + 8 * j + 2 * 1) (A 1) := WD_1 hk146 (by omega) w132
  have w153 : WD h143 (102 + 8 * j + 2 * 2) (A 2) := WD_1 hk146 (by omega) w133
  have w154 : WD h143 (102 + 8 * m + 2 * 0) (B 0) := WD_1 hk146 (by omega) w134
  have w155 : WD h143 (102 + 8 * m + 2 * 1) (B 1) := WD_1 hk146 (by omega) w135
  have w156 : WD h143 (102 + 8 * m + 2 * 2) (B 2) := WD_1 hk146 (by omega) w136
  have w157 : WD h143 (102 + 8 * i + 2 * 0) (fun z => (fun z => (A 0) z) z ||| (B 0) z) := WD_1 hk146 (by omega) w137
  have w158 : WD h143 (102 + 8 * i + 2 * 1) (fun z => (fun z => (A 1) z) z ||| (B 1) z) := WD_1 hk146 (by omega) w127
  have hK159 := K3_1 (w := 2) (by decide) hK138 hk146
  refine r_iload rfl dX3_sayAsCut_71 rfl ?_
  refine r_iload_n rfl dX3_sayAsCut_73 rfl ?_
  refine cl_X3_68 rfl rfl dX3_sayAsCut_74 (Nat.le_of_ble_eq_true rfl) s_X3_joinsv ?_
  rintro _ h160 _ ⟨rfl, e161, rfl⟩
  replace e161 := e161.symm
  subst e161
  refine r_eqi (y := 1) (by decide) ?_
  refine r_if_eq (tgt := 95) rfl rfl dX3_sayAsCut_77 (fun zc => absurd zc (by decide)) (fun _ => ?_)
  refine r_aload_n rfl dX3_sayAsCut_80 rfl ?_
  refine r_getv 0 rfl dX3_sayAsCut_81 (show 2 ≤ 100 + 8 * i ∧ 100 + 8 * i < 434 by omega) f148 fl_X3_11 rfl ?_
  refine r_iload rfl dX3_sayAsCut_84 rfl ?_
  refine r_aald (jn := 2) (v := .ref (102 + 8 * i + 2 * 2)) rfl dX3_sayAsCut_86 (show 2 ≤ 101 + 8 * i ∧ 101 + 8 * i < 434 by omega).1 (show 2 ≤ 101 + 8 * i ∧ 101 + 8 * i < 434 by omega).2 (hS145.say (i := i) (by omega)) (by decide) (vp_in_nI (n := 2) (by omega) (by decide)) (nI_clamp (n := 2) (by omega)) (by show va_rf (if _ < _ then _ else _) = _; rw [if_pos (show 2 < 3 by omega)]; rfl) ?_
  refine r_aload rfl dX3_sayAsCut_87 rfl ?_
  obtain ⟨t162, hw163⟩ := w147.is hS145 (wsAt_ln (i := i) (w := 2) (by omega) (by omega))
  obtain ⟨t164, hw165⟩ := w156.is hS145 (wsAt_ln (i := m) (w := 2) (by omega) (by omega))
  refine cl_X3_72 rfl rfl dX3_sayAsCut_89 (show _ ∧ _ from ⟨((wsAt_ln (i := i) (w := 2) (by omega) (by omega))).2.2.1, Nat.lt_of_succ_lt ((wsAt_ln (i := i) (w := 2) (by omega) (by omega))).2.2.2⟩).1 (show _ ∧ _ from ⟨((wsAt_ln (i := i) (w := 2) (by omega) (by omega))).2.2.1, Nat.lt_of_succ_lt ((wsAt_ln (i := i) (w := 2) (by omega) (by omega))).2.2.2⟩).2 hw163.2.2.1 (Nat.le_of_ble_eq_true rfl) (s_X10_join hw163 hw165 (by omega)) ?_
  rintro _ h166 _ ⟨rfl, eh167, rfl⟩
  have hS168 := SH_p hS145 (wsAt_ln (i := i) (w := 2) (by omega) (by omega)) eh167
  have hk169 : K1 (102 + 8 * i + 2 * 2) h143 h166 := K1_up eh167
  have w170 : WD h166 (102 + 8 * i + 2 * 2) (fun z => (fun z => (A 2) z) z ||| (B 2) z) := WD_up eh167 rfl rfl rfl rfl
  have f171 : h166 (100 + 8 * i) = .inr (3, [.ref (101 + 8 * i), .int p, .int t, .int o, .int a, .int b, .int l]) := (hk169 _ (fun z => (nSP_ln (i := i) (by omega)) ⟨_, (wsAt_ln (i := i) (w := 2) (by omega) (by omega)), z⟩)).trans f148
  have f172 : h166 (100 + 8 * j) = .inr (3, [.ref (101 + 8 * j), .int p1, .int t1, .int o1, .int a1, .int b1, .int l1]) := (hk169 _ (fun z => (nSP_ln (i := j) (by omega)) ⟨_, (wsAt_ln (i := i) (w := 2) (by omega) (by omega)), z⟩)).trans f149
  have f173 : h166 (100 + 8 * m) = .inr (3, [.ref (101 + 8 * m), .int p2, .int t2, .int o2, .int a2, .int b2, .int l2]) := (hk169 _ (fun z => (nSP_ln (i := m) (by omega)) ⟨_, (wsAt_ln (i := i) (w := 2) (by omega) (by omega)), z⟩)).trans f150
  have w174 : WD h166 (102 + 8 * j + 2 * 0) (A 0) := WD_1 hk169 (by omega) w151
  have w175 : WD h166 (102 + 8 * j + 2 * 1) (A 1) := WD_1 hk169 (by omega) w152
  have w176 : WD h166 (102 + 8 * j + 2 * 2) (A 2) := WD_1 hk169 (by omega) w153
  have w177 : WD h166 (102 + 8 * m + 2 * 0) (B 0) := WD_1 hk169 (by omega) w154
  have w178 : WD h166 (102 + 8 * m + 2 * 1) (B 1) := WD_1 hk169 (by omega) w155
  have w179 : WD h166 (102 + 8 * m + 2 * 2) (B 2) := WD_1 hk169 (by omega) w156
  have w180 : WD h166 (102 + 8 * i + 2 * 0) (fun z => (fun z => (A 0) z) z ||| (B 0) z) := WD_1 hk169 (by omega) w157
  have w181 : WD h166 (102 + 8 * i + 2 * 1) (fun z => (fun z => (A 1) z) z ||| (B 1) z) := WD_1 hk169 (by omega) w158
  have hK182 := K3_1 (w := 2) (by decide) hK159 hk169
  refine r_goto (pc' := 107) rfl dX3_sayAsCut_92 ?_
  refine r_iinc (y := 3) (ls' := [some (.ref (100 + 8 * i)), some (.ref (100 + 8 * j)), some (.ref (100 + 8 * m)), some (.int 1), some (.int 3), some (.ref (102 + 8 * j + 2 * 2)), some (.ref (102 + 8 * m + 2 * 2))]) rfl dX3_sayAsCut_107 rfl (by decide) (Nat.le_of_ble_eq_true rfl) rfl ?_
  refine r_goto (pc' := 3) rfl dX3_sayAsCut_110 ?_
  refine r_iload rfl dX3_sayAsCut_3 rfl ?_
  refine r_iconst (v := 3) rfl dX3_sayAsCut_5 (by decide) ?_
  refine r_icmp_ge (tgt := 113) rfl rfl dX3_sayAsCut_6 (fun _ => ?_) (fun zc => absurd zc (by decide))
  exact r_ret dX3_sayAsCut_113 (rt_v rfl) ⟨rfl, hS168, hK182, W3 (WD_cg (fun z _ => by rw [cuV, if_neg (by decide), if_pos (by decide)]) w180) (WD_cg (fun z _ => by rw [cuV, if_neg (by decide), if_pos (by decide)]) w181) (WD_cg (fun z _ => by rw [cuV, if_neg (by decide), if_pos (by decide)]) w170), rfl⟩
set_option maxRecDepth 20000 in
set_option maxHeartbeats 1000000 in
theorem v_sayAsCut2 {xs : Nat → Int32} {L d : Nat} {h : ev_H} {i j m : Nat} {p t o a b l p1 t1 o1 a1 b1 l1 p2 t2 o2 a2 b2 l2 : Int32} {A B : Nat → Nat → Int64} (hS : SH h) (hi : i < 40) (fl : h (100 + 8 * i) = cLn i p t o a b l) (hj : j < 40) (hm : m < 40) (fj : h (100 + 8 * j) = cLn j p1 t1 o1 a1 b1 l1) (fm : h (100 + 8 * m) = cLn m p2 t2 o2 a2 b2 l2) (hij : i ≠ j) (him : i ≠ m) (hji : j < i) (hmi : m < i) (hA : ∀ w, w < 3 → WD h (102 + 8 * j + 2 * w) (A w)) (hB : ∀ w, w < 3 → WD h (102 + 8 * m + 2 * w) (B w)) : EV xs L (d + 2) 0 0 M_X3_sayAsCut 434 h 0 [some (.ref (100 + 8 * i)), some (.ref (100 + 8 * j)), some (.ref (100 + 8 * m)), some (.int 2), none, none, none] [] (fun sz' h' r => sz' = 434 ∧ SH h' ∧ K3 i h h' ∧ (∀ w, w < 3 → WD h' (102 + 8 * i + 2 * w) (cuV 2 l w (A w) (B w))) ∧ r = []) := by
  have w51 : WD h (102 + 8 * j + 2 * 0) (A 0) := hA 0 (by decide)
  have w52 : WD h (102 + 8 * j + 2 * 1) (A 1) := hA 1 (by decide)
  have w53 : WD h (102 + 8 * j + 2 * 2) (A 2) := hA 2 (by decide)
  have w54 : WD h (102 + 8 * m + 2 * 0) (B 0) := hB 0 (by decide)
  have w55 : WD h (102 + 8 * m + 2 * 1) (B 1) := hB 1 (by decide)
  have w56 : WD h (102 + 8 * m + 2 * 2) (B 2) := hB 2 (by decide)
  refine r_iconst (v := 0) rfl dX3_sayAsCut_0 (by decide) ?_
  refine r_istore (ls' := [some (.ref (100 + 8 * i)), some (.ref (100 + 8 * j)), some (.ref (100 + 8 * m)), some (.int 2), some (.int 0), none, none]) rfl dX3_sayAsCut_1 (Nat.le_of_ble_eq_true rfl) rfl ?_
  refine r_iload rfl dX3_sayAsCut_3 rfl ?_
  refine r_iconst (v := 3) rfl dX3_sayAsCut_5 (by decide) ?_
  refine r_icmp_ge (tgt := 113) rfl rfl dX3_sayAsCut_6 (fun zc => absurd zc (by decide)) (fun _ => ?_)
  refine r_aload_n rfl dX3_sayAsCut_9 rfl ?_
  refine r_getv 0 rfl dX3_sayAsCut_10 (show 2 ≤ 100 + 8 * j ∧ 100 + 8 * j < 434 by omega) fj fl_X3_11 rfl ?_
  refine r_iload rfl dX3_sayAsCut_13 rfl ?_
  refine r_aald (jn := 0) (v := .ref (102 + 8 * j + 2 * 0)) rfl dX3_sayAsCut_15 (show 2 ≤ 101 + 8 * j ∧ 101 + 8 * j < 434 by omega).1 (show 2 ≤ 101 + 8 * j ∧ 101 + 8 * j < 434 by omega).2 (hS.say (i := j) (by omega)) (by decide) (vp_in_nI (n := 0) (by omega) (by decide)) (nI_clamp (n := 0) (by omega)) (by show va_rf (if _ < _ then _ else _) = _; rw [if_pos (show 0 < 3 by omega)]; rfl) ?_
  refine r_astore (ls' := [some (.ref (100 + 8 * i)), some (.ref (100 + 8 * j)), some (.ref (100 + 8 * m)), some (.int 2), some (.int 0), some (.ref (102 + 8 * j + 2 * 0)), none]) rfl dX3_sayAsCut_16 (Nat.le_of_ble_eq_true rfl) rfl ?_
  refine r_aload_n rfl dX3_sayAsCut_18 rfl ?_
  refine r_getv 0 rfl dX3_sayAsCut_19 (show 2 ≤ 100 + 8 * m ∧ 100 + 8 * m < 434 by omega) fm fl_X3_11 rfl ?_
  refine r_iload rfl dX3_sayAsCut_22 rfl ?_
  refine r_aald (jn := 0) (v := .ref (102 + 8 * m + 2 * 0)) rfl dX3_sayAsCut_24 (show 2 ≤ 101 + 8 * m ∧ 101 + 8 * m < 434 by omega).1 (show 2 ≤ 101 + 8 * m ∧ 101 + 8 * m < 434 by omega).2 (hS.say (i := m) (by omega)) (by decide) (vp_in_nI (n := 0) (by omega) (by decide)) (nI_clamp (n := 0) (by omega)) (by show va_rf (if _ < _ then _ else _) = _; rw [if_pos (show 0 < 3 by omega)]; rfl) ?_
  refine r_astore (ls' := [some (.ref (100 + 8 * i)), some (.ref (100 + 8 * j)), some (.ref (100 + 8 * m)), some (.int 2), some (.int 0), some (.ref (102 + 8 * j + 2 * 0)), some (.ref (102 + 8 * m + 2 * 0))]) rfl dX3_sayAsCut_25 (Nat.le_of_ble_eq_true rfl) rfl ?_
  refine r_iload rfl dX3_sayAsCut_27 rfl ?_
  refine r_iconst (v := 2) rfl dX3_sayAsCut_29 (by decide) ?_
  refine r_icmp_ne (tgt := 59) rfl rfl dX3_sayAsCut_30 (fun _ => ?_) (fun zc => absurd zc (by decide))
  refine r_aload_n rfl dX3_sayAsCut_59 rfl ?_
  refine r_getv 0 rfl dX3_sayAsCut_60 (show 2 ≤ 100 + 8 * i ∧ 100 + 8 * i < 434 by omega) fl fl_X3_11 rfl ?_
  refine r_iload rfl dX3_sayAsCut_63 rfl ?_
  refine r_aald (jn := 0) (v := .ref (102 + 8 * i + 2 * 0)) rfl dX3_sayAsCut_65 (show 2 ≤ 101 + 8 * i ∧ 101 + 8 * i < 434 by omega).1 (show 2 ≤ 101 + 8 * i ∧ 101 + 8 * i < 434 by omega).2 (hS.say (i := i) (by omega)) (by decide) (vp_in_nI (n := 0) (by omega) (by decide)) (nI_clamp (n := 0) (by omega)) (by show va_rf (if _ < _ then _ else _) = _; rw [if_pos (show 0 < 3 by omega)]; rfl) ?_
  refine r_aload rfl dX3_sayAsCut_66 rfl ?_
  obtain ⟨g57, hw58⟩ := hS.ws (wsAt_ln (i := i) (w := 0) (by omega) (by omega))
  obtain ⟨t59, hw60⟩ := w51.is hS (wsAt_ln (i := j) (w := 0) (by omega) (by omega))
  refine cl_X3_64 rfl rfl dX3_sayAsCut_68 (show _ ∧ _ from ⟨((wsAt_ln (i := i) (w := 0) (by omega) (by omega))).2.2.1, Nat.lt_of_succ_lt ((wsAt_ln (i := i) (w := 0) (by omega) (by omega))).2.2.2⟩).1 (show _ ∧ _ from ⟨((wsAt_ln (i := i) (w := 0) (by omega) (by omega))).2.2.1, Nat.lt_of_succ_lt ((wsAt_ln (i := i) (w := 0) (by omega) (by omega))).2.2.2⟩).2 hw58.2.2.1 (Nat.le_of_ble_eq_true rfl) (s_X10_become hw58 hw60 (by omega)) ?_
  rintro _ h61 _ ⟨rfl, eh62, rfl⟩
  have hS63 := SH_p hS (wsAt_ln (i := i) (w := 0) (by omega) (by omega)) eh62
  have hk64 : K1 (102 + 8 * i + 2 * 0) h h61 := K1_up eh62
  have w65 : WD h61 (102 + 8 * i + 2 * 0) (fun z => (A 0) z) := WD_up eh62 rfl rfl rfl rfl
  have f66 : h61 (100 + 8 * i) = .inr (3, [.ref (101 + 8 * i), .int p, .int t, .int o, .int a, .int b, .int l]) := (hk64 _ (fun z => (nSP_ln (i := i) (by omega)) ⟨_, (wsAt_ln (i := i) (w := 0) (by omega) (by omega)), z⟩)).trans fl
  have f67 : h61 (100 + 8 * j) = .inr (3, [.ref (101 + 8 * j), .int p1, .int t1, .int o1, .int a1, .int b1, .int l1]) := (hk64 _ (fun z => (nSP_ln (i := j) (by omega)) ⟨_, (wsAt_ln (i := i) (w := 0) (by omega) (by omega)), z⟩)).trans fj
  have f68 : h61 (100 + 8 * m) = .inr (3, [.ref (101 + 8 * m), .int p2, .int t2, .int o2, .int a2, .int b2, .int l2]) := (hk64 _ (fun z => (nSP_ln (i := m) (by omega)) ⟨_, (wsAt_ln (i := i) (w := 0) (by omega) (by omega)), z⟩)).trans fm
  have w69 : WD h61 (102 + 8 * j + 2 * 0) (A 0) := WD_1 hk64 (by omega) w51
  have w70 : WD h61 (102 + 8 * j + 2 * 1) (A 1) := WD_1 hk64 (by omega) w52
  have w71 : WD h61 (102 + 8 * j + 2 * 2) (A 2) := WD_1 hk64 (by omega) w53
  have w72 : WD h61 (102 + 8 * m + 2 * 0) (B 0) := WD_1 hk64 (by omega) w54
  have w73 : WD h61 (102 + 8 * m + 2 * 1) (B 1) := WD_1 hk64 (by omega) w55
  have w74 : WD h61 (102 + 8 * m + 2 * 2) (B 2) := WD_1 hk64 (by omega) w56
  have hK75 := K3_1 (w := 0) (by decide) (K3_rf i h) hk64
  refine r_iload rfl dX3_sayAsCut_71 rfl ?_
  refine r_iload_n rfl dX3_sayAsCut_73 rfl ?_
  refine cl_X3_68 rfl rfl dX3_sayAsCut_74 (Nat.le_of_ble_eq_true rfl) s_X3_joinsv ?_
  rintro _ h76 _ ⟨rfl, e77, rfl⟩
  replace e77 := e77.symm
  subst e77
  refine r_eqi (y := 0) (by decide) ?_
  refine r_if_eq (tgt := 95) rfl rfl dX3_sayAsCut_77 (fun _ => ?_) (fun zc => absurd zc (by decide))
  refine r_aload_n rfl dX3_sayAsCut_95 rfl ?_
  refine r_getv 0 rfl dX3_sayAsCut_96 (show 2 ≤ 100 + 8 * i ∧ 100 + 8 * i < 434 by omega) f66 fl_X3_11 rfl ?_
  refine r_iload rfl dX3_sayAsCut_99 rfl ?_
  refine r_aald (jn := 0) (v := .ref (102 + 8 * i + 2 * 0)) rfl dX3_sayAsCut_101 (show 2 ≤ 101 + 8 * i ∧ 101 + 8 * i < 434 by omega).1 (show 2 ≤ 101 + 8 * i ∧ 101 + 8 * i < 434 by omega).2 (hS63.say (i := i) (by omega)) (by decide) (vp_in_nI (n := 0) (by omega) (by decide)) (nI_clamp (n := 0) (by omega)) (by show va_rf (if _ < _ then _ else _) = _; rw [if_pos (show 0 < 3 by omega)]; rfl) ?_
  refine r_aload rfl dX3_sayAsCut_102 rfl ?_
  obtain ⟨t78, hw79⟩ := w65.is hS63 (wsAt_ln (i := i) (w := 0) (by omega) (by omega))
  obtain ⟨t80, hw81⟩ := w72.is hS63 (wsAt_ln (i := m) (w := 0) (by omega) (by omega))
  refine cl_X3_75 rfl rfl dX3_sayAsCut_104 (show _ ∧ _ from ⟨((wsAt_ln (i := i) (w := 0) (by omega) (by omega))).2.2.1, Nat.lt_of_succ_lt ((wsAt_ln (i := i) (w := 0) (by omega) (by omega))).2.2.2⟩).1 (show _ ∧ _ from ⟨((wsAt_ln (i := i) (w := 0) (by omega) (by omega))).2.2.1, Nat.lt_of_succ_lt ((wsAt_ln (i := i) (w := 0) (by omega) (by omega))).2.2.2⟩).2 hw79.2.2.1 (Nat.le_of_ble_eq_true rfl) (s_X10_meet hw79 hw81 (by omega)) ?_
  rintro _ h82 _ ⟨rfl, eh83, rfl⟩
  have hS84 := SH_p hS63 (wsAt_ln (i := i) (w := 0) (by omega) (by omega)) eh83
  have hk85 : K1 (102 + 8 * i + 2 * 0) h61 h82 := K1_up eh83
  have w86 : WD h82 (102 + 8 * i + 2 * 0) (fun z => (fun z => (A 0) z) z &&& (B 0) z) := WD_up eh83 rfl rfl rfl rfl
  have f87 : h82 (100 + 8 * i) = .inr (3, [.ref (101 + 8 * i), .int p, .int t, .int o, .int a, .int b, .int l]) := (hk85 _ (fun z => (nSP_ln (i := i) (by omega)) ⟨_, (wsAt_ln (i := i) (w := 0) (by omega) (by omega)), z⟩)).trans f66
  have f88 : h82 (100 + 8 * j) = .inr (3, [.ref (101 + 8 * j), .int p1, .int t1, .int o1, .int a1, .int b1, .int l1]) := (hk85 _ (fun z => (nSP_ln (i := j) (by omega)) ⟨_, (wsAt_ln (i := i) (w := 0) (by omega) (by omega)), z⟩)).trans f67
  have f89 : h82 (100 + 8 * m) = .inr (3, [.ref (101 + 8 * m), .int p2, .int t2, .int o2, .int a2, .int b2, .int l2]) := (hk85 _ (fun z => (nSP_ln (i := m) (by omega)) ⟨_, (wsAt_ln (i := i) (w := 0) (by omega) (by omega)), z⟩)).trans f68
  have w90 : WD h82 (102 + 8 * j + 2 * 0) (A 0) := WD_1 hk85 (by omega) w69
  have w91 : WD h82 (102 + 8 * j + 2 * 1) (A 1) := WD_1 hk85 (by omega) w70
  have w92 : WD h82 (102 + 8 * j + 2 * 2) (A 2) := WD_1 hk85 (by omega) w71
  have w93 : WD h82 (102 + 8 * m + 2 * 0) (B 0) := WD_1 hk85 (by omega) w72
  have w94 : WD h82 (102 + 8 * m + 2 * 1) (B 1) := WD_1 hk85 (by omega) w73
  have w95 : WD h82 (102 + 8 * m + 2 * 2) (B 2) := WD_1 hk85 (by omega) w74
  have hK96 := K3_1 (w := 0) (by decide) hK75 hk85
  refine r_iinc (y := 1) (ls' := [some (.ref (100 + 8 * i)), some (.ref (100 + 8 * j)), some (.ref (100 + 8 * m)), some (.int 2), some (.int 1), some (.ref (102 + 8 * j + 2 * 0)), some (.ref (102 + 8 * m + 2 * 0))]) rfl dX3_sayAsCut_107 rfl (by decide) (Nat.le_of_ble_eq_true rfl) rfl ?_
  refine r_goto (pc' := 3) rfl dX3_sayAsCut_110 ?_
  refine r_iload rfl dX3_sayAsCut_3 rfl ?_
  refine r_iconst (v := 3) rfl dX3_sayAsCut_5 (by decide) ?_
  refine r_icmp_ge (tgt := 113) rfl rfl dX3_sayAsCut_6 (fun zc => absurd zc (by decide)) (fun _ => ?_)
  refine r_aload_n rfl dX3_sayAsCut_9 rfl ?_
  refine r_getv 0 rfl dX3_sayAsCut_10 (show 2 ≤ 100 + 8 * j ∧ 100 + 8 * j < 434 by omega) f88 fl_X3_11 rfl ?_
  refine r_iload rfl dX3_sayAsCut_13 rfl ?_
  refine r_aald (jn := 1) (v := .ref (102 + 8 * j + 2 * 1)) rfl dX3_sayAsCut_15 (show 2 ≤ 101 + 8 * j ∧ 101 + 8 * j < 434 by omega).1 (show 2 ≤ 101 + 8 * j ∧ 101 + 8 * j < 434 by omega).2 (hS84.say (i := j) (by omega)) (by decide) (vp_in_nI (n := 1) (by omega) (by decide)) (nI_clamp (n := 1) (by omega)) (by show va_rf (if _ < _ then _ else _) = _; rw [if_pos (show 1 < 3 by omega)]; rfl) ?_
  refine r_astore (ls' := [some (.ref (100 + 8 * i)), some (.ref (100 + 8 * j)), some (.ref (100 + 8 * m)), some (.int 2), some (.int 1), some (.ref (102 + 8 * j + 2 * 1)), some (.ref (102 + 8 * m + 2 * 0))]) rfl dX3_sayAsCut_16 (Nat.le_of_ble_eq_true rfl) rfl ?_
  refine r_aload_n rfl dX3_sayAsCut_18 rfl ?_
  refine r_getv 0 rfl dX3_sayAsCut_19 (show 2 ≤ 100 + 8 * m ∧ 100 + 8 * m < 434 by omega) f89 fl_X3_11 rfl ?_
  refine r_iload rfl dX3_sayAsCut_22 rfl ?_
  refine r_aald (jn := 1) (v := .ref (102 + 8 * m + 2 * 1)) rfl dX3_sayAsCut_24 (show 2 ≤ 101 + 8 * m ∧ 101 + 8 * m < 434 by omega).1 (show 2 ≤ 101 + 8 * m ∧ 101 + 8 * m < 434 by omega).2 (hS84.say (i := m) (by omega)) (by decide) (vp_in_nI (n := 1) (by omega) (by decide)) (nI_clamp (n := 1) (by omega)) (by show va_rf (if _ < _ then _ else _) = _; rw [if_pos (show 1 < 3 by omega)]; rfl) ?_
  refine r_astore (ls' := [some (.ref (100 + 8 * i)), some (.ref (100 + 8 * j)), some (.ref (100 + 8 * m)), some (.int 2), some (.int 1), some (.ref (102 + 8 * j + 2 * 1)), some (.ref (102 + 8 * m + 2 * 1))]) rfl dX3_sayAsCut_25 (Nat.le_of_ble_eq_true rfl) rfl ?_
  refine r_iload rfl dX3_sayAsCut_27 rfl ?_
  refine r_iconst (v := 2) rfl dX3_sayAsCut_29 (by decide) ?_
  refine r_icmp_ne (tgt := 59) rfl rfl dX3_sayAsCut_30 (fun _ => ?_) (fun zc => absurd zc (by decide))
  refine r_aload_n rfl dX3_sayAsCut_59 rfl ?_
  refine r_getv 0 rfl dX3_sayAsCut_60 (show 2 ≤ 100 + 8 * i ∧ 100 + 8 * i < 434 by omega) f87 fl_X3_11 rfl ?_
  refine r_iload rfl dX3_sayAsCut_63 rfl ?_
  refine r_aald (jn := 1) (v := .ref (102 + 8 * i + 2 * 1)) rfl dX3_sayAsCut_65 (show 2 ≤ 101 + 8 * i ∧ 101 + 8 * i < 434 by omega).1 (show 2 ≤ 101 + 8 * i ∧ 101 + 8 * i < 434 by omega).2 (hS84.say (i := i) (by omega)) (by decide) (vp_in_nI (n := 1) (by omega) (by decide)) (nI_clamp (n := 1) (by omega)) (by show va_rf (if _ < _ then _ else _) = _; rw [if_pos (show 1 < 3 by omega)]; rfl) ?_
  refine r_aload rfl dX3_sayAsCut_66 rfl ?_
  obtain ⟨g97, hw98⟩ := hS84.ws (wsAt_ln (i := i) (w := 1) (by omega) (by omega))
  obtain ⟨t99, hw100⟩ := w91.is hS84 (wsAt_ln (i := j) (w := 1) (by omega) (by omega))
  refine cl_X3_64 rfl rfl dX3_sayAsCut_68 (show _ ∧ _ from ⟨((wsAt_ln (i := i) (w := 1) (by omega) (by omega))).2.2.1, Nat.lt_of_succ_lt ((wsAt_ln (i := i) (w := 1) (by omega) (by omega))).2.2.2⟩).1 (show _ ∧ _ from ⟨((wsAt_ln (i := i) (w := 1) (by omega) (by omega))).2.2.1, Nat.lt_of_succ_lt ((wsAt_ln (i := i) (w := 1) (by omega) (by omega))).2.2.2⟩).2 hw98.2.2.1 (Nat.le_of_ble_eq_true rfl) (s_X10_become hw98 hw100 (by omega)) ?_
  rintro _ h101 _ ⟨rfl, eh102, rfl⟩
  have hS103 := SH_p hS84 (wsAt_ln (i := i) (w := 1) (by omega) (by omega)) eh102
  have hk104 : K1 (102 + 8 * i + 2 * 1) h82 h101 := K1_up eh102
  have w105 : WD h101 (102 + 8 * i + 2 * 1) (fun z => (A 1) z) := WD_up eh102 rfl rfl rfl rfl
  have f106 : h101 (100 + 8 * i) = .inr (3, [.ref (101 + 8 * i), .int p, .int t, .int o, .int a, .int b, .int l]) := (hk104 _ (fun z => (nSP_ln (i := i) (by omega)) ⟨_, (wsAt_ln (i := i) (w := 1) (by omega) (by omega)), z⟩)).trans f87
  have f107 : h101 (100 + 8 * j) = .inr (3, [.ref (101 + 8 * j), .int p1, .int t1, .int o1, .int a1, .int b1, .int l1]) := (hk104 _ (fun z => (nSP_ln (i := j) (by omega)) ⟨_, (wsAt_ln (i := i) (w := 1) (by omega) (by omega)), z⟩)).trans f88
  have f108 : h101 (100 + 8 * m) = .inr (3, [.ref (101 + 8 * m), .int p2, .int t2, .int o2, .int a2, .int b2, .int l2]) := (hk104 _ (fun z => (nSP_ln (i := m) (by omega)) ⟨_, (wsAt_ln (i := i) (w := 1) (by omega) (by omega)), z⟩)).trans f89
  have w109 : WD h101 (102 + 8 * j + 2 * 0) (A 0) := WD_1 hk104 (by omega) w90
  have w110 : WD h101 (102 + 8 * j + 2 * 1) (A 1) := WD_1 hk104 (by omega) w91
  have w111 : WD h101 (102 + 8 * j + 2 * 2) (A 2) := WD_1 hk104 (by omega) w92
  have w112 : WD h101 (102 + 8 * m + 2 * 0) (B 0) := WD_1 hk104 (by omega) w93
  have w113 : WD h101 (102 + 8 * m + 2 * 1) (B 1) := WD_1 hk104 (by omega) w94
  have w114 : WD h101 (102 + 8 * m + 2 * 2) (B 2) := WD_1 hk104 (by omega) w95
  have w115 : WD h101 (102 + 8 * i + 2 * 0) (fun z => (fun z => (A 0) z) z &&& (B 0) z) := WD_1 hk104 (by omega) w86
  have hK116 := K3_1 (w := 1) (by decide) hK96 hk104
  refine r_iload rfl dX3_sayAsCut_71 rfl ?_
  refine r_iload_n rfl dX3_sayAsCut_73 rfl ?_
  refine cl_X3_68 rfl rfl dX3_sayAsCut_74 (Nat.le_of_ble_eq_true rfl) s_X3_joinsv ?_
  rintro _ h117 _ ⟨rfl, e118, rfl⟩
  replace e118 := e118.symm
  subst e118
  refine r_eqi (y := 0) (by decide) ?_
  refine r_if_eq (tgt := 95) rfl rfl dX3_sayAsCut_77 (fun _ => ?_) (fun zc => absurd zc (by decide))
  refine r_aload_n rfl dX3_sayAsCut_95 rfl ?_
  refine r_getv 0 rfl dX3_sayAsCut_96 (show 2 ≤ 100 + 8 * i ∧ 100 + 8 * i < 434 by omega) f106 fl_X3_11 rfl ?_
  refine r_iload rfl dX3_sayAsCut_99 rfl ?_
  refine r_aald (jn := 1) (v := .ref (102 + 8 * i + 2 * 1)) rfl dX3_sayAsCut_101 (show 2 ≤ 101 + 8 * i ∧ 101 + 8 * i < 434 by omega).1 (show 2 ≤ 101 + 8 * i ∧ 101 + 8 * i < 434 by omega).2 (hS103.say (i := i) (by omega)) (by decide) (vp_in_nI (n := 1) (by omega) (by decide)) (nI_clamp (n := 1) (by omega)) (by show va_rf (if _ < _ then _ else _) = _; rw [if_pos (show 1 < 3 by omega)]; rfl) ?_
  refine r_aload rfl dX3_sayAsCut_102 rfl ?_
  obtain ⟨t119, hw120⟩ := w105.is hS103 (wsAt_ln (i := i) (w := 1) (by omega) (by omega))
  obtain ⟨t121, hw122⟩ := w113.is hS103 (wsAt_ln (i := m) (w := 1) (by omega) (by omega))
  refine cl_X3_75 rfl rfl dX3_sayAsCut_104 (show _ ∧ _ from ⟨((wsAt_ln (i := i) (w := 1) (by omega) (by omega))).2.2.1, Nat.lt_of_succ_lt ((wsAt_ln (i := i) (w := 1) (by omega) (by omega))).2.2.2⟩).1 (show _ ∧ _ from ⟨((wsAt_ln (i := i) (w := 1) (by omega) (by omega))).2.2.1, Nat.lt_of_succ_lt ((wsAt_ln (i := i) (w := 1) (by omega) (by omega))).2.2.2⟩).2 hw120.2.2.1 (Nat.le_of_ble_eq_true rfl) (s_X10_meet hw120 hw122 (by omega)) ?_
  rintro _ h123 _ ⟨rfl, eh124, rfl⟩
  have hS125 := SH_p hS103 (wsAt_ln (i := i) (w := 1) (by omega) (by omega)) eh124
  have hk126 : K1 (102 + 8 * i + 2 * 1) h101 h123 := K1_up eh124
  have w127 : WD h123 (102 + 8 * i + 2 * 1) (fun z => (fun z => (A 1) z) z &&& (B 1) z) := WD_up eh124 rfl rfl rfl rfl
  have f128 : h123 (100 + 8 * i) = .inr (3, [.ref (101 + 8 * i), .int p, .int t, .int o, .int a, .int b, .int l]) := (hk126 _ (fun z => (nSP_ln (i := i) (by omega)) ⟨_, (wsAt_ln (i := i) (w := 1) (by omega) (by omega)), z⟩)).trans f106
  have f129 : h123 (100 + 8 * j) = .inr (3, [.ref (101 + 8 * j), .int p1, .int t1, .int o1, .int a1, .int b1, .int l1]) := (hk126 _ (fun z => (nSP_ln (i := j) (by omega)) ⟨_, (wsAt_ln (i := i) (w := 1) (by omega) (by omega)), z⟩)).trans f107
  have f130 : h123 (100 + 8 * m) = .inr (3, [.ref (101 + 8 * m), .int p2, .int t2, .int o2, .int a2, .int b2, .int l2]) := (hk126 _ (fun z => (nSP_ln (i := m) (by omega)) ⟨_, (wsAt_ln (i := i) (w := 1) (by omega) (by omega)), z⟩)).trans f108
  have w131 : WD h123 (102 + 8 * j + 2 * 0) (A 0) := WD_1 hk126 (by omega) w109
  have w132 : WD h123 (102 + 8 * j + 2 * 1) (A 1) := WD_1 hk126 (by omega) w110
  have w133 : WD h123 (102 + 8 * j + 2 * 2) (A 2) := WD_1 hk126 (by omega) w111
  have w134 : WD h123 (102 + 8 * m + 2 * 0) (B 0) := WD_1 hk126 (by omega) w112
  have w135 : WD h123 (102 + 8 * m + 2 * 1) (B 1) := WD_1 hk126 (by omega) w113
  have w136 : WD h123 (102 + 8 * m + 2 * 2) (B 2) := WD_1 hk126 (by omega) w114
  have w137 : WD h123 (102 + 8 * i + 2 * 0) (fun z => (fun z => (A 0) z) z &&& (B 0) z) := WD_1 hk126 (by omega) w115
  have hK138 := K3_1 (w := 1) (by decide) hK116 hk126
  refine r_iinc (y := 2) (ls' := [some (.ref (100 + 8 * i)), some (.ref (100 + 8 * j)), some (.ref (100 + 8 * m)), some (.int 2), some (.int 2), some (.ref (102 + 8 * j + 2 * 1)), some (.ref (102 + 8 * m + 2 * 1))]) rfl dX3_sayAsCut_107 rfl (by decide) (Nat.le_of_ble_eq_true rfl) rfl ?_
  refine r_goto (pc' := 3) rfl dX3_sayAsCut_110 ?_
  refine r_iload rfl dX3_sayAsCut_3 rfl ?_
  refine r_iconst (v := 3) rfl dX3_sayAsCut_5 (by decide) ?_
  refine r_icmp_ge (tgt := 113) rfl rfl dX3_sayAsCut_6 (fun zc => absurd zc (by decide)) (fun _ => ?_)
  refine r_aload_n rfl dX3_sayAsCut_9 rfl ?_
  refine r_getv 0 rfl dX3_sayAsCut_10 (show 2 ≤ 100 + 8 * j ∧ 100 + 8 * j < 434 by omega) f129 fl_X3_11 rfl ?_
  refine r_iload rfl dX3_sayAsCut_13 rfl ?_
  refine r_aald (jn := 2) (v := .ref (102 + 8 * j + 2 * 2)) rfl dX3_sayAsCut_15 (show 2 ≤ 101 + 8 * j ∧ 101 + 8 * j < 434 by omega).1 (show 2 ≤ 101 + 8 * j ∧ 101 + 8 * j < 434 by omega).2 (hS125.say (i := j) (by omega)) (by decide) (vp_in_nI (n := 2) (by omega) (by decide)) (nI_clamp (n := 2) (by omega)) (by show va_rf (if _ < _ then _ else _) = _; rw [if_pos (show 2 < 3 by omega)]; rfl) ?_
  refine r_astore (ls' := [some (.ref (100 + 8 * i)), some (.ref (100 + 8 * j)), some (.ref (100 + 8 * m)), some (.int 2), some (.int 2), some (.ref (102 + 8 * j + 2 * 2)), some (.ref (102 + 8 * m + 2 * 1))]) rfl dX3_sayAsCut_16 (Nat.le_of_ble_eq_true rfl) rfl ?_
  refine r_aload_n rfl dX3_sayAsCut_18 rfl ?_
  refine r_getv 0 rfl dX3_sayAsCut_19 (show 2 ≤ 100 + 8 * m ∧ 100 + 8 * m < 434 by omega) f130 fl_X3_11 rfl ?_
  refine r_iload rfl dX3_sayAsCut_22 rfl ?_
  refine r_aald (jn := 2) (v := .ref (102 + 8 * m + 2 * 2)) rfl dX3_sayAsCut_24 (show 2 ≤ 101 + 8 * m ∧ 101 + 8 * m < 434 by omega).1 (show 2 ≤ 101 + 8 * m ∧ 101 + 8 * m < 434 by omega).2 (hS125.say (i := m) (by omega)) (by decide) (vp_in_nI (n := 2) (by omega) (by decide)) (nI_clamp (n := 2) (by omega)) (by show va_rf (if _ < _ then _ else _) = _; rw [if_pos (show 2 < 3 by omega)]; rfl) ?_
  refine r_astore (ls' := [some (.ref (100 + 8 * i)), some (.ref (100 + 8 * j)), some (.ref (100 + 8 * m)), some (.int 2), some (.int 2), some (.ref (102 + 8 * j + 2 * 2)), some (.ref (102 + 8 * m + 2 * 2))]) rfl dX3_sayAsCut_25 (Nat.le_of_ble_eq_true rfl) rfl ?_
  refine r_iload rfl dX3_sayAsCut_27 rfl ?_
  refine r_iconst (v := 2) rfl dX3_sayAsCut_29 (by decide) ?_
  refine r_icmp_ne (tgt := 59) rfl rfl dX3_sayAsCut_30 (fun zc => absurd zc (by decide)) (fun _ => ?_)
  refine r_iload_n rfl dX3_sayAsCut_33 rfl ?_
  refine r_iconst (v := 3) rfl dX3_sayAsCut_34 (by decide) ?_
  refine r_icmp_ne (tgt := 59) rfl rfl dX3_sayAsCut_35 (fun _ => ?_) (fun zc => absurd zc (by decide))
  refine r_aload_n rfl dX3_sayAsCut_59 rfl ?_
  refine r_getv 0 rfl dX3_sayAsCut_60 (show 2 ≤ 100 + 8 * i ∧ 100 + 8 * i < 434 by omega) f128 fl_X3_11 rfl ?_
  refine r_iload rfl dX3_sayAsCut_63 rfl ?_
  refine r_aald (jn := 2) (v := .ref (102 + 8 * i + 2 * 2)) rfl dX3_sayAsCut_65 (show 2 ≤ 101 + 8 * i ∧ 101 + 8 * i < 434 by omega).1 (show 2 ≤ 101 + 8 * i ∧ 101 + 8 * i < 434 by omega).2 (hS125.say (i := i) (by omega)) (by decide) (vp_in_nI (n := 2) (by omega) (by decide)) (nI_clamp (n := 2) (by omega)) (by show va_rf (if _ < _ then _ else _) = _; rw [if_pos (show 2 < 3 by omega)]; rfl) ?_
  refine r_aload rfl dX3_sayAsCut_66 rfl ?_
  obtain ⟨g139, hw140⟩ := hS125.ws (wsAt_ln (i := i) (w := 2) (by omega) (by omega))
  obtain ⟨t141, hw142⟩ := w133.is hS125 (wsAt_ln (i := j) (w := 2) (by omega) (by omega))
  refine cl_X3_64 rfl rfl dX3_sayAsCut_68 (show _ ∧ _ from ⟨((wsAt_ln (i := i) (w := 2) (by omega) (by omega))).2.2.1, Nat.lt_of_succ_lt ((wsAt_ln (i := i) (w := 2) (by omega) (by omega))).2.2.2⟩).1 (show _ ∧ _ from ⟨((wsAt_ln (i := i) (w := 2) (by omega) (by omega))).2.2.1, Nat.lt_of_succ_lt ((wsAt_ln (i := i) (w := 2) (by omega) (by omega))).2.2.2⟩).2 hw140.2.2.1 (Nat.le_of_ble_eq_true rfl) (s_X10_become hw140 hw142 (by omega)) ?_
  rintro _ h143 _ ⟨rfl, eh144, rfl⟩
  have hS145 := SH_p hS125 (wsAt_ln (i := i) (w := 2) (by omega) (by omega)) eh144
  have hk146 : K1 (102 + 8 * i + 2 * 2) h123 h143 := K1_up eh144
  have w147 : WD h143 (102 + 8 * i + 2 * 2) (fun z => (A 2) z) := WD_up eh144 rfl rfl rfl rfl
  have f148 : h143 (100 + 8 * i) = .inr (3, [.ref (101 + 8 * i), .int p, .int t, .int o, .int a, .int b, .int l]) := (hk146 _ (fun z => (nSP_ln (i := i) (by omega)) ⟨_, (wsAt_ln (i := i) (w := 2) (by omega) (by omega)), z⟩)).trans f128
  have f149 : h143 (100 + 8 * j) = .inr (3, [.ref (101 + 8 * j), .int p1, .int t1, .int o1, .int a1, .int b1, .int l1]) := (hk146 _ (fun z => (nSP_ln (i := j) (by omega)) ⟨_, (wsAt_ln (i := i) (w := 2) (by omega) (by omega)), z⟩)).trans f129
  have f150 : h143 (100 + 8 * m) = .inr (3, [.ref (101 + 8 * m), .int p2, .int t2, .int o2, .int a2, .int b2, .int l2]) := (hk146 _ (fun z => (nSP_ln (i := m) (by omega)) ⟨_, (wsAt_ln (i := i) (w := 2) (by omega) (by omega)), z⟩)).trans f130
  have w151 : WD h143 (102 + 8 * j + 2 * 0) (A 0) := WD_1 hk146 (by omega) w131
  have w152 : WD h143 (102 + 8 * j + 2 * 1) (A 1) := WD_1 hk146 (by omega) w132
  have w153 : WD h143 (102 + 8 * j + 2 * 2) (A 2) := WD_1 hk146 (by omega) w133
  have w154 : WD h143 (102 + 8 * m + 2 * 0) (B 0) := WD_1 hk146 (by omega) w134
  have w155 : WD h143 (102 + 8 * m + 2 * 1) (B 1) := WD_1 hk146 (by omega) w135
  have w156 : WD h143 (102 + 8 * m + 2 * 2) (B 2) := WD_1 hk146 (by omega) w136
  have w157 : WD h143 (102 + 8 * i + 2 * 0) (fun z => (fun z => (A 0) z) z &&& (B 0) z) := WD_1 hk146 (by omega) w137
  have w158 : WD h143 (102 + 8 * i + 2 * 1) (fun z => (fun z => (A 1) z) z &&& (B 1) z) := WD_1 hk146 (by omega) w127
  have hK159 := K3_1 (w := 2) (by decide) hK138 hk146
  refine r_iload rfl dX3_sayAsCut_71 rfl ?_
  refine r_iload_n rfl dX3_sayAsCut_73 rfl ?_
  refine cl_X3_68 rfl rfl dX3_sayAsCut_74 (Nat.le_of_ble_eq_true rfl) s_X3_joinsv ?_
  rintro _ h160 _ ⟨rfl, e161, rfl⟩
  replace e161 := e161.symm
  subst e161
  refine r_eqi (y := 0) (by decide) ?_
  refine r_if_eq (tgt := 95) rfl rfl dX3_sayAsCut_77 (fun _ => ?_) (fun zc => absurd zc (by decide))
  refine r_aload_n rfl dX3_sayAsCut_95 rfl ?_
  refine r_getv 0 rfl dX3_sayAsCut_96 (show 2 ≤ 100 + 8 * i ∧ 100 + 8 * i < 434 by omega) f148 fl_X3_11 rfl ?_
  refine r_iload rfl dX3_sayAsCut_99 rfl ?_
  refine r_aald (jn := 2) (v := .ref (102 + 8 * i + 2 * 2)) rfl dX3_sayAsCut_101 (show 2 ≤ 101 + 8 * i ∧ 101 + 8 * i < 434 by omega).1 (show 2 ≤ 101 + 8 * i ∧ 101 + 8 * i < 434 by omega).2 (hS145.say (i := i) (by omega)) (by decide) (vp_in_nI (n := 2) (by omega) (by decide)) (nI_clamp (n := 2) (by omega)) (by show va_rf (if _ < _ then _ else _) = _; rw [if_pos (show 2 < 3 by omega)]; rfl) ?_
  refine r_aload rfl dX3_sayAsCut_102 rfl ?_
  obtain ⟨t162, hw163⟩ := w147.is hS145 (wsAt_ln (i := i) (w := 2) (by omega) (by omega))
  obtain ⟨t164, hw165⟩ := w156.is hS145 (wsAt_ln (i := m) (w := 2) (by omega) (by omega))
  refine cl_X3_75 rfl rfl dX3_sayAsCut_104 (show _ ∧ _ from ⟨((wsAt_ln (i := i) (w := 2) (by omega) (by omega))).2.2.1, Nat.lt_of_succ_lt ((wsAt_ln (i := i) (w := 2) (by omega) (by omega))).2.2.2⟩).1 (show _ ∧ _ from ⟨((wsAt_ln (i := i) (w := 2) (by omega) (by omega))).2.2.1, Nat.lt_of_succ_lt ((wsAt_ln (i := i) (w := 2) (by omega) (by omega))).2.2.2⟩).2 hw163.2.2.1 (Nat.le_of_ble_eq_true rfl) (s_X10_meet hw163 hw165 (by omega)) ?_
  rintro _ h166 _ ⟨rfl, eh167, rfl⟩
  have hS168 := SH_p hS145 (wsAt_ln (i := i) (w := 2) (by omega) (by omega)) eh167
  have hk169 : K1 (102 + 8 * i + 2 * 2) h143 h166 := K1_up eh167
  have w170 : WD h166 (102 + 8 * i + 2 * 2) (fun z => (fun z => (A 2) z) z &&& (B 2) z) := WD_up eh167 rfl rfl rfl rfl
  have f171 : h166 (100 + 8 * i) = .inr (3, [.ref (101 + 8 * i), .int p, .int t, .int o, .int a, .int b, .int l]) := (hk169 _ (fun z => (nSP_ln (i := i) (by omega)) ⟨_, (wsAt_ln (i := i) (w := 2) (by omega) (by omega)), z⟩)).trans f148
  have f172 : h166 (100 + 8 * j) = .inr (3, [.ref (101 + 8 * j), .int p1, .int t1, .int o1, .int a1, .int b1, .int l1]) := (hk169 _ (fun z => (nSP_ln (i := j) (by omega)) ⟨_, (wsAt_ln (i := i) (w := 2) (by omega) (by omega)), z⟩)).trans f149
  have f173 : h166 (100 + 8 * m) = .inr (3, [.ref (101 + 8 * m), .int p2, .int t2, .int o2, .int a2, .int b2, .int l2]) := (hk169 _ (fun z => (nSP_ln (i := m) (by omega)) ⟨_, (wsAt_ln (i := i) (w := 2) (by omega) (by omega)), z⟩)).trans f150
  have w174 : WD h166 (102 + 8 * j + 2 * 0) (A 0) := WD_1 hk169 (by omega) w151
  have w175 : WD h166 (102 + 8 * j + 2 * 1) (A 1) := WD_1 hk169 (by omega) w152
  have w176 : WD h166 (102 + 8 * j + 2 * 2) (A 2) := WD_1 hk169 (by omega) w153
  have w177 : WD h166 (102 + 8 * m + 2 * 0) (B 0) := WD_1 hk169 (by omega) w154
  have w178 : WD h166 (102 + 8 * m + 2 * 1) (B 1) := WD_1 hk169 (by omega) w155
  have w179 : WD h166 (102 + 8 * m + 2 * 2) (B 2) := WD_1 hk169 (by omega) w156
  have w180 : WD h166 (102 + 8 * i + 2 * 0) (fun z => (fun z => (A 0) z) z &&& (B 0) z) := WD_1 hk169 (by omega) w157
  have w181 : WD h166 (102 + 8 * i + 2 * 1) (fun z => (fun z => (A 1) z) z &&& (B 1) z) := WD_1 hk169 (by omega) w158
  have hK182 := K3_1 (w := 2) (by decide) hK159 hk169
  refine r_iinc (y := 3) (ls' := [some (.ref (100 + 8 * i)), some (.ref (100 + 8 * j)), some (.ref (100 + 8 * m)), some (.int 2), some (.int 3), some (.ref (102 + 8 * j + 2 * 2)), some (.ref (102 + 8 * m + 2 * 2))]) rfl dX3_sayAsCut_107 rfl (by decide) (Nat.le_of_ble_eq_true rfl) rfl ?_
  refine r_goto (pc' := 3) rfl dX3_sayAsCut_110 ?_
  refine r_iload rfl dX3_sayAsCut_3 rfl ?_
  refine r_iconst (v := 3) rfl dX3_sayAsCut_5 (by decide) ?_
  refine r_icmp_ge (tgt := 113) rfl rfl dX3_sayAsCut_6 (fun _ => ?_) (fun zc => absurd zc (by decide))
  exact r_ret dX3_sayAsCut_113 (rt_v rfl) ⟨rfl, hS168, hK182, W3 (WD_cg (fun z _ => by rw [cuV, if_neg (by decide), if_neg (by decide)]) w180) (WD_cg (fun z _ => by rw [cuV, if_neg (by decide), if_neg (by decide)]) w181) (WD_cg (fun z _ => by rw [cuV, if_neg (by decide), if_neg (by decide)]) w170), rfl⟩
set_option maxRecDepth 20000 in
set_option maxHeartbeats 1000000 in
theorem v_sayAsCut3 {xs : Nat → Int32} {L d : Nat} {h : ev_H} {i j m : Nat} {p t o a b l p1 t1 o1 a1 b1 l1 p2 t2 o2 a2 b2 l2 : Int32} {A B : Nat → Nat → Int64} (hS : SH h) (hi : i < 40) (fl : h (100 + 8 * i) = cLn i p t o a b l) (hj : j < 40) (hm : m < 40) (fj : h (100 + 8 * j) = cLn j p1 t1 o1 a1 b1 l1) (fm : h (100 + 8 * m) = cLn m p2 t2 o2 a2 b2 l2) (hij : i ≠ j) (him : i ≠ m) (hji : j < i) (hmi : m < i) (hA : ∀ w, w < 3 → WD h (102 + 8 * j + 2 * w) (A w)) (hB : ∀ w, w < 3 → WD h (102 + 8 * m + 2 * w) (B w)) : EV xs L (d + 2) 0 0 M_X3_sayAsCut 434 h 0 [some (.ref (100 + 8 * i)), some (.ref (100 + 8 * j)), some (.ref (100 + 8 * m)), some (.int 3), none, none, none] [] (fun sz' h' r => sz' = 434 ∧ SH h' ∧ K3 i h h' ∧ (∀ w, w < 3 → WD h' (102 + 8 * i + 2 * w) (cuV 3 l w (A w) (B w))) ∧ r = []) := by
  have w51 : WD h (102 + 8 * j + 2 * 0) (A 0) := hA 0 (by decide)
  have w52 : WD h (102 + 8 * j + 2 * 1) (A 1) := hA 1 (by decide)
  have w53 : WD h (102 + 8 * j + 2 * 2) (A 2) := hA 2 (by decide)
  have w54 : WD h (102 + 8 * m + 2 * 0) (B 0) := hB 0 (by decide)
  have w55 : WD h (102 + 8 * m + 2 * 1) (B 1) := hB 1 (by decide)
  have w56 : WD h (102 + 8 * m + 2 * 2) (B 2) := hB 2 (by decide)
  refine r_iconst (v := 0) rfl dX3_sayAsCut_0 (by decide) ?_
  refine r_istore (ls' := [some (.ref (100 + 8 * i)), some (.ref (100 + 8 * j)), some (.ref (100 + 8 * m)), some (.int 3), some (.int 0), none, none]) rfl dX3_sayAsCut_1 (Nat.le_of_ble_eq_true rfl) rfl ?_
  refine r_iload rfl dX3_sayAsCut_3 rfl ?_
  refine r_iconst (v := 3) rfl dX3_sayAsCut_5 (by decide) ?_
  refine r_icmp_ge (tgt := 113) rfl rfl dX3_sayAsCut_6 (fun zc => absurd zc (by decide)) (fun _ => ?_)
  refine r_aload_n rfl dX3_sayAsCut_9 rfl ?_
  refine r_getv 0 rfl dX3_sayAsCut_10 (show 2 ≤ 100 + 8 * j ∧ 100 + 8 * j < 434 by omega) fj fl_X3_11 rfl ?_
  refine r_iload rfl dX3_sayAsCut_13 rfl ?_
  refine r_aald (jn := 0) (v := .ref (102 + 8 * j + 2 * 0)) rfl dX3_sayAsCut_15 (show 2 ≤ 101 + 8 * j ∧ 101 + 8 * j < 434 by omega).1 (show 2 ≤ 101 + 8 * j ∧ 101 + 8 * j < 434 by omega).2 (hS.say (i := j) (by omega)) (by decide) (vp_in_nI (n := 0) (by omega) (by decide)) (nI_clamp (n := 0) (by omega)) (by show va_rf (if _ < _ then _ else _) = _; rw [if_pos (show 0 < 3 by omega)]; rfl) ?_
  refine r_astore (ls' := [some (.ref (100 + 8 * i)), some (.ref (100 + 8 * j)), some (.ref (100 + 8 * m)), some (.int 3), some (.int 0), some (.ref (102 + 8 * j + 2 * 0)), none]) rfl dX3_sayAsCut_16 (Nat.le_of_ble_eq_true rfl) rfl ?_
  refine r_aload_n rfl dX3_sayAsCut_18 rfl ?_
  refine r_getv 0 rfl dX3_sayAsCut_19 (show 2 ≤ 100 + 8 * m ∧ 100 + 8 * m < 434 by omega) fm fl_X3_11 rfl ?_
  refine r_iload rfl dX3_sayAsCut_22 rfl ?_
  refine r_aald (jn := 0) (v := .ref (102 + 8 * m + 2 * 0)) rfl dX3_sayAsCut_24 (show 2 ≤ 101 + 8 * m ∧ 101 + 8 * m < 434 by omega).1 (show 2 ≤ 101 + 8 * m ∧ 101 + 8 * m < 434 by omega).2 (hS.say (i := m) (by omega)) (by decide) (vp_in_nI (n := 0) (by omega) (by decide)) (nI_clamp (n := 0) (by omega)) (by show va_rf (if _ < _ then _ else _) = _; rw [if_pos (show 0 < 3 by omega)]; rfl) ?_
  refine r_astore (ls' := [some (.ref (100 + 8 * i)), some (.ref (100 + 8 * j)), some (.ref (100 + 8 * m)), some (.int 3), some (.int 0), some (.ref (102 + 8 * j + 2 * 0)), some (.ref (102 + 8 * m + 2 * 0))]) rfl dX3_sayAsCut_25 (Nat.le_of_ble_eq_true rfl) rfl ?_
  refine r_iload rfl dX3_sayAsCut_27 rfl ?_
  refine r_iconst (v := 2) rfl dX3_sayAsCut_29 (by decide) ?_
  refine r_icmp_ne (tgt := 59) rfl rfl dX3_sayAsCut_30 (fun _ => ?_) (fun zc => absurd zc (by decide))
  refine r_aload_n rfl dX3_sayAsCut_59 rfl ?_
  refine r_getv 0 rfl dX3_sayAsCut_60 (show 2 ≤ 100 + 8 * i ∧ 100 + 8 * i < 434 by omega) fl fl_X3_11 rfl ?_
  refine r_iload rfl dX3_sayAsCut_63 rfl ?_
  refine r_aald (jn := 0) (v := .ref (102 + 8 * i + 2 * 0)) rfl dX3_sayAsCut_65 (show 2 ≤ 101 + 8 * i ∧ 101 + 8 * i < 434 by omega).1 (show 2 ≤ 101 + 8 * i ∧ 101 + 8 * i < 434 by omega).2 (hS.say (i := i) (by omega)) (by decide) (vp_in_nI (n := 0) (by omega) (by decide)) (nI_clamp (n := 0) (by omega)) (by show va_rf (if _ < _ then _ else _) = _; rw [if_pos (show 0 < 3 by omega)]; rfl) ?_
  refine r_aload rfl dX3_sayAsCut_66 rfl ?_
  obtain ⟨g57, hw58⟩ := hS.ws (wsAt_ln (i := i) (w := 0) (by omega) (by omega))
  obtain ⟨t59, hw60⟩ := w51.is hS (wsAt_ln (i := j) (w := 0) (by omega) (by omega))
  refine cl_X3_64 rfl rfl dX3_sayAsCut_68 (show _ ∧ _ from ⟨((wsAt_ln (i := i) (w := 0) (by omega) (by omega))).2.2.1, Nat.lt_of_succ_lt ((wsAt_ln (i := i) (w := 0) (by omega) (by omega))).2.2.2⟩).1 (show _ ∧ _ from ⟨((wsAt_ln (i := i) (w := 0) (by omega) (by omega))).2.2.1, Nat.lt_of_succ_lt ((wsAt_ln (i := i) (w := 0) (by omega) (by omega))).2.2.2⟩).2 hw58.2.2.1 (Nat.le_of_ble_eq_true rfl) (s_X10_become hw58 hw60 (by omega)) ?_
  rintro _ h61 _ ⟨rfl, eh62, rfl⟩
  have hS63 := SH_p hS (wsAt_ln (i := i) (w := 0) (by omega) (by omega)) eh62
  have hk64 : K1 (102 + 8 * i + 2 * 0) h h61 := K1_up eh62
  have w65 : WD h61 (102 + 8 * i + 2 * 0) (fun z => (A 0) z) := WD_up eh62 rfl rfl rfl rfl
  have f66 : h61 (100 + 8 * i) = .inr (3, [.ref (101 + 8 * i), .int p, .int t, .int o, .int a, .int b, .int l]) := (hk64 _ (fun z => (nSP_ln (i := i) (by omega)) ⟨_, (wsAt_ln (i := i) (w := 0) (by omega) (by omega)), z⟩)).trans fl
  have f67 : h61 (100 + 8 * j) = .inr (3, [.ref (101 + 8 * j), .int p1, .int t1, .int o1, .int a1, .int b1, .int l1]) := (hk64 _ (fun z => (nSP_ln (i := j) (by omega)) ⟨_, (wsAt_ln (i := i) (w := 0) (by omega) (by omega)), z⟩)).trans fj
  have f68 : h61 (100 + 8 * m) = .inr (3, [.ref (101 + 8 * m), .int p2, .int t2, .int o2, .int a2, .int b2, .int l2]) := (hk64 _ (fun z => (nSP_ln (i := m) (by omega)) ⟨_, (wsAt_ln (i := i) (w := 0) (by omega) (by omega)), z⟩)).trans fm
  have w69 : WD h61 (102 + 8 * j + 2 * 0) (A 0) := WD_1 hk64 (by omega) w51
  have w70 : WD h61 (102 + 8 * j + 2 * 1) (A 1) := WD_1 hk64 (by omega) w52
  have w71 : WD h61 (102 + 8 * j + 2 * 2) (A 2) := WD_1 hk64 (by omega) w53
  have w72 : WD h61 (102 + 8 * m + 2 * 0) (B 0) := WD_1 hk64 (by omega) w54
  have w73 : WD h61 (102 + 8 * m + 2 * 1) (B 1) := WD_1 hk64 (by omega) w55
  have w74 : WD h61 (102 + 8 * m + 2 * 2) (B 2) := WD_1 hk64 (by omega) w56
  have hK75 := K3_1 (w := 0) (by decide) (K3_rf i h) hk64
  refine r_iload rfl dX3_sayAsCut_71 rfl ?_
  refine r_iload_n rfl dX3_sayAsCut_73 rfl ?_
  refine cl_X3_68 rfl rfl dX3_sayAsCut_74 (Nat.le_of_ble_eq_true rfl) s_X3_joinsv ?_
  rintro _ h76 _ ⟨rfl, e77, rfl⟩
  replace e77 := e77.symm
  subst e77
  refine r_eqi (y := 0) (by decide) ?_
  refine r_if_eq (tgt := 95) rfl rfl dX3_sayAsCut_77 (fun _ => ?_) (fun zc => absurd zc (by decide))
  refine r_aload_n rfl dX3_sayAsCut_95 rfl ?_
  refine r_getv 0 rfl dX3_sayAsCut_96 (show 2 ≤ 100 + 8 * i ∧ 100 + 8 * i < 434 by omega) f66 fl_X3_11 rfl ?_
  refine r_iload rfl dX3_sayAsCut_99 rfl ?_
  refine r_aald (jn := 0) (v := .ref (102 + 8 * i + 2 * 0)) rfl dX3_sayAsCut_101 (show 2 ≤ 101 + 8 * i ∧ 101 + 8 * i < 434 by omega).1 (show 2 ≤ 101 + 8 * i ∧ 101 + 8 * i < 434 by omega).2 (hS63.say (i := i) (by omega)) (by decide) (vp_in_nI (n := 0) (by omega) (by decide)) (nI_clamp (n := 0) (by omega)) (by show va_rf (if _ < _ then _ else _) = _; rw [if_pos (show 0 < 3 by omega)]; rfl) ?_
  refine r_aload rfl dX3_sayAsCut_102 rfl ?_
  obtain ⟨t78, hw79⟩ := w65.is hS63 (wsAt_ln (i := i) (w := 0) (by omega) (by omega))
  obtain ⟨t80, hw81⟩ := w72.is hS63 (wsAt_ln (i := m) (w := 0) (by omega) (by omega))
  refine cl_X3_75 rfl rfl dX3_sayAsCut_104 (show _ ∧ _ from ⟨((wsAt_ln (i := i) (w := 0) (by omega) (by omega))).2.2.1, Nat.lt_of_succ_lt ((wsAt_ln (i := i) (w := 0) (by omega) (by omega))).2.2.2⟩).1 (show _ ∧ _ from ⟨((wsAt_ln (i := i) (w := 0) (by omega) (by omega))).2.2.1, Nat.lt_of_succ_lt ((wsAt_ln (i := i) (w := 0) (by omega) (by omega))).2.2.2⟩).2 hw79.2.2.1 (Nat.le_of_ble_eq_true rfl) (s_X10_meet hw79 hw81 (by omega)) ?_
  rintro _ h82 _ ⟨rfl, eh83, rfl⟩
  have hS84 := SH_p hS63 (wsAt_ln (i := i) (w := 0) (by omega) (by omega)) eh83
  have hk85 : K1 (102 + 8 * i + 2 * 0) h61 h82 := K1_up eh83
  have w86 : WD h82 (102 + 8 * i + 2 * 0) (fun z => (fun z => (A 0) z) z &&& (B 0) z) := WD_up eh83 rfl rfl rfl rfl
  have f87 : h82 (100 + 8 * i) = .inr (3, [.ref (101 + 8 * i), .int p, .int t, .int o, .int a, .int b, .int l]) := (hk85 _ (fun z => (nSP_ln (i := i) (by omega)) ⟨_, (wsAt_ln (i := i) (w := 0) (by omega) (by omega)), z⟩)).trans f66
  have f88 : h82 (100 + 8 * j) = .inr (3, [.ref (101 + 8 * j), .int p1, .int t1, .int o1, .int a1, .int b1, .int l1]) := (hk85 _ (fun z => (nSP_ln (i := j) (by omega)) ⟨_, (wsAt_ln (i := i) (w := 0) (by omega) (by omega)), z⟩)).trans f67
  have f89 : h82 (100 + 8 * m) = .inr (3, [.ref (101 + 8 * m), .int p2, .int t2, .int o2, .int a2, .int b2, .int l2]) := (hk85 _ (fun z => (nSP_ln (i := m) (by omega)) ⟨_, (wsAt_ln (i := i) (w := 0) (by omega) (by omega)), z⟩)).trans f68
  have w90 : WD h82 (102 + 8 * j + 2 * 0) (A 0) := WD_1 hk85 (by omega) w69
  have w91 : WD h82 (102 + 8 * j + 2 * 1) (A 1) := WD_1 hk85 (by omega) w70
  have w92 : WD h82 (102 + 8 * j + 2 * 2) (A 2) := WD_1 hk85 (by omega) w71
  have w93 : WD h82 (102 + 8 * m + 2 * 0) (B 0) := WD_1 hk85 (by omega) w72
  have w94 : WD h82 (102 + 8 * m + 2 * 1) (B 1) := WD_1 hk85 (by omega) w73
  have w95 : WD h82 (102 + 8 * m + 2 * 2) (B 2) := WD_1 hk85 (by omega) w74
  have hK96 := K3_1 (w := 0) (by decide) hK75 hk85
  refine r_iinc (y := 1) (ls' := [some (.ref (100 + 8 * i)), some (.ref (100 + 8 * j)), some (.ref (100 + 8 * m)), some (.int 3), some (.int 1), some (.ref (102 + 8 * j + 2 * 0)), some (.ref (102 + 8 * m + 2 * 0))]) rfl dX3_sayAsCut_107 rfl (by decide) (Nat.le_of_ble_eq_true rfl) rfl ?_
  refine r_goto (pc' := 3) rfl dX3_sayAsCut_110 ?_
  refine r_iload rfl dX3_sayAsCut_3 rfl ?_
  refine r_iconst (v := 3) rfl dX3_sayAsCut_5 (by decide) ?_
  refine r_icmp_ge (tgt := 113) rfl rfl dX3_sayAsCut_6 (fun zc => absurd zc (by decide)) (fun _ => ?_)
  refine r_aload_n rfl dX3_sayAsCut_9 rfl ?_
  refine r_getv 0 rfl dX3_sayAsCut_10 (show 2 ≤ 100 + 8 * j ∧ 100 + 8 * j < 434 by omega) f88 fl_X3_11 rfl ?_
  refine r_iload rfl dX3_sayAsCut_13 rfl ?_
  refine r_aald (jn := 1) (v := .ref (102 + 8 * j + 2 * 1)) rfl dX3_sayAsCut_15 (show 2 ≤ 101 + 8 * j ∧ 101 + 8 * j < 434 by omega).1 (show 2 ≤ 101 + 8 * j ∧ 101 + 8 * j < 434 by omega).2 (hS84.say (i := j) (by omega)) (by decide) (vp_in_nI (n := 1) (by omega) (by decide)) (nI_clamp (n := 1) (by omega)) (by show va_rf (if _ < _ then _ else _) = _; rw [if_pos (show 1 < 3 by omega)]; rfl) ?_
  refine r_astore (ls' := [some (.ref (100 + 8 * i)), some (.ref (100 + 8 * j)), some (.ref (100 + 8 * m)), some (.int 3), some (.int 1), some (.ref (102 + 8 * j + 2 * 1)), some (.ref (102 + 8 * m + 2 * 0))]) rfl dX3_sayAsCut_16 (Nat.le_of_ble_eq_true rfl) rfl ?_
  refine r_aload_n rfl dX3_sayAsCut_18 rfl ?_
  refine r_getv 0 rfl dX3_sayAsCut_19 (show 2 ≤ 100 + 8 * m ∧ 100 + 8 * m < 434 by omega) f89 fl_X3_11 rfl ?_
  refine r_iload rfl dX3_sayAsCut_22 rfl ?_
  refine r_aald (jn := 1) (v := .ref (102 + 8 * m + 2 * 1)) rfl dX3_sayAsCut_24 (show 2 ≤ 101 + 8 * m ∧ 101 + 8 * m < 434 by omega).1 (show 2 ≤ 101 + 8 * m ∧ 101 + 8 * m < 434 by omega).2 (hS84.say (i := m) (by omega)) (by decide) (vp_in_nI (n := 1) (by omega) (by decide)) (nI_clamp (n := 1) (by omega)) (by show va_rf (if _ < _ then _ else _) = _; rw [if_pos (show 1 < 3 by omega)]; rfl) ?_
  refine r_astore (ls' := [some (.ref (100 + 8 * i)), some (.ref (100 + 8 * j)), some (.ref (100 + 8 * m)), some (.int 3), some (.int 1), some (.ref (102 + 8 * j + 2 * 1)), some (.ref (102 + 8 * m + 2 * 1))]) rfl dX3_sayAsCut_25 (Nat.le_of_ble_eq_true rfl) rfl ?_
  refine r_iload rfl dX3_sayAsCut_27 rfl ?_
  refine r_iconst (v := 2) rfl dX3_sayAsCut_29 (by decide) ?_
  refine r_icmp_ne (tgt := 59) rfl rfl dX3_sayAsCut_30 (fun _ => ?_) (fun zc => absurd zc (by decide))
  refine r_aload_n rfl dX3_sayAsCut_59 rfl ?_
  refine r_getv 0 rfl dX3_sayAsCut_60 (show 2 ≤ 100 + 8 * i ∧ 100 + 8 * i < 434 by omega) f87 fl_X3_11 rfl ?_
  refine r_iload rfl dX3_sayAsCut_63 rfl ?_
  refine r_aald (jn := 1) (v := .ref (102 + 8 * i + 2 * 1)) rfl dX3_sayAsCut_65 (show 2 ≤ 101 + 8 * i ∧ 101 + 8 * i < 434 by omega).1 (show 2 ≤ 101 + 8 * i ∧ 101 + 8 * i < 434 by omega).2 (hS84.say (i := i) (by omega)) (by decide) (vp_in_nI (n := 1) (by omega) (by decide)) (nI_clamp (n := 1) (by omega)) (by show va_rf (if _ < _ then _ else _) = _; rw [if_pos (show 1 < 3 by omega)]; rfl) ?_
  refine r_aload rfl dX3_sayAsCut_66 rfl ?_
  obtain ⟨g97, hw98⟩ := hS84.ws (wsAt_ln (i := i) (w := 1) (by omega) (by omega))
  obtain ⟨t99, hw100⟩ := w91.is hS84 (wsAt_ln (i := j) (w := 1) (by omega) (by omega))
  refine cl_X3_64 rfl rfl dX3_sayAsCut_68 (show _ ∧ _ from ⟨((wsAt_ln (i := i) (w := 1) (by omega) (by omega))).2.2.1, Nat.lt_of_succ_lt ((wsAt_ln (i := i) (w := 1) (by omega) (by omega))).2.2.2⟩).1 (show _ ∧ _ from ⟨((wsAt_ln (i := i) (w := 1) (by omega) (by omega))).2.2.1, Nat.lt_of_succ_lt ((wsAt_ln (i := i) (w := 1) (by omega) (by omega))).2.2.2⟩).2 hw98.2.2.1 (Nat.le_of_ble_eq_true rfl) (s_X10_become hw98 hw100 (by omega)) ?_
  rintro _ h101 _ ⟨rfl, eh102, rfl⟩
  have hS103 := SH_p hS84 (wsAt_ln (i := i) (w := 1) (by omega) (by omega)) eh102
  have hk104 : K1 (102 + 8 * i + 2 * 1) h82 h101 := K1_up eh102
  have w105 : WD h101 (102 + 8 * i + 2 * 1) (fun z => (A 1) z) := WD_up eh102 rfl rfl rfl rfl
  have f106 : h101 (100 + 8 * i) = .inr (3, [.ref (101 + 8 * i), .int p, .int t, .int o, .int a, .int b, .int l]) := (hk104 _ (fun z => (nSP_ln (i := i) (by omega)) ⟨_, (wsAt_ln (i := i) (w := 1) (by omega) (by omega)), z⟩)).trans f87
  have f107 : h101 (100 + 8 * j) = .inr (3, [.ref (101 + 8 * j), .int p1, .int t1, .int o1, .int a1, .int b1, .int l1]) := (hk104 _ (fun z => (nSP_ln (i := j) (by omega)) ⟨_, (wsAt_ln (i := i) (w := 1) (by omega) (by omega)), z⟩)).trans f88
  have f108 : h101 (100 + 8 * m) = .inr (3, [.ref (101 + 8 * m), .int p2, .int t2, .int o2, .int a2, .int b2, .int l2]) := (hk104 _ (fun z => (nSP_ln (i := m) (by omega)) ⟨_, (wsAt_ln (i := i) (w := 1) (by omega) (by omega)), z⟩)).trans f89
  have w109 : WD h101 (102 + 8 * j + 2 * 0) (A 0) := WD_1 hk104 (by omega) w90
  have w110 : WD h101 (102 + 8 * j + 2 * 1) (A 1) := WD_1 hk104 (by omega) w91
  have w111 : WD h101 (102 + 8 * j + 2 * 2) (A 2) := WD_1 hk104 (by omega) w92
  have w112 : WD h101 (102 + 8 * m + 2 * 0) (B 0) := WD_1 hk104 (by omega) w93
  have w113 : WD h101 (102 + 8 * m + 2 * 1) (B 1) := WD_1 hk104 (by omega) w94
  have w114 : WD h101 (102 + 8 * m + 2 * 2) (B 2) := WD_1 hk104 (by omega) w95
  have w115 : WD h101 (102 + 8 * i + 2 * 0) (fun z => (fun z => (A 0) z) z &&& (B 0) z) := WD_1 hk104 (by omega) w86
  have hK116 := K3_1 (w := 1) (by decide) hK96 hk104
  refine r_iload rfl dX3_sayAsCut_71 rfl ?_
  refine r_iload_n rfl dX3_sayAsCut_73 rfl ?_
  refine cl_X3_68 rfl rfl dX3_sayAsCut_74 (Nat.le_of_ble_eq_true rfl) s_X3_joinsv ?_
  rintro _ h117 _ ⟨rfl, e118, rfl⟩
  replace e118 := e118.symm
  subst e118
  refine r_eqi (y := 1) (by decide) ?_
  refine r_if_eq (tgt := 95) rfl rfl dX3_sayAsCut_77 (fun zc => absurd zc (by decide)) (fun _ => ?_)
  refine r_aload_n rfl dX3_sayAsCut_80 rfl ?_
  refine r_getv 0 rfl dX3_sayAsCut_81 (show 2 ≤ 100 + 8 * i ∧ 100 + 8 * i < 434 by omega) f106 fl_X3_11 rfl ?_
  refine r_iload rfl dX3_sayAsCut_84 rfl ?_
  refine r_aald (jn := 1) (v := .ref (102 + 8 * i + 2 * 1)) rfl dX3_sayAsCut_86 (show 2 ≤ 101 + 8 * i ∧ 101 + 8 * i < 434 by omega).1 (show 2 ≤ 101 + 8 * i ∧ 101 + 8 * i < 434 by omega).2 (hS103.say (i := i) (by omega)) (by decide) (vp_in_nI (n := 1) (by omega) (by decide)) (nI_clamp (n := 1) (by omega)) (by show va_rf (if _ < _ then _ else _) = _; rw [if_pos (show 1 < 3 by omega)]; rfl) ?_
  refine r_aload rfl dX3_sayAsCut_87 rfl ?_
  obtain ⟨t119, hw120⟩ := w105.is hS103 (wsAt_ln (i := i) (w := 1) (by omega) (by omega))
  obtain ⟨t121, hw122⟩ := w113.is hS103 (wsAt_ln (i := m) (w := 1) (by omega) (by omega))
  refine cl_X3_72 rfl rfl dX3_sayAsCut_89 (show _ ∧ _ from ⟨((wsAt_ln (i := i) (w := 1) (by omega) (by omega))).2.2.1, Nat.lt_of_succ_lt ((wsAt_ln (i := i) (w := 1) (by omega) (by omega))).2.2.2⟩).1 (show _ ∧ _ from ⟨((wsAt_ln (i := i) (w := 1) (by omega) (by omega))).2.2.1, Nat.lt_of_succ_lt ((wsAt_ln (i := i) (w := 1) (by omega) (by omega))).2.2.2⟩).2 hw120.2.2.1 (Nat.le_of_ble_eq_true rfl) (s_X10_join hw120 hw122 (by omega)) ?_
  rintro _ h123 _ ⟨rfl, eh124, rfl⟩
  have hS125 := SH_p hS103 (wsAt_ln (i := i) (w := 1) (by omega) (by omega)) eh124
  have hk126 : K1 (102 + 8 * i + 2 * 1) h101 h123 := K1_up eh124
  have w127 : WD h123 (102 + 8 * i + 2 * 1) (fun z => (fun z => (A 1) z) z ||| (B 1) z) := WD_up eh124 rfl rfl rfl rfl
  have f128 : h123 (100 + 8 * i) = .inr (3, [.ref (101 + 8 * i), .int p, .int t, .int o, .int a, .int b, .int l]) := (hk126 _ (fun z => (nSP_ln (i := i) (by omega)) ⟨_, (wsAt_ln (i := i) (w := 1) (by omega) (by omega)), z⟩)).trans f106
  have f129 : h123 (100 + 8 * j) = .inr (3, [.ref (101 + 8 * j), .int p1, .int t1, .int o1, .int a1, .int b1, .int l1]) := (hk126 _ (fun z => (nSP_ln (i := j) (by omega)) ⟨_, (wsAt_ln (i := i) (w := 1) (by omega) (by omega)), z⟩)).trans f107
  have f130 : h123 (100 + 8 * m) = .inr (3, [.ref (101 + 8 * m), .int p2, .int t2, .int o2, .int a2, .int b2, .int l2]) := (hk126 _ (fun z => (nSP_ln (i := m) (by omega)) ⟨_, (wsAt_ln (i := i) (w := 1) (by omega) (by omega)), z⟩)).trans f108
  have w131 : WD h123 (102 + 8 * j + 2 * 0) (A 0) := WD_1 hk126 (by omega) w109
  have w132 : WD h123 (102 + 8 * j + 2 * 1) (A 1) := WD_1 hk126 (by omega) w110
  have w133 : WD h123 (102 + 8 * j + 2 * 2) (A 2) := WD_1 hk126 (by omega) w111
  have w134 : WD h123 (102 + 8 * m + 2 * 0) (B 0) := WD_1 hk126 (by omega) w112
  have w135 : WD h123 (102 + 8 * m + 2 * 1) (B 1) := WD_1 hk126 (by omega) w113
  have w136 : WD h123 (102 + 8 * m + 2 * 2) (B 2) := WD_1 hk126 (by omega) w114
  have w137 : WD h123 (102 + 8 * i + 2 * 0) (fun z => (fun z => (A 0) z) z &&& (B 0) z) := WD_1 hk126 (by omega) w115
  have hK138 := K3_1 (w := 1) (by decide) hK116 hk126
  refine r_goto (pc' := 107) rfl dX3_sayAsCut_92 ?_
  refine r_iinc (y := 2) (ls' := [some (.ref (100 + 8 * i)), some (.ref (100 + 8 * j)), some (.ref (100 + 8 * m)), some (.int 3), some (.int 2), some (.ref (102 + 8 * j + 2 * 1)), some (.ref (102 + 8 * m + 2 * 1))]) rfl dX3_sayAsCut_107 rfl (by decide) (Nat.le_of_ble_eq_true rfl) rfl ?_
  refine r_goto (pc' := 3) rfl dX3_sayAsCut_110 ?_
  refine r_iload rfl dX3_sayAsCut_3 rfl ?_
  refine r_iconst (v := 3) rfl dX3_sayAsCut_5 (by decide) ?_
  refine r_icmp_ge (tgt := 113) rfl rfl dX3_sayAsCut_6 (fun zc => absurd zc (by decide)) (fun _ => ?_)
  refine r_aload_n rfl dX3_sayAsCut_9 rfl ?_
  refine r_getv 0 rfl dX3_sayAsCut_10 (show 2 ≤ 100 + 8 * j ∧ 100 + 8 * j < 434 by omega) f129 fl_X3_11 rfl ?_
  refine r_iload rfl dX3_sayAsCut_13 rfl ?_
  refine r_aald (jn := 2) (v := .ref (102 + 8 * j + 2 * 2)) rfl dX3_sayAsCut_15 (show 2 ≤ 101 + 8 * j ∧ 101 + 8 * j < 434 by omega).1 (show 2 ≤ 101 + 8 * j ∧ 101 + 8 * j < 434 by omega).2 (hS125.say (i := j) (by omega)) (by decide) (vp_in_nI (n := 2) (by omega) (by decide)) (nI_clamp (n := 2) (by omega)) (by show va_rf (if _ < _ then _ else _) = _; rw [if_pos (show 2 < 3 by omega)]; rfl) ?_
  refine r_astore (ls' := [some (.ref (100 + 8 * i)), some (.ref (100 + 8 * j)), some (.ref (100 + 8 * m)), some (.int 3), some (.int 2), some (.ref (102 + 8 * j + 2 * 2)), some (.ref (102 + 8 * m + 2 * 1))]) rfl dX3_sayAsCut_16 (Nat.le_of_ble_eq_true rfl) rfl ?_
  refine r_aload_n rfl dX3_sayAsCut_18 rfl ?_
  refine r_getv 0 rfl dX3_sayAsCut_19 (show 2 ≤ 100 + 8 * m ∧ 100 + 8 * m < 434 by omega) f130 fl_X3_11 rfl ?_
  refine r_iload rfl dX3_sayAsCut_22 rfl ?_
  refine r_aald (jn := 2) (v := .ref (102 + 8 * m + 2 * 2)) rfl dX3_sayAsCut_24 (show 2 ≤ 101 + 8 * m ∧ 101 + 8 * m < 434 by omega).1 (show 2 ≤ 101 + 8 * m ∧ 101 + 8 * m < 434 by omega).2 (hS125.say (i := m) (by omega)) (by decide) (vp_in_nI (n := 2) (by omega) (by decide)) (nI_clamp (n := 2) (by omega)) (by show va_rf (if _ < _ then _ else _) = _; rw [if_pos (show 2 < 3 by omega)]; rfl) ?_
  refine r_astore (ls' := [some (.ref (100 + 8 * i)), some (.ref (100 + 8 * j)), some (.ref (100 + 8 * m)), some (.int 3), some (.int 2), some (.ref (102 + 8 * j + 2 * 2)), some (.ref (102 + 8 * m + 2 * 2))]) rfl dX3_sayAsCut_25 (Nat.le_of_ble_eq_true rfl) rfl ?_
  refine r_iload rfl dX3_sayAsCut_27 rfl ?_
  refine r_iconst (v := 2) rfl dX3_sayAsCut_29 (by decide) ?_
  refine r_icmp_ne (tgt := 59) rfl rfl dX3_sayAsCut_30 (fun zc => absurd zc (by decide)) (fun _ => ?_)
  refine r_iload_n rfl dX3_sayAsCut_33 rfl ?_
  refine r_iconst (v := 3) rfl dX3_sayAsCut_34 (by decide) ?_
  refine r_icmp_ne (tgt := 59) rfl rfl dX3_sayAsCut_35 (fun zc => absurd zc (by decide)) (fun _ => ?_)
  refine r_aload_n rfl dX3_sayAsCut_38 rfl ?_
  refine r_getv 0 rfl dX3_sayAsCut_39 (show 2 ≤ 100 + 8 * i ∧ 100 + 8 * i < 434 by omega) f128 fl_X3_11 rfl ?_
  refine r_iload rfl dX3_sayAsCut_42 rfl ?_
  refine r_aald (jn := 2) (v := .ref (102 + 8 * i + 2 * 2)) rfl dX3_sayAsCut_44 (show 2 ≤ 101 + 8 * i ∧ 101 + 8 * i < 434 by omega).1 (show 2 ≤ 101 + 8 * i ∧ 101 + 8 * i < 434 by omega).2 (hS125.say (i := i) (by omega)) (by decide) (vp_in_nI (n := 2) (by omega) (by decide)) (nI_clamp (n := 2) (by omega)) (by show va_rf (if _ < _ then _ else _) = _; rw [if_pos (show 2 < 3 by omega)]; rfl) ?_
  refine r_aload_n rfl dX3_sayAsCut_45 rfl ?_
  refine r_getv 6 rfl dX3_sayAsCut_46 (show 2 ≤ 100 + 8 * i ∧ 100 + 8 * i < 434 by omega) f128 fl_X3_24 rfl ?_
  refine r_aload rfl dX3_sayAsCut_49 rfl ?_
  refine r_aload rfl dX3_sayAsCut_51 rfl ?_
  obtain ⟨g139, hw140⟩ := hS125.ws (wsAt_ln (i := i) (w := 2) (by omega) (by omega))
  obtain ⟨t141, hw142⟩ := w136.is hS125 (wsAt_ln (i := m) (w := 2) (by omega) (by omega))
  obtain ⟨t143, hw144⟩ := w133.is hS125 (wsAt_ln (i := j) (w := 2) (by omega) (by omega))
  refine cl_X3_60 rfl rfl dX3_sayAsCut_53 (show _ ∧ _ from ⟨((wsAt_ln (i := i) (w := 2) (by omega) (by omega))).2.2.1, Nat.lt_of_succ_lt ((wsAt_ln (i := i) (w := 2) (by omega) (by omega))).2.2.2⟩).1 (show _ ∧ _ from ⟨((wsAt_ln (i := i) (w := 2) (by omega) (by omega))).2.2.1, Nat.lt_of_succ_lt ((wsAt_ln (i := i) (w := 2) (by omega) (by omega))).2.2.2⟩).2 hw140.2.2.1 (Nat.le_of_ble_eq_true rfl) (s_X10_choose hw140 hw142 hw144 (by omega) (by omega)) ?_
  rintro _ h145 _ ⟨rfl, eh146, rfl⟩
  have hS147 := SH_p hS125 (wsAt_ln (i := i) (w := 2) (by omega) (by omega)) eh146
  have hk148 : K1 (102 + 8 * i + 2 * 2) h123 h145 := K1_up eh146
  have w149 : WD h145 (102 + 8 * i + 2 * 2) (fun z => (pws l (nI z) &&& (B 2) z) ||| ((pws l (nI z) ^^^ (-1)) &&& (A 2) z)) := WD_up eh146 rfl rfl rfl rfl
  have f150 : h145 (100 + 8 * i) = .inr (3, [.ref (101 + 8 * i), .int p, .int t, .int o, .int a, .int b, .int l]) := (hk148 _ (fun z => (nSP_ln (i := i) (by omega)) ⟨_, (wsAt_ln (i := i) (w := 2) (by omega) (by omega)), z⟩)).trans f128
  have f151 : h145 (100 + 8 * j) = .inr (3, [.ref (101 + 8 * j), .int p1, .int t1, .int o1, .int a1, .int b1, .int l1]) := (hk148 _ (fun z => (nSP_ln (i := j) (by omega)) ⟨_, (wsAt_ln (i := i) (w := 2) (by omega) (by omega)), z⟩)).trans f129
  have f152 : h145 (100 + 8 * m) = .inr (3, [.ref (101 + 8 * m), .int p2, .int t2, .int o2, .int a2, .int b2, .int l2]) := (hk148 _ (fun z => (nSP_ln (i := m) (by omega)) ⟨_, (wsAt_ln (i := i) (w := 2) (by omega) (by omega)), z⟩)).trans f130
  have w153 : WD h145 (102 + 8 * j + 2 * 0) (A 0) := WD_1 hk148 (by omega) w131
  have w154 : WD h145 (102 + 8 * j + 2 * 1) (A 1) := WD_1 hk148 (by omega) w132
  have w155 : WD h145 (102 + 8 * j + 2 * 2) (A 2) := WD_1 hk148 (by omega) w133
  have w156 : WD h145 (102 + 8 * m + 2 * 0) (B 0) := WD_1 hk148 (by omega) w134
  have w157 : WD h145 (102 + 8 * m + 2 * 1) (B 1) := WD_1 hk148 (by omega) w135
  have w158 : WD h145 (102 + 8 * m + 2 * 2) (B 2) := WD_1 hk148 (by omega) w136
  have w159 : WD h145 (102 + 8 * i + 2 * 0) (fun z => (fun z => (A 0) z) z &&& (B 0) z) := WD_1 hk148 (by omega) w137
  have w160 : WD h145 (102 + 8 * i + 2 * 1) (fun z => (fun z => (A 1) z) z ||| (B 1) z) := WD_1 hk148 (by omega) w127
  have hK161 := K3_1 (w := 2) (by decide) hK138 hk148
  refine r_goto (pc' := 107) rfl dX3_sayAsCut_56 ?_
  refine r_iinc (y := 3) (ls' := [some (.ref (100 + 8 * i)), some (.ref (100 + 8 * j)), some (.ref (100 + 8 * m)), some (.int 3), some (.int 3), some (.ref (102 + 8 * j + 2 * 2)), some (.ref (102 + 8 * m + 2 * 2))]) rfl dX3_sayAsCut_107 rfl (by decide) (Nat.le_of_ble_eq_true rfl) rfl ?_
  refine r_goto (pc' := 3) rfl dX3_sayAsCut_110 ?_
  refine r_iload rfl dX3_sayAsCut_3 rfl ?_
  refine r_iconst (v := 3) rfl dX3_sayAsCut_5 (by decide) ?_
  refine r_icmp_ge (tgt := 113) rfl rfl dX3_sayAsCut_6 (fun _ => ?_) (fun zc => absurd zc (by decide))
  exact r_ret dX3_sayAsCut_113 (rt_v rfl) ⟨rfl, hS147, hK161, W3 (WD_cg (fun z _ => by rw [cuV, if_neg (by decide), if_neg (by decide)]) w159) (WD_cg (fun z _ => by rw [cuV, if_neg (by decide), if_pos (by decide)]) w160) (WD_cg (fun z _ => by rw [cuV, if_pos (by decide)]) w149), rfl⟩
