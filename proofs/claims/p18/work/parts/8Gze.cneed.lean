/-- the held worlds of the CLAUSES, by the class -/
def HDc (G : Nat → Int32) (c : Nat) (h : ev_H) : Prop := ∀ i, i < c → WD h (27 + 2 * i) (wO (hdB G i))
/-- only Core's numbers and the open sets above k have changed -/
def KNo (k : Nat) (h h' : ev_H) : Prop := ∀ q, q ≠ 24 → q < 62 + 2 * k ∨ 92 < q → h' q = h q
theorem KNo_rf (k : Nat) (h : ev_H) : KNo k h h := fun _ _ _ => rfl
theorem KNo_tr {k : Nat} {a b c : ev_H} (h1 : KNo k a b) (h2 : KNo k b c) : KNo k a c := fun q x y => (h2 q x y).trans (h1 q x y)
theorem KNo_up {k j : Nat} {h h' : ev_H} (h1 : KNo j h h') (hkj : k ≤ j) : KNo k h h' := fun q x y => h1 q x (by omega)
theorem KNo_M {k : Nat} {h h' : ev_H} (h1 : KM [24] h h') : KNo k h h' := fun q x _ => h1 q (by simp only [List.mem_singleton]; exact x)
theorem KNo_1 {k j : Nat} {h h' : ev_H} (h1 : K1 (59 + 2 * j) h h') (hj : k < j) (h16 : j ≤ 16) : KNo k h h' := fun q _ y => h1 q (by omega)
theorem HDc_N {k c : Nat} {G : Nat → Int32} {h h' : ev_H} (hc : c ≤ 16) (hk : KNo k h h') (hD : HDc G c h) : HDc G c h' := fun i hi => by
  obtain ⟨t, e⟩ := hD i hi
  exact ⟨t, (hk _ (by omega) (by omega)).trans e⟩
theorem WD_N {k j : Nat} {V : Nat → Int64} {h h' : ev_H} (hk : KNo k h h') (hj : j ≤ k) (w : WD h (59 + 2 * j) V) : WD h' (59 + 2 * j) V := by
  obtain ⟨t, e⟩ := w
  exact ⟨t, (hk _ (by omega) (by omega)).trans e⟩
/-- only Core's numbers and its open sets have changed -/
def KZ (h h' : ev_H) : Prop := ∀ q, q ≠ 24 → q < 60 ∨ 92 < q → h' q = h q
theorem KZ_rf (h : ev_H) : KZ h h := fun _ _ _ => rfl
theorem KZ_tr {a b c : ev_H} (h1 : KZ a b) (h2 : KZ b c) : KZ a c := fun q x y => (h2 q x y).trans (h1 q x y)
theorem KZ_M {h h' : ev_H} (h1 : KM [24] h h') : KZ h h' := fun q x _ => h1 q (by simp only [List.mem_singleton]; exact x)
theorem KZ_1 {h h' : ev_H} (h1 : K1 (59 + 2 * 0) h h') : KZ h h' := fun q _ y => h1 q (by omega)
theorem KZ_N {h h' : ev_H} (h1 : KNo 0 h h') : KZ h h' := fun q x y => h1 q x (by omega)
theorem HDc_Z {c : Nat} {G : Nat → Int32} {h h' : ev_H} (hc : c ≤ 16) (hk : KZ h h') (hD : HDc G c h) : HDc G c h' := fun i hi => by
  obtain ⟨t, e⟩ := hD i hi
  exact ⟨t, (hk _ (by omega) (by omega)).trans e⟩
set_option maxRecDepth 20000 in
set_option maxHeartbeats 1000000 in
theorem v_X0_keep {xs : Nat → Int32} {L d : Nat} {h : ev_H} {c k z : Nat} {kn B b : Int32} (hS : SH h) (hk : k ≤ 16) (hz : z ≤ 17) (f24 : h 24 = c24 (nI c) kn B (nI z)) : EV xs L (d + 0) 0 0 M_X0_keep 434 h 0 [some (.ref 24), some (.int (nI k)), some (.int b)] [] (fun sz' h' r => sz' = 434 ∧ SH h' ∧ KM [24] h h' ∧ (∃ B' z', h' 24 = c24 (nI c) kn B' (nI z') ∧ kpS B z b k B' z') ∧ r = []) := by
  refine r_iload_n rfl dX0_keep_0 rfl ?_
  refine r_aload_n rfl dX0_keep_1 rfl ?_
  refine r_getv 5 rfl dX0_keep_2 (show 2 ≤ 24 ∧ 24 < 434 by decide) f24 fl_X0_44 rfl ?_
  refine r_icmp_lt (tgt := 24) rfl rfl dX0_keep_5 (fun c51 => ?_) (fun c51 => ?_)
  · refine r_aload_n rfl dX0_keep_24 rfl ?_
    refine r_iload_n rfl dX0_keep_25 rfl ?_
    refine e_put 4 (fs' := [.ref 25, .ref 26, .int (nI c), .int kn, .int b, .int (nI z)]) rfl dX0_keep_26 (show 2 ≤ 24 ∧ 24 < 434 by decide) hS (KM_rf (Mod := [24]) _) (List.mem_singleton.mpr rfl) f24 (fp_X0_41 rfl _) (Nat.le_of_ble_eq_true rfl) rfl (fun h52 hS53 _ hN54 f55 => ?_)
    have hk56 : KM [24] h h52 := hN54
    have hF57 := KM_tr (KM_rf (Mod := [24]) h) hk56
    refine r_aload_n rfl dX0_keep_29 rfl ?_
    refine r_iload_n rfl dX0_keep_30 rfl ?_
    refine e_put 5 (fs' := [.ref 25, .ref 26, .int (nI c), .int kn, .int b, .int (nI k)]) rfl dX0_keep_31 (show 2 ≤ 24 ∧ 24 < 434 by decide) hS53 (KM_rf (Mod := [24]) _) (List.mem_singleton.mpr rfl) f55 (fp_X0_44 rfl _) (Nat.le_of_ble_eq_true rfl) rfl (fun h58 hS59 _ hN60 f61 => ?_)
    have hk62 : KM [24] h52 h58 := hN60
    have hF63 := KM_tr hF57 hk62
    exact r_ret dX0_keep_34 (rt_v rfl) ⟨rfl, hS59, hF63, ⟨b, k, f61, Or.inl ⟨rfl, rfl, Or.inl ((nI_ltI (a := k) (b := z) (by omega) (by omega)).mp c51)⟩⟩, rfl⟩
  · refine r_iload_n rfl dX0_keep_8 rfl ?_
    refine r_aload_n rfl dX0_keep_9 rfl ?_
    refine r_getv 5 rfl dX0_keep_10 (show 2 ≤ 24 ∧ 24 < 434 by decide) f24 fl_X0_44 rfl ?_
    refine r_icmp_ne (tgt := 34) rfl rfl dX0_keep_13 (fun c64 => ?_) (fun c64 => ?_)
    · exact r_ret dX0_keep_34 (rt_v rfl) ⟨rfl, hS, (KM_rf (Mod := [24]) h), ⟨B, z, f24, Or.inr ⟨rfl, rfl, Or.inl (by have q1 : ¬ k < z := (fun t => c51 ((nI_ltI (a := k) (b := z) (by omega) (by omega)).mpr t)); have q2 : ¬ k = z := (fun t => c64 (by rw [t])); omega)⟩⟩, rfl⟩
    · refine r_iload_n rfl dX0_keep_16 rfl ?_
      refine r_aload_n rfl dX0_keep_17 rfl ?_
      refine r_getv 4 rfl dX0_keep_18 (show 2 ≤ 24 ∧ 24 < 434 by decide) f24 fl_X0_41 rfl ?_
      refine r_icmp_ge (tgt := 34) rfl rfl dX0_keep_21 (fun c65 => ?_) (fun c65 => ?_)
      · exact r_ret dX0_keep_34 (rt_v rfl) ⟨rfl, hS, (KM_rf (Mod := [24]) h), ⟨B, z, f24, Or.inr ⟨rfl, rfl, Or.inr ⟨((nI_eq (a := k) (b := z) (by omega) (by omega)).mp c64).symm, c65⟩⟩⟩, rfl⟩
      · refine r_aload_n rfl dX0_keep_24 rfl ?_
        refine r_iload_n rfl dX0_keep_25 rfl ?_
        refine e_put 4 (fs' := [.ref 25, .ref 26, .int (nI c), .int kn, .int b, .int (nI z)]) rfl dX0_keep_26 (show 2 ≤ 24 ∧ 24 < 434 by decide) hS (KM_rf (Mod := [24]) _) (List.mem_singleton.mpr rfl) f24 (fp_X0_41 rfl _) (Nat.le_of_ble_eq_true rfl) rfl (fun h66 hS67 _ hN68 f69 => ?_)
        have hk70 : KM [24] h h66 := hN68
        have hF71 := KM_tr (KM_rf (Mod := [24]) h) hk70
        refine r_aload_n rfl dX0_keep_29 rfl ?_
        refine r_iload_n rfl dX0_keep_30 rfl ?_
        refine e_put 5 (fs' := [.ref 25, .ref 26, .int (nI c), .int kn, .int b, .int (nI k)]) rfl dX0_keep_31 (show 2 ≤ 24 ∧ 24 < 434 by decide) hS67 (KM_rf (Mod := [24]) _) (List.mem_singleton.mpr rfl) f69 (fp_X0_44 rfl _) (Nat.le_of_ble_eq_true rfl) rfl (fun h72 hS73 _ hN74 f75 => ?_)
        have hk76 : KM [24] h66 h72 := hN74
        have hF77 := KM_tr hF71 hk76
        exact r_ret dX0_keep_34 (rt_v rfl) ⟨rfl, hS73, hF77, ⟨b, k, f75, Or.inl ⟨rfl, rfl, Or.inr ⟨((nI_eq (a := k) (b := z) (by omega) (by omega)).mp c64), Int32.not_le.mp c65⟩⟩⟩, rfl⟩
set_option maxRecDepth 20000 in
set_option maxHeartbeats 1000000 in
theorem v_ac_z {xs : Nat → Int32} {L d : Nat} {h h0 : ev_H} {k : Nat} {c : Nat} {G : Nat → Int32} {kn bs bz : Int32} (hS : SH h) (hc : c ≤ 16) (f24 : h 24 = c24 (nI c) kn bs bz) (hD : HDc G c h) (hF : K1 (59 + 2 * 0) h0 h) (hO : WD h (59 + 2 * 0) (wO (alB (hdB G) (2 ^ c - 1) k))) (hk : k = c) : EV xs L (d + 2) 0 0 M_X0_allClash 434 h 11 [some (.ref 24), some (.int (nI k))] [] (fun sz' h' r => sz' = 434 ∧ SH h' ∧ K1 (59 + 2 * 0) h0 h' ∧ h' 24 = c24 (nI c) kn bs bz ∧ r = [.int (if clB (hdB G) c (2 ^ c - 1) = true then 1 else 0)]) := by
  have hO' : WD h (59 + 2 * 0) (wO (alB (hdB G) (2 ^ c - 1) c)) := by rw [hk] at hO; exact hO
  refine r_iload_n rfl dX0_allClash_11 rfl ?_
  refine r_aload_n rfl dX0_allClash_12 rfl ?_
  refine r_getv 2 rfl dX0_allClash_13 (show 2 ≤ 24 ∧ 24 < 434 by decide) f24 fl_X0_27 rfl ?_
  refine r_icmp_ge (tgt := 40) rfl rfl dX0_allClash_16 (fun _ => ?_) (fun zc => absurd (show nI c ≤ nI k from nI_le (a := c) (b := k) (by omega) (by omega)) zc)
  refine r_aload_n rfl dX0_allClash_40 rfl ?_
  refine r_getv 1 rfl dX0_allClash_41 (show 2 ≤ 24 ∧ 24 < 434 by decide) f24 fl_X0_17 rfl ?_
  refine r_iconst (v := 0) rfl dX0_allClash_44 (by decide) ?_
  refine r_aald (jn := 0) (v := .ref (59 + 2 * 0)) rfl dX0_allClash_45 (show 2 ≤ 26 ∧ 26 < 434 by decide).1 (show 2 ≤ 26 ∧ 26 < 434 by decide).2 hS.o26 (by decide) (vp_in_nI (n := 0) (by omega) (by decide)) (nI_clamp (n := 0) (by omega)) (by show va_rf (if _ < _ then _ else _) = _; rw [if_pos (show 0 < 17 by omega)]; rfl) ?_
  obtain ⟨g51, hw52⟩ := hO'.is hS (wsAt_open (j := 0) (by omega))
  refine cl_X0_62 rfl rfl dX0_allClash_46 (show _ ∧ _ from ⟨((wsAt_open (j := 0) (by omega))).2.2.1, Nat.lt_of_succ_lt ((wsAt_open (j := 0) (by omega))).2.2.2⟩).1 (show _ ∧ _ from ⟨((wsAt_open (j := 0) (by omega))).2.2.1, Nat.lt_of_succ_lt ((wsAt_open (j := 0) (by omega))).2.2.2⟩).2 hw52.2.2.1 (Nat.le_of_ble_eq_true rfl) (s_X10_leastWorld hw52) ?_
  rintro _ h53 _ ⟨rfl, e54, rfl⟩
  replace e54 := e54.symm
  subst e54
  refine r_if_ge (tgt := 56) rfl rfl dX0_allClash_49 (fun c55 => ?_) (fun c55 => ?_)
  · refine r_iconst (v := 0) rfl dX0_allClash_56 (by decide) ?_
    exact r_ret dX0_allClash_57 (rt_z rfl (Or.inl rfl)) ⟨rfl, hS, hF, f24, by rw [if_neg (lz_n c55)] <;> rfl⟩
  · refine r_iconst (v := 1) rfl dX0_allClash_52 (by decide) ?_
    refine r_goto (pc' := 57) rfl dX0_allClash_53 ?_
    exact r_ret dX0_allClash_57 (rt_z rfl (Or.inr rfl)) ⟨rfl, hS, hF, f24, by rw [if_pos (lz_y c55)] <;> rfl⟩
set_option maxRecDepth 20000 in
set_option maxHeartbeats 1000000 in
theorem v_ac_s {xs : Nat → Int32} {L d : Nat} {h h0 : ev_H} {k : Nat} {c : Nat} {G : Nat → Int32} {kn bs bz : Int32} (hS : SH h) (hc : c ≤ 16) (f24 : h 24 = c24 (nI c) kn bs bz) (hD : HDc G c h) (hF : K1 (59 + 2 * 0) h0 h) (hO : WD h (59 + 2 * 0) (wO (alB (hdB G) (2 ^ c - 1) k))) (hk : k < c) (ih : ∀ (h' : ev_H), SH h' → h' 24 = c24 (nI c) kn bs bz → HDc G c h' → K1 (59 + 2 * 0) h0 h' → WD h' (59 + 2 * 0) (wO (alB (hdB G) (2 ^ c - 1) (k + 1))) → EV xs L (d + 2) 0 0 M_X0_allClash 434 h' 11 [some (.ref 24), some (.int (nI (k + 1)))] [] (fun sz' h' r => sz' = 434 ∧ SH h' ∧ K1 (59 + 2 * 0) h0 h' ∧ h' 24 = c24 (nI c) kn bs bz ∧ r = [.int (if clB (hdB G) c (2 ^ c - 1) = true then 1 else 0)])) : EV xs L (d + 2) 0 0 M_X0_allClash 434 h 11 [some (.ref 24), some (.int (nI k))] [] (fun sz' h' r => sz' = 434 ∧ SH h' ∧ K1 (59 + 2 * 0) h0 h' ∧ h' 24 = c24 (nI c) kn bs bz ∧ r = [.int (if clB (hdB G) c (2 ^ c - 1) = true then 1 else 0)]) := by
  refine r_iload_n rfl dX0_allClash_11 rfl ?_
  refine r_aload_n rfl dX0_allClash_12 rfl ?_
  refine r_getv 2 rfl dX0_allClash_13 (show 2 ≤ 24 ∧ 24 < 434 by decide) f24 fl_X0_27 rfl ?_
  refine r_icmp_ge (tgt := 40) rfl rfl dX0_allClash_16 (fun zc => absurd zc (show ¬ nI c ≤ nI k from nI_ge (a := k) (b := c) (by omega) (by omega))) (fun _ => ?_)
  refine r_aload_n rfl dX0_allClash_19 rfl ?_
  refine r_getv 1 rfl dX0_allClash_20 (show 2 ≤ 24 ∧ 24 < 434 by decide) f24 fl_X0_17 rfl ?_
  refine r_iconst (v := 0) rfl dX0_allClash_23 (by decide) ?_
  refine r_aald (jn := 0) (v := .ref (59 + 2 * 0)) rfl dX0_allClash_24 (show 2 ≤ 26 ∧ 26 < 434 by decide).1 (show 2 ≤ 26 ∧ 26 < 434 by decide).2 hS.o26 (by decide) (vp_in_nI (n := 0) (by omega) (by decide)) (nI_clamp (n := 0) (by omega)) (by show va_rf (if _ < _ then _ else _) = _; rw [if_pos (show 0 < 17 by omega)]; rfl) ?_
  refine r_aload_n rfl dX0_allClash_25 rfl ?_
  refine r_getv 0 rfl dX0_allClash_26 (show 2 ≤ 24 ∧ 24 < 434 by decide) f24 fl_X0_11 rfl ?_
  refine r_iload_n rfl dX0_allClash_29 rfl ?_
  refine r_aald (jn := k) (v := .ref (27 + 2 * k)) rfl dX0_allClash_30 (show 2 ≤ 25 ∧ 25 < 434 by decide).1 (show 2 ≤ 25 ∧ 25 < 434 by decide).2 hS.o25 (by decide) (vp_in_nI (n := k) (by omega) (by decide)) (nI_clamp (n := k) (by omega)) (by show va_rf (if _ < _ then _ else _) = _; rw [if_pos (show k < 16 by omega)]; rfl) ?_
  obtain ⟨g51, hw52⟩ := hO.is hS (wsAt_open (j := 0) (by omega))
  obtain ⟨g53, hw54⟩ := (hD k hk).is hS (wsAt_hold (j := k) (by omega))
  refine cl_X0_58 rfl rfl dX0_allClash_31 (show _ ∧ _ from ⟨((wsAt_open (j := 0) (by omega))).2.2.1, Nat.lt_of_succ_lt ((wsAt_open (j := 0) (by omega))).2.2.2⟩).1 (show _ ∧ _ from ⟨((wsAt_open (j := 0) (by omega))).2.2.1, Nat.lt_of_succ_lt ((wsAt_open (j := 0) (by omega))).2.2.2⟩).2 hw52.2.2.1 (Nat.le_of_ble_eq_true rfl) (s_X10_meet hw52 hw54 (by omega)) ?_
  rintro _ h55 _ ⟨rfl, eh56, rfl⟩
  have hS57 := SH_p hS (wsAt_open (j := 0) (by omega)) eh56
  have hk58 : K1 (59 + 2 * 0) h h55 := K1_up eh56
  have hF59 := K1_tr hF hk58
  have f60 : h55 (24) = .inr (0, [.ref 25, .ref 26, .int (nI c), .int kn, .int bs, .int bz]) := (hk58 _ (by decide)).trans f24
  refine r_iinc (y := nI (k + 1)) (ls' := [some (.ref 24), some (.int (nI (k + 1)))]) rfl dX0_allClash_34 rfl (nI_1 k) (Nat.le_of_ble_eq_true rfl) rfl ?_
  refine r_goto (pc' := 11) rfl dX0_allClash_37 ?_
  exact ih h55 hS57 f60 (HDc_Z hc (KZ_1 hk58) hD) hF59 (WD_cg (V := fun p => wO (alB (hdB G) (2 ^ c - 1) k) p &&& wO (hdB G k) p) (fun p _ => al_full (H := hdB G) hk) (WD_up eh56 rfl rfl rfl rfl))
theorem v_ac {xs : Nat → Int32} {L d : Nat} {h0 : ev_H} {c : Nat} {G : Nat → Int32} {kn bs bz : Int32} (hc : c ≤ 16) : ∀ (n k : Nat) (h : ev_H), k + n = c → SH h → h 24 = c24 (nI c) kn bs bz → HDc G c h → K1 (59 + 2 * 0) h0 h → WD h (59 + 2 * 0) (wO (alB (hdB G) (2 ^ c - 1) k)) → EV xs L (d + 2) 0 0 M_X0_allClash 434 h 11 [some (.ref 24), some (.int (nI k))] [] (fun sz' h' r => sz' = 434 ∧ SH h' ∧ K1 (59 + 2 * 0) h0 h' ∧ h' 24 = c24 (nI c) kn bs bz ∧ r = [.int (if clB (hdB G) c (2 ^ c - 1) = true then 1 else 0)]) := by
  intro n
  induction n with
  | zero => intro k h hk hS f24 hD hF hO; exact v_ac_z hS hc f24 hD hF hO (by omega)
  | succ n ih => intro k h hk hS f24 hD hF hO; exact v_ac_s hS hc f24 hD hF hO (by omega) (fun h' q1 q2 q3 q4 q5 => ih (k + 1) h' (by omega) q1 q2 q3 q4 q5)
set_option maxRecDepth 20000 in
set_option maxHeartbeats 1000000 in
theorem v_X0_allClash {xs : Nat → Int32} {L d : Nat} {h : ev_H} {c : Nat} {G : Nat → Int32} {kn bs bz : Int32} (hS : SH h) (hc : c ≤ 16) (f24 : h 24 = c24 (nI c) kn bs bz) (hD : HDc G c h) : EV xs L (d + 2) 0 0 M_X0_allClash 434 h 0 [some (.ref 24), none] [] (fun sz' h' r => sz' = 434 ∧ SH h' ∧ K1 (59 + 2 * 0) h h' ∧ h' 24 = c24 (nI c) kn bs bz ∧ r = [.int (if clB (hdB G) c (2 ^ c - 1) = true then 1 else 0)]) := by
  refine r_aload_n rfl dX0_allClash_0 rfl ?_
  refine r_getv 1 rfl dX0_allClash_1 (show 2 ≤ 24 ∧ 24 < 434 by decide) f24 fl_X0_17 rfl ?_
  refine r_iconst (v := 0) rfl dX0_allClash_4 (by decide) ?_
  refine r_aald (jn := 0) (v := .ref (59 + 2 * 0)) rfl dX0_allClash_5 (show 2 ≤ 26 ∧ 26 < 434 by decide).1 (show 2 ≤ 26 ∧ 26 < 434 by decide).2 hS.o26 (by decide) (vp_in_nI (n := 0) (by omega) (by decide)) (nI_clamp (n := 0) (by omega)) (by show va_rf (if _ < _ then _ else _) = _; rw [if_pos (show 0 < 17 by omega)]; rfl) ?_
  obtain ⟨g51, hw52⟩ := hS.ws (wsAt_open (j := 0) (by omega))
  refine cl_X0_51 rfl rfl dX0_allClash_6 (show _ ∧ _ from ⟨((wsAt_open (j := 0) (by omega))).2.2.1, Nat.lt_of_succ_lt ((wsAt_open (j := 0) (by omega))).2.2.2⟩).1 (show _ ∧ _ from ⟨((wsAt_open (j := 0) (by omega))).2.2.1, Nat.lt_of_succ_lt ((wsAt_open (j := 0) (by omega))).2.2.2⟩).2 hw52.2.2.1 (Nat.le_of_ble_eq_true rfl) (s_X10_fill hw52) ?_
  rintro _ h53 _ ⟨rfl, eh54, rfl⟩
  have hS55 := SH_p hS (wsAt_open (j := 0) (by omega)) eh54
  have hk56 : K1 (59 + 2 * 0) h h53 := K1_up eh54
  have f58 : h53 (24) = .inr (0, [.ref 25, .ref 26, .int (nI c), .int kn, .int bs, .int bz]) := (hk56 _ (by decide)).trans f24
  refine r_iconst (v := 0) rfl dX0_allClash_9 (by decide) ?_
  refine r_istore_n (ls' := [some (.ref 24), some (.int 0)]) rfl dX0_allClash_10 (Nat.le_of_ble_eq_true rfl) rfl ?_
  exact v_ac hc c 0 h53 (by omega) hS55 f58 (HDc_Z hc (KZ_1 hk56) hD) hk56 (WD_cg (V := fun _ => -1) (fun p _ => (show wO (alB (hdB G) (2 ^ c - 1) 0) p = -1 from wO_t p).symm) (WD_up eh54 rfl rfl rfl rfl))
set_option maxRecDepth 20000 in
set_option maxHeartbeats 1000000 in
theorem v_ch_z {xs : Nat → Int32} {L d : Nat} {h h0 : ev_H} {c k m S br w : Nat} {G : Nat → Int32} {kn B0 : Int32} {z0 : Nat} {z cl i : Nat} {B : Int32} {u : Option Value} (hc : c ≤ 16) (hk : k + (m + 1) = 17) (hSl : S < 2 ^ c) (hkS : cB S c = k) (hw : w < 256) (hp : alB (hdB G) S c w = true) (hS : SH h) (f24 : h 24 = c24 (nI c) kn B (nI z)) (hF : KNo k h0 h) (hcl : cl < 65536) (hO : bOk (hdB G) c B z) (hM : ∀ T, bLe c B0 z0 T → bLe c B z T) (hcv : cvS (hdB G) c S br cl i w B z) (hD : HDc G c h) (hW : WD h (59 + 2 * k) (wO (alB (hdB G) S c))) (hi : i = c) : EV xs L (d + (m + 4)) 0 0 M_X0_choose 434 h 50 [some (.ref 24), some (.int (nI k)), some (.int (nI S)), some (.int (nI br)), some (.int (nI w)), some (.int (nI cl)), some (.int (nI i)), u] [] (fun sz' h' r => sz' = 434 ∧ SH h' ∧ KNo k h0 h' ∧ (∃ B' z', h' 24 = c24 (nI c) kn B' (nI z') ∧ chQ (hdB G) c S br B0 z0 B' z') ∧ r = []) := by
  refine r_iload rfl dX0_choose_50 rfl ?_
  refine r_aload_n rfl dX0_choose_52 rfl ?_
  refine r_getv 2 rfl dX0_choose_53 (show 2 ≤ 24 ∧ 24 < 434 by decide) f24 fl_X0_27 rfl ?_
  refine r_icmp_ge (tgt := 155) rfl rfl dX0_choose_56 (fun _ => ?_) (fun zc => absurd (show nI c ≤ nI i from nI_le (a := c) (b := i) (by omega) (by omega)) zc)
  exact r_ret dX0_choose_155 (rt_v rfl) ⟨rfl, hS, hF, ⟨B, z, f24, hO, hM, (by rw [hi] at hcv; exact cv_end hw hcv)⟩, rfl⟩
set_option maxRecDepth 20000 in
set_option maxHeartbeats 1000000 in
theorem v_ch_s {xs : Nat → Int32} {L d : Nat} {h h0 : ev_H} {c k m S br w : Nat} {G : Nat → Int32} {kn B0 : Int32} {z0 : Nat} {z cl i : Nat} {B : Int32} {u : Option Value} (hc : c ≤ 16) (hk : k + (m + 1) = 17) (hSl : S < 2 ^ c) (hkS : cB S c = k) (hw : w < 256) (hp : alB (hdB G) S c w = true) (hS : SH h) (f24 : h 24 = c24 (nI c) kn B (nI z)) (hF : KNo k h0 h) (hcl : cl < 65536) (hO : bOk (hdB G) c B z) (hM : ∀ T, bLe c B0 z0 T → bLe c B z T) (hcv : cvS (hdB G) c S br cl i w B z) (hD : HDc G c h) (hW : WD h (59 + 2 * k) (wO (alB (hdB G) S c))) (hi : i < c) (rc : ∀ (h' : ev_H) (B' : Int32) (z' S' br' : Nat), SH h' → h' 24 = c24 (nI c) kn B' (nI z') → bOk (hdB G) c B' z' → S' < 2 ^ c → cB S' c = k + 1 → br' < 65536 → HDc G c h' → WD h' (59 + 2 * (k + 1)) (wO (alB (hdB G) S' c)) → EV xs L (d + (m + 3)) 0 0 M_X0_choose 434 h' 0 [some (.ref 24), some (.int (nI (k + 1))), some (.int (nI S')), some (.int (nI br')), none, none, none, none] [] (fun sz' h'' r => sz' = 434 ∧ SH h'' ∧ KNo (k + 1) h' h'' ∧ (∃ B'' z'', h'' 24 = c24 (nI c) kn B'' (nI z'') ∧ chQ (hdB G) c S' br' B' z' B'' z'') ∧ r = [])) (ih : ∀ (h' : ev_H) (B' : Int32) (z' cl' : Nat) (u' : Option Value), SH h' → h' 24 = c24 (nI c) kn B' (nI z') → KNo k h0 h' → cl' < 65536 → bOk (hdB G) c B' z' → (∀ T, bLe c B0 z0 T → bLe c B' z' T) → cvS (hdB G) c S br cl' (i + 1) w B' z' → HDc G c h' → WD h' (59 + 2 * k) (wO (alB (hdB G) S c)) → EV xs L (d + (m + 4)) 0 0 M_X0_choose 434 h' 50 [some (.ref 24), some (.int (nI k)), some (.int (nI S)), some (.int (nI br)), some (.int (nI w)), some (.int (nI cl')), some (.int (nI (i + 1))), u'] [] (fun sz' h' r => sz' = 434 ∧ SH h' ∧ KNo k h0 h' ∧ (∃ B' z', h' 24 = c24 (nI c) kn B' (nI z') ∧ chQ (hdB G) c S br B0 z0 B' z') ∧ r = [])) : EV xs L (d + (m + 4)) 0 0 M_X0_choose 434 h 50 [some (.ref 24), some (.int (nI k)), some (.int (nI S)), some (.int (nI br)), some (.int (nI w)), some (.int (nI cl)), some (.int (nI i)), u] [] (fun sz' h' r => sz' = 434 ∧ SH h' ∧ KNo k h0 h' ∧ (∃ B' z', h' 24 = c24 (nI c) kn B' (nI z') ∧ chQ (hdB G) c S br B0 z0 B' z') ∧ r = []) := by
  refine r_iload rfl dX0_choose_50 rfl ?_
  refine r_aload_n rfl dX0_choose_52 rfl ?_
  refine r_getv 2 rfl dX0_choose_53 (show 2 ≤ 24 ∧ 24 < 434 by decide) f24 fl_X0_27 rfl ?_
  refine r_icmp_ge (tgt := 155) rfl rfl dX0_choose_56 (fun zc => absurd zc (show ¬ nI c ≤ nI i from nI_ge (a := i) (b := c) (by omega) (by omega))) (fun _ => ?_)
  refine r_iload_n rfl dX0_choose_59 rfl ?_
  refine r_bipush (v := 16) rfl dX0_choose_60 (by decide) ?_
  refine r_icmp_ge (tgt := 155) rfl rfl dX0_choose_62 (fun c51 => ?_) (fun c51 => ?_)
  · have q52 : 16 ≤ k := (nI_leI (a := 16) (b := k) (by omega) (by omega)).mp c51
    exact r_ret dX0_choose_155 (rt_v rfl) ⟨rfl, hS, hF, ⟨B, z, f24, hO, hM, cv_full hc hSl hkS q52 hw hp⟩, rfl⟩
  · have q53 : ¬ 16 ≤ k := fun z => c51 ((nI_leI (a := 16) (b := k) (by omega) (by omega)).mpr z)
    refine r_iconst (v := 1) rfl dX0_choose_65 (by decide) ?_
    refine r_iload rfl dX0_choose_66 rfl ?_
    refine r_ishl rfl dX0_choose_68 ?_
    refine r_eqi (y := nI (2 ^ i)) (sh1_e (c := i) (by omega)) ?_
    refine r_istore (ls' := [some (.ref 24), some (.int (nI k)), some (.int (nI S)), some (.int (nI br)), some (.int (nI w)), some (.int (nI cl)), some (.int (nI i)), some (.int (nI (2 ^ i)))]) rfl dX0_choose_69 (Nat.le_of_ble_eq_true rfl) rfl ?_
    refine r_iload rfl dX0_choose_71 rfl ?_
    refine r_iload rfl dX0_choose_73 rfl ?_
    refine r_iand rfl dX0_choose_75 ?_
    refine r_if_ne (tgt := 149) rfl rfl dX0_choose_76 (fun c56 => ?_) (fun c56 => ?_)
    · have hb : cl.testBit i = true := by
        cases q : cl.testBit i
        · exact absurd ((ab16 (by omega)).mpr q) c56
        · rfl
      refine r_iinc (y := nI (i + 1)) (ls' := [some (.ref 24), some (.int (nI k)), some (.int (nI S)), some (.int (nI br)), some (.int (nI w)), some (.int (nI cl)), some (.int (nI (i + 1))), some (.int (nI (2 ^ i)))]) rfl dX0_choose_149 rfl (nI_1 i) (Nat.le_of_ble_eq_true rfl) rfl ?_
      refine r_goto (pc' := 50) rfl dX0_choose_152 ?_
      exact ih h B z cl _ hS f24 hF hcl hO hM (cv_bar hb hcv) hD hW
    · refine r_aload_n rfl dX0_choose_79 rfl ?_
      refine r_getv 0 rfl dX0_choose_80 (show 2 ≤ 24 ∧ 24 < 434 by decide) f24 fl_X0_11 rfl ?_
      refine r_iload rfl dX0_choose_83 rfl ?_
      refine r_aald (jn := i) (v := .ref (27 + 2 * i)) rfl dX0_choose_85 (show 2 ≤ 25 ∧ 25 < 434 by decide).1 (show 2 ≤ 25 ∧ 25 < 434 by decide).2 hS.o25 (by decide) (vp_in_nI (n := i) (by omega) (by decide)) (nI_clamp (n := i) (by omega)) (by show va_rf (if _ < _ then _ else _) = _; rw [if_pos (show i < 16 by omega)]; rfl) ?_
      refine r_iload rfl dX0_choose_86 rfl ?_
      obtain ⟨g57, hw58⟩ := (hD i hi).is hS (wsAt_hold (j := i) (by omega))
      refine cl_X0_70 rfl rfl dX0_choose_88 (show _ ∧ _ from ⟨((wsAt_hold (j := i) (by omega))).2.2.1, Nat.lt_of_succ_lt ((wsAt_hold (j := i) (by omega))).2.2.2⟩).1 (show _ ∧ _ from ⟨((wsAt_hold (j := i) (by omega))).2.2.1, Nat.lt_of_succ_lt ((wsAt_hold (j := i) (by omega))).2.2.2⟩).2 hw58.2.2.1 (Nat.le_of_ble_eq_true rfl) (s_X10_has hw58) ?_
      rintro _ h59 _ ⟨rfl, e60, rfl⟩
      replace e60 := e60.symm
      subst e60
      refine r_if_ne (tgt := 149) rfl rfl dX0_choose_91 (fun c61 => ?_) (fun c61 => ?_)
      · have hb : hdB G i w = true := by
          cases q : hdB G i w
          · exact absurd ((has_w (P := hdB G i) hw).mpr q) c61
          · rfl
        refine r_iinc (y := nI (i + 1)) (ls' := [some (.ref 24), some (.int (nI k)), some (.int (nI S)), some (.int (nI br)), some (.int (nI w)), some (.int (nI cl)), some (.int (nI (i + 1))), some (.int (nI (2 ^ i)))]) rfl dX0_choose_149 rfl (nI_1 i) (Nat.le_of_ble_eq_true rfl) rfl ?_
        refine r_goto (pc' := 50) rfl dX0_choose_152 ?_
        exact ih h B z cl _ hS f24 hF hcl hO hM (cv_so hb hcv) hD hW
      · have hbf : hdB G i w = false := (has_w (P := hdB G i) hw).mp c61
        have hbit : S.testBit i = false := by
          cases q : S.testBit i
          · rfl
          · have hq := (alB_t c).mp hp i hi q
            rw [hbf] at hq
            exact absurd hq (by decide)
        have hp2 : 2 ^ i < 2 ^ c := Nat.pow_lt_pow_right (by decide) hi
        have hS2 : S ||| 2 ^ i < 2 ^ c := Nat.or_lt_two_pow hSl hp2
        have hk2 : cB (S ||| 2 ^ i) c = k + 1 := by rw [ct_or hbit c, decide_eq_true hi, hkS] <;> rfl
        have hcl2 : cl ||| 2 ^ i < 65536 := Nat.or_lt_two_pow (n := 16) hcl (Nat.pow_lt_pow_right (by decide) (by omega))
        refine r_aload_n rfl dX0_choose_94 rfl ?_
        refine r_getv 1 rfl dX0_choose_95 (show 2 ≤ 24 ∧ 24 < 434 by decide) f24 fl_X0_17 rfl ?_
        refine r_iload_n rfl dX0_choose_98 rfl ?_
        refine r_iconst (v := 1) rfl dX0_choose_99 (by decide) ?_
        refine r_iadd rfl dX0_choose_100 ?_
        refine r_eqi (y := nI (k + 1)) (show (nI k) + 1 = nI (k + 1) from nI_add k 1) ?_
        refine r_aald (jn := k + 1) (v := .ref (59 + 2 * (k + 1))) rfl dX0_choose_101 (show 2 ≤ 26 ∧ 26 < 434 by decide).1 (show 2 ≤ 26 ∧ 26 < 434 by decide).2 hS.o26 (by decide) (vp_in_nI (n := k + 1) (by omega) (by decide)) (nI_clamp (n := k + 1) (by omega)) (by show va_rf (if _ < _ then _ else _) = _; rw [if_pos (show k + 1 < 17 by omega)]; rfl) ?_
        refine r_aload_n rfl dX0_choose_102 rfl ?_
        refine r_getv 1 rfl dX0_choose_103 (show 2 ≤ 24 ∧ 24 < 434 by decide) f24 fl_X0_17 rfl ?_
        refine r_iload_n rfl dX0_choose_106 rfl ?_
        refine r_aald (jn := k) (v := .ref (59 + 2 * k)) rfl dX0_choose_107 (show 2 ≤ 26 ∧ 26 < 434 by decide).1 (show 2 ≤ 26 ∧ 26 < 434 by decide).2 hS.o26 (by decide) (vp_in_nI (n := k) (by omega) (by decide)) (nI_clamp (n := k) (by omega)) (by show va_rf (if _ < _ then _ else _) = _; rw [if_pos (show k < 17 by omega)]; rfl) ?_
        obtain ⟨g62, hw63⟩ := hS.ws (wsAt_open (j := k + 1) (by omega))
        obtain ⟨g64, hw65⟩ := hW.is hS (wsAt_open (j := k) (by omega))
        refine cl_X0_74 rfl rfl dX0_choose_108 (show _ ∧ _ from ⟨((wsAt_open (j := k + 1) (by omega))).2.2.1, Nat.lt_of_succ_lt ((wsAt_open (j := k + 1) (by omega))).2.2.2⟩).1 (show _ ∧ _ from ⟨((wsAt_open (j := k + 1) (by omega))).2.2.1, Nat.lt_of_succ_lt ((wsAt_open (j := k + 1) (by omega))).2.2.2⟩).2 hw63.2.2.1 (Nat.le_of_ble_eq_true rfl) (s_X10_become hw63 hw65 (by omega)) ?_
        rintro _ h66 _ ⟨rfl, eh67, rfl⟩
        have hS68 := SH_p hS (wsAt_open (j := k + 1) (by omega)) eh67
        have hk69 : K1 (59 + 2 * (k + 1)) h h66 := K1_up eh67
        have hN70 : KNo k h h66 := KNo_1 hk69 (by omega) (by omega)
        have hF70 := KNo_tr hF hN70
        have w71 : WD h66 (59 + 2 * (k + 1)) (wO (alB (hdB G) S c)) := WD_up eh67 rfl rfl rfl rfl
        have hD71 := HDc_N hc hN70 hD
        have hW71 : WD h66 (59 + 2 * k) (wO (alB (hdB G) S c)) := WD_1 hk69 (by omega) hW
        have f71 : h66 (24) = .inr (0, [.ref 25, .ref 26, .int (nI c), .int kn, .int B, .int (nI z)]) := (hk69 _ (by omega)).trans f24
        refine r_aload_n rfl dX0_choose_111 rfl ?_
        refine r_getv 1 rfl dX0_choose_112 (show 2 ≤ 24 ∧ 24 < 434 by decide) f71 fl_X0_17 rfl ?_
        refine r_iload_n rfl dX0_choose_115 rfl ?_
        refine r_iconst (v := 1) rfl dX0_choose_116 (by decide) ?_
        refine r_iadd rfl dX0_choose_117 ?_
        refine r_eqi (y := nI (k + 1)) (show (nI k) + 1 = nI (k + 1) from nI_add k 1) ?_
        refine r_aald (jn := k + 1) (v := .ref (59 + 2 * (k + 1))) rfl dX0_choose_118 (show 2 ≤ 26 ∧ 26 < 434 by decide).1 (show 2 ≤ 26 ∧ 26 < 434 by decide).2 hS68.o26 (by decide) (vp_in_nI (n := k + 1) (by omega) (by decide)) (nI_clamp (n := k + 1) (by omega)) (by show va_rf (if _ < _ then _ else _) = _; rw [if_pos (show k + 1 < 17 by omega)]; rfl) ?_
        refine r_aload_n rfl dX0_choose_119 rfl ?_
        refine r_getv 0 rfl dX0_choose_120 (show 2 ≤ 24 ∧ 24 < 434 by decide) f71 fl_X0_11 rfl ?_
        refine r_iload rfl dX0_choose_123 rfl ?_
        refine r_aald (jn := i) (v := .ref (27 + 2 * i)) rfl dX0_choose_125 (show 2 ≤ 25 ∧ 25 < 434 by decide).1 (show 2 ≤ 25 ∧ 25 < 434 by decide).2 hS68.o25 (by decide) (vp_in_nI (n := i) (by omega) (by decide)) (nI_clamp (n := i) (by omega)) (by show va_rf (if _ < _ then _ else _) = _; rw [if_pos (show i < 16 by omega)]; rfl) ?_
        obtain ⟨g72, hw73⟩ := w71.is hS68 (wsAt_open (j := k + 1) (by omega))
        obtain ⟨g74, hw75⟩ := (hD71 i hi).is hS68 (wsAt_hold (j := i) (by omega))
        refine cl_X0_58 rfl rfl dX0_choose_126 (show _ ∧ _ from ⟨((wsAt_open (j := k + 1) (by omega))).2.2.1, Nat.lt_of_succ_lt ((wsAt_open (j := k + 1) (by omega))).2.2.2⟩).1 (show _ ∧ _ from ⟨((wsAt_open (j := k + 1) (by omega))).2.2.1, Nat.lt_of_succ_lt ((wsAt_open (j := k + 1) (by omega))).2.2.2⟩).2 hw73.2.2.1 (Nat.le_of_ble_eq_true rfl) (s_X10_meet hw73 hw75 (by omega)) ?_
        rintro _ h76 _ ⟨rfl, eh77, rfl⟩
        have hS78 := SH_p hS68 (wsAt_open (j := k + 1) (by omega)) eh77
        have hk79 : K1 (59 + 2 * (k + 1)) h66 h76 := K1_up eh77
        have hN80 : KNo k h66 h76 := KNo_1 hk79 (by omega) (by omega)
        have hF80 := KNo_tr hF70 hN80
        have w81 : WD h76 (59 + 2 * (k + 1)) (wO (alB (hdB G) (S ||| 2 ^ i) c)) := WD_cg (V := fun p => wO (alB (hdB G) S c) p &&& wO (hdB G i) p) (fun p _ => al_meet (H := hdB G) hi) (WD_up eh77 rfl rfl rfl rfl)
        have hD81 := HDc_N hc hN80 hD71
        have hW81 : WD h76 (59 + 2 * k) (wO (alB (hdB G) S c)) := WD_1 hk79 (by omega) hW71
        have f81 : h76 (24) = .inr (0, [.ref 25, .ref 26, .int (nI c), .int kn, .int B, .int (nI z)]) := (hk79 _ (by omega)).trans f71
        refine r_aload_n rfl dX0_choose_129 rfl ?_
        refine r_iload_n rfl dX0_choose_130 rfl ?_
        refine r_iconst (v := 1) rfl dX0_choose_131 (by decide) ?_
        refine r_iadd rfl dX0_choose_132 ?_
        refine r_eqi (y := nI (k + 1)) (show (nI k) + 1 = nI (k + 1) from nI_add k 1) ?_
        refine r_iload_n rfl dX0_choose_133 rfl ?_
        refine r_iload rfl dX0_choose_134 rfl ?_
        refine r_ior rfl dX0_choose_136 ?_
        refine r_eqi (y := nI (S ||| 2 ^ i)) (nI_or S (2 ^ i)) ?_
        refine r_iload rfl dX0_choose_137 rfl ?_
        refine cl_X0_54 rfl rfl dX0_choose_139 (show 2 ≤ 24 ∧ 24 < 434 by decide).1 (show 2 ≤ 24 ∧ 24 < 434 by decide).2 f81 (Nat.le_of_ble_eq_true rfl) (rc h76 B z (S ||| 2 ^ i) cl hS78 f81 hO hS2 hk2 hcl hD81 w81) ?_
        rintro _ h82 _ ⟨rfl, hS83, hk84, ⟨B86, z87, f88, ⟨o88, m88, c88⟩⟩, rfl⟩
        have hF89 := KNo_tr hF80 (KNo_up hk84 (by omega))
        refine r_iload rfl dX0_choose_142 rfl ?_
        refine r_iload rfl dX0_choose_144 rfl ?_
        refine r_ior rfl dX0_choose_146 ?_
        refine r_eqi (y := nI (cl ||| 2 ^ i)) (nI_or cl (2 ^ i)) ?_
        refine r_istore (ls' := [some (.ref 24), some (.int (nI k)), some (.int (nI S)), some (.int (nI br)), some (.int (nI w)), some (.int (nI (cl ||| 2 ^ i))), some (.int (nI i)), some (.int (nI (2 ^ i)))]) rfl dX0_choose_147 (Nat.le_of_ble_eq_true rfl) rfl ?_
        refine r_iinc (y := nI (i + 1)) (ls' := [some (.ref 24), some (.int (nI k)), some (.int (nI S)), some (.int (nI br)), some (.int (nI w)), some (.int (nI (cl ||| 2 ^ i))), some (.int (nI (i + 1))), some (.int (nI (2 ^ i)))]) rfl dX0_choose_149 rfl (nI_1 i) (Nat.le_of_ble_eq_true rfl) rfl ?_
        refine r_goto (pc' := 50) rfl dX0_choose_152 ?_
        exact ih h82 B86 z87 (cl ||| 2 ^ i) _ hS83 f88 hF89 hcl2 o88 (fun T hT => m88 T (hM T hT)) (cv_rec hcv m88 c88) (HDc_N hc hk84 hD81) (WD_N hk84 (by omega) hW81)
theorem v_ch {xs : Nat → Int32} {L d : Nat} {h0 : ev_H} {c k m S br w : Nat} {G : Nat → Int32} {kn B0 : Int32} {z0 : Nat} (hc : c ≤ 16) (hk : k + (m + 1) = 17) (hSl : S < 2 ^ c) (hkS : cB S c = k) (hw : w < 256) (hp : alB (hdB G) S c w = true) (rc : ∀ (h' : ev_H) (B' : Int32) (z' S' br' : Nat), SH h' → h' 24 = c24 (nI c) kn B' (nI z') → bOk (hdB G) c B' z' → S' < 2 ^ c → cB S' c = k + 1 → br' < 65536 → HDc G c h' → WD h' (59 + 2 * (k + 1)) (wO (alB (hdB G) S' c)) → EV xs L (d + (m + 3)) 0 0 M_X0_choose 434 h' 0 [some (.ref 24), some (.int (nI (k + 1))), some (.int (nI S')), some (.int (nI br')), none, none, none, none] [] (fun sz' h'' r => sz' = 434 ∧ SH h'' ∧ KNo (k + 1) h' h'' ∧ (∃ B'' z'', h'' 24 = c24 (nI c) kn B'' (nI z'') ∧ chQ (hdB G) c S' br' B' z' B'' z'') ∧ r = [])) : ∀ (n i : Nat) (h : ev_H) (B : Int32) (z cl : Nat) (u : Option Value), i + n = c → SH h → h 24 = c24 (nI c) kn B (nI z) → KNo k h0 h → cl < 65536 → bOk (hdB G) c B z → (∀ T, bLe c B0 z0 T → bLe c B z T) → cvS (hdB G) c S br cl i w B z → HDc G c h → WD h (59 + 2 * k) (wO (alB (hdB G) S c)) → EV xs L (d + (m + 4)) 0 0 M_X0_choose 434 h 50 [some (.ref 24), some (.int (nI k)), some (.int (nI S)), some (.int (nI br)), some (.int (nI w)), some (.int (nI cl)), some (.int (nI i)), u] [] (fun sz' h' r => sz' = 434 ∧ SH h' ∧ KNo k h0 h' ∧ (∃ B' z', h' 24 = c24 (nI c) kn B' (nI z') ∧ chQ (hdB G) c S br B0 z0 B' z') ∧ r = []) := by
  intro n
  induction n with
  | zero => intro i h B z cl u hi hS f24 hF hcl hO hM hcv hD hW; exact v_ch_z hc hk hSl hkS hw hp hS f24 hF hcl hO hM hcv hD hW (by omega)
  | succ n ih => intro i h B z cl u hi hS f24 hF hcl hO hM hcv hD hW; exact v_ch_s hc hk hSl hkS hw hp hS f24 hF hcl hO hM hcv hD hW (by omega) rc (fun h' B' z' cl' u' q1 q2 q3 q4 q5 q6 q7 q8 q9 => ih (i + 1) h' B' z' cl' u' (by omega) q1 q2 q3 q4 q5 q6 q7 q8 q9)
set_option maxRecDepth 20000 in
set_option maxHeartbeats 1000000 in
theorem v_ch_w {xs : Nat → Int32} {L d : Nat} {h : ev_H} {c k m S br z : Nat} {G : Nat → Int32} {kn B : Int32} (hc : c ≤ 16) (hk : k + (m + 1) = 17) (hS : SH h) (f24 : h 24 = c24 (nI c) kn B (nI z)) (hO : bOk (hdB G) c B z) (hSl : S < 2 ^ c) (hkS : cB S c = k) (hbr : br < 65536) (hD : HDc G c h) (hW : WD h (59 + 2 * k) (wO (alB (hdB G) S c))) (rc : ∀ (h' : ev_H) (B' : Int32) (z' S' br' : Nat), SH h' → h' 24 = c24 (nI c) kn B' (nI z') → bOk (hdB G) c B' z' → S' < 2 ^ c → cB S' c = k + 1 → br' < 65536 → HDc G c h' → WD h' (59 + 2 * (k + 1)) (wO (alB (hdB G) S' c)) → EV xs L (d + (m + 3)) 0 0 M_X0_choose 434 h' 0 [some (.ref 24), some (.int (nI (k + 1))), some (.int (nI S')), some (.int (nI br')), none, none, none, none] [] (fun sz' h'' r => sz' = 434 ∧ SH h'' ∧ KNo (k + 1) h' h'' ∧ (∃ B'' z'', h'' 24 = c24 (nI c) kn B'' (nI z'') ∧ chQ (hdB G) c S' br' B' z' B'' z'') ∧ r = [])) : EV xs L (d + (m + 4)) 0 0 M_X0_choose 434 h 0 [some (.ref 24), some (.int (nI k)), some (.int (nI S)), some (.int (nI br)), none, none, none, none] [] (fun sz' h' r => sz' = 434 ∧ SH h' ∧ KNo k h h' ∧ (∃ B' z', h' 24 = c24 (nI c) kn B' (nI z') ∧ chQ (hdB G) c S br B z B' z') ∧ r = []) := by
  have hkc : k ≤ c := by rw [← hkS]; exact ct_le S c
  have hz17 := bOk_17 hc hO
  refine r_iload_n rfl dX0_choose_0 rfl ?_
  refine r_if_lt (tgt := 20) rfl rfl dX0_choose_1 (fun zc => absurd zc (nI_pos (by omega))) (fun _ => ?_)
  refine r_iload_n rfl dX0_choose_4 rfl ?_
  refine r_aload_n rfl dX0_choose_5 rfl ?_
  refine r_getv 2 rfl dX0_choose_6 (show 2 ≤ 24 ∧ 24 < 434 by decide) f24 fl_X0_27 rfl ?_
  refine r_icmp_gt (tgt := 20) rfl rfl dX0_choose_9 (fun c51 => ?_) (fun c51 => ?_)
  · have q52 : c < k := (nI_ltI (a := c) (b := k) (by omega) (by omega)).mp c51
    exact absurd q52 (by omega)
  · have q53 : ¬ c < k := fun z => c51 ((nI_ltI (a := c) (b := k) (by omega) (by omega)).mpr z)
    refine r_iload_n rfl dX0_choose_12 rfl ?_
    refine r_aload_n rfl dX0_choose_13 rfl ?_
    refine r_getv 5 rfl dX0_choose_14 (show 2 ≤ 24 ∧ 24 < 434 by decide) f24 fl_X0_44 rfl ?_
    refine r_icmp_le (tgt := 21) rfl rfl dX0_choose_17 (fun c54 => ?_) (fun c54 => ?_)
    · refine r_aload_n rfl dX0_choose_21 rfl ?_
      refine r_getv 1 rfl dX0_choose_22 (show 2 ≤ 24 ∧ 24 < 434 by decide) f24 fl_X0_17 rfl ?_
      refine r_iload_n rfl dX0_choose_25 rfl ?_
      refine r_aald (jn := k) (v := .ref (59 + 2 * k)) rfl dX0_choose_26 (show 2 ≤ 26 ∧ 26 < 434 by decide).1 (show 2 ≤ 26 ∧ 26 < 434 by decide).2 hS.o26 (by decide) (vp_in_nI (n := k) (by omega) (by decide)) (nI_clamp (n := k) (by omega)) (by show va_rf (if _ < _ then _ else _) = _; rw [if_pos (show k < 17 by omega)]; rfl) ?_
      obtain ⟨g55, hw56⟩ := hW.is hS (wsAt_open (j := k) (by omega))
      refine cl_X0_62 rfl rfl dX0_choose_27 (show _ ∧ _ from ⟨((wsAt_open (j := k) (by omega))).2.2.1, Nat.lt_of_succ_lt ((wsAt_open (j := k) (by omega))).2.2.2⟩).1 (show _ ∧ _ from ⟨((wsAt_open (j := k) (by omega))).2.2.1, Nat.lt_of_succ_lt ((wsAt_open (j := k) (by omega))).2.2.2⟩).2 hw56.2.2.1 (Nat.le_of_ble_eq_true rfl) (s_X10_leastWorld hw56) ?_
      rintro _ h57 _ ⟨rfl, e58, rfl⟩
      replace e58 := e58.symm
      subst e58
      refine r_topi (fun x59 e60 => ?_)
      refine r_istore (ls' := [some (.ref 24), some (.int (nI k)), some (.int (nI S)), some (.int (nI br)), some (.int x59), none, none, none]) rfl dX0_choose_30 (Nat.le_of_ble_eq_true rfl) rfl ?_
      refine r_iload rfl dX0_choose_32 rfl ?_
      refine r_if_ge (tgt := 44) rfl rfl dX0_choose_34 (fun c61 => ?_) (fun c61 => ?_)
      · obtain ⟨w, hw, eL, hp⟩ : ∃ w : Nat, w < 256 ∧ wsLeast (wO (alB (hdB G) S c) 0) (wO (alB (hdB G) S c) 1) (wO (alB (hdB G) S c) 2) (wO (alB (hdB G) S c) 3) = nI w ∧ alB (hdB G) S c w = true := by
          rcases least_s (alB (hdB G) S c) with ⟨eL, -⟩ | hx
          · rw [e60, eL] at c61
            exact absurd c61 (by decide)
          · exact hx
        obtain rfl : x59 = nI w := e60.trans eL
        refine r_iload_n rfl dX0_choose_44 rfl ?_
        refine r_istore (ls' := [some (.ref 24), some (.int (nI k)), some (.int (nI S)), some (.int (nI br)), some (.int (nI w)), some (.int (nI br)), none, none]) rfl dX0_choose_45 (Nat.le_of_ble_eq_true rfl) rfl ?_
        refine r_iconst (v := 0) rfl dX0_choose_47 (by decide) ?_
        refine r_istore (ls' := [some (.ref 24), some (.int (nI k)), some (.int (nI S)), some (.int (nI br)), some (.int (nI w)), some (.int (nI br)), some (.int 0), none]) rfl dX0_choose_48 (Nat.le_of_ble_eq_true rfl) rfl ?_
        exact v_ch hc hk hSl hkS hw hp rc c 0 h B z br _ (by omega) hS f24 (KNo_rf k h) hbr hO (fun _ q => q) cv_0 hD hW
      · have hz : ∀ w, w < 256 → alB (hdB G) S c w = false := by
          rcases least_s (alB (hdB G) S c) with ⟨-, hx⟩ | ⟨w, hw, eL, -⟩
          · exact hx
          · rw [e60, eL] at c61
            exact absurd (show (0 : Int32) ≤ nI w from nI_le (a := 0) (b := w) (by omega) (by omega)) c61
        refine r_aload_n rfl dX0_choose_37 rfl ?_
        refine r_iload_n rfl dX0_choose_38 rfl ?_
        refine r_iload_n rfl dX0_choose_39 rfl ?_
        refine cl_X0_66 rfl rfl dX0_choose_40 (show 2 ≤ 24 ∧ 24 < 434 by decide).1 (show 2 ≤ 24 ∧ 24 < 434 by decide).2 f24 (Nat.le_of_ble_eq_true rfl) (v_X0_keep hS (by omega) hz17 f24) ?_
        rintro _ h62 _ ⟨rfl, hS63, hk64, ⟨B66, z67, f68, kp69⟩, rfl⟩
        exact r_ret dX0_choose_43 (rt_v rfl) ⟨rfl, hS63, KNo_M hk64, ⟨B66, z67, f68, ch_leaf hO hkS hSl hz kp69⟩, rfl⟩
    · exact r_ret dX0_choose_20 (rt_v rfl) ⟨rfl, hS, KNo_rf k h, ⟨B, z, f24, ch_far hO hkS (by have q : ¬ k ≤ z := (fun t => c54 ((nI_leI (a := k) (b := z) (by omega) (by omega)).mpr t)); omega)⟩, rfl⟩
theorem v_X0_choose {xs : Nat → Int32} {L d : Nat} {c : Nat} {G : Nat → Int32} {kn : Int32} (hc : c ≤ 16) : ∀ (m k : Nat), k + m = 17 → ∀ (h : ev_H) (B : Int32) (z S br : Nat), SH h → h 24 = c24 (nI c) kn B (nI z) → bOk (hdB G) c B z → S < 2 ^ c → cB S c = k → br < 65536 → HDc G c h → WD h (59 + 2 * k) (wO (alB (hdB G) S c)) → EV xs L (d + (m + 3)) 0 0 M_X0_choose 434 h 0 [some (.ref 24), some (.int (nI k)), some (.int (nI S)), some (.int (nI br)), none, none, none, none] [] (fun sz' h' r => sz' = 434 ∧ SH h' ∧ KNo k h h' ∧ (∃ B' z', h' 24 = c24 (nI c) kn B' (nI z') ∧ chQ (hdB G) c S br B z B' z') ∧ r = []) := by
  intro m
  induction m with
  | zero => intro k hk h B z S br hS f24 hO hSl hkS hbr hD hW; exact absurd (ct_le S c) (by omega)
  | succ m ih => intro k hk h B z S br hS f24 hO hSl hkS hbr hD hW; exact v_ch_w hc hk hS f24 hO hSl hkS hbr hD hW (fun h' B' z' S' br' q1 q2 q3 q4 q5 q6 q7 q8 => ih (k + 1) (by omega) h' B' z' S' br' q1 q2 q3 q4 q5 q6 q7 q8)
set_option maxRecDepth 20000 in
set_option maxHeartbeats 1000000 in
theorem v_X0_leastSet {xs : Nat → Int32} {L d : Nat} {h : ev_H} {c : Nat} {G : Nat → Int32} {kn bs bz : Int32} (hS : SH h) (hc : c ≤ 16) (f24 : h 24 = c24 (nI c) kn bs bz) (hD : HDc G c h) (hfk : kn = 0 ∨ bs = ndA (hdB G) c) : EV xs L (d + 21) 0 0 M_X0_leastSet 434 h 0 [some (.ref 24)] [] (fun sz' h' r => sz' = 434 ∧ SH h' ∧ KZ h h' ∧ (∃ kn bs bz, h' 24 = c24 (nI c) kn bs bz ∧ (kn = 0 ∨ bs = ndA (hdB G) c)) ∧ r = [.int (ndA (hdB G) c)]) := by
  refine r_aload_n rfl dX0_leastSet_0 rfl ?_
  refine r_getv 3 rfl dX0_leastSet_1 (show 2 ≤ 24 ∧ 24 < 434 by decide) f24 fl_X0_37 rfl ?_
  refine r_if_ne (tgt := 47) rfl rfl dX0_leastSet_4 (fun c51 => ?_) (fun c51 => ?_)
  · refine r_aload_n rfl dX0_leastSet_47 rfl ?_
    refine r_getv 4 rfl dX0_leastSet_48 (show 2 ≤ 24 ∧ 24 < 434 by decide) f24 fl_X0_41 rfl ?_
    exact r_ret dX0_leastSet_51 (rt_i rfl) ⟨rfl, hS, (KZ_rf h), ⟨_, _, _, f24, hfk⟩, by rw [hfk.resolve_left c51] <;> rfl⟩
  · refine r_aload_n rfl dX0_leastSet_7 rfl ?_
    refine r_bipush (v := (-9)) rfl dX0_leastSet_8 (by decide) ?_
    refine e_put 4 (fs' := [.ref 25, .ref 26, .int (nI c), .int kn, .int (-9), .int bz]) rfl dX0_leastSet_10 (show 2 ≤ 24 ∧ 24 < 434 by decide) hS (KM_rf (Mod := [24]) _) (List.mem_singleton.mpr rfl) f24 (fp_X0_41 rfl _) (Nat.le_of_ble_eq_true rfl) rfl (fun h52 hS53 _ hN54 f55 => ?_)
    have hk56 : KM [24] h h52 := hN54
    have hF57 := KZ_tr (KZ_rf h) (KZ_M hk56)
    refine r_aload_n rfl dX0_leastSet_13 rfl ?_
    refine r_bipush (v := 17) rfl dX0_leastSet_14 (by decide) ?_
    refine e_put 5 (fs' := [.ref 25, .ref 26, .int (nI c), .int kn, .int (-9), .int 17]) rfl dX0_leastSet_16 (show 2 ≤ 24 ∧ 24 < 434 by decide) hS53 (KM_rf (Mod := [24]) _) (List.mem_singleton.mpr rfl) f55 (fp_X0_44 rfl _) (Nat.le_of_ble_eq_true rfl) rfl (fun h58 hS59 _ hN60 f61 => ?_)
    have hk62 : KM [24] h52 h58 := hN60
    have hF63 := KZ_tr hF57 (KZ_M hk62)
    refine r_aload_n rfl dX0_leastSet_19 rfl ?_
    refine cl_X0_47 rfl rfl dX0_leastSet_20 (show 2 ≤ 24 ∧ 24 < 434 by decide).1 (show 2 ≤ 24 ∧ 24 < 434 by decide).2 f61 (Nat.le_of_ble_eq_true rfl) (v_X0_allClash hS59 hc f61 (HDc_Z hc hF63 hD)) ?_
    rintro _ h64 _ ⟨rfl, hS65, hk66, f70, rfl⟩
    have hF72 := KZ_tr hF63 (KZ_1 hk66)
    refine r_if_eq (tgt := 42) rfl rfl dX0_leastSet_23 (fun c73 => ?_) (fun c73 => ?_)
    · have hn : ¬ clB (hdB G) c (2 ^ c - 1) = true := fun z => by rw [if_pos z] at c73; exact absurd c73 (by decide)
      refine r_aload_n rfl dX0_leastSet_42 rfl ?_
      refine r_iconst (v := 1) rfl dX0_leastSet_43 (by decide) ?_
      refine e_put 3 (fs' := [.ref 25, .ref 26, .int (nI c), .int 1, .int (-9), .int 17]) rfl dX0_leastSet_44 (show 2 ≤ 24 ∧ 24 < 434 by decide) hS65 (KM_rf (Mod := [24]) _) (List.mem_singleton.mpr rfl) f70 (fp_X0_37 rfl _ (Or.inr rfl)) (Nat.le_of_ble_eq_true rfl) rfl (fun h74 hS75 _ hN76 f77 => ?_)
      have hk78 : KM [24] h64 h74 := hN76
      have hF79 := KZ_tr hF72 (KZ_M hk78)
      refine r_aload_n rfl dX0_leastSet_47 rfl ?_
      refine r_getv 4 rfl dX0_leastSet_48 (show 2 ≤ 24 ∧ 24 < 434 by decide) f77 fl_X0_41 rfl ?_
      exact r_ret dX0_leastSet_51 (rt_i rfl) ⟨rfl, hS75, hF79, ⟨_, _, _, f77, Or.inr (by rw [ndA, if_neg hn])⟩, by rw [ndA, if_neg hn] <;> rfl⟩
    · have hy : clB (hdB G) c (2 ^ c - 1) = true := Decidable.byContradiction (fun z => c73 (by rw [if_neg z]))
      refine r_aload_n rfl dX0_leastSet_26 rfl ?_
      refine r_getv 1 rfl dX0_leastSet_27 (show 2 ≤ 24 ∧ 24 < 434 by decide) f70 fl_X0_17 rfl ?_
      refine r_iconst (v := 0) rfl dX0_leastSet_30 (by decide) ?_
      refine r_aald (jn := 0) (v := .ref (59 + 2 * 0)) rfl dX0_leastSet_31 (show 2 ≤ 26 ∧ 26 < 434 by decide).1 (show 2 ≤ 26 ∧ 26 < 434 by decide).2 hS65.o26 (by decide) (vp_in_nI (n := 0) (by omega) (by decide)) (nI_clamp (n := 0) (by omega)) (by show va_rf (if _ < _ then _ else _) = _; rw [if_pos (show 0 < 17 by omega)]; rfl) ?_
      obtain ⟨g80, hw81⟩ := hS65.ws (wsAt_open (j := 0) (by omega))
      refine cl_X0_51 rfl rfl dX0_leastSet_32 (show _ ∧ _ from ⟨((wsAt_open (j := 0) (by omega))).2.2.1, Nat.lt_of_succ_lt ((wsAt_open (j := 0) (by omega))).2.2.2⟩).1 (show _ ∧ _ from ⟨((wsAt_open (j := 0) (by omega))).2.2.1, Nat.lt_of_succ_lt ((wsAt_open (j := 0) (by omega))).2.2.2⟩).2 hw81.2.2.1 (Nat.le_of_ble_eq_true rfl) (s_X10_fill hw81) ?_
      rintro _ h82 _ ⟨rfl, eh83, rfl⟩
      have hS84 := SH_p hS65 (wsAt_open (j := 0) (by omega)) eh83
      have hk85 : K1 (59 + 2 * 0) h64 h82 := K1_up eh83
      have w85 : WD h82 (59 + 2 * 0) (wO (alB (hdB G) 0 c)) := WD_cg (V := fun _ => -1) (fun p _ => al_z.symm) (WD_up eh83 rfl rfl rfl rfl)
      have hF86 := KZ_tr hF72 (KZ_1 hk85)
      have f87 : h82 (24) = .inr (0, [.ref 25, .ref 26, .int (nI c), .int kn, .int (-9), .int 17]) := (hk85 _ (by decide)).trans f70
      refine r_aload_n rfl dX0_leastSet_35 rfl ?_
      refine r_iconst (v := 0) rfl dX0_leastSet_36 (by decide) ?_
      refine r_iconst (v := 0) rfl dX0_leastSet_37 (by decide) ?_
      refine r_iconst (v := 0) rfl dX0_leastSet_38 (by decide) ?_
      refine cl_X0_54 rfl rfl dX0_leastSet_39 (show 2 ≤ 24 ∧ 24 < 434 by decide).1 (show 2 ≤ 24 ∧ 24 < 434 by decide).2 f87 (Nat.le_of_ble_eq_true rfl) (v_X0_choose hc 17 0 rfl h82 (-9) 17 0 0 hS84 f87 (Or.inl ⟨rfl, rfl⟩) (Nat.two_pow_pos c) (ct_z c) (by decide) (HDc_Z hc hF86 hD) w85) ?_
      rintro _ h88 _ ⟨rfl, hS89, hk90, ⟨bs92, z93, f94, hq94⟩, rfl⟩
      have hF95 := KZ_tr hF86 (KZ_N hk90)
      refine r_aload_n rfl dX0_leastSet_42 rfl ?_
      refine r_iconst (v := 1) rfl dX0_leastSet_43 (by decide) ?_
      refine e_put 3 (fs' := [.ref 25, .ref 26, .int (nI c), .int 1, .int bs92, .int (nI z93)]) rfl dX0_leastSet_44 (show 2 ≤ 24 ∧ 24 < 434 by decide) hS89 (KM_rf (Mod := [24]) _) (List.mem_singleton.mpr rfl) f94 (fp_X0_37 rfl _ (Or.inr rfl)) (Nat.le_of_ble_eq_true rfl) rfl (fun h96 hS97 _ hN98 f99 => ?_)
      have hk100 : KM [24] h88 h96 := hN98
      have hF101 := KZ_tr hF95 (KZ_M hk100)
      refine r_aload_n rfl dX0_leastSet_47 rfl ?_
      refine r_getv 4 rfl dX0_leastSet_48 (show 2 ≤ 24 ∧ 24 < 434 by decide) f99 fl_X0_41 rfl ?_
      exact r_ret dX0_leastSet_51 (rt_i rfl) ⟨rfl, hS97, hF101, ⟨_, _, _, f99, Or.inr (nd_fin hc hy hq94)⟩, by rw [nd_fin hc hy hq94] <;> rfl⟩
set_option maxRecDepth 20000 in
set_option maxHeartbeats 1000000 in
theorem v_X11_needed {xs : Nat → Int32} {L d : Nat} {h : ev_H} {k : Nat} {cc sc wr el x : Int32} {c : Nat} {G : Nat → Int32} {kn bs bz : Int32} (hS : SH h) (h2 : h 2 = c2 cc (nI k) sc wr el) (hk : k ≤ 40) (hc : c ≤ 16) (f24 : h 24 = c24 (nI c) kn bs bz) (hD : HDc G c h) (hfk : kn = 0 ∨ bs = ndA (hdB G) c) : EV xs L (d + 22) 0 0 M_X11_needed 434 h 0 [some (.ref 2), some (.int x)] [] (fun sz' h' r => sz' = 434 ∧ SH h' ∧ KZ h h' ∧ (∃ kn bs bz, h' 24 = c24 (nI c) kn bs bz ∧ (kn = 0 ∨ bs = ndA (hdB G) c)) ∧ r = [.int (ndR (hdB G) c x)]) := by
  refine r_iload_n rfl dX11_needed_0 rfl ?_
  refine r_if_lt (tgt := 9) rfl rfl dX11_needed_1 (fun c51 => ?_) (fun c51 => ?_)
  · refine r_iconst (v := (-1)) rfl dX11_needed_9 (by decide) ?_
    refine r_goto (pc' := 24) rfl dX11_needed_10 ?_
    exact r_ret dX11_needed_24 (rt_i rfl) ⟨rfl, hS, (KZ_rf h), ⟨_, _, _, f24, hfk⟩, by rw [ndR, if_pos (by rw [inR, if_pos c51])] <;> rfl⟩
  · refine r_iload_n rfl dX11_needed_4 rfl ?_
    refine r_iconst (v := 1) rfl dX11_needed_5 (by decide) ?_
    refine r_icmp_le (tgt := 13) rfl rfl dX11_needed_6 (fun c52 => ?_) (fun c52 => ?_)
    · refine r_iload_n rfl dX11_needed_13 rfl ?_
      refine r_aload_n rfl dX11_needed_14 rfl ?_
      refine r_getv 4 rfl dX11_needed_15 (show 2 ≤ 2 ∧ 2 < 434 by decide) h2 fl_X11_39 rfl ?_
      refine cl_X11_200 rfl rfl dX11_needed_18 (show 2 ≤ 24 ∧ 24 < 434 by decide).1 (show 2 ≤ 24 ∧ 24 < 434 by decide).2 f24 (Nat.le_of_ble_eq_true rfl) (v_X0_leastSet hS hc f24 hD hfk) ?_
      rintro _ h53 _ ⟨rfl, hS54, hk55, ⟨kn56, bs57, bz58, f59, q59⟩, rfl⟩
      refine cl_X11_189 rfl rfl dX11_needed_21 (Nat.le_of_ble_eq_true rfl) s_X11_sizeOrSet ?_
      rintro _ h63 _ ⟨rfl, e64, rfl⟩
      replace e64 := e64.symm
      subst e64
      exact r_ret dX11_needed_24 (rt_i rfl) ⟨rfl, hS54, hk55, ⟨_, _, _, f59, q59⟩, by rw [ndR, if_neg (by rw [inR, if_neg c51, if_neg (Int32.not_lt.mpr c52)]; decide)] <;> rfl⟩
    · refine r_iconst (v := (-1)) rfl dX11_needed_9 (by decide) ?_
      refine r_goto (pc' := 24) rfl dX11_needed_10 ?_
      exact r_ret dX11_needed_24 (rt_i rfl) ⟨rfl, hS, (KZ_rf h), ⟨_, _, _, f24, hfk⟩, by rw [ndR, if_pos (by rw [inR, if_neg c51, if_pos (Int32.not_le.mp c52)])] <;> rfl⟩
