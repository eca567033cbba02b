theorem jd_eq {G : Nat → Int32} {c : Nat} {lo lt : Int32} {U V : Nat → Int64} (hUV : ∀ p, p < 4 → U p = V p) (hsh : lo &&& lt = nI (shN G c)) : (if lla 8 0 (U 0) (U 1) (U 2) (U 3) 0 &&& ((lo &&& lt) ^^^ (-1)) = 0 then (if wsIn (wO (onP G 1 c) 0) (wO (onP G 1 c) 1) (wO (onP G 1 c) 2) (wO (onP G 1 c) 3) (U 0) (U 1) (U 2) (U 3) = 0 then 2 else if wsz (wO (onP G 2 c) 0 &&& U 0) (wO (onP G 2 c) 1 &&& U 1) (wO (onP G 2 c) 2 &&& U 2) (wO (onP G 2 c) 3 &&& U 3) = 0 then 0 else 3) else 1) = btV G c V := by
  rw [lla_lkO (P := pO V) (fun p hp => (hUV p hp).trans (pO_w V p)), hsh, btV]
  by_cases h : lkO (pO V) 256 &&& (nI (shN G c) ^^^ (-1)) = 0
  · rw [if_pos h, if_pos h, ckL_cg (A' := wO (onP G 1 c)) (B' := wO (onP G 2 c)) (S' := U) 4 0 (fun p hp => ⟨rfl, rfl, (hUV p hp).symm⟩)]
    by_cases h1 : wsIn (wO (onP G 1 c) 0) (wO (onP G 1 c) 1) (wO (onP G 1 c) 2) (wO (onP G 1 c) 3) (U 0) (U 1) (U 2) (U 3) = 0
    · rw [if_pos h1, ckL_t _ _ _ 4 0 ((wsIn_iff (wO (onP G 1 c)) U).mp h1)]
    · rw [if_neg h1, ckL_0 _ _ _ 4 0 (fun p hp => Decidable.byContradiction (fun z => h1 ((wsIn_iff (wO (onP G 1 c)) U).mpr ⟨p, hp, z⟩))) (Or.inl rfl)]
      by_cases h2 : wsz (wO (onP G 2 c) 0 &&& U 0) (wO (onP G 2 c) 1 &&& U 1) (wO (onP G 2 c) 2 &&& U 2) (wO (onP G 2 c) 3 &&& U 3) = 0
      · rw [if_pos h2, if_pos (fun p hp => by rw [Int64.and_comm]; exact (wsz_iff (wO (onP G 2 c)) U).mp h2 p hp)]
      · rw [if_neg h2, if_neg (fun z => h2 ((wsz_iff (wO (onP G 2 c)) U).mpr (fun p hp => by rw [Int64.and_comm]; exact z p hp)))]
  · rw [if_neg h, if_neg h]
set_option maxRecDepth 20000 in
set_option maxHeartbeats 1000000 in
theorem v_X7_judge {xs : Nat → Int32} {L d : Nat} {h : ev_H} {lo lt fk fs : Int32} {c l q : Nat} {G : Nat → Int32} {U V : Nat → Int64} (hS : SH h) (f13 : h 13 = c13 lo lt fk fs) (hq : wsAt q) (hD : SDc G c l h) (hU : WD h q U) (hUV : ∀ p, p < 4 → U p = V p) (hsh : lo &&& lt = nI (shN G c)) : EV xs L (d + 3) 0 0 M_X7_judge 434 h 0 [some (.ref 13), some (.ref q)] [] (fun sz' h' r => sz' = 434 ∧ h' = h ∧ r = [.int (btV G c V)]) := by
  refine r_aload_n rfl dX7_judge_0 rfl ?_
  obtain ⟨t51, hw52⟩ := hU.is hS hq
  refine cl_X7_74 rfl rfl dX7_judge_1 (show _ ∧ _ from ⟨(hq).2.2.1, Nat.lt_of_succ_lt (hq).2.2.2⟩).1 (show _ ∧ _ from ⟨(hq).2.2.1, Nat.lt_of_succ_lt (hq).2.2.2⟩).2 hw52.2.2.1 (Nat.le_of_ble_eq_true rfl) (s_X10_lettersLookedAt hw52) ?_
  rintro _ h53 _ ⟨rfl, e54, rfl⟩
  replace e54 := e54.symm
  subst e54
  refine r_aload_n rfl dX7_judge_4 rfl ?_
  refine cl_X7_60 rfl rfl dX7_judge_5 (show 2 ≤ 13 ∧ 13 < 434 by decide).1 (show 2 ≤ 13 ∧ 13 < 434 by decide).2 f13 (Nat.le_of_ble_eq_true rfl) (x_X7_sharedLetters hS f13) ?_
  rintro _ h55 _ ⟨rfl, e56, rfl⟩
  replace e56 := e56.symm
  subst e56
  refine r_iconst (v := (-1)) rfl dX7_judge_8 (by decide) ?_
  refine r_ixor rfl dX7_judge_9 ?_
  refine r_iand rfl dX7_judge_10 ?_
  refine r_if_eq (tgt := 16) rfl rfl dX7_judge_11 (fun c58 => ?_) (fun c58 => ?_)
  · refine r_aload_n rfl dX7_judge_16 rfl ?_
    refine r_getv 0 rfl dX7_judge_17 (show 2 ≤ 13 ∧ 13 < 434 by decide) f13 fl_X7_12 rfl ?_
    refine r_aload_n rfl dX7_judge_20 rfl ?_
    obtain ⟨t59, hw60⟩ := hD.1.is hS wsAt_14
    obtain ⟨t61, hw62⟩ := hU.is hS hq
    refine cl_X7_77 rfl rfl dX7_judge_21 (show 2 ≤ 14 ∧ 14 < 434 by decide).1 (show 2 ≤ 14 ∧ 14 < 434 by decide).2 hw60.2.2.1 (Nat.le_of_ble_eq_true rfl) (s_X10_isWithin hw60 hw62) ?_
    rintro _ h63 _ ⟨rfl, e64, rfl⟩
    replace e64 := e64.symm
    subst e64
    refine r_if_ne (tgt := 29) rfl rfl dX7_judge_24 (fun c65 => ?_) (fun c65 => ?_)
    · refine r_aload_n rfl dX7_judge_29 rfl ?_
      refine r_getv 1 rfl dX7_judge_30 (show 2 ≤ 13 ∧ 13 < 434 by decide) f13 fl_X7_18 rfl ?_
      refine r_aload_n rfl dX7_judge_33 rfl ?_
      obtain ⟨t66, hw67⟩ := hD.2.1.is hS wsAt_16
      obtain ⟨t68, hw69⟩ := hU.is hS hq
      refine cl_X7_81 rfl rfl dX7_judge_34 (show 2 ≤ 16 ∧ 16 < 434 by decide).1 (show 2 ≤ 16 ∧ 16 < 434 by decide).2 hw67.2.2.1 (Nat.le_of_ble_eq_true rfl) (s_X10_sizeWith hw67 hw69) ?_
      rintro _ h70 _ ⟨rfl, e71, rfl⟩
      replace e71 := e71.symm
      subst e71
      refine r_if_eq (tgt := 44) rfl rfl dX7_judge_37 (fun c72 => ?_) (fun c72 => ?_)
      · refine r_iconst (v := 0) rfl dX7_judge_44 (by decide) ?_
        exact r_ret dX7_judge_45 (rt_i rfl) ⟨rfl, rfl, by rw [← jd_eq hUV hsh, if_pos c58, if_neg c65, if_pos c72] <;> rfl⟩
      · refine r_iconst (v := 3) rfl dX7_judge_40 (by decide) ?_
        refine r_goto (pc' := 45) rfl dX7_judge_41 ?_
        exact r_ret dX7_judge_45 (rt_i rfl) ⟨rfl, rfl, by rw [← jd_eq hUV hsh, if_pos c58, if_neg c65, if_neg c72] <;> rfl⟩
    · refine r_iconst (v := 2) rfl dX7_judge_27 (by decide) ?_
      exact r_ret dX7_judge_28 (rt_i rfl) ⟨rfl, rfl, by rw [← jd_eq hUV hsh, if_pos c58, if_pos c65] <;> rfl⟩
  · refine r_iconst (v := 1) rfl dX7_judge_14 (by decide) ?_
    exact r_ret dX7_judge_15 (rt_i rfl) ⟨rfl, rfl, by rw [← jd_eq hUV hsh, if_neg c58] <;> rfl⟩
set_option maxRecDepth 20000 in
set_option maxHeartbeats 1000000 in
theorem v_X11_between {xs : Nat → Int32} {L d : Nat} {h : ev_H} {k : Nat} {cc sc wr el : Int32} {G : Nat → Int32} {Y : Nat → Int64} {x lo lt fk fs : Int32} {c l : Nat} (hS : SH h) (h2 : h 2 = c2 cc (nI k) sc wr el) (hk : k ≤ 40) (hck : k ≤ 40) (hLN : LN k G h) (hSW : SWc k Y h) (f13 : h 13 = c13 lo lt fk fs) (hD : SDc G c l h) (hsh : lo &&& lt = nI (shN G c)) : EV xs L (d + 4) 0 0 M_X11_between 434 h 0 [some (.ref 2), some (.int x), none] [] (fun sz' h' r => sz' = 434 ∧ h' = h ∧ ((inR x 0 2 = 0 ∧ r = [.int (-1)]) ∨ (∃ j : Nat, j < 3 ∧ x = nI j ∧ ((∃ n : Nat, n < k ∧ el = nI n ∧ r = [.int (btV G c (fun p => Y (160 * j + 4 * n + p)))]) ∨ ((∀ n : Nat, n < k → ¬ el = nI n) ∧ r = [.int (-2)]))))) := by
  refine r_iload_n rfl dX11_between_0 rfl ?_
  refine cl_X11_150 rfl rfl dX11_between_1 (Nat.le_of_ble_eq_true rfl) s_X11_isWay ?_
  rintro _ h51 _ ⟨rfl, e52, rfl⟩
  replace e52 := e52.symm
  subst e52
  refine r_if_ne (tgt := 9) rfl rfl dX11_between_4 (fun c53 => ?_) (fun c53 => ?_)
  · obtain ⟨j54, hj55, ej56⟩ := isWy_nat c53
    subst ej56
    refine r_aload_n rfl dX11_between_9 rfl ?_
    refine r_aload_n rfl dX11_between_10 rfl ?_
    refine r_getv 15 rfl dX11_between_11 (show 2 ≤ 2 ∧ 2 < 434 by decide) h2 fl_X11_86 rfl ?_
    refine cl_X11_121 rfl rfl dX11_between_14 (show 2 ≤ 2 ∧ 2 < 434 by decide).1 (show 2 ≤ 2 ∧ 2 < 434 by decide).2 h2 (Nat.le_of_ble_eq_true rfl) (x_X11_lineAt hS h2 hk) ?_
    rintro _ h57 _ ⟨rfl, e58, ⟨n59, hn60, ex61, rfl⟩ | ⟨hno62, rfl⟩⟩
    · replace e58 := e58.symm
      subst e58
      refine r_astore_n (ls' := [some (.ref 2), some (.int (nI j54)), some (.ref (100 + 8 * n59))]) rfl dX11_between_17 (Nat.le_of_ble_eq_true rfl) rfl ?_
      refine r_aload_n rfl dX11_between_18 rfl ?_
      refine r_ifnonnull (tgt := 27) rfl dX11_between_19 ?_
      refine r_aload_n rfl dX11_between_27 rfl ?_
      refine r_getv 3 rfl dX11_between_28 (show 2 ≤ 2 ∧ 2 < 434 by decide) h2 fl_X11_32 rfl ?_
      refine r_aload_n rfl dX11_between_31 rfl ?_
      refine r_iload_n rfl dX11_between_32 rfl ?_
      refine cl_X11_153 rfl rfl dX11_between_33 (show 2 ≤ 100 + 8 * n59 ∧ 100 + 8 * n59 < 434 by omega).1 (show 2 ≤ 100 + 8 * n59 ∧ 100 + 8 * n59 < 434 by omega).2 (hLN n59 (by omega)) (Nat.le_of_ble_eq_true rfl) (v_X3_sayingBy hS (i := n59) (j := j54) (by omega) (by omega)) ?_
      rintro _ h63 _ ⟨rfl, e64, rfl⟩
      replace e64 := e64.symm
      subst e64
      refine cl_X11_164 rfl rfl dX11_between_36 (show 2 ≤ 13 ∧ 13 < 434 by decide).1 (show 2 ≤ 13 ∧ 13 < 434 by decide).2 f13 (Nat.le_of_ble_eq_true rfl) (v_X7_judge hS f13 (wsAt_ln (i := n59) (w := j54) (by omega) (by omega)) hD (hSW n59 (by omega) j54 (by omega)) (fun _ _ => rfl) hsh) ?_
      rintro _ h65 _ ⟨rfl, e66, rfl⟩
      replace e66 := e66.symm
      subst e66
      exact r_ret dX11_between_39 (rt_i rfl) ⟨rfl, rfl, Or.inr ⟨j54, by omega, rfl, Or.inl ⟨n59, hn60, (by assumption), rfl⟩⟩⟩
    · replace e58 := e58.symm
      subst e58
      refine r_astore_nN (ls' := [some (.ref 2), some (.int (nI j54)), some (.null)]) rfl dX11_between_17 (Nat.le_of_ble_eq_true rfl) rfl ?_
      refine r_aload_nN rfl dX11_between_18 rfl ?_
      refine r_ifnonnullN rfl (by decide) dX11_between_19 ?_
      refine r_bipush (v := (-2)) rfl dX11_between_22 (by decide) ?_
      refine r_goto (pc' := 39) rfl dX11_between_24 ?_
      exact r_ret dX11_between_39 (rt_i rfl) ⟨rfl, rfl, Or.inr ⟨j54, by omega, rfl, Or.inr ⟨hno62, rfl⟩⟩⟩
  · refine r_iconst (v := (-1)) rfl dX11_between_7 (by decide) ?_
    exact r_ret dX11_between_8 (rt_i rfl) ⟨rfl, rfl, Or.inl ⟨by rw [← isWy_in]; exact c53, rfl⟩⟩
