theorem dX11_clausesUnder_0 : decode cX11_clausesUnder 0 = .ok (.iload_n 1, 1) := by decide +kernel
theorem dX11_clausesUnder_1 : decode cX11_clausesUnder 1 = .ok (.invokestatic 292, 3) := by decide +kernel
theorem dX11_clausesUnder_4 : decode cX11_clausesUnder 4 = .ok (.lstore_n 2, 1) := by decide +kernel
theorem dX11_clausesUnder_5 : decode cX11_clausesUnder 5 = .ok (.iload_n 1, 1) := by decide +kernel
theorem dX11_clausesUnder_6 : decode cX11_clausesUnder 6 = .ok (.aload_n 0, 1) := by decide +kernel
theorem dX11_clausesUnder_7 : decode cX11_clausesUnder 7 = .ok (.getfield 25, 3) := by decide +kernel
theorem dX11_clausesUnder_10 : decode cX11_clausesUnder 10 = .ok (.arraylength, 1) := by decide +kernel
theorem dX11_clausesUnder_11 : decode cX11_clausesUnder 11 = .ok (.iconst 1, 1) := by decide +kernel
theorem dX11_clausesUnder_12 : decode cX11_clausesUnder 12 = .ok (.isub, 1) := by decide +kernel
theorem dX11_clausesUnder_13 : decode cX11_clausesUnder 13 = .ok (.invokestatic 229, 3) := by decide +kernel
theorem dX11_clausesUnder_16 : decode cX11_clausesUnder 16 = .ok (.istore 4, 2) := by decide +kernel
theorem dX11_clausesUnder_18 : decode cX11_clausesUnder 18 = .ok (.iload 4, 2) := by decide +kernel
theorem dX11_clausesUnder_20 : decode cX11_clausesUnder 20 = .ok (.aload_n 0, 1) := by decide +kernel
theorem dX11_clausesUnder_21 : decode cX11_clausesUnder 21 = .ok (.getfield 108, 3) := by decide +kernel
theorem dX11_clausesUnder_24 : decode cX11_clausesUnder 24 = .ok (.if_icmp .lt 51, 3) := by decide +kernel
theorem dX11_clausesUnder_27 : decode cX11_clausesUnder 27 = .ok (.lload_n 2, 1) := by decide +kernel
theorem dX11_clausesUnder_28 : decode cX11_clausesUnder 28 = .ok (.iload 4, 2) := by decide +kernel
theorem dX11_clausesUnder_30 : decode cX11_clausesUnder 30 = .ok (.invokestatic 292, 3) := by decide +kernel
theorem dX11_clausesUnder_33 : decode cX11_clausesUnder 33 = .ok (.land, 1) := by decide +kernel
theorem dX11_clausesUnder_34 : decode cX11_clausesUnder 34 = .ok (.lconst 0, 1) := by decide +kernel
theorem dX11_clausesUnder_35 : decode cX11_clausesUnder 35 = .ok (.lcmp, 1) := by decide +kernel
theorem dX11_clausesUnder_36 : decode cX11_clausesUnder 36 = .ok (.ifCond .eq 33, 3) := by decide +kernel
theorem dX11_clausesUnder_39 : decode cX11_clausesUnder 39 = .ok (.lload_n 2, 1) := by decide +kernel
theorem dX11_clausesUnder_40 : decode cX11_clausesUnder 40 = .ok (.aload_n 0, 1) := by decide +kernel
theorem dX11_clausesUnder_41 : decode cX11_clausesUnder 41 = .ok (.getfield 25, 3) := by decide +kernel
theorem dX11_clausesUnder_44 : decode cX11_clausesUnder 44 = .ok (.iload 4, 2) := by decide +kernel
theorem dX11_clausesUnder_46 : decode cX11_clausesUnder 46 = .ok (.aaload, 1) := by decide +kernel
theorem dX11_clausesUnder_47 : decode cX11_clausesUnder 47 = .ok (.getfield 295, 3) := by decide +kernel
theorem dX11_clausesUnder_50 : decode cX11_clausesUnder 50 = .ok (.invokestatic 292, 3) := by decide +kernel
theorem dX11_clausesUnder_53 : decode cX11_clausesUnder 53 = .ok (.aload_n 0, 1) := by decide +kernel
theorem dX11_clausesUnder_54 : decode cX11_clausesUnder 54 = .ok (.getfield 25, 3) := by decide +kernel
theorem dX11_clausesUnder_57 : decode cX11_clausesUnder 57 = .ok (.iload 4, 2) := by decide +kernel
theorem dX11_clausesUnder_59 : decode cX11_clausesUnder 59 = .ok (.aaload, 1) := by decide +kernel
theorem dX11_clausesUnder_60 : decode cX11_clausesUnder 60 = .ok (.getfield 298, 3) := by decide +kernel
theorem dX11_clausesUnder_63 : decode cX11_clausesUnder 63 = .ok (.invokestatic 292, 3) := by decide +kernel
theorem dX11_clausesUnder_66 : decode cX11_clausesUnder 66 = .ok (.lor, 1) := by decide +kernel
theorem dX11_clausesUnder_67 : decode cX11_clausesUnder 67 = .ok (.lor, 1) := by decide +kernel
theorem dX11_clausesUnder_68 : decode cX11_clausesUnder 68 = .ok (.lstore_n 2, 1) := by decide +kernel
theorem dX11_clausesUnder_69 : decode cX11_clausesUnder 69 = .ok (.iinc 4 (-1), 3) := by decide +kernel
theorem dX11_clausesUnder_72 : decode cX11_clausesUnder 72 = .ok (.goto (-54), 3) := by decide +kernel
theorem dX11_clausesUnder_75 : decode cX11_clausesUnder 75 = .ok (.lload_n 2, 1) := by decide +kernel
theorem dX11_clausesUnder_76 : decode cX11_clausesUnder 76 = .ok (.aload_n 0, 1) := by decide +kernel
theorem dX11_clausesUnder_77 : decode cX11_clausesUnder 77 = .ok (.getfield 108, 3) := by decide +kernel
theorem dX11_clausesUnder_80 : decode cX11_clausesUnder 80 = .ok (.invokestatic 292, 3) := by decide +kernel
theorem dX11_clausesUnder_83 : decode cX11_clausesUnder 83 = .ok (.lconst 1, 1) := by decide +kernel
theorem dX11_clausesUnder_84 : decode cX11_clausesUnder 84 = .ok (.lsub, 1) := by decide +kernel
theorem dX11_clausesUnder_85 : decode cX11_clausesUnder 85 = .ok (.land, 1) := by decide +kernel
theorem dX11_clausesUnder_86 : decode cX11_clausesUnder 86 = .ok (.l2i, 1) := by decide +kernel
theorem dX11_clausesUnder_87 : decode cX11_clausesUnder 87 = .ok (.ireturn, 1) := by decide +kernel
theorem dX11_used_0 : decode cX11_used 0 = .ok (.aload_n 0, 1) := by decide +kernel
theorem dX11_used_1 : decode cX11_used 1 = .ok (.getfield 86, 3) := by decide +kernel
theorem dX11_used_4 : decode cX11_used 4 = .ok (.bipush (-9), 2) := by decide +kernel
theorem dX11_used_6 : decode cX11_used 6 = .ok (.if_icmp .ne 8, 3) := by decide +kernel
theorem dX11_used_9 : decode cX11_used 9 = .ok (.bipush (-2), 2) := by decide +kernel
theorem dX11_used_11 : decode cX11_used 11 = .ok (.goto 11, 3) := by decide +kernel
theorem dX11_used_14 : decode cX11_used 14 = .ok (.aload_n 0, 1) := by decide +kernel
theorem dX11_used_15 : decode cX11_used 15 = .ok (.aload_n 0, 1) := by decide +kernel
theorem dX11_used_16 : decode cX11_used 16 = .ok (.getfield 86, 3) := by decide +kernel
theorem dX11_used_19 : decode cX11_used 19 = .ok (.invokevirtual 197, 3) := by decide +kernel
theorem dX11_used_22 : decode cX11_used 22 = .ok (.ireturn, 1) := by decide +kernel
theorem dX11_needed_0 : decode cX11_needed 0 = .ok (.iload_n 1, 1) := by decide +kernel
theorem dX11_needed_1 : decode cX11_needed 1 = .ok (.ifCond .lt 8, 3) := by decide +kernel
theorem dX11_needed_4 : decode cX11_needed 4 = .ok (.iload_n 1, 1) := by decide +kernel
theorem dX11_needed_5 : decode cX11_needed 5 = .ok (.iconst 1, 1) := by decide +kernel
theorem dX11_needed_6 : decode cX11_needed 6 = .ok (.if_icmp .le 7, 3) := by decide +kernel
theorem dX11_needed_9 : decode cX11_needed 9 = .ok (.iconst (-1), 1) := by decide +kernel
theorem dX11_needed_10 : decode cX11_needed 10 = .ok (.goto 14, 3) := by decide +kernel
theorem dX11_needed_13 : decode cX11_needed 13 = .ok (.iload_n 1, 1) := by decide +kernel
theorem dX11_needed_14 : decode cX11_needed 14 = .ok (.aload_n 0, 1) := by decide +kernel
theorem dX11_needed_15 : decode cX11_needed 15 = .ok (.getfield 39, 3) := by decide +kernel
theorem dX11_needed_18 : decode cX11_needed 18 = .ok (.invokevirtual 200, 3) := by decide +kernel
theorem dX11_needed_21 : decode cX11_needed 21 = .ok (.invokestatic 189, 3) := by decide +kernel
theorem dX11_needed_24 : decode cX11_needed 24 = .ok (.ireturn, 1) := by decide +kernel
theorem dX11_count_0 : decode cX11_count 0 = .ok (.iload_n 1, 1) := by decide +kernel
theorem dX11_count_1 : decode cX11_count 1 = .ok (.tableswitch 86 0 5 #[39, 44, 54, 59, 70, 78], 39) := by decide +kernel
theorem dX11_count_40 : decode cX11_count 40 = .ok (.aload_n 0, 1) := by decide +kernel
theorem dX11_count_41 : decode cX11_count 41 = .ok (.getfield 108, 3) := by decide +kernel
theorem dX11_count_44 : decode cX11_count 44 = .ok (.ireturn, 1) := by decide +kernel
theorem dX11_count_45 : decode cX11_count 45 = .ok (.aload_n 0, 1) := by decide +kernel
theorem dX11_count_46 : decode cX11_count 46 = .ok (.getfield 118, 3) := by decide +kernel
theorem dX11_count_49 : decode cX11_count 49 = .ok (.aload_n 0, 1) := by decide +kernel
theorem dX11_count_50 : decode cX11_count 50 = .ok (.getfield 108, 3) := by decide +kernel
theorem dX11_count_53 : decode cX11_count 53 = .ok (.isub, 1) := by decide +kernel
theorem dX11_count_54 : decode cX11_count 54 = .ok (.ireturn, 1) := by decide +kernel
theorem dX11_count_55 : decode cX11_count 55 = .ok (.aload_n 0, 1) := by decide +kernel
theorem dX11_count_56 : decode cX11_count 56 = .ok (.getfield 211, 3) := by decide +kernel
theorem dX11_count_59 : decode cX11_count 59 = .ok (.ireturn, 1) := by decide +kernel
theorem dX11_count_60 : decode cX11_count 60 = .ok (.aload_n 0, 1) := by decide +kernel
theorem dX11_count_61 : decode cX11_count 61 = .ok (.getfield 32, 3) := by decide +kernel
theorem dX11_count_64 : decode cX11_count 64 = .ok (.invokevirtual 214, 3) := by decide +kernel
theorem dX11_count_67 : decode cX11_count 67 = .ok (.invokestatic 217, 3) := by decide +kernel
theorem dX11_count_70 : decode cX11_count 70 = .ok (.ireturn, 1) := by decide +kernel
theorem dX11_count_71 : decode cX11_count 71 = .ok (.aload_n 0, 1) := by decide +kernel
theorem dX11_count_72 : decode cX11_count 72 = .ok (.getfield 12, 3) := by decide +kernel
theorem dX11_count_75 : decode cX11_count 75 = .ok (.invokevirtual 94, 3) := by decide +kernel
theorem dX11_count_78 : decode cX11_count 78 = .ok (.ireturn, 1) := by decide +kernel
theorem dX11_count_79 : decode cX11_count 79 = .ok (.aload_n 0, 1) := by decide +kernel
theorem dX11_count_80 : decode cX11_count 80 = .ok (.getfield 46, 3) := by decide +kernel
theorem dX11_count_83 : decode cX11_count 83 = .ok (.invokevirtual 142, 3) := by decide +kernel
theorem dX11_count_86 : decode cX11_count 86 = .ok (.ireturn, 1) := by decide +kernel
theorem dX11_count_87 : decode cX11_count 87 = .ok (.iconst (-1), 1) := by decide +kernel
theorem dX11_count_88 : decode cX11_count 88 = .ok (.ireturn, 1) := by decide +kernel
theorem cu_of {z x : Int32} (e : z = if (39 : Int32) < x then 39 else x) : z < 0 ∨ ∃ j : Nat, j < 40 ∧ z = nI j := by
  rcases pk_ix z (n := 40) (by decide) with h | h | h
  · exact Or.inl h
  · exfalso
    by_cases h1 : (39 : Int32) < x
    · rw [if_pos h1] at e
      subst e
      exact absurd h (by decide)
    · rw [if_neg h1] at e
      subst e
      rw [Int32.lt_iff_toInt_lt] at h1
      rw [Int32.le_iff_toInt_le, nI_toInt (by decide)] at h
      have e1 : (39 : Int32).toInt = 39 := rfl
      omega
  · exact Or.inr h
theorem neg_lt {z : Int32} {c : Nat} (h : z < 0) (hc : c < 2 ^ 31) : z < nI c := by
  rw [Int32.lt_iff_toInt_lt] at h ⊢
  rw [nI_toInt hc]
  have e1 : (0 : Int32).toInt = 0 := rfl
  omega
set_option maxRecDepth 20000 in
set_option maxHeartbeats 1000000 in
theorem s_cu_z {xs : Nat → Int32} {L d : Nat} {h : ev_H} {c : Nat} {lc sc wr el : Int32} {x kx : Int32} {m : Int64} (hS : SH h) (h2 : h 2 = c2 (nI c) lc sc wr el) (hc : c ≤ 16) (hz : kx < 0) : EV xs L (d + 1) 0 0 M_X11_clausesUnder 434 h 18 [some (.ref 2), some (.int x), some (.long m), none, some (.int kx)] [] (fun sz' h' r => sz' = 434 ∧ h' = h ∧ ∃ x : Int32, r = [.int x]) := by
  refine r_iload rfl dX11_clausesUnder_18 rfl ?_
  refine r_aload_n rfl dX11_clausesUnder_20 rfl ?_
  refine r_getv 11 rfl dX11_clausesUnder_21 (show 2 ≤ 2 ∧ 2 < 434 by decide) h2 fl_X11_108 rfl ?_
  refine r_icmp_lt (tgt := 75) rfl rfl dX11_clausesUnder_24 (fun _ => ?_) (fun zc => absurd (neg_lt hz (by omega)) zc)
  refine r_lload_n rfl dX11_clausesUnder_75 rfl ?_
  refine r_aload_n rfl dX11_clausesUnder_76 rfl ?_
  refine r_getv 11 rfl dX11_clausesUnder_77 (show 2 ≤ 2 ∧ 2 < 434 by decide) h2 fl_X11_108 rfl ?_
  refine cl_X11_292 rfl rfl dX11_clausesUnder_80 (Nat.le_of_ble_eq_true rfl) s_X11_bitOf ?_
  rintro _ h51 _ ⟨rfl, e52, rfl⟩
  replace e52 := e52.symm
  subst e52
  refine r_lconst (v := 1) rfl dX11_clausesUnder_83 (by decide) ?_
  refine r_lsub rfl dX11_clausesUnder_84 ?_
  refine r_land rfl dX11_clausesUnder_85 ?_
  refine r_l2i rfl dX11_clausesUnder_86 ?_
  exact r_ret dX11_clausesUnder_87 (rt_i rfl) ⟨rfl, rfl, _, rfl⟩
set_option maxRecDepth 20000 in
set_option maxHeartbeats 1000000 in
theorem s_cu_s {xs : Nat → Int32} {L d : Nat} {h : ev_H} {c : Nat} {lc sc wr el : Int32} {x : Int32} {m : Int64} {j : Nat} (hS : SH h) (h2 : h 2 = c2 (nI c) lc sc wr el) (hc : c ≤ 16) (hj : j < 40) (ih : ∀ (m' : Int64) (kx : Int32), kx = nI j - 1 → EV xs L (d + 1) 0 0 M_X11_clausesUnder 434 h 18 [some (.ref 2), some (.int x), some (.long m'), none, some (.int kx)] [] (fun sz' h' r => sz' = 434 ∧ h' = h ∧ ∃ x : Int32, r = [.int x])) : EV xs L (d + 1) 0 0 M_X11_clausesUnder 434 h 18 [some (.ref 2), some (.int x), some (.long m), none, some (.int (nI j))] [] (fun sz' h' r => sz' = 434 ∧ h' = h ∧ ∃ x : Int32, r = [.int x]) := by
  refine r_iload rfl dX11_clausesUnder_18 rfl ?_
  refine r_aload_n rfl dX11_clausesUnder_20 rfl ?_
  refine r_getv 11 rfl dX11_clausesUnder_21 (show 2 ≤ 2 ∧ 2 < 434 by decide) h2 fl_X11_108 rfl ?_
  refine r_icmp_lt (tgt := 75) rfl rfl dX11_clausesUnder_24 (fun c51 => ?_) (fun c51 => ?_)
  · have q52 : j < c := (nI_ltI (a := j) (b := c) (by omega) (by omega)).mp c51
    refine r_lload_n rfl dX11_clausesUnder_75 rfl ?_
    refine r_aload_n rfl dX11_clausesUnder_76 rfl ?_
    refine r_getv 11 rfl dX11_clausesUnder_77 (show 2 ≤ 2 ∧ 2 < 434 by decide) h2 fl_X11_108 rfl ?_
    refine cl_X11_292 rfl rfl dX11_clausesUnder_80 (Nat.le_of_ble_eq_true rfl) s_X11_bitOf ?_
    rintro _ h53 _ ⟨rfl, e54, rfl⟩
    replace e54 := e54.symm
    subst e54
    refine r_lconst (v := 1) rfl dX11_clausesUnder_83 (by decide) ?_
    refine r_lsub rfl dX11_clausesUnder_84 ?_
    refine r_land rfl dX11_clausesUnder_85 ?_
    refine r_l2i rfl dX11_clausesUnder_86 ?_
    exact r_ret dX11_clausesUnder_87 (rt_i rfl) ⟨rfl, rfl, _, rfl⟩
  · have q55 : ¬ j < c := fun z => c51 ((nI_ltI (a := j) (b := c) (by omega) (by omega)).mpr z)
    refine r_lload_n rfl dX11_clausesUnder_27 rfl ?_
    refine r_iload rfl dX11_clausesUnder_28 rfl ?_
    refine cl_X11_292 rfl rfl dX11_clausesUnder_30 (Nat.le_of_ble_eq_true rfl) s_X11_bitOf ?_
    rintro _ h56 _ ⟨rfl, e57, rfl⟩
    replace e57 := e57.symm
    subst e57
    refine r_land rfl dX11_clausesUnder_33 ?_
    refine r_lconst (v := 0) rfl dX11_clausesUnder_34 (by decide) ?_
    refine r_lcmp rfl dX11_clausesUnder_35 ?_
    refine r_if_eq (tgt := 69) rfl rfl dX11_clausesUnder_36 (fun c58 => ?_) (fun c58 => ?_)
    · obtain ⟨x59, e60⟩ : ∃ z : Int32, z = (nI j) + Int32.ofInt (-1) := ⟨_, rfl⟩
      refine r_iinc (y := x59) (ls' := [some (.ref 2), some (.int x), some (.long m), none, some (.int x59)]) rfl dX11_clausesUnder_69 rfl e60.symm (Nat.le_of_ble_eq_true rfl) rfl ?_
      refine r_goto (pc' := 18) rfl dX11_clausesUnder_72 ?_
      exact ih _ x59 (by rw [e60, Int32.sub_eq_add_neg]; rfl)
    · refine r_lload_n rfl dX11_clausesUnder_39 rfl ?_
      refine r_aload_n rfl dX11_clausesUnder_40 rfl ?_
      refine r_getv 2 rfl dX11_clausesUnder_41 (show 2 ≤ 2 ∧ 2 < 434 by decide) h2 fl_X11_25 rfl ?_
      refine r_iload rfl dX11_clausesUnder_44 rfl ?_
      refine r_aald (jn := j) (v := .ref (100 + 8 * j)) rfl dX11_clausesUnder_46 (by decide) (by decide) hS.o12 (by decide) (vp_in_nI (n := j) (by omega) (by decide)) (nI_clamp (n := j) (by omega)) (by show va_rf (if _ < _ then _ else _) = _; rw [if_pos (show j < 40 by omega)]; rfl) ?_
      obtain ⟨y61, y62, y63, y64, y65, y66, f67⟩ := hS.ln (i := j) (by omega)
      refine r_getv 4 rfl dX11_clausesUnder_47 (show 2 ≤ 100 + 8 * j ∧ 100 + 8 * j < 434 by omega) f67 fl_X11_295 rfl ?_
      refine cl_X11_292 rfl rfl dX11_clausesUnder_50 (Nat.le_of_ble_eq_true rfl) s_X11_bitOf ?_
      rintro _ h68 _ ⟨rfl, e69, rfl⟩
      replace e69 := e69.symm
      subst e69
      refine r_aload_n rfl dX11_clausesUnder_53 rfl ?_
      refine r_getv 2 rfl dX11_clausesUnder_54 (show 2 ≤ 2 ∧ 2 < 434 by decide) h2 fl_X11_25 rfl ?_
      refine r_iload rfl dX11_clausesUnder_57 rfl ?_
      refine r_aald (jn := j) (v := .ref (100 + 8 * j)) rfl dX11_clausesUnder_59 (by decide) (by decide) hS.o12 (by decide) (vp_in_nI (n := j) (by omega) (by decide)) (nI_clamp (n := j) (by omega)) (by show va_rf (if _ < _ then _ else _) = _; rw [if_pos (show j < 40 by omega)]; rfl) ?_
      obtain ⟨y70, y71, y72, y73, y74, y75, f76⟩ := hS.ln (i := j) (by omega)
      refine r_getv 5 rfl dX11_clausesUnder_60 (show 2 ≤ 100 + 8 * j ∧ 100 + 8 * j < 434 by omega) f76 fl_X11_298 rfl ?_
      refine cl_X11_292 rfl rfl dX11_clausesUnder_63 (Nat.le_of_ble_eq_true rfl) s_X11_bitOf ?_
      rintro _ h77 _ ⟨rfl, e78, rfl⟩
      replace e78 := e78.symm
      subst e78
      refine r_lor rfl dX11_clausesUnder_66 ?_
      refine r_lor rfl dX11_clausesUnder_67 ?_
      refine r_topl (fun x79 e80 => ?_)
      refine r_lstore_n (ls' := [some (.ref 2), some (.int x), some (.long x79), none, some (.int (nI j))]) rfl dX11_clausesUnder_68 (Nat.le_of_ble_eq_true rfl) rfl ?_
      obtain ⟨x81, e82⟩ : ∃ z : Int32, z = (nI j) + Int32.ofInt (-1) := ⟨_, rfl⟩
      refine r_iinc (y := x81) (ls' := [some (.ref 2), some (.int x), some (.long x79), none, some (.int x81)]) rfl dX11_clausesUnder_69 rfl e82.symm (Nat.le_of_ble_eq_true rfl) rfl ?_
      refine r_goto (pc' := 18) rfl dX11_clausesUnder_72 ?_
      exact ih _ x81 (by rw [e82, Int32.sub_eq_add_neg]; rfl)
theorem s_cu {xs : Nat → Int32} {L d : Nat} {h : ev_H} {c : Nat} {lc sc wr el x : Int32} (hS : SH h) (h2 : h 2 = c2 (nI c) lc sc wr el) (hc : c ≤ 16) : ∀ (n : Nat) (m : Int64) (kx : Int32), n ≤ 40 → kx = nI n - 1 → EV xs L (d + 1) 0 0 M_X11_clausesUnder 434 h 18 [some (.ref 2), some (.int x), some (.long m), none, some (.int kx)] [] (fun sz' h' r => sz' = 434 ∧ h' = h ∧ ∃ x : Int32, r = [.int x]) := by
  intro n
  induction n with
  | zero => intro m kx hn e; exact s_cu_z hS h2 hc (by rw [e]; decide)
  | succ n ih => intro m kx hn e; obtain rfl : kx = nI n := (by rw [e]; exact nI_pred n); exact s_cu_s hS h2 hc (by omega) (fun m' kx q => ih m' kx (by omega) q)
set_option maxRecDepth 20000 in
set_option maxHeartbeats 1000000 in
theorem s_X11_clausesUnder {xs : Nat → Int32} {L d : Nat} {h : ev_H} {c : Nat} {lc sc wr el : Int32} {x : Int32} (hS : SH h) (h2 : h 2 = c2 (nI c) lc sc wr el) (hc : c ≤ 16) : EV xs L (d + 1) 0 0 M_X11_clausesUnder 434 h 0 [some (.ref 2), some (.int x), none, none, none] [] (fun sz' h' r => sz' = 434 ∧ h' = h ∧ ∃ x : Int32, r = [.int x]) := by
  refine r_iload_n rfl dX11_clausesUnder_0 rfl ?_
  refine cl_X11_292 rfl rfl dX11_clausesUnder_1 (Nat.le_of_ble_eq_true rfl) s_X11_bitOf ?_
  rintro _ h51 _ ⟨rfl, e52, rfl⟩
  replace e52 := e52.symm
  subst e52
  refine r_topl (fun x53 e54 => ?_)
  refine r_lstore_n (ls' := [some (.ref 2), some (.int x), some (.long x53), none, none]) rfl dX11_clausesUnder_4 (Nat.le_of_ble_eq_true rfl) rfl ?_
  refine r_iload_n rfl dX11_clausesUnder_5 rfl ?_
  refine r_aload_n rfl dX11_clausesUnder_6 rfl ?_
  refine r_getv 2 rfl dX11_clausesUnder_7 (show 2 ≤ 2 ∧ 2 < 434 by decide) h2 fl_X11_25 rfl ?_
  refine r_alen (v := 40) rfl dX11_clausesUnder_10 (by decide) (by decide) hS.o12 (by decide) (by decide) ?_
  refine r_iconst (v := 1) rfl dX11_clausesUnder_11 (by decide) ?_
  refine r_isub rfl dX11_clausesUnder_12 ?_
  refine r_eqi (y := 39) (by decide) ?_
  refine r_min rfl dX11_clausesUnder_13 (Nat.succ_pos _) (Nat.le_of_ble_eq_true rfl) mm_X11_229 mm_st mm_in mm_co ?_
  refine r_topi (fun x55 e56 => ?_)
  refine r_istore (ls' := [some (.ref 2), some (.int x), some (.long x53), none, some (.int x55)]) rfl dX11_clausesUnder_16 (Nat.le_of_ble_eq_true rfl) rfl ?_
  rcases cu_of e56 with hz | ⟨j, hj, ej⟩
  · exact s_cu_z hS h2 hc hz
  · exact s_cu hS h2 hc (j + 1) x53 x55 (by omega) (by rw [ej]; exact (nI_pred j).symm)
set_option maxRecDepth 20000 in
set_option maxHeartbeats 1000000 in
theorem s_X11_used {xs : Nat → Int32} {L d : Nat} {h : ev_H} {c : Nat} {lc sc wr el : Int32} (hS : SH h) (h2 : h 2 = c2 (nI c) lc sc wr el) (hc : c ≤ 16) : EV xs L (d + 2) 0 0 M_X11_used 434 h 0 [some (.ref 2)] [] (fun sz' h' r => sz' = 434 ∧ h' = h ∧ ∃ x : Int32, r = [.int x]) := by
  refine r_aload_n rfl dX11_used_0 rfl ?_
  refine r_getv 15 rfl dX11_used_1 (show 2 ≤ 2 ∧ 2 < 434 by decide) h2 fl_X11_86 rfl ?_
  refine r_bipush (v := (-9)) rfl dX11_used_4 (by decide) ?_
  refine r_icmp_ne (tgt := 14) rfl rfl dX11_used_6 (fun c51 => ?_) (fun c51 => ?_)
  · refine r_aload_n rfl dX11_used_14 rfl ?_
    refine r_aload_n rfl dX11_used_15 rfl ?_
    refine r_getv 15 rfl dX11_used_16 (show 2 ≤ 2 ∧ 2 < 434 by decide) h2 fl_X11_86 rfl ?_
    refine cl_X11_197 rfl rfl dX11_used_19 (show 2 ≤ 2 ∧ 2 < 434 by decide).1 (show 2 ≤ 2 ∧ 2 < 434 by decide).2 h2 (Nat.le_of_ble_eq_true rfl) (s_X11_clausesUnder hS h2 hc) ?_
    rintro _ h52 _ ⟨rfl, e53, x54, rfl⟩
    replace e53 := e53.symm
    subst e53
    exact r_ret dX11_used_22 (rt_i rfl) ⟨rfl, rfl, _, rfl⟩
  · refine r_bipush (v := (-2)) rfl dX11_used_9 (by decide) ?_
    refine r_goto (pc' := 22) rfl dX11_used_11 ?_
    exact r_ret dX11_used_22 (rt_i rfl) ⟨rfl, rfl, _, rfl⟩
/-- what a call that only asks leaves of the object -/
def aQ (h0 : ev_H) (cc lc sc wr el cc0 : Int32) : ev_Q := fun sz' h' r => sz' = 434 ∧ SH h' ∧ KQ h0 h' ∧ h' 2 = c2 cc lc sc wr el ∧ (∃ kn bs bz, h' 24 = c24 cc0 kn bs bz) ∧ ∃ x : Int32, r = [.int x]
set_option maxRecDepth 20000 in
set_option maxHeartbeats 1000000 in
theorem s_X11_needed {xs : Nat → Int32} {L d : Nat} {h : ev_H} {cc lc sc wr el cc0 kn bs bz : Int32} {x : Int32} (hS : SH h) (h2 : h 2 = c2 cc lc sc wr el) (h24 : h 24 = c24 cc0 kn bs bz) (hcc : cc0.toInt ≤ 16) : EV xs L (d + 22) 0 0 M_X11_needed 434 h 0 [some (.ref 2), some (.int x)] [] (aQ h cc lc sc wr el cc0) := by
  refine r_iload_n rfl dX11_needed_0 rfl ?_
  refine r_if_lt (tgt := 9) rfl rfl dX11_needed_1 (fun c51 => ?_) (fun c51 => ?_)
  · refine r_iconst (v := (-1)) rfl dX11_needed_9 (by decide) ?_
    refine r_goto (pc' := 24) rfl dX11_needed_10 ?_
    exact r_ret dX11_needed_24 (rt_i rfl) ⟨rfl, hS, (KQ_rf h), h2, ⟨_, _, _, h24⟩, _, rfl⟩
  · refine r_iload_n rfl dX11_needed_4 rfl ?_
    refine r_iconst (v := 1) rfl dX11_needed_5 (by decide) ?_
    refine r_icmp_le (tgt := 13) rfl rfl dX11_needed_6 (fun c52 => ?_) (fun c52 => ?_)
    · refine r_iload_n rfl dX11_needed_13 rfl ?_
      refine r_aload_n rfl dX11_needed_14 rfl ?_
      refine r_getv 4 rfl dX11_needed_15 (show 2 ≤ 2 ∧ 2 < 434 by decide) h2 fl_X11_39 rfl ?_
      refine cl_X11_200 rfl rfl dX11_needed_18 (show 2 ≤ 24 ∧ 24 < 434 by decide).1 (show 2 ≤ 24 ∧ 24 < 434 by decide).2 h24 (Nat.le_of_ble_eq_true rfl) ((s_X0_leastSet hS h24 hcc).shC hS (okl_c (vr_r (show RCb 24 = true by decide)) okl_n)) ?_
      rintro _ h53 _ ⟨⟨⟨x56, rfl⟩, k57, k58, k59, f60⟩, rfl, hS54, hk55⟩
      have hF61 := KQ_tr (KQ_rf h) (KQ_C hk55)
      have f62 : h53 2 = .inr (11, [.ref 3, .ref 5, .ref 12, .ref 13, .ref 24, .ref 93, .ref 95, .ref 96, .ref 97, .ref 98, .ref 99, .int cc, .int lc, .int sc, .int wr, .int el]) := (hk55 2 (by decide)).trans h2
      refine cl_X11_189 rfl rfl dX11_needed_21 (Nat.le_of_ble_eq_true rfl) s_X11_sizeOrSet ?_
      rintro _ h63 _ ⟨rfl, e64, rfl⟩
      replace e64 := e64.symm
      subst e64
      exact r_ret dX11_needed_24 (rt_i rfl) ⟨rfl, hS54, hF61, f62, ⟨_, _, _, f60⟩, _, rfl⟩
    · refine r_iconst (v := (-1)) rfl dX11_needed_9 (by decide) ?_
      refine r_goto (pc' := 24) rfl dX11_needed_10 ?_
      exact r_ret dX11_needed_24 (rt_i rfl) ⟨rfl, hS, (KQ_rf h), h2, ⟨_, _, _, h24⟩, _, rfl⟩
set_option maxRecDepth 20000 in
set_option maxHeartbeats 1000000 in
theorem s_X11_count {xs : Nat → Int32} {L d : Nat} {h : ev_H} {cc lc sc wr el cc0 kn bs bz : Int32} {x : Int32} (hS : SH h) (h2 : h 2 = c2 cc lc sc wr el) (h24 : h 24 = c24 cc0 kn bs bz) (hcc : cc0.toInt ≤ 16) : EV xs L (d + 2) 0 0 M_X11_count 434 h 0 [some (.ref 2), some (.int x)] [] (aQ h cc lc sc wr el cc0) := by
  refine r_iload_n rfl dX11_count_0 rfl ?_
  by_cases c51 : x.toInt < 0 ∨ 5 < x.toInt
  · refine r_swO (tgt := 87) dX11_count_1 rfl c51 ?_
    refine r_iconst (v := (-1)) rfl dX11_count_87 (by decide) ?_
    exact r_ret dX11_count_88 (rt_i rfl) ⟨rfl, hS, (KQ_rf h), h2, ⟨_, _, _, h24⟩, _, rfl⟩
  · have c51a : ¬ x.toInt < 0 := fun z => c51 (Or.inl z)
    have c51b : ¬ 5 < x.toInt := fun z => c51 (Or.inr z)
    rcases (show x.toInt = 0 ∨ x.toInt = 1 ∨ x.toInt = 2 ∨ x.toInt = 3 ∨ x.toInt = 4 ∨ x.toInt = 5 by omega) with c51e | c51e | c51e | c51e | c51e | c51e
    · refine r_swI (off := 39) (tgt := 40) dX11_count_1 rfl c51a c51b (by rw [c51e]; rfl) ?_
      refine r_aload_n rfl dX11_count_40 rfl ?_
      refine r_getv 11 rfl dX11_count_41 (show 2 ≤ 2 ∧ 2 < 434 by decide) h2 fl_X11_108 rfl ?_
      exact r_ret dX11_count_44 (rt_i rfl) ⟨rfl, hS, (KQ_rf h), h2, ⟨_, _, _, h24⟩, _, rfl⟩
    · refine r_swI (off := 44) (tgt := 45) dX11_count_1 rfl c51a c51b (by rw [c51e]; rfl) ?_
      refine r_aload_n rfl dX11_count_45 rfl ?_
      refine r_getv 12 rfl dX11_count_46 (show 2 ≤ 2 ∧ 2 < 434 by decide) h2 fl_X11_118 rfl ?_
      refine r_aload_n rfl dX11_count_49 rfl ?_
      refine r_getv 11 rfl dX11_count_50 (show 2 ≤ 2 ∧ 2 < 434 by decide) h2 fl_X11_108 rfl ?_
      refine r_isub rfl dX11_count_53 ?_
      exact r_ret dX11_count_54 (rt_i rfl) ⟨rfl, hS, (KQ_rf h), h2, ⟨_, _, _, h24⟩, _, rfl⟩
    · refine r_swI (off := 54) (tgt := 55) dX11_count_1 rfl c51a c51b (by rw [c51e]; rfl) ?_
      refine r_aload_n rfl dX11_count_55 rfl ?_
      refine r_getv 13 rfl dX11_count_56 (show 2 ≤ 2 ∧ 2 < 434 by decide) h2 fl_X11_211 rfl ?_
      exact r_ret dX11_count_59 (rt_i rfl) ⟨rfl, hS, (KQ_rf h), h2, ⟨_, _, _, h24⟩, _, rfl⟩
    · refine r_swI (off := 59) (tgt := 60) dX11_count_1 rfl c51a c51b (by rw [c51e]; rfl) ?_
      refine r_aload_n rfl dX11_count_60 rfl ?_
      refine r_getv 3 rfl dX11_count_61 (show 2 ≤ 2 ∧ 2 < 434 by decide) h2 fl_X11_32 rfl ?_
      obtain ⟨y52, y53, y54, y55, f56⟩ := hS.o13
      refine cl_X11_214 rfl rfl dX11_count_64 (show 2 ≤ 13 ∧ 13 < 434 by decide).1 (show 2 ≤ 13 ∧ 13 < 434 by decide).2 f56 (Nat.le_of_ble_eq_true rfl) ((s_X7_sharedLetters hS).shB hS (okl_c (vr_r (show RB (13) from Or.inr ⟨by omega, by omega, by omega⟩)) okl_n)) ?_
      rintro _ h57 _ ⟨⟨x60, rfl⟩, rfl, hS58, hk59⟩
      have hF61 := KQ_tr (KQ_rf h) (KQ_B hk59)
      have f62 : h57 2 = .inr (11, [.ref 3, .ref 5, .ref 12, .ref 13, .ref 24, .ref 93, .ref 95, .ref 96, .ref 97, .ref 98, .ref 99, .int cc, .int lc, .int sc, .int wr, .int el]) := (hk59 2 (RB_n (by decide) (by decide))).trans h2
      have f63 : h57 24 = c24 cc0 kn bs bz := (hk59 24 (RB_n (by decide) (by decide))).trans h24
      refine cl_X11_217 rfl rfl dX11_count_67 (Nat.le_of_ble_eq_true rfl) s_J6_bitCount_0f7a4 ?_
      rintro _ h64 _ ⟨rfl, e65, rfl⟩
      replace e65 := e65.symm
      subst e65
      exact r_ret dX11_count_70 (rt_i rfl) ⟨rfl, hS58, hF61, f62, ⟨_, _, _, f63⟩, _, rfl⟩
    · refine r_swI (off := 70) (tgt := 71) dX11_count_1 rfl c51a c51b (by rw [c51e]; rfl) ?_
      refine r_aload_n rfl dX11_count_71 rfl ?_
      refine r_getv 0 rfl dX11_count_72 (show 2 ≤ 2 ∧ 2 < 434 by decide) h2 fl_X11_12 rfl ?_
      obtain ⟨y66, y67, y68, y69, y70, f71⟩ := hS.o3
      refine cl_X11_94 rfl rfl dX11_count_75 (show 2 ≤ 3 ∧ 3 < 434 by decide).1 (show 2 ≤ 3 ∧ 3 < 434 by decide).2 f71 (Nat.le_of_ble_eq_true rfl) (s_X8_size f71) ?_
      rintro _ h72 _ ⟨rfl, e73, rfl⟩
      replace e73 := e73.symm
      subst e73
      exact r_ret dX11_count_78 (rt_i rfl) ⟨rfl, hS, (KQ_rf h), h2, ⟨_, _, _, h24⟩, _, rfl⟩
    · refine r_swI (off := 78) (tgt := 79) dX11_count_1 rfl c51a c51b (by rw [c51e]; rfl) ?_
      refine r_aload_n rfl dX11_count_79 rfl ?_
      refine r_getv 5 rfl dX11_count_80 (show 2 ≤ 2 ∧ 2 < 434 by decide) h2 fl_X11_46 rfl ?_
      obtain ⟨g74, hw75⟩ := hS.ws wsAt_93
      refine cl_X11_142 rfl rfl dX11_count_83 (show 2 ≤ 93 ∧ 93 < 434 by decide).1 (show 2 ≤ 93 ∧ 93 < 434 by decide).2 hw75.2.2.1 (Nat.le_of_ble_eq_true rfl) (s_X10_size hw75) ?_
      rintro _ h76 _ ⟨rfl, e77, rfl⟩
      replace e77 := e77.symm
      subst e77
      exact r_ret dX11_count_86 (rt_i rfl) ⟨rfl, hS, (KQ_rf h), h2, ⟨_, _, _, h24⟩, _, rfl⟩
