theorem dX11_firstEmptyLine_0 : decode cX11_firstEmptyLine 0 = .ok (.iconst 0, 1) := by decide +kernel
theorem dX11_firstEmptyLine_1 : decode cX11_firstEmptyLine 1 = .ok (.istore_n 1, 1) := by decide +kernel
theorem dX11_firstEmptyLine_2 : decode cX11_firstEmptyLine 2 = .ok (.iload_n 1, 1) := by decide +kernel
theorem dX11_firstEmptyLine_3 : decode cX11_firstEmptyLine 3 = .ok (.aload_n 0, 1) := by decide +kernel
theorem dX11_firstEmptyLine_4 : decode cX11_firstEmptyLine 4 = .ok (.getfield 118, 3) := by decide +kernel
theorem dX11_firstEmptyLine_7 : decode cX11_firstEmptyLine 7 = .ok (.if_icmp .ge 32, 3) := by decide +kernel
theorem dX11_firstEmptyLine_10 : decode cX11_firstEmptyLine 10 = .ok (.iload_n 1, 1) := by decide +kernel
theorem dX11_firstEmptyLine_11 : decode cX11_firstEmptyLine 11 = .ok (.aload_n 0, 1) := by decide +kernel
theorem dX11_firstEmptyLine_12 : decode cX11_firstEmptyLine 12 = .ok (.getfield 25, 3) := by decide +kernel
theorem dX11_firstEmptyLine_15 : decode cX11_firstEmptyLine 15 = .ok (.arraylength, 1) := by decide +kernel
theorem dX11_firstEmptyLine_16 : decode cX11_firstEmptyLine 16 = .ok (.if_icmp .ge 23, 3) := by decide +kernel
theorem dX11_firstEmptyLine_19 : decode cX11_firstEmptyLine 19 = .ok (.aload_n 0, 1) := by decide +kernel
theorem dX11_firstEmptyLine_20 : decode cX11_firstEmptyLine 20 = .ok (.getfield 25, 3) := by decide +kernel
theorem dX11_firstEmptyLine_23 : decode cX11_firstEmptyLine 23 = .ok (.iload_n 1, 1) := by decide +kernel
theorem dX11_firstEmptyLine_24 : decode cX11_firstEmptyLine 24 = .ok (.aaload, 1) := by decide +kernel
theorem dX11_firstEmptyLine_25 : decode cX11_firstEmptyLine 25 = .ok (.invokevirtual 289, 3) := by decide +kernel
theorem dX11_firstEmptyLine_28 : decode cX11_firstEmptyLine 28 = .ok (.ifCond .ne 5, 3) := by decide +kernel
theorem dX11_firstEmptyLine_31 : decode cX11_firstEmptyLine 31 = .ok (.iload_n 1, 1) := by decide +kernel
theorem dX11_firstEmptyLine_32 : decode cX11_firstEmptyLine 32 = .ok (.ireturn, 1) := by decide +kernel
theorem dX11_firstEmptyLine_33 : decode cX11_firstEmptyLine 33 = .ok (.iinc 1 1, 3) := by decide +kernel
theorem dX11_firstEmptyLine_36 : decode cX11_firstEmptyLine 36 = .ok (.goto (-34), 3) := by decide +kernel
theorem dX11_firstEmptyLine_39 : decode cX11_firstEmptyLine 39 = .ok (.bipush (-9), 2) := by decide +kernel
theorem dX11_firstEmptyLine_41 : decode cX11_firstEmptyLine 41 = .ok (.ireturn, 1) := by decide +kernel
theorem dX11_copy_0 : decode cX11_copy 0 = .ok (.iload_n 1, 1) := by decide +kernel
theorem dX11_copy_1 : decode cX11_copy 1 = .ok (.ifCond .lt 27, 3) := by decide +kernel
theorem dX11_copy_4 : decode cX11_copy 4 = .ok (.iload_n 1, 1) := by decide +kernel
theorem dX11_copy_5 : decode cX11_copy 5 = .ok (.iconst 4, 1) := by decide +kernel
theorem dX11_copy_6 : decode cX11_copy 6 = .ok (.if_icmp .gt 22, 3) := by decide +kernel
theorem dX11_copy_9 : decode cX11_copy 9 = .ok (.iload_n 2, 1) := by decide +kernel
theorem dX11_copy_10 : decode cX11_copy 10 = .ok (.invokestatic 132, 3) := by decide +kernel
theorem dX11_copy_13 : decode cX11_copy 13 = .ok (.ifCond .eq 15, 3) := by decide +kernel
theorem dX11_copy_16 : decode cX11_copy 16 = .ok (.iload_n 3, 1) := by decide +kernel
theorem dX11_copy_17 : decode cX11_copy 17 = .ok (.invokestatic 132, 3) := by decide +kernel
theorem dX11_copy_20 : decode cX11_copy 20 = .ok (.ifCond .eq 8, 3) := by decide +kernel
theorem dX11_copy_23 : decode cX11_copy 23 = .ok (.iload_n 2, 1) := by decide +kernel
theorem dX11_copy_24 : decode cX11_copy 24 = .ok (.iload_n 3, 1) := by decide +kernel
theorem dX11_copy_25 : decode cX11_copy 25 = .ok (.if_icmp .le 5, 3) := by decide +kernel
theorem dX11_copy_28 : decode cX11_copy 28 = .ok (.iconst (-1), 1) := by decide +kernel
theorem dX11_copy_29 : decode cX11_copy 29 = .ok (.ireturn, 1) := by decide +kernel
theorem dX11_copy_30 : decode cX11_copy 30 = .ok (.aload_n 0, 1) := by decide +kernel
theorem dX11_copy_31 : decode cX11_copy 31 = .ok (.iload_n 1, 1) := by decide +kernel
theorem dX11_copy_32 : decode cX11_copy 32 = .ok (.invokevirtual 167, 3) := by decide +kernel
theorem dX11_copy_35 : decode cX11_copy 35 = .ok (.astore 4, 2) := by decide +kernel
theorem dX11_copy_37 : decode cX11_copy 37 = .ok (.aload 4, 2) := by decide +kernel
theorem dX11_copy_39 : decode cX11_copy 39 = .ok (.ifnull 12, 3) := by decide +kernel
theorem dX11_copy_42 : decode cX11_copy 42 = .ok (.aload_n 0, 1) := by decide +kernel
theorem dX11_copy_43 : decode cX11_copy 43 = .ok (.getfield 86, 3) := by decide +kernel
theorem dX11_copy_46 : decode cX11_copy 46 = .ok (.bipush (-9), 2) := by decide +kernel
theorem dX11_copy_48 : decode cX11_copy 48 = .ok (.if_icmp .ne 6, 3) := by decide +kernel
theorem dX11_copy_51 : decode cX11_copy 51 = .ok (.bipush (-2), 2) := by decide +kernel
theorem dX11_copy_53 : decode cX11_copy 53 = .ok (.ireturn, 1) := by decide +kernel
theorem dX11_copy_54 : decode cX11_copy 54 = .ok (.iconst 0, 1) := by decide +kernel
theorem dX11_copy_55 : decode cX11_copy 55 = .ok (.istore 5, 2) := by decide +kernel
theorem dX11_copy_57 : decode cX11_copy 57 = .ok (.iload_n 2, 1) := by decide +kernel
theorem dX11_copy_58 : decode cX11_copy 58 = .ok (.istore 6, 2) := by decide +kernel
theorem dX11_copy_60 : decode cX11_copy 60 = .ok (.iload 6, 2) := by decide +kernel
theorem dX11_copy_62 : decode cX11_copy 62 = .ok (.iload_n 3, 1) := by decide +kernel
theorem dX11_copy_63 : decode cX11_copy 63 = .ok (.if_icmp .gt 55, 3) := by decide +kernel
theorem dX11_copy_66 : decode cX11_copy 66 = .ok (.iload 6, 2) := by decide +kernel
theorem dX11_copy_68 : decode cX11_copy 68 = .ok (.sipush 256, 3) := by decide +kernel
theorem dX11_copy_71 : decode cX11_copy 71 = .ok (.if_icmp .ge 47, 3) := by decide +kernel
theorem dX11_copy_74 : decode cX11_copy 74 = .ok (.aload_n 0, 1) := by decide +kernel
theorem dX11_copy_75 : decode cX11_copy 75 = .ok (.getfield 46, 3) := by decide +kernel
theorem dX11_copy_78 : decode cX11_copy 78 = .ok (.iload 6, 2) := by decide +kernel
theorem dX11_copy_80 : decode cX11_copy 80 = .ok (.invokevirtual 157, 3) := by decide +kernel
theorem dX11_copy_83 : decode cX11_copy 83 = .ok (.aload 4, 2) := by decide +kernel
theorem dX11_copy_85 : decode cX11_copy 85 = .ok (.iload 6, 2) := by decide +kernel
theorem dX11_copy_87 : decode cX11_copy 87 = .ok (.invokevirtual 157, 3) := by decide +kernel
theorem dX11_copy_90 : decode cX11_copy 90 = .ok (.if_icmp .eq 22, 3) := by decide +kernel
theorem dX11_copy_93 : decode cX11_copy 93 = .ok (.aload_n 0, 1) := by decide +kernel
theorem dX11_copy_94 : decode cX11_copy 94 = .ok (.getfield 46, 3) := by decide +kernel
theorem dX11_copy_97 : decode cX11_copy 97 = .ok (.iload 6, 2) := by decide +kernel
theorem dX11_copy_99 : decode cX11_copy 99 = .ok (.aload 4, 2) := by decide +kernel
theorem dX11_copy_101 : decode cX11_copy 101 = .ok (.iload 6, 2) := by decide +kernel
theorem dX11_copy_103 : decode cX11_copy 103 = .ok (.invokevirtual 157, 3) := by decide +kernel
theorem dX11_copy_106 : decode cX11_copy 106 = .ok (.invokevirtual 193, 3) := by decide +kernel
theorem dX11_copy_109 : decode cX11_copy 109 = .ok (.iinc 5 1, 3) := by decide +kernel
theorem dX11_copy_112 : decode cX11_copy 112 = .ok (.iinc 6 1, 3) := by decide +kernel
theorem dX11_copy_115 : decode cX11_copy 115 = .ok (.goto (-55), 3) := by decide +kernel
theorem dX11_copy_118 : decode cX11_copy 118 = .ok (.iload 5, 2) := by decide +kernel
theorem dX11_copy_120 : decode cX11_copy 120 = .ok (.ireturn, 1) := by decide +kernel
theorem dX8_size_0 : decode cX8_size 0 = .ok (.aload_n 0, 1) := by decide +kernel
theorem dX8_size_1 : decode cX8_size 1 = .ok (.getfield 15, 3) := by decide +kernel
theorem dX8_size_4 : decode cX8_size 4 = .ok (.ireturn, 1) := by decide +kernel
theorem dX8_start_0 : decode cX8_start 0 = .ok (.aload_n 0, 1) := by decide +kernel
theorem dX8_start_1 : decode cX8_start 1 = .ok (.getfield 25, 3) := by decide +kernel
theorem dX8_start_4 : decode cX8_start 4 = .ok (.ireturn, 1) := by decide +kernel
theorem dX8_kind_0 : decode cX8_kind 0 = .ok (.aload_n 0, 1) := by decide +kernel
theorem dX8_kind_1 : decode cX8_kind 1 = .ok (.getfield 19, 3) := by decide +kernel
theorem dX8_kind_4 : decode cX8_kind 4 = .ok (.ireturn, 1) := by decide +kernel
theorem dX8_value_0 : decode cX8_value 0 = .ok (.aload_n 0, 1) := by decide +kernel
theorem dX8_value_1 : decode cX8_value 1 = .ok (.getfield 22, 3) := by decide +kernel
theorem dX8_value_4 : decode cX8_value 4 = .ok (.ireturn, 1) := by decide +kernel
theorem dX8_wipe_0 : decode cX8_wipe 0 = .ok (.aload_n 0, 1) := by decide +kernel
theorem dX8_wipe_1 : decode cX8_wipe 1 = .ok (.iconst 0, 1) := by decide +kernel
theorem dX8_wipe_2 : decode cX8_wipe 2 = .ok (.putfield 15, 3) := by decide +kernel
theorem dX8_wipe_5 : decode cX8_wipe 5 = .ok (.return_, 1) := by decide +kernel
theorem dX8_isWordSign_0 : decode cX8_isWordSign 0 = .ok (.iload_n 0, 1) := by decide +kernel
theorem dX8_isWordSign_1 : decode cX8_isWordSign 1 = .ok (.bipush 97, 2) := by decide +kernel
theorem dX8_isWordSign_3 : decode cX8_isWordSign 3 = .ok (.if_icmp .lt 13, 3) := by decide +kernel
theorem dX8_isWordSign_6 : decode cX8_isWordSign 6 = .ok (.iload_n 0, 1) := by decide +kernel
theorem dX8_isWordSign_7 : decode cX8_isWordSign 7 = .ok (.bipush 122, 2) := by decide +kernel
theorem dX8_isWordSign_9 : decode cX8_isWordSign 9 = .ok (.if_icmp .gt 7, 3) := by decide +kernel
theorem dX8_isWordSign_12 : decode cX8_isWordSign 12 = .ok (.iconst 1, 1) := by decide +kernel
theorem dX8_isWordSign_13 : decode cX8_isWordSign 13 = .ok (.goto 4, 3) := by decide +kernel
theorem dX8_isWordSign_16 : decode cX8_isWordSign 16 = .ok (.iconst 0, 1) := by decide +kernel
theorem dX8_isWordSign_17 : decode cX8_isWordSign 17 = .ok (.ireturn, 1) := by decide +kernel
theorem dX8_isDigit_0 : decode cX8_isDigit 0 = .ok (.iload_n 0, 1) := by decide +kernel
theorem dX8_isDigit_1 : decode cX8_isDigit 1 = .ok (.bipush 48, 2) := by decide +kernel
theorem dX8_isDigit_3 : decode cX8_isDigit 3 = .ok (.if_icmp .lt 13, 3) := by decide +kernel
theorem dX8_isDigit_6 : decode cX8_isDigit 6 = .ok (.iload_n 0, 1) := by decide +kernel
theorem dX8_isDigit_7 : decode cX8_isDigit 7 = .ok (.bipush 57, 2) := by decide +kernel
theorem dX8_isDigit_9 : decode cX8_isDigit 9 = .ok (.if_icmp .gt 7, 3) := by decide +kernel
theorem dX8_isDigit_12 : decode cX8_isDigit 12 = .ok (.iconst 1, 1) := by decide +kernel
theorem dX8_isDigit_13 : decode cX8_isDigit 13 = .ok (.goto 4, 3) := by decide +kernel
theorem dX8_isDigit_16 : decode cX8_isDigit 16 = .ok (.iconst 0, 1) := by decide +kernel
theorem dX8_isDigit_17 : decode cX8_isDigit 17 = .ok (.ireturn, 1) := by decide +kernel
set_option maxRecDepth 20000 in
theorem s_X11_firstEmptyLine_loop {xs : Nat → Int32} {L d : Nat}  {cc lc sc wr el : Int32} : ∀ (n k : Nat), k + n = 40 → ∀ (h : ev_H) (hS : SH h) (h2 : h 2 = c2 cc lc sc wr el) , EV xs L (d + 2) 0 0 M_X11_firstEmptyLine 434 h 2 [some (.ref 2), some (.int (nI k))] [] (fun sz' h' r => (∃ x : Int32, r = [.int x]) ∧ KB h h') := by
  intro n
  induction n with
  | zero =>
    intro k hk h hS h2 
    obtain rfl : k = 40 := by omega
    refine r_iload_n rfl dX11_firstEmptyLine_2 rfl ?_
    refine r_aload_n rfl dX11_firstEmptyLine_3 rfl ?_
    refine r_getv 12 rfl dX11_firstEmptyLine_4 (show 2 ≤ 2 ∧ 2 < 434 by decide) h2 fl_X11_118 rfl ?_
    refine r_icmp_ge (tgt := 39) rfl rfl dX11_firstEmptyLine_7 (fun c501 => ?_) (fun c501 => ?_)
    · refine r_bipush (v := (-9)) rfl dX11_firstEmptyLine_39 (by decide) ?_
      exact r_ret dX11_firstEmptyLine_41 (rt_i rfl) ⟨⟨_, rfl⟩, fun _ _ => rfl⟩
    · refine r_iload_n rfl dX11_firstEmptyLine_10 rfl ?_
      refine r_aload_n rfl dX11_firstEmptyLine_11 rfl ?_
      refine r_getv 2 rfl dX11_firstEmptyLine_12 (show 2 ≤ 2 ∧ 2 < 434 by decide) h2 fl_X11_25 rfl ?_
      refine r_alen (v := 40) rfl dX11_firstEmptyLine_15 (show 2 ≤ 12 ∧ 12 < 434 by decide).1 (show 2 ≤ 12 ∧ 12 < 434 by decide).2 hS.o12 (by decide) (by decide) ?_
      refine r_icmp_ge (tgt := 39) rfl rfl dX11_firstEmptyLine_16 (fun _ => ?_) (fun c => absurd c (by decide))
      refine r_bipush (v := (-9)) rfl dX11_firstEmptyLine_39 (by decide) ?_
      exact r_ret dX11_firstEmptyLine_41 (rt_i rfl) ⟨⟨_, rfl⟩, fun _ _ => rfl⟩
  | succ n ih =>
    intro k hk h hS h2 
    refine r_iload_n rfl dX11_firstEmptyLine_2 rfl ?_
    refine r_aload_n rfl dX11_firstEmptyLine_3 rfl ?_
    refine r_getv 12 rfl dX11_firstEmptyLine_4 (show 2 ≤ 2 ∧ 2 < 434 by decide) h2 fl_X11_118 rfl ?_
    refine r_icmp_ge (tgt := 39) rfl rfl dX11_firstEmptyLine_7 (fun c701 => ?_) (fun c701 => ?_)
    · refine r_bipush (v := (-9)) rfl dX11_firstEmptyLine_39 (by decide) ?_
      exact r_ret dX11_firstEmptyLine_41 (rt_i rfl) ⟨⟨_, rfl⟩, fun _ _ => rfl⟩
    · refine r_iload_n rfl dX11_firstEmptyLine_10 rfl ?_
      refine r_aload_n rfl dX11_firstEmptyLine_11 rfl ?_
      refine r_getv 2 rfl dX11_firstEmptyLine_12 (show 2 ≤ 2 ∧ 2 < 434 by decide) h2 fl_X11_25 rfl ?_
      refine r_alen (v := 40) rfl dX11_firstEmptyLine_15 (show 2 ≤ 12 ∧ 12 < 434 by decide).1 (show 2 ≤ 12 ∧ 12 < 434 by decide).2 hS.o12 (by decide) (by decide) ?_
      refine r_icmp_ge (tgt := 39) rfl rfl dX11_firstEmptyLine_16 (fun c => absurd c (show ¬ (40 : Int32) ≤ nI k from nI_ge (a := k) (b := 40) (by omega) (by decide))) (fun _ => ?_)
      refine r_aload_n rfl dX11_firstEmptyLine_19 rfl ?_
      refine r_getv 2 rfl dX11_firstEmptyLine_20 (show 2 ≤ 2 ∧ 2 < 434 by decide) h2 fl_X11_25 rfl ?_
      refine r_iload_n rfl dX11_firstEmptyLine_23 rfl ?_
      refine r_aald (jn := k) (v := .ref (100 + 8 * k)) rfl dX11_firstEmptyLine_24 (show 2 ≤ 12 ∧ 12 < 434 by decide).1 (show 2 ≤ 12 ∧ 12 < 434 by decide).2 hS.o12 (by decide) (vp_in_nI (by omega) (by decide)) (nI_clamp (by omega)) (by show va_rf (if _ < _ then _ else _) = _; rw [if_pos (show k < 40 by omega)]; rfl) ?_
      obtain ⟨y704, y705, y706, y707, y708, y709, f703⟩ := hS.ln (show k < 40 by omega)
      refine cl_X11_289 rfl rfl dX11_firstEmptyLine_25 (show 2 ≤ 100 + 8 * k ∧ 100 + 8 * k < 434 by omega).1 (show 2 ≤ 100 + 8 * k ∧ 100 + 8 * k < 434 by omega).2 f703 (Nat.le_of_ble_eq_true rfl) ((s_X3_literals hS (show k < 40 by omega)).shB hS (okl_c (vr_r (show RB (100 + 8 * k) from Or.inr ⟨by omega, by omega, by omega⟩)) okl_n)) ?_
      rintro _ h710 _ ⟨⟨x713, rfl⟩, rfl, hS711, hk712⟩
      have p714 : h710 2 = .inr (11, [.ref 3, .ref 5, .ref 12, .ref 13, .ref 24, .ref 93, .ref 95, .ref 96, .ref 97, .ref 98, .ref 99, .int cc, .int lc, .int sc, .int wr, .int el]) := by rw [hk712 2 (RB_n (by decide) (by decide))]; exact h2
      refine r_if_ne (tgt := 33) rfl rfl dX11_firstEmptyLine_28 (fun c715 => ?_) (fun c715 => ?_)
      · obtain ⟨x716, e717⟩ : ∃ z : Int32, z = (nI k) + Int32.ofInt 1 := ⟨_, rfl⟩
        refine r_iinc (y := x716) (ls' := [some (.ref 2), some (.int x716)]) rfl dX11_firstEmptyLine_33 rfl e717.symm (Nat.le_of_ble_eq_true rfl) rfl ?_
        refine r_goto (pc' := 2) rfl dX11_firstEmptyLine_36 ?_
        have z718 : x716 = nI (k + 1) := by rw [e717]; exact nI_1 k
        subst z718
        exact EV.post (fun _ _ _ q => ⟨q.1, fun k z => (q.2 k z).trans (hk712 k z)⟩) (ih (k + 1) (by omega) h710 hS711 p714 )
      · refine r_iload_n rfl dX11_firstEmptyLine_31 rfl ?_
        exact r_ret dX11_firstEmptyLine_32 (rt_i rfl) ⟨⟨_, rfl⟩, fun k z => hk712 k z⟩
set_option maxRecDepth 20000 in
theorem s_X11_firstEmptyLine {xs : Nat → Int32} {L d : Nat} {h : ev_H} (hS : SH h) {cc lc sc wr el : Int32} (h2 : h 2 = c2 cc lc sc wr el)   : EV xs L (d + 2) 0 0 M_X11_firstEmptyLine 434 h 0 [some (.ref 2), none] [] (fun sz' h' r => (∃ x : Int32, r = [.int x]) ∧ KB h h') := by
  refine r_iconst (v := 0) rfl dX11_firstEmptyLine_0 (by decide) ?_
  refine r_istore_n (ls' := [some (.ref 2), some (.int 0)]) rfl dX11_firstEmptyLine_1 (Nat.le_of_ble_eq_true rfl) rfl ?_
  exact s_X11_firstEmptyLine_loop 40 0 rfl h hS h2
set_option maxRecDepth 20000 in
theorem s_X11_copy_loop {xs : Nat → Int32} {L d : Nat} {x y z : Int32} {a : Nat} (ha : wsAt a) (hr : RB a) {cc lc sc wr el : Int32} : ∀ (n k : Nat), k + n = 256 → ∀ (h : ev_H) (hS : SH h) (h2 : h 2 = c2 cc lc sc wr el) (m : Int32), EV xs L (d + 2) 0 0 M_X11_copy 434 h 60 [some (.ref 2), some (.int x), some (.int y), some (.int z), some (.ref a), some (.int m), some (.int (nI k))] [] (fun sz' h' r => (∃ x : Int32, r = [.int x]) ∧ KB h h') := by
  intro n
  induction n with
  | zero =>
    intro k hk h hS h2 m
    obtain rfl : k = 256 := by omega
    refine r_iload rfl dX11_copy_60 rfl ?_
    refine r_iload_n rfl dX11_copy_62 rfl ?_
    refine r_icmp_gt (tgt := 118) rfl rfl dX11_copy_63 (fun c501 => ?_) (fun c501 => ?_)
    · refine r_iload rfl dX11_copy_118 rfl ?_
      exact r_ret dX11_copy_120 (rt_i rfl) ⟨⟨_, rfl⟩, fun _ _ => rfl⟩
    · refine r_iload rfl dX11_copy_66 rfl ?_
      refine r_sipush (v := 256) rfl dX11_copy_68 (by decide) ?_
      refine r_icmp_ge (tgt := 118) rfl rfl dX11_copy_71 (fun _ => ?_) (fun c => absurd c (by decide))
      refine r_iload rfl dX11_copy_118 rfl ?_
      exact r_ret dX11_copy_120 (rt_i rfl) ⟨⟨_, rfl⟩, fun _ _ => rfl⟩
  | succ n ih =>
    intro k hk h hS h2 m
    refine r_iload rfl dX11_copy_60 rfl ?_
    refine r_iload_n rfl dX11_copy_62 rfl ?_
    refine r_icmp_gt (tgt := 118) rfl rfl dX11_copy_63 (fun c701 => ?_) (fun c701 => ?_)
    · refine r_iload rfl dX11_copy_118 rfl ?_
      exact r_ret dX11_copy_120 (rt_i rfl) ⟨⟨_, rfl⟩, fun _ _ => rfl⟩
    · refine r_iload rfl dX11_copy_66 rfl ?_
      refine r_sipush (v := 256) rfl dX11_copy_68 (by decide) ?_
      refine r_icmp_ge (tgt := 118) rfl rfl dX11_copy_71 (fun c => absurd c (show ¬ (256 : Int32) ≤ nI k from nI_ge (a := k) (b := 256) (by omega) (by decide))) (fun _ => ?_)
      refine r_aload_n rfl dX11_copy_74 rfl ?_
      refine r_getv 5 rfl dX11_copy_75 (show 2 ≤ 2 ∧ 2 < 434 by decide) h2 fl_X11_46 rfl ?_
      refine r_iload rfl dX11_copy_78 rfl ?_
      obtain ⟨g703, hw704⟩ := hS.ws wsAt_93
      refine cl_X11_157 rfl rfl dX11_copy_80 (show 2 ≤ 93 ∧ 93 < 434 by decide).1 (show 2 ≤ 93 ∧ 93 < 434 by decide).2 hw704.2.2.1 (Nat.le_of_ble_eq_true rfl) (s_X10_has hw704) ?_
      rintro _ h705 _ ⟨rfl, e706, rfl⟩
      replace e706 := e706.symm
      subst e706
      refine r_aload rfl dX11_copy_83 rfl ?_
      refine r_iload rfl dX11_copy_85 rfl ?_
      obtain ⟨g708, hw709⟩ := hS.ws ha
      refine cl_X11_157 rfl rfl dX11_copy_87 (show _ ∧ _ from ⟨ha.2.2.1, Nat.lt_of_succ_lt ha.2.2.2⟩).1 (show _ ∧ _ from ⟨ha.2.2.1, Nat.lt_of_succ_lt ha.2.2.2⟩).2 hw709.2.2.1 (Nat.le_of_ble_eq_true rfl) (s_X10_has hw709) ?_
      rintro _ h710 _ ⟨rfl, e711, rfl⟩
      replace e711 := e711.symm
      subst e711
      refine r_icmp_eq (tgt := 112) rfl rfl dX11_copy_90 (fun c712 => ?_) (fun c712 => ?_)
      · obtain ⟨x713, e714⟩ : ∃ z : Int32, z = (nI k) + Int32.ofInt 1 := ⟨_, rfl⟩
        refine r_iinc (y := x713) (ls' := [some (.ref 2), some (.int x), some (.int y), some (.int z), some (.ref a), some (.int m), some (.int x713)]) rfl dX11_copy_112 rfl e714.symm (Nat.le_of_ble_eq_true rfl) rfl ?_
        refine r_goto (pc' := 60) rfl dX11_copy_115 ?_
        have z715 : x713 = nI (k + 1) := by rw [e714]; exact nI_1 k
        subst z715
        exact ih (k + 1) (by omega) h hS h2 m
      · refine r_aload_n rfl dX11_copy_93 rfl ?_
        refine r_getv 5 rfl dX11_copy_94 (show 2 ≤ 2 ∧ 2 < 434 by decide) h2 fl_X11_46 rfl ?_
        refine r_iload rfl dX11_copy_97 rfl ?_
        refine r_aload rfl dX11_copy_99 rfl ?_
        refine r_iload rfl dX11_copy_101 rfl ?_
        refine cl_X11_157 rfl rfl dX11_copy_103 (show _ ∧ _ from ⟨ha.2.2.1, Nat.lt_of_succ_lt ha.2.2.2⟩).1 (show _ ∧ _ from ⟨ha.2.2.1, Nat.lt_of_succ_lt ha.2.2.2⟩).2 hw709.2.2.1 (Nat.le_of_ble_eq_true rfl) (s_X10_has hw709) ?_
        rintro _ h716 _ ⟨rfl, e717, rfl⟩
        replace e717 := e717.symm
        subst e717
        refine cl_X11_193 rfl rfl dX11_copy_106 (show 2 ≤ 93 ∧ 93 < 434 by decide).1 (show 2 ≤ 93 ∧ 93 < 434 by decide).2 hw704.2.2.1 (Nat.le_of_ble_eq_true rfl) ((s_X10_put hw704).shB hS (okl_c (vr_r (show RB 93 from Or.inr ⟨by decide, by decide, by decide⟩)) (okl_c (vr_i _) (okl_c (vr_i _) (okl_o (okl_o okl_n)))))) ?_
        rintro _ h718 _ ⟨⟨rfl, -, rfl⟩, -, hS719, hk720⟩
        have p721 : h718 2 = .inr (11, [.ref 3, .ref 5, .ref 12, .ref 13, .ref 24, .ref 93, .ref 95, .ref 96, .ref 97, .ref 98, .ref 99, .int cc, .int lc, .int sc, .int wr, .int el]) := by rw [hk720 2 (RB_n (by decide) (by decide))]; exact h2
        obtain ⟨x722, e723⟩ : ∃ z : Int32, z = m + Int32.ofInt 1 := ⟨_, rfl⟩
        refine r_iinc (y := x722) (ls' := [some (.ref 2), some (.int x), some (.int y), some (.int z), some (.ref a), some (.int x722), some (.int (nI k))]) rfl dX11_copy_109 rfl e723.symm (Nat.le_of_ble_eq_true rfl) rfl ?_
        obtain ⟨x724, e725⟩ : ∃ z : Int32, z = (nI k) + Int32.ofInt 1 := ⟨_, rfl⟩
        refine r_iinc (y := x724) (ls' := [some (.ref 2), some (.int x), some (.int y), some (.int z), some (.ref a), some (.int x722), some (.int x724)]) rfl dX11_copy_112 rfl e725.symm (Nat.le_of_ble_eq_true rfl) rfl ?_
        refine r_goto (pc' := 60) rfl dX11_copy_115 ?_
        have z726 : x724 = nI (k + 1) := by rw [e725]; exact nI_1 k
        subst z726
        exact EV.post (fun _ _ _ q => ⟨q.1, fun k z => (q.2 k z).trans (hk720 k z)⟩) (ih (k + 1) (by omega) h718 hS719 p721 x722)
theorem isW_of {w : Int32} (h : ¬ isW w = 0) : ∃ j : Nat, j < 256 ∧ w = nI j := by
  unfold isW at h
  split at h
  · exact absurd rfl h
  · rename_i h1
    split at h
    · exact absurd rfl h
    · rename_i h2
      exact vp_in_of (vpi (n := 256) rfl h1 h2) (by decide)
set_option maxRecDepth 20000 in
theorem s_X11_copy {xs : Nat → Int32} {L d : Nat} {h : ev_H} (hS : SH h) {cc lc sc wr el : Int32} (h2 : h 2 = c2 cc lc sc wr el) {x y z : Int32}  : EV xs L (d + 3) 0 0 M_X11_copy 434 h 0 [some (.ref 2), some (.int x), some (.int y), some (.int z), none, none, none] [] (fun sz' h' r => (∃ x : Int32, r = [.int x]) ∧ KB h h') := by
  refine r_iload_n rfl dX11_copy_0 rfl ?_
  refine r_if_lt (tgt := 28) rfl rfl dX11_copy_1 (fun c51 => ?_) (fun c51 => ?_)
  · refine r_iconst (v := (-1)) rfl dX11_copy_28 (by decide) ?_
    exact r_ret dX11_copy_29 (rt_i rfl) ⟨⟨_, rfl⟩, fun _ _ => rfl⟩
  · refine r_iload_n rfl dX11_copy_4 rfl ?_
    refine r_iconst (v := 4) rfl dX11_copy_5 (by decide) ?_
    refine r_icmp_gt (tgt := 28) rfl rfl dX11_copy_6 (fun c52 => ?_) (fun c52 => ?_)
    · refine r_iconst (v := (-1)) rfl dX11_copy_28 (by decide) ?_
      exact r_ret dX11_copy_29 (rt_i rfl) ⟨⟨_, rfl⟩, fun _ _ => rfl⟩
    · refine r_iload_n rfl dX11_copy_9 rfl ?_
      refine cl_X11_132 rfl rfl dX11_copy_10 (Nat.le_of_ble_eq_true rfl) s_X11_isWorld ?_
      rintro _ h53 _ ⟨rfl, e54, rfl⟩
      replace e54 := e54.symm
      subst e54
      refine r_if_eq (tgt := 28) rfl rfl dX11_copy_13 (fun c55 => ?_) (fun c55 => ?_)
      · refine r_iconst (v := (-1)) rfl dX11_copy_28 (by decide) ?_
        exact r_ret dX11_copy_29 (rt_i rfl) ⟨⟨_, rfl⟩, fun _ _ => rfl⟩
      · refine r_iload_n rfl dX11_copy_16 rfl ?_
        refine cl_X11_132 rfl rfl dX11_copy_17 (Nat.le_of_ble_eq_true rfl) s_X11_isWorld ?_
        rintro _ h56 _ ⟨rfl, e57, rfl⟩
        replace e57 := e57.symm
        subst e57
        refine r_if_eq (tgt := 28) rfl rfl dX11_copy_20 (fun c58 => ?_) (fun c58 => ?_)
        · refine r_iconst (v := (-1)) rfl dX11_copy_28 (by decide) ?_
          exact r_ret dX11_copy_29 (rt_i rfl) ⟨⟨_, rfl⟩, fun _ _ => rfl⟩
        · refine r_iload_n rfl dX11_copy_23 rfl ?_
          refine r_iload_n rfl dX11_copy_24 rfl ?_
          refine r_icmp_le (tgt := 30) rfl rfl dX11_copy_25 (fun c59 => ?_) (fun c59 => ?_)
          · refine r_aload_n rfl dX11_copy_30 rfl ?_
            refine r_iload_n rfl dX11_copy_31 rfl ?_
            refine cl_X11_167 rfl rfl dX11_copy_32 (show 2 ≤ 2 ∧ 2 < 434 by decide).1 (show 2 ≤ 2 ∧ 2 < 434 by decide).2 h2 (Nat.le_of_ble_eq_true rfl) ((s_X11_setOf hS h2).sh hS) ?_
            rintro _ h60 _ ⟨⟨H62, hk63⟩, rfl, hS61, -⟩
            have p64 : h60 2 = .inr (11, [.ref 3, .ref 5, .ref 12, .ref 13, .ref 24, .ref 93, .ref 95, .ref 96, .ref 97, .ref 98, .ref 99, .int cc, .int lc, .int sc, .int wr, .int el]) := by rw [hk63 2 (RB_n (by decide) (by decide))]; exact h2
            rcases H62 with rfl | ⟨a65, ha66, hr67, rfl⟩
            · refine r_astoreN (ls' := [some (.ref 2), some (.int x), some (.int y), some (.int z), some (.null), none, none]) rfl dX11_copy_35 (Nat.le_of_ble_eq_true rfl) rfl ?_
              refine r_aloadN rfl dX11_copy_37 rfl ?_
              refine r_ifnullN (tgt := 51) rfl dX11_copy_39 ?_
              refine r_bipush (v := (-2)) rfl dX11_copy_51 (by decide) ?_
              exact r_ret dX11_copy_53 (rt_i rfl) ⟨⟨_, rfl⟩, fun k z => hk63 k z⟩
            · refine r_astore (ls' := [some (.ref 2), some (.int x), some (.int y), some (.int z), some (.ref a65), none, none]) rfl dX11_copy_35 (Nat.le_of_ble_eq_true rfl) rfl ?_
              refine r_aload rfl dX11_copy_37 rfl ?_
              refine r_ifnull rfl (by decide) dX11_copy_39 ?_
              refine r_aload_n rfl dX11_copy_42 rfl ?_
              refine r_getv 15 rfl dX11_copy_43 (show 2 ≤ 2 ∧ 2 < 434 by decide) p64 fl_X11_86 rfl ?_
              refine r_bipush (v := (-9)) rfl dX11_copy_46 (by decide) ?_
              refine r_icmp_ne (tgt := 54) rfl rfl dX11_copy_48 (fun c68 => ?_) (fun c68 => ?_)
              · refine r_iconst (v := 0) rfl dX11_copy_54 (by decide) ?_
                refine r_istore (ls' := [some (.ref 2), some (.int x), some (.int y), some (.int z), some (.ref a65), some (.int 0), none]) rfl dX11_copy_55 (Nat.le_of_ble_eq_true rfl) rfl ?_
                refine r_iload_n rfl dX11_copy_57 rfl ?_
                refine r_istore (ls' := [some (.ref 2), some (.int x), some (.int y), some (.int z), some (.ref a65), some (.int 0), some (.int y)]) rfl dX11_copy_58 (Nat.le_of_ble_eq_true rfl) rfl ?_
                obtain ⟨j, hj, ej⟩ := isW_of c55
                subst ej
                exact EV.post (fun _ _ _ q => ⟨q.1, fun k z => (q.2 k z).trans (hk63 k z)⟩) (s_X11_copy_loop ha66 hr67 (256 - j) j (by omega) h60 hS61 p64 0)
              · refine r_bipush (v := (-2)) rfl dX11_copy_51 (by decide) ?_
                exact r_ret dX11_copy_53 (rt_i rfl) ⟨⟨_, rfl⟩, fun k z => hk63 k z⟩
          · refine r_iconst (v := (-1)) rfl dX11_copy_28 (by decide) ?_
            exact r_ret dX11_copy_29 (rt_i rfl) ⟨⟨_, rfl⟩, fun _ _ => rfl⟩
abbrev c3 (n p s k v : Int32) : va_E := .inr (8, [.ref 4, .int n, .int p, .int s, .int k, .int v])
set_option maxRecDepth 20000 in
theorem s_X8_size {xs : Nat → Int32} {L d : Nat} {h : ev_H} {n p s k v : Int32} (h3 : h 3 = c3 n p s k v) : EV xs L (d + 0) 0 0 M_X8_size 434 h 0 [some (.ref 3)] [] (fun sz' h' r => sz' = 434 ∧ h' = h ∧ r = [.int n]) := by
  refine r_aload_n rfl dX8_size_0 rfl ?_
  refine r_getv 1 rfl dX8_size_1 (show 2 ≤ 3 ∧ 3 < 434 by decide) h3 fl_X8_15 rfl ?_
  exact r_ret dX8_size_4 (rt_i rfl) ⟨rfl, rfl, rfl⟩
set_option maxRecDepth 20000 in
theorem s_X8_start {xs : Nat → Int32} {L d : Nat} {h : ev_H} {n p s k v : Int32} (h3 : h 3 = c3 n p s k v) : EV xs L (d + 0) 0 0 M_X8_start 434 h 0 [some (.ref 3)] [] (fun sz' h' r => sz' = 434 ∧ h' = h ∧ r = [.int s]) := by
  refine r_aload_n rfl dX8_start_0 rfl ?_
  refine r_getv 3 rfl dX8_start_1 (show 2 ≤ 3 ∧ 3 < 434 by decide) h3 fl_X8_25 rfl ?_
  exact r_ret dX8_start_4 (rt_i rfl) ⟨rfl, rfl, rfl⟩
set_option maxRecDepth 20000 in
theorem s_X8_kind {xs : Nat → Int32} {L d : Nat} {h : ev_H} {n p s k v : Int32} (h3 : h 3 = c3 n p s k v) : EV xs L (d + 0) 0 0 M_X8_kind 434 h 0 [some (.ref 3)] [] (fun sz' h' r => sz' = 434 ∧ h' = h ∧ r = [.int k]) := by
  refine r_aload_n rfl dX8_kind_0 rfl ?_
  refine r_getv 4 rfl dX8_kind_1 (show 2 ≤ 3 ∧ 3 < 434 by decide) h3 fl_X8_19 rfl ?_
  exact r_ret dX8_kind_4 (rt_i rfl) ⟨rfl, rfl, rfl⟩
set_option maxRecDepth 20000 in
theorem s_X8_value {xs : Nat → Int32} {L d : Nat} {h : ev_H} {n p s k v : Int32} (h3 : h 3 = c3 n p s k v) : EV xs L (d + 0) 0 0 M_X8_value 434 h 0 [some (.ref 3)] [] (fun sz' h' r => sz' = 434 ∧ h' = h ∧ r = [.int v]) := by
  refine r_aload_n rfl dX8_value_0 rfl ?_
  refine r_getv 5 rfl dX8_value_1 (show 2 ≤ 3 ∧ 3 < 434 by decide) h3 fl_X8_22 rfl ?_
  exact r_ret dX8_value_4 (rt_i rfl) ⟨rfl, rfl, rfl⟩
set_option maxRecDepth 20000 in
theorem s_X8_wipe {xs : Nat → Int32} {L d : Nat} {h : ev_H} {n p s k v : Int32} (h3 : h 3 = c3 n p s k v) : EV xs L (d + 0) 0 0 M_X8_wipe 434 h 0 [some (.ref 3)] [] (fun sz' h' r => sz' = 434 ∧ h' = va_up h 3 (c3 0 p s k v) ∧ r = []) := by
  refine r_aload_n rfl dX8_wipe_0 rfl ?_
  refine r_iconst (v := 0) rfl dX8_wipe_1 (by decide) ?_
  refine r_putv 1 (fs' := [.ref 4, .int 0, .int p, .int s, .int k, .int v]) rfl dX8_wipe_2 (show 2 ≤ 3 ∧ 3 < 434 by decide) h3 (fp_X8_15 rfl _) (Nat.le_of_ble_eq_true rfl) rfl (fun h51 eh52 => ?_)
  have f53 : h51 3 = .inr (8, [.ref 4, .int 0, .int p, .int s, .int k, .int v]) := by rw [eh52]; exact va_up_self _ _ _
  subst eh52
  exact r_ret dX8_wipe_5 (rt_v rfl) ⟨rfl, (by simp only [va_up_up]), rfl⟩
def isWS_ (x : Int32) : Int32 := if x < 97 then (0) else (if 122 < x then (0) else (1))
set_option maxRecDepth 20000 in
theorem s_X8_isWordSign {xs : Nat → Int32} {L d sz : Nat} {h : ev_H} {x : Int32}  : EV xs L (d + 0) 0 0 M_X8_isWordSign sz h 0 [some (.int x)] [] (fun sz' h' r => sz' = sz ∧ h' = h ∧ r = [.int (isWS_ x)]) := by
  refine r_iload_n rfl dX8_isWordSign_0 rfl ?_
  refine r_bipush (v := 97) rfl dX8_isWordSign_1 (by decide) ?_
  refine r_icmp_lt (tgt := 16) rfl rfl dX8_isWordSign_3 (fun c51 => ?_) (fun c51 => ?_)
  · refine r_iconst (v := 0) rfl dX8_isWordSign_16 (by decide) ?_
    exact r_ret dX8_isWordSign_17 (rt_z rfl (Or.inl rfl)) ⟨rfl, rfl, (by unfold isWS_; rw [if_pos c51] <;> rfl)⟩
  · refine r_iload_n rfl dX8_isWordSign_6 rfl ?_
    refine r_bipush (v := 122) rfl dX8_isWordSign_7 (by decide) ?_
    refine r_icmp_gt (tgt := 16) rfl rfl dX8_isWordSign_9 (fun c52 => ?_) (fun c52 => ?_)
    · refine r_iconst (v := 0) rfl dX8_isWordSign_16 (by decide) ?_
      exact r_ret dX8_isWordSign_17 (rt_z rfl (Or.inl rfl)) ⟨rfl, rfl, (by unfold isWS_; rw [if_neg c51, if_pos c52] <;> rfl)⟩
    · refine r_iconst (v := 1) rfl dX8_isWordSign_12 (by decide) ?_
      refine r_goto (pc' := 17) rfl dX8_isWordSign_13 ?_
      exact r_ret dX8_isWordSign_17 (rt_z rfl (Or.inr rfl)) ⟨rfl, rfl, (by unfold isWS_; rw [if_neg c51, if_neg c52] <;> rfl)⟩
def isDg (x : Int32) : Int32 := if x < 48 then (0) else (if 57 < x then (0) else (1))
set_option maxRecDepth 20000 in
theorem s_X8_isDigit {xs : Nat → Int32} {L d sz : Nat} {h : ev_H} {x : Int32}  : EV xs L (d + 0) 0 0 M_X8_isDigit sz h 0 [some (.int x)] [] (fun sz' h' r => sz' = sz ∧ h' = h ∧ r = [.int (isDg x)]) := by
  refine r_iload_n rfl dX8_isDigit_0 rfl ?_
  refine r_bipush (v := 48) rfl dX8_isDigit_1 (by decide) ?_
  refine r_icmp_lt (tgt := 16) rfl rfl dX8_isDigit_3 (fun c51 => ?_) (fun c51 => ?_)
  · refine r_iconst (v := 0) rfl dX8_isDigit_16 (by decide) ?_
    exact r_ret dX8_isDigit_17 (rt_z rfl (Or.inl rfl)) ⟨rfl, rfl, (by unfold isDg; rw [if_pos c51] <;> rfl)⟩
  · refine r_iload_n rfl dX8_isDigit_6 rfl ?_
    refine r_bipush (v := 57) rfl dX8_isDigit_7 (by decide) ?_
    refine r_icmp_gt (tgt := 16) rfl rfl dX8_isDigit_9 (fun c52 => ?_) (fun c52 => ?_)
    · refine r_iconst (v := 0) rfl dX8_isDigit_16 (by decide) ?_
      exact r_ret dX8_isDigit_17 (rt_z rfl (Or.inl rfl)) ⟨rfl, rfl, (by unfold isDg; rw [if_neg c51, if_pos c52] <;> rfl)⟩
    · refine r_iconst (v := 1) rfl dX8_isDigit_12 (by decide) ?_
      refine r_goto (pc' := 17) rfl dX8_isDigit_13 ?_
      exact r_ret dX8_isDigit_17 (rt_z rfl (Or.inr rfl)) ⟨rfl, rfl, (by unfold isDg; rw [if_neg c51, if_neg c52] <;> rfl)⟩
