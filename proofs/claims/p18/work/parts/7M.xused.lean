theorem nI_nm9 {n : Nat} (h : n < 2 ^ 31) : ¬ nI n = -9 := fun z => nI_pos h (by rw [z]; decide)
/-- what a LINE rests on, LINES n - 1 down to c looked at -/
def usC (G : Nat → Int32) (c : Nat) : Nat → Int64 → Int64
  | 0, S => S
  | n + 1, S => if n < c then S else usC G c n (if lg_cmp (S &&& bitO (nI n)) 0 = 0 then S else S ||| (bitO (G (6 * n + 3)) ||| bitO (G (6 * n + 4))))
def usA (G : Nat → Int32) (c e : Nat) : Int32 := (usC G c (e + 1) (bitO (nI e)) &&& (bitO (nI c) - 1)).toInt32
theorem usC_lo (G : Nat → Int32) (c : Nat) : ∀ (n : Nat) (S : Int64), n ≤ c → usC G c n S = S
  | 0, _, _ => rfl
  | n + 1, S, h => if_pos (by omega)
set_option maxRecDepth 20000 in
set_option maxHeartbeats 1000000 in
theorem x_cu_z {xs : Nat → Int32} {L d : Nat} {h : ev_H} {k c : Nat} {G : Nat → Int32} {lc sc wr el x : Int32} {kx : Int32} {m : Int64} (hS : SH h) (hck : k ≤ 40) (hc : c ≤ 16) (h2 : h 2 = c2 (nI c) lc sc wr el) (hLN : LN k G h) (hz : kx < 0) : EV xs L (d + 1) 0 0 M_X11_clausesUnder 434 h 18 [some (.ref 2), some (.int x), some (.long m), none, some (.int kx)] [] (fun sz' h' r => sz' = 434 ∧ h' = h ∧ r = [.int ((usC G c (0) m &&& (bitO (nI c) - 1)).toInt32)]) := by
  refine r_iload rfl dX11_clausesUnder_18 rfl ?_
  refine r_aload_n rfl dX11_clausesUnder_20 rfl ?_
  refine r_getv 11 rfl dX11_clausesUnder_21 (show 2 ≤ 2 ∧ 2 < 434 by decide) h2 fl_X11_108 rfl ?_
  refine r_icmp_lt (tgt := 75) rfl rfl dX11_clausesUnder_24 (fun _ => ?_) (fun zc => absurd (neg_lt hz (by omega)) zc)
  refine r_lload_n rfl dX11_clausesUnder_75 rfl ?_
  refine r_aload_n rfl dX11_clausesUnder_76 rfl ?_
  refine r_getv 11 rfl dX11_clausesUnder_77 (show 2 ≤ 2 ∧ 2 < 434 by decide) h2 fl_X11_108 rfl ?_
  refine cl_X11_292 rfl rfl dX11_clausesUnder_80 (Nat.le_of_ble_eq_true rfl) s_X11_bitOf ?_
  rintro _ h51 _ ⟨rfl, e52, rfl⟩
  replace e52 := e52.symm
  subst e52
  refine r_lconst (v := 1) rfl dX11_clausesUnder_83 (by decide) ?_
  refine r_lsub rfl dX11_clausesUnder_84 ?_
  refine r_land rfl dX11_clausesUnder_85 ?_
  refine r_l2i rfl dX11_clausesUnder_86 ?_
  exact r_ret dX11_clausesUnder_87 (rt_i rfl) ⟨rfl, rfl, rfl⟩
set_option maxRecDepth 20000 in
set_option maxHeartbeats 1000000 in
theorem x_cu_s {xs : Nat → Int32} {L d : Nat} {h : ev_H} {k c : Nat} {G : Nat → Int32} {lc sc wr el x : Int32} {m : Int64} {j : Nat} (hS : SH h) (hck : k ≤ 40) (hc : c ≤ 16) (h2 : h 2 = c2 (nI c) lc sc wr el) (hLN : LN k G h) (hj : j < k) (ih : ∀ (m' : Int64) (kx : Int32), kx = nI j - 1 → EV xs L (d + 1) 0 0 M_X11_clausesUnder 434 h 18 [some (.ref 2), some (.int x), some (.long m'), none, some (.int kx)] [] (fun sz' h' r => sz' = 434 ∧ h' = h ∧ r = [.int ((usC G c (j) m' &&& (bitO (nI c) - 1)).toInt32)])) : EV xs L (d + 1) 0 0 M_X11_clausesUnder 434 h 18 [some (.ref 2), some (.int x), some (.long m), none, some (.int (nI j))] [] (fun sz' h' r => sz' = 434 ∧ h' = h ∧ r = [.int ((usC G c (j + 1) m &&& (bitO (nI c) - 1)).toInt32)]) := by
  refine r_iload rfl dX11_clausesUnder_18 rfl ?_
  refine r_aload_n rfl dX11_clausesUnder_20 rfl ?_
  refine r_getv 11 rfl dX11_clausesUnder_21 (show 2 ≤ 2 ∧ 2 < 434 by decide) h2 fl_X11_108 rfl ?_
  refine r_icmp_lt (tgt := 75) rfl rfl dX11_clausesUnder_24 (fun c51 => ?_) (fun c51 => ?_)
  · have q52 : j < c := (nI_ltI (a := j) (b := c) (by omega) (by omega)).mp c51
    refine r_lload_n rfl dX11_clausesUnder_75 rfl ?_
    refine r_aload_n rfl dX11_clausesUnder_76 rfl ?_
    refine r_getv 11 rfl dX11_clausesUnder_77 (show 2 ≤ 2 ∧ 2 < 434 by decide) h2 fl_X11_108 rfl ?_
    refine cl_X11_292 rfl rfl dX11_clausesUnder_80 (Nat.le_of_ble_eq_true rfl) s_X11_bitOf ?_
    rintro _ h53 _ ⟨rfl, e54, rfl⟩
    replace e54 := e54.symm
    subst e54
    refine r_lconst (v := 1) rfl dX11_clausesUnder_83 (by decide) ?_
    refine r_lsub rfl dX11_clausesUnder_84 ?_
    refine r_land rfl dX11_clausesUnder_85 ?_
    refine r_l2i rfl dX11_clausesUnder_86 ?_
    exact r_ret dX11_clausesUnder_87 (rt_i rfl) ⟨rfl, rfl, by rw [usC, if_pos (show j < c by omega)]⟩
  · have q55 : ¬ j < c := fun z => c51 ((nI_ltI (a := j) (b := c) (by omega) (by omega)).mpr z)
    refine r_lload_n rfl dX11_clausesUnder_27 rfl ?_
    refine r_iload rfl dX11_clausesUnder_28 rfl ?_
    refine cl_X11_292 rfl rfl dX11_clausesUnder_30 (Nat.le_of_ble_eq_true rfl) s_X11_bitOf ?_
    rintro _ h56 _ ⟨rfl, e57, rfl⟩
    replace e57 := e57.symm
    subst e57
    refine r_land rfl dX11_clausesUnder_33 ?_
    refine r_lconst (v := 0) rfl dX11_clausesUnder_34 (by decide) ?_
    refine r_lcmp rfl dX11_clausesUnder_35 ?_
    refine r_if_eq (tgt := 69) rfl rfl dX11_clausesUnder_36 (fun c58 => ?_) (fun c58 => ?_)
    · obtain ⟨x59, e60⟩ : ∃ z : Int32, z = (nI j) + Int32.ofInt (-1) := ⟨_, rfl⟩
      refine r_iinc (y := x59) (ls' := [some (.ref 2), some (.int x), some (.long m), none, some (.int x59)]) rfl dX11_clausesUnder_69 rfl e60.symm (Nat.le_of_ble_eq_true rfl) rfl ?_
      refine r_goto (pc' := 18) rfl dX11_clausesUnder_72 ?_
      rw [usC, if_neg (show ¬ j < c by omega), if_pos c58]
      exact ih _ x59 (by rw [e60, Int32.sub_eq_add_neg]; rfl)
    · refine r_lload_n rfl dX11_clausesUnder_39 rfl ?_
      refine r_aload_n rfl dX11_clausesUnder_40 rfl ?_
      refine r_getv 2 rfl dX11_clausesUnder_41 (show 2 ≤ 2 ∧ 2 < 434 by decide) h2 fl_X11_25 rfl ?_
      refine r_iload rfl dX11_clausesUnder_44 rfl ?_
      refine r_aald (jn := j) (v := .ref (100 + 8 * j)) rfl dX11_clausesUnder_46 (show 2 ≤ 12 ∧ 12 < 434 by decide).1 (show 2 ≤ 12 ∧ 12 < 434 by decide).2 hS.o12 (by decide) (vp_in_nI (n := j) (by omega) (by decide)) (nI_clamp (n := j) (by omega)) (by show va_rf (if _ < _ then _ else _) = _; rw [if_pos (show j < 40 by omega)]; rfl) ?_
      refine r_getv 4 rfl dX11_clausesUnder_47 (show 2 ≤ 100 + 8 * j ∧ 100 + 8 * j < 434 by omega) (hLN j (by omega)) fl_X11_295 rfl ?_
      refine cl_X11_292 rfl rfl dX11_clausesUnder_50 (Nat.le_of_ble_eq_true rfl) s_X11_bitOf ?_
      rintro _ h61 _ ⟨rfl, e62, rfl⟩
      replace e62 := e62.symm
      subst e62
      refine r_aload_n rfl dX11_clausesUnder_53 rfl ?_
      refine r_getv 2 rfl dX11_clausesUnder_54 (show 2 ≤ 2 ∧ 2 < 434 by decide) h2 fl_X11_25 rfl ?_
      refine r_iload rfl dX11_clausesUnder_57 rfl ?_
      refine r_aald (jn := j) (v := .ref (100 + 8 * j)) rfl dX11_clausesUnder_59 (show 2 ≤ 12 ∧ 12 < 434 by decide).1 (show 2 ≤ 12 ∧ 12 < 434 by decide).2 hS.o12 (by decide) (vp_in_nI (n := j) (by omega) (by decide)) (nI_clamp (n := j) (by omega)) (by show va_rf (if _ < _ then _ else _) = _; rw [if_pos (show j < 40 by omega)]; rfl) ?_
      refine r_getv 5 rfl dX11_clausesUnder_60 (show 2 ≤ 100 + 8 * j ∧ 100 + 8 * j < 434 by omega) (hLN j (by omega)) fl_X11_298 rfl ?_
      refine cl_X11_292 rfl rfl dX11_clausesUnder_63 (Nat.le_of_ble_eq_true rfl) s_X11_bitOf ?_
      rintro _ h63 _ ⟨rfl, e64, rfl⟩
      replace e64 := e64.symm
      subst e64
      refine r_lor rfl dX11_clausesUnder_66 ?_
      refine r_lor rfl dX11_clausesUnder_67 ?_
      refine r_topl (fun x65 e66 => ?_)
      refine r_lstore_n (ls' := [some (.ref 2), some (.int x), some (.long x65), none, some (.int (nI j))]) rfl dX11_clausesUnder_68 (Nat.le_of_ble_eq_true rfl) rfl ?_
      obtain ⟨x67, e68⟩ : ∃ z : Int32, z = (nI j) + Int32.ofInt (-1) := ⟨_, rfl⟩
      refine r_iinc (y := x67) (ls' := [some (.ref 2), some (.int x), some (.long x65), none, some (.int x67)]) rfl dX11_clausesUnder_69 rfl e68.symm (Nat.le_of_ble_eq_true rfl) rfl ?_
      refine r_goto (pc' := 18) rfl dX11_clausesUnder_72 ?_
      subst e66
      rw [usC, if_neg (show ¬ j < c by omega), if_neg c58]
      exact ih _ x67 (by rw [e68, Int32.sub_eq_add_neg]; rfl)
theorem x_cu {xs : Nat → Int32} {L d : Nat} {h : ev_H} {k c : Nat} {G : Nat → Int32} {lc sc wr el x : Int32} (hS : SH h) (hck : k ≤ 40) (hc : c ≤ 16) (h2 : h 2 = c2 (nI c) lc sc wr el) (hLN : LN k G h) : ∀ (n : Nat) (m : Int64) (kx : Int32), n ≤ k → kx = nI n - 1 → EV xs L (d + 1) 0 0 M_X11_clausesUnder 434 h 18 [some (.ref 2), some (.int x), some (.long m), none, some (.int kx)] [] (fun sz' h' r => sz' = 434 ∧ h' = h ∧ r = [.int ((usC G c (n) m &&& (bitO (nI c) - 1)).toInt32)]) := by
  intro n
  induction n with
  | zero => intro m kx hn e; exact x_cu_z hS hck hc h2 hLN (by rw [e]; decide)
  | succ n ih => intro m kx hn e; obtain rfl : kx = nI n := (by rw [e]; exact nI_pred n); exact x_cu_s hS hck hc h2 hLN (by omega) (fun m' kx q => ih m' kx (by omega) q)
set_option maxRecDepth 20000 in
set_option maxHeartbeats 1000000 in
theorem x_X11_clausesUnder {xs : Nat → Int32} {L d : Nat} {h : ev_H} {k c : Nat} {G : Nat → Int32} {lc sc wr el : Int32} {e : Nat} (hS : SH h) (hck : k ≤ 40) (hc : c ≤ 16) (h2 : h 2 = c2 (nI c) lc sc wr el) (hLN : LN k G h) (he : e < k) : EV xs L (d + 1) 0 0 M_X11_clausesUnder 434 h 0 [some (.ref 2), some (.int (nI e)), none, none, none] [] (fun sz' h' r => sz' = 434 ∧ h' = h ∧ r = [.int (usA G c e)]) := by
  refine r_iload_n rfl dX11_clausesUnder_0 rfl ?_
  refine cl_X11_292 rfl rfl dX11_clausesUnder_1 (Nat.le_of_ble_eq_true rfl) s_X11_bitOf ?_
  rintro _ h51 _ ⟨rfl, e52, rfl⟩
  replace e52 := e52.symm
  subst e52
  refine r_topl (fun x53 e54 => ?_)
  refine r_lstore_n (ls' := [some (.ref 2), some (.int (nI e)), some (.long x53), none, none]) rfl dX11_clausesUnder_4 (Nat.le_of_ble_eq_true rfl) rfl ?_
  refine r_iload_n rfl dX11_clausesUnder_5 rfl ?_
  refine r_aload_n rfl dX11_clausesUnder_6 rfl ?_
  refine r_getv 2 rfl dX11_clausesUnder_7 (show 2 ≤ 2 ∧ 2 < 434 by decide) h2 fl_X11_25 rfl ?_
  refine r_alen (v := 40) rfl dX11_clausesUnder_10 (by decide) (by decide) hS.o12 (by decide) rfl ?_
  refine r_iconst (v := 1) rfl dX11_clausesUnder_11 (by decide) ?_
  refine r_isub rfl dX11_clausesUnder_12 ?_
  refine r_eqi (y := 39) (by decide) ?_
  refine r_min rfl dX11_clausesUnder_13 (Nat.succ_pos _) (Nat.le_of_ble_eq_true rfl) mm_X11_229 mm_st mm_in mm_co ?_
  refine r_eqi (y := nI e) (if_neg (show ¬ (39 : Int32) < nI e from nI_nlt (a := 39) (b := e) (by omega) (by decide))) ?_
  refine r_istore (ls' := [some (.ref 2), some (.int (nI e)), some (.long x53), none, some (.int (nI e))]) rfl dX11_clausesUnder_16 (Nat.le_of_ble_eq_true rfl) rfl ?_
  subst e54
  exact x_cu hS hck hc h2 hLN (e + 1) _ (nI e) (by omega) (nI_pred e).symm
set_option maxRecDepth 20000 in
set_option maxHeartbeats 1000000 in
theorem x_us_s {xs : Nat → Int32} {L d : Nat} {h : ev_H} {k c : Nat} {G : Nat → Int32} {lc sc wr : Int32} {e : Nat} (hS : SH h) (hck : k ≤ 40) (hc : c ≤ 16) (h2 : h 2 = c2 (nI c) lc sc wr (nI e)) (hLN : LN k G h) (he : e < k) : EV xs L (d + 2) 0 0 M_X11_used 434 h 0 [some (.ref 2)] [] (fun sz' h' r => sz' = 434 ∧ h' = h ∧ r = [.int (usA G c e)]) := by
  refine r_aload_n rfl dX11_used_0 rfl ?_
  refine r_getv 15 rfl dX11_used_1 (show 2 ≤ 2 ∧ 2 < 434 by decide) h2 fl_X11_86 rfl ?_
  refine r_bipush (v := (-9)) rfl dX11_used_4 (by decide) ?_
  refine r_icmp_ne (tgt := 14) rfl rfl dX11_used_6 (fun _ => ?_) (fun zc => absurd zc (nI_nm9 (by omega)))
  refine r_aload_n rfl dX11_used_14 rfl ?_
  refine r_aload_n rfl dX11_used_15 rfl ?_
  refine r_getv 15 rfl dX11_used_16 (show 2 ≤ 2 ∧ 2 < 434 by decide) h2 fl_X11_86 rfl ?_
  refine cl_X11_197 rfl rfl dX11_used_19 (show 2 ≤ 2 ∧ 2 < 434 by decide).1 (show 2 ≤ 2 ∧ 2 < 434 by decide).2 h2 (Nat.le_of_ble_eq_true rfl) (x_X11_clausesUnder hS hck hc h2 hLN he) ?_
  rintro _ h51 _ ⟨rfl, e52, rfl⟩
  replace e52 := e52.symm
  subst e52
  exact r_ret dX11_used_22 (rt_i rfl) ⟨rfl, rfl, rfl⟩
set_option maxRecDepth 20000 in
set_option maxHeartbeats 1000000 in
theorem x_us_z {xs : Nat → Int32} {L d : Nat} {h : ev_H} {k c : Nat} {G : Nat → Int32} {lc sc wr : Int32} (hS : SH h) (hck : k ≤ 40) (hc : c ≤ 16) (h2 : h 2 = c2 (nI c) lc sc wr (-9)) (hLN : LN k G h) : EV xs L (d + 2) 0 0 M_X11_used 434 h 0 [some (.ref 2)] [] (fun sz' h' r => sz' = 434 ∧ h' = h ∧ r = [.int ((-2))]) := by
  refine r_aload_n rfl dX11_used_0 rfl ?_
  refine r_getv 15 rfl dX11_used_1 (show 2 ≤ 2 ∧ 2 < 434 by decide) h2 fl_X11_86 rfl ?_
  refine r_bipush (v := (-9)) rfl dX11_used_4 (by decide) ?_
  refine r_icmp_ne (tgt := 14) rfl rfl dX11_used_6 (fun zc => absurd zc (by decide)) (fun _ => ?_)
  refine r_bipush (v := (-2)) rfl dX11_used_9 (by decide) ?_
  refine r_goto (pc' := 22) rfl dX11_used_11 ?_
  exact r_ret dX11_used_22 (rt_i rfl) ⟨rfl, rfl, rfl⟩
