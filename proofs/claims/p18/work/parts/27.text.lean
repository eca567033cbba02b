theorem dX8_byteAt_0 : decode cX8_byteAt 0 = .ok (.iload_n 1, 1) := by decide +kernel
theorem dX8_byteAt_1 : decode cX8_byteAt 1 = .ok (.ifCond .lt 18, 3) := by decide +kernel
theorem dX8_byteAt_4 : decode cX8_byteAt 4 = .ok (.iload_n 1, 1) := by decide +kernel
theorem dX8_byteAt_5 : decode cX8_byteAt 5 = .ok (.aload_n 0, 1) := by decide +kernel
theorem dX8_byteAt_6 : decode cX8_byteAt 6 = .ok (.getfield 15, 3) := by decide +kernel
theorem dX8_byteAt_9 : decode cX8_byteAt 9 = .ok (.if_icmp .ge 10, 3) := by decide +kernel
theorem dX8_byteAt_12 : decode cX8_byteAt 12 = .ok (.iload_n 1, 1) := by decide +kernel
theorem dX8_byteAt_13 : decode cX8_byteAt 13 = .ok (.sipush 300, 3) := by decide +kernel
theorem dX8_byteAt_16 : decode cX8_byteAt 16 = .ok (.if_icmp .lt 7, 3) := by decide +kernel
theorem dX8_byteAt_19 : decode cX8_byteAt 19 = .ok (.iconst (-1), 1) := by decide +kernel
theorem dX8_byteAt_20 : decode cX8_byteAt 20 = .ok (.goto 13, 3) := by decide +kernel
theorem dX8_byteAt_23 : decode cX8_byteAt 23 = .ok (.aload_n 0, 1) := by decide +kernel
theorem dX8_byteAt_24 : decode cX8_byteAt 24 = .ok (.getfield 9, 3) := by decide +kernel
theorem dX8_byteAt_27 : decode cX8_byteAt 27 = .ok (.iload_n 1, 1) := by decide +kernel
theorem dX8_byteAt_28 : decode cX8_byteAt 28 = .ok (.baload, 1) := by decide +kernel
theorem dX8_byteAt_29 : decode cX8_byteAt 29 = .ok (.sipush 255, 3) := by decide +kernel
theorem dX8_byteAt_32 : decode cX8_byteAt 32 = .ok (.iand, 1) := by decide +kernel
theorem dX8_byteAt_33 : decode cX8_byteAt 33 = .ok (.ireturn, 1) := by decide +kernel
theorem dX8_skipBlanks_0 : decode cX8_skipBlanks 0 = .ok (.aload_n 0, 1) := by decide +kernel
theorem dX8_skipBlanks_1 : decode cX8_skipBlanks 1 = .ok (.getfield 28, 3) := by decide +kernel
theorem dX8_skipBlanks_4 : decode cX8_skipBlanks 4 = .ok (.aload_n 0, 1) := by decide +kernel
theorem dX8_skipBlanks_5 : decode cX8_skipBlanks 5 = .ok (.getfield 15, 3) := by decide +kernel
theorem dX8_skipBlanks_8 : decode cX8_skipBlanks 8 = .ok (.if_icmp .ge 29, 3) := by decide +kernel
theorem dX8_skipBlanks_11 : decode cX8_skipBlanks 11 = .ok (.aload_n 0, 1) := by decide +kernel
theorem dX8_skipBlanks_12 : decode cX8_skipBlanks 12 = .ok (.aload_n 0, 1) := by decide +kernel
theorem dX8_skipBlanks_13 : decode cX8_skipBlanks 13 = .ok (.getfield 28, 3) := by decide +kernel
theorem dX8_skipBlanks_16 : decode cX8_skipBlanks 16 = .ok (.invokevirtual 37, 3) := by decide +kernel
theorem dX8_skipBlanks_19 : decode cX8_skipBlanks 19 = .ok (.bipush 32, 2) := by decide +kernel
theorem dX8_skipBlanks_21 : decode cX8_skipBlanks 21 = .ok (.if_icmp .ne 16, 3) := by decide +kernel
theorem dX8_skipBlanks_24 : decode cX8_skipBlanks 24 = .ok (.aload_n 0, 1) := by decide +kernel
theorem dX8_skipBlanks_25 : decode cX8_skipBlanks 25 = .ok (.dup, 1) := by decide +kernel
theorem dX8_skipBlanks_26 : decode cX8_skipBlanks 26 = .ok (.getfield 28, 3) := by decide +kernel
theorem dX8_skipBlanks_29 : decode cX8_skipBlanks 29 = .ok (.iconst 1, 1) := by decide +kernel
theorem dX8_skipBlanks_30 : decode cX8_skipBlanks 30 = .ok (.iadd, 1) := by decide +kernel
theorem dX8_skipBlanks_31 : decode cX8_skipBlanks 31 = .ok (.putfield 28, 3) := by decide +kernel
theorem dX8_skipBlanks_34 : decode cX8_skipBlanks 34 = .ok (.goto (-34), 3) := by decide +kernel
theorem dX8_skipBlanks_37 : decode cX8_skipBlanks 37 = .ok (.return_, 1) := by decide +kernel
abbrev c4 (f : Nat → Int32) : va_E := .inl (2, 300, .inl f)
def btA (f : Nat → Int32) (n i : Int32) : Int32 := if i < 0 then ((-1)) else (if n ≤ i then ((-1)) else (if i < 300 then ((f i.toNatClampNeg) &&& 255) else ((-1))))
set_option maxRecDepth 20000 in
theorem s_X8_byteAt {xs : Nat → Int32} {L d : Nat} {h : ev_H} {f : Nat → Int32} {n p s k v : Int32} {i : Int32} (h3 : h 3 = c3 n p s k v) (h4 : h 4 = c4 f) : EV xs L (d + 0) 0 0 M_X8_byteAt 434 h 0 [some (.ref 3), some (.int i)] [] (fun sz' h' r => sz' = 434 ∧ h' = h ∧ r = [.int (btA f n i)]) := by
  refine r_iload_n rfl dX8_byteAt_0 rfl ?_
  refine r_if_lt (tgt := 19) rfl rfl dX8_byteAt_1 (fun c51 => ?_) (fun c51 => ?_)
  · refine r_iconst (v := (-1)) rfl dX8_byteAt_19 (by decide) ?_
    refine r_goto (pc' := 33) rfl dX8_byteAt_20 ?_
    exact r_ret dX8_byteAt_33 (rt_i rfl) ⟨rfl, rfl, (by unfold btA; rw [if_pos c51] <;> rfl)⟩
  · refine r_iload_n rfl dX8_byteAt_4 rfl ?_
    refine r_aload_n rfl dX8_byteAt_5 rfl ?_
    refine r_getv 1 rfl dX8_byteAt_6 (show 2 ≤ 3 ∧ 3 < 434 by decide) h3 fl_X8_15 rfl ?_
    refine r_icmp_ge (tgt := 19) rfl rfl dX8_byteAt_9 (fun c52 => ?_) (fun c52 => ?_)
    · refine r_iconst (v := (-1)) rfl dX8_byteAt_19 (by decide) ?_
      refine r_goto (pc' := 33) rfl dX8_byteAt_20 ?_
      exact r_ret dX8_byteAt_33 (rt_i rfl) ⟨rfl, rfl, (by unfold btA; rw [if_neg c51, if_pos c52] <;> rfl)⟩
    · refine r_iload_n rfl dX8_byteAt_12 rfl ?_
      refine r_sipush (v := 300) rfl dX8_byteAt_13 (by decide) ?_
      refine r_icmp_lt (tgt := 23) rfl rfl dX8_byteAt_16 (fun c53 => ?_) (fun c53 => ?_)
      · refine r_aload_n rfl dX8_byteAt_23 rfl ?_
        refine r_getv 0 rfl dX8_byteAt_24 (show 2 ≤ 3 ∧ 3 < 434 by decide) h3 fl_X8_9 rfl ?_
        refine r_iload_n rfl dX8_byteAt_27 rfl ?_
        refine r_baldv (jn := i.toNatClampNeg) (v := f i.toNatClampNeg) rfl dX8_byteAt_28 (show 2 ≤ 4 ∧ 4 < 434 by decide) h4 (vpi2 (m := 300) (by decide) c51 c53) (by first | rfl | assumption) rfl ?_
        refine r_sipush (v := 255) rfl dX8_byteAt_29 (by decide) ?_
        refine r_iand rfl dX8_byteAt_32 ?_
        exact r_ret dX8_byteAt_33 (rt_i rfl) ⟨rfl, rfl, (by unfold btA; rw [if_neg c51, if_neg c52, if_pos c53] <;> rfl)⟩
      · refine r_iconst (v := (-1)) rfl dX8_byteAt_19 (by decide) ?_
        refine r_goto (pc' := 33) rfl dX8_byteAt_20 ?_
        exact r_ret dX8_byteAt_33 (rt_i rfl) ⟨rfl, rfl, (by unfold btA; rw [if_neg c51, if_neg c52, if_neg c53] <;> rfl)⟩
def skp (f : Nat → Int32) (n : Nat) : Nat → Nat → Nat
  | 0, p => p
  | m + 1, p => if btA f (nI n) (nI p) = 32 then skp f n m (p + 1) else p
set_option maxRecDepth 20000 in
theorem s_X8_skipBlanks {xs : Nat → Int32} {L d : Nat} {f : Nat → Int32} {n : Nat} {s k v : Int32} : ∀ (m p : Nat), p + m = n → n ≤ 300 → ∀ (h : ev_H) (h3 : h 3 = c3 (nI n) (nI p) s k v) (h4 : h 4 = c4 f), EV xs L (d + 1) 0 0 M_X8_skipBlanks 434 h 0 [some (.ref 3)] [] (fun sz' h' r => sz' = 434 ∧ h' = va_up h 3 (c3 (nI n) (nI (skp f n m p)) s k v) ∧ r = []) := by
  intro m
  induction m with
  | zero =>
    intro p hp hn h h3 h4
    obtain rfl : n = p := by omega
    refine r_aload_n rfl dX8_skipBlanks_0 rfl ?_
    refine r_getv 2 rfl dX8_skipBlanks_1 (show 2 ≤ 3 ∧ 3 < 434 by decide) h3 fl_X8_28 rfl ?_
    refine r_aload_n rfl dX8_skipBlanks_4 rfl ?_
    refine r_getv 1 rfl dX8_skipBlanks_5 (show 2 ≤ 3 ∧ 3 < 434 by decide) h3 fl_X8_15 rfl ?_
    refine r_icmp_ge (tgt := 37) rfl rfl dX8_skipBlanks_8 (fun _ => ?_) (fun c => absurd c (fun z => z (Int32.le_refl _)))
    exact r_ret dX8_skipBlanks_37 (rt_v rfl) ⟨rfl, (va_up_id h3).symm, rfl⟩
  | succ m ih =>
    intro p hp hn h h3 h4
    refine r_aload_n rfl dX8_skipBlanks_0 rfl ?_
    refine r_getv 2 rfl dX8_skipBlanks_1 (show 2 ≤ 3 ∧ 3 < 434 by decide) h3 fl_X8_28 rfl ?_
    refine r_aload_n rfl dX8_skipBlanks_4 rfl ?_
    refine r_getv 1 rfl dX8_skipBlanks_5 (show 2 ≤ 3 ∧ 3 < 434 by decide) h3 fl_X8_15 rfl ?_
    refine r_icmp_ge (tgt := 37) rfl rfl dX8_skipBlanks_8 (fun c => absurd c (nI_ge (a := p) (b := n) (by omega) (by omega))) (fun _ => ?_)
    refine r_aload_n rfl dX8_skipBlanks_11 rfl ?_
    refine r_aload_n rfl dX8_skipBlanks_12 rfl ?_
    refine r_getv 2 rfl dX8_skipBlanks_13 (show 2 ≤ 3 ∧ 3 < 434 by decide) h3 fl_X8_28 rfl ?_
    refine cl_X8_37 rfl rfl dX8_skipBlanks_16 (show 2 ≤ 3 ∧ 3 < 434 by decide).1 (show 2 ≤ 3 ∧ 3 < 434 by decide).2 h3 (Nat.le_of_ble_eq_true rfl) (s_X8_byteAt h3 h4) ?_
    rintro _ _ _ ⟨rfl, rfl, rfl⟩
    refine r_bipush (v := 32) rfl dX8_skipBlanks_19 (by decide) ?_
    refine r_icmp_ne (tgt := 37) rfl rfl dX8_skipBlanks_21 (fun c301 => ?_) (fun c301 => ?_)
    · exact r_ret dX8_skipBlanks_37 (rt_v rfl) ⟨rfl, by rw [skp, if_neg c301]; exact (va_up_id h3).symm, rfl⟩
    · refine r_aload_n rfl dX8_skipBlanks_24 rfl ?_
      refine r_dup rfl dX8_skipBlanks_25 rfl ?_
      refine r_getv 2 rfl dX8_skipBlanks_26 (show 2 ≤ 3 ∧ 3 < 434 by decide) h3 fl_X8_28 rfl ?_
      refine r_iconst (v := 1) rfl dX8_skipBlanks_29 (by decide) ?_
      refine r_iadd rfl dX8_skipBlanks_30 ?_
      refine r_eqi (y := nI (p + 1)) (nI_1 p) ?_
      refine r_putv 2 (fs' := [.ref 4, .int (nI n), .int (nI (p + 1)), .int s, .int k, .int v]) rfl dX8_skipBlanks_31 (show 2 ≤ 3 ∧ 3 < 434 by decide) h3 (fp_X8_28 rfl _) (Nat.le_of_ble_eq_true rfl) rfl (fun h302 eh303 => ?_)
      have f304 : h302 3 = .inr (8, [.ref 4, .int (nI n), .int (nI (p + 1)), .int s, .int k, .int v]) := by rw [eh303]; exact va_up_self _ _ _
      have f305 : h302 4 = .inl (2, 300, .inl f) := by rw [eh303, va_up_ne _ _ (fun q => by rw [q, h3] at h4; cases h4)]; exact h4
      refine r_goto (pc' := 0) rfl dX8_skipBlanks_34 ?_
      refine EV.post ?_ (ih (p + 1) (by omega) hn h302 f304 f305)
      subst eh303
      rintro _ _ _ ⟨rfl, rfl, rfl⟩
      exact ⟨rfl, by rw [skp, if_pos c301]; simp only [va_up_up], rfl⟩
def wdp (f : Nat → Int32) (n : Nat) : Nat → Nat → Nat
  | 0, p => p
  | m + 1, p => if isWS_ (btA f (nI n) (nI p)) = 0 then p else wdp f n m (p + 1)
def wdw (f : Nat → Int32) (n : Nat) : Nat → Nat → Int32 → Int32
  | 0, _, w => w
  | m + 1, p, w => if isWS_ (btA f (nI n) (nI p)) = 0 then w else wdw f n m (p + 1) ((w <<< (8 &&& 31)) ||| btA f (nI n) (nI p))
def nup (f : Nat → Int32) (n : Nat) : Nat → Nat → Nat
  | 0, p => p
  | m + 1, p => if isDg (btA f (nI n) (nI p)) = 0 then p else nup f n m (p + 1)
def nuv (f : Nat → Int32) (n : Nat) : Nat → Nat → Int32 → Int32
  | 0, _, v => v
  | m + 1, p, v => if isDg (btA f (nI n) (nI p)) = 0 then v else nuv f n m (p + 1) (if (100 : Int32) < (10 * v + btA f (nI n) (nI p) - 48) then 100 else (10 * v + btA f (nI n) (nI p) - 48))
