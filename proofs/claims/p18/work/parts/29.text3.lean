theorem dX8_readNext_0 : decode cX8_readNext 0 = .ok (.aload_n 0, 1) := by decide +kernel
theorem dX8_readNext_1 : decode cX8_readNext 1 = .ok (.invokevirtual 34, 3) := by decide +kernel
theorem dX8_readNext_4 : decode cX8_readNext 4 = .ok (.aload_n 0, 1) := by decide +kernel
theorem dX8_readNext_5 : decode cX8_readNext 5 = .ok (.aload_n 0, 1) := by decide +kernel
theorem dX8_readNext_6 : decode cX8_readNext 6 = .ok (.getfield 28, 3) := by decide +kernel
theorem dX8_readNext_9 : decode cX8_readNext 9 = .ok (.putfield 25, 3) := by decide +kernel
theorem dX8_readNext_12 : decode cX8_readNext 12 = .ok (.aload_n 0, 1) := by decide +kernel
theorem dX8_readNext_13 : decode cX8_readNext 13 = .ok (.iconst 0, 1) := by decide +kernel
theorem dX8_readNext_14 : decode cX8_readNext 14 = .ok (.putfield 22, 3) := by decide +kernel
theorem dX8_readNext_17 : decode cX8_readNext 17 = .ok (.aload_n 0, 1) := by decide +kernel
theorem dX8_readNext_18 : decode cX8_readNext 18 = .ok (.aload_n 0, 1) := by decide +kernel
theorem dX8_readNext_19 : decode cX8_readNext 19 = .ok (.getfield 28, 3) := by decide +kernel
theorem dX8_readNext_22 : decode cX8_readNext 22 = .ok (.invokevirtual 37, 3) := by decide +kernel
theorem dX8_readNext_25 : decode cX8_readNext 25 = .ok (.istore_n 1, 1) := by decide +kernel
theorem dX8_readNext_26 : decode cX8_readNext 26 = .ok (.aload_n 0, 1) := by decide +kernel
theorem dX8_readNext_27 : decode cX8_readNext 27 = .ok (.getfield 28, 3) := by decide +kernel
theorem dX8_readNext_30 : decode cX8_readNext 30 = .ok (.aload_n 0, 1) := by decide +kernel
theorem dX8_readNext_31 : decode cX8_readNext 31 = .ok (.getfield 15, 3) := by decide +kernel
theorem dX8_readNext_34 : decode cX8_readNext 34 = .ok (.if_icmp .lt 11, 3) := by decide +kernel
theorem dX8_readNext_37 : decode cX8_readNext 37 = .ok (.aload_n 0, 1) := by decide +kernel
theorem dX8_readNext_38 : decode cX8_readNext 38 = .ok (.iconst 0, 1) := by decide +kernel
theorem dX8_readNext_39 : decode cX8_readNext 39 = .ok (.putfield 19, 3) := by decide +kernel
theorem dX8_readNext_42 : decode cX8_readNext 42 = .ok (.goto 68, 3) := by decide +kernel
theorem dX8_readNext_45 : decode cX8_readNext 45 = .ok (.iload_n 1, 1) := by decide +kernel
theorem dX8_readNext_46 : decode cX8_readNext 46 = .ok (.invokestatic 41, 3) := by decide +kernel
theorem dX8_readNext_49 : decode cX8_readNext 49 = .ok (.ifCond .eq 10, 3) := by decide +kernel
theorem dX8_readNext_52 : decode cX8_readNext 52 = .ok (.aload_n 0, 1) := by decide +kernel
theorem dX8_readNext_53 : decode cX8_readNext 53 = .ok (.invokevirtual 45, 3) := by decide +kernel
theorem dX8_readNext_56 : decode cX8_readNext 56 = .ok (.goto 54, 3) := by decide +kernel
theorem dX8_readNext_59 : decode cX8_readNext 59 = .ok (.iload_n 1, 1) := by decide +kernel
theorem dX8_readNext_60 : decode cX8_readNext 60 = .ok (.invokestatic 48, 3) := by decide +kernel
theorem dX8_readNext_63 : decode cX8_readNext 63 = .ok (.ifCond .eq 10, 3) := by decide +kernel
theorem dX8_readNext_66 : decode cX8_readNext 66 = .ok (.aload_n 0, 1) := by decide +kernel
theorem dX8_readNext_67 : decode cX8_readNext 67 = .ok (.invokevirtual 51, 3) := by decide +kernel
theorem dX8_readNext_70 : decode cX8_readNext 70 = .ok (.goto 40, 3) := by decide +kernel
theorem dX8_readNext_73 : decode cX8_readNext 73 = .ok (.aload_n 0, 1) := by decide +kernel
theorem dX8_readNext_74 : decode cX8_readNext 74 = .ok (.iload_n 1, 1) := by decide +kernel
theorem dX8_readNext_75 : decode cX8_readNext 75 = .ok (.bipush 33, 2) := by decide +kernel
theorem dX8_readNext_77 : decode cX8_readNext 77 = .ok (.if_icmp .ne 7, 3) := by decide +kernel
theorem dX8_readNext_80 : decode cX8_readNext 80 = .ok (.iconst 5, 1) := by decide +kernel
theorem dX8_readNext_81 : decode cX8_readNext 81 = .ok (.goto 16, 3) := by decide +kernel
theorem dX8_readNext_84 : decode cX8_readNext 84 = .ok (.iload_n 1, 1) := by decide +kernel
theorem dX8_readNext_85 : decode cX8_readNext 85 = .ok (.bipush 59, 2) := by decide +kernel
theorem dX8_readNext_87 : decode cX8_readNext 87 = .ok (.if_icmp .ne 8, 3) := by decide +kernel
theorem dX8_readNext_90 : decode cX8_readNext 90 = .ok (.bipush 6, 2) := by decide +kernel
theorem dX8_readNext_92 : decode cX8_readNext 92 = .ok (.goto 5, 3) := by decide +kernel
theorem dX8_readNext_95 : decode cX8_readNext 95 = .ok (.bipush 7, 2) := by decide +kernel
theorem dX8_readNext_97 : decode cX8_readNext 97 = .ok (.putfield 19, 3) := by decide +kernel
theorem dX8_readNext_100 : decode cX8_readNext 100 = .ok (.aload_n 0, 1) := by decide +kernel
theorem dX8_readNext_101 : decode cX8_readNext 101 = .ok (.dup, 1) := by decide +kernel
theorem dX8_readNext_102 : decode cX8_readNext 102 = .ok (.getfield 28, 3) := by decide +kernel
theorem dX8_readNext_105 : decode cX8_readNext 105 = .ok (.iconst 1, 1) := by decide +kernel
theorem dX8_readNext_106 : decode cX8_readNext 106 = .ok (.iadd, 1) := by decide +kernel
theorem dX8_readNext_107 : decode cX8_readNext 107 = .ok (.putfield 28, 3) := by decide +kernel
theorem dX8_readNext_110 : decode cX8_readNext 110 = .ok (.return_, 1) := by decide +kernel
theorem dX8_readFirst_0 : decode cX8_readFirst 0 = .ok (.aload_n 0, 1) := by decide +kernel
theorem dX8_readFirst_1 : decode cX8_readFirst 1 = .ok (.iconst 0, 1) := by decide +kernel
theorem dX8_readFirst_2 : decode cX8_readFirst 2 = .ok (.putfield 28, 3) := by decide +kernel
theorem dX8_readFirst_5 : decode cX8_readFirst 5 = .ok (.aload_n 0, 1) := by decide +kernel
theorem dX8_readFirst_6 : decode cX8_readFirst 6 = .ok (.invokevirtual 31, 3) := by decide +kernel
theorem dX8_readFirst_9 : decode cX8_readFirst 9 = .ok (.return_, 1) := by decide +kernel
set_option maxRecDepth 20000 in
theorem s_X8_readNumber {xs : Nat → Int32} {L d : Nat} {h : ev_H} {f : Nat → Int32} {n p : Nat} {s k v : Int32} (hp : p ≤ n) (hn : n ≤ 300) (h3 : h 3 = c3 (nI n) (nI p) s k v) (h4 : h 4 = c4 f) : EV xs L (d + 2) 0 0 M_X8_readNumber 434 h 0 [some (.ref 3), none] [] (fun sz' h' r => sz' = 434 ∧ h' = va_up h 3 (c3 (nI n) (nI (nup f n (n - p) p)) s (nuK f (nI n) (nI (nup f n (n - p) p)) s k (nuv f n (n - p) p v)) (nuV f (nI n) (nI (nup f n (n - p) p)) s k (nuv f n (n - p) p v))) ∧ r = []) := by
  exact s_X8_readNumber_loop (n - p) p (by omega) hn h v h3 h4
theorem skp_le (f : Nat → Int32) (n : Nat) : ∀ m p, p + m = n → p ≤ skp f n m p ∧ skp f n m p ≤ n
  | 0, p, h => ⟨Nat.le_refl _, by show p ≤ n; omega⟩
  | m + 1, p, h => by
    unfold skp
    split
    · have := skp_le f n m (p + 1) (by omega)
      exact ⟨by omega, this.2⟩
    · exact ⟨Nat.le_refl _, by omega⟩
theorem wdp_le (f : Nat → Int32) (n : Nat) : ∀ m p, p + m = n → p ≤ wdp f n m p ∧ wdp f n m p ≤ n
  | 0, p, h => ⟨Nat.le_refl _, by show p ≤ n; omega⟩
  | m + 1, p, h => by
    unfold wdp
    split
    · exact ⟨Nat.le_refl _, by omega⟩
    · have := wdp_le f n m (p + 1) (by omega)
      exact ⟨by omega, this.2⟩
theorem nup_le (f : Nat → Int32) (n : Nat) : ∀ m p, p + m = n → p ≤ nup f n m p ∧ nup f n m p ≤ n
  | 0, p, h => ⟨Nat.le_refl _, by show p ≤ n; omega⟩
  | m + 1, p, h => by
    unfold nup
    split
    · exact ⟨Nat.le_refl _, by omega⟩
    · have := nup_le f n m (p + 1) (by omega)
      exact ⟨by omega, this.2⟩
/-- a token: where it begins, what comes behind it, its kind, its value -/
def rdS (f : Nat → Int32) (n p : Nat) : Nat := skp f n (n - p) p
def rdC (f : Nat → Int32) (n p : Nat) : Int32 := btA f (nI n) (nI (rdS f n p))
def rdP (f : Nat → Int32) (n p : Nat) : Nat := if n ≤ rdS f n p then rdS f n p else if isWS_ (rdC f n p) = 0 then (if isDg (rdC f n p) = 0 then rdS f n p + 1 else nup f n (n - rdS f n p) (rdS f n p)) else wdp f n (n - rdS f n p) (rdS f n p)
def rdK (f : Nat → Int32) (n p : Nat) (k : Int32) : Int32 := if n ≤ rdS f n p then 0 else if isWS_ (rdC f n p) = 0 then (if isDg (rdC f n p) = 0 then (if ¬ rdC f n p = 33 then (if ¬ rdC f n p = 59 then 7 else 6) else 5) else nuK f (nI n) (nI (nup f n (n - rdS f n p) (rdS f n p))) (nI (rdS f n p)) k (nuv f n (n - rdS f n p) (rdS f n p) 0)) else wdK (nI (wdp f n (n - rdS f n p) (rdS f n p))) (nI (rdS f n p)) k 0 (wdw f n (n - rdS f n p) (rdS f n p) 0)
def rdV (f : Nat → Int32) (n p : Nat) (k : Int32) : Int32 := if n ≤ rdS f n p then 0 else if isWS_ (rdC f n p) = 0 then (if isDg (rdC f n p) = 0 then 0 else nuV f (nI n) (nI (nup f n (n - rdS f n p) (rdS f n p))) (nI (rdS f n p)) k (nuv f n (n - rdS f n p) (rdS f n p) 0)) else wdV (nI (wdp f n (n - rdS f n p) (rdS f n p))) (nI (rdS f n p)) k 0 (wdw f n (n - rdS f n p) (rdS f n p) 0)
set_option maxRecDepth 20000 in
theorem s_X8_readNext {xs : Nat → Int32} {L d : Nat} {h : ev_H} {f : Nat → Int32} {n p : Nat} {s k v : Int32} (hp : p ≤ n) (hn : n ≤ 300) (h3 : h 3 = c3 (nI n) (nI p) s k v) (h4 : h 4 = c4 f) : EV xs L (d + 3) 0 0 M_X8_readNext 434 h 0 [some (.ref 3), none] [] (fun sz' h' r => sz' = 434 ∧ h' = va_up h 3 (c3 (nI n) (nI (rdP f n p)) (nI (rdS f n p)) (rdK f n p k) (rdV f n p k)) ∧ r = []) := by
  obtain ⟨q, hq⟩ : ∃ q, q = skp f n (n - p) p := ⟨_, rfl⟩
  have hqn : q ≤ n := by rw [hq]; exact (skp_le f n (n - p) p (by omega)).2
  refine r_aload_n rfl dX8_readNext_0 rfl ?_
  refine cl_X8_34 rfl rfl dX8_readNext_1 (show 2 ≤ 3 ∧ 3 < 434 by decide).1 (show 2 ≤ 3 ∧ 3 < 434 by decide).2 h3 (Nat.le_of_ble_eq_true rfl) (s_X8_skipBlanks (n - p) p (by omega) hn h h3 h4) ?_
  rintro _ h51 _ ⟨rfl, eh52, rfl⟩
  rw [← hq] at eh52
  have f53 : h51 3 = .inr (8, [.ref 4, .int (nI n), .int (nI q), .int s, .int k, .int v]) := by rw [eh52]; exact va_up_self _ _ _
  have f54 : h51 4 = .inl (2, 300, .inl f) := by rw [eh52, va_up_ne _ _ (fun q => by rw [q, h3] at h4; cases h4)]; exact h4
  refine r_aload_n rfl dX8_readNext_4 rfl ?_
  refine r_aload_n rfl dX8_readNext_5 rfl ?_
  refine r_getv 2 rfl dX8_readNext_6 (show 2 ≤ 3 ∧ 3 < 434 by decide) f53 fl_X8_28 rfl ?_
  refine r_putv 3 (fs' := [.ref 4, .int (nI n), .int (nI q), .int (nI q), .int k, .int v]) rfl dX8_readNext_9 (show 2 ≤ 3 ∧ 3 < 434 by decide) f53 (fp_X8_25 rfl _) (Nat.le_of_ble_eq_true rfl) rfl (fun h55 eh56 => ?_)
  have f57 : h55 3 = .inr (8, [.ref 4, .int (nI n), .int (nI q), .int (nI q), .int k, .int v]) := by rw [eh56]; exact va_up_self _ _ _
  have f58 : h55 4 = .inl (2, 300, .inl f) := by rw [eh56, va_up_ne _ _ (fun q => by rw [q, f53] at f54; cases f54)]; exact f54
  refine r_aload_n rfl dX8_readNext_12 rfl ?_
  refine r_iconst (v := 0) rfl dX8_readNext_13 (by decide) ?_
  refine r_putv 5 (fs' := [.ref 4, .int (nI n), .int (nI q), .int (nI q), .int k, .int 0]) rfl dX8_readNext_14 (show 2 ≤ 3 ∧ 3 < 434 by decide) f57 (fp_X8_22 rfl _) (Nat.le_of_ble_eq_true rfl) rfl (fun h59 eh60 => ?_)
  have f61 : h59 3 = .inr (8, [.ref 4, .int (nI n), .int (nI q), .int (nI q), .int k, .int 0]) := by rw [eh60]; exact va_up_self _ _ _
  have f62 : h59 4 = .inl (2, 300, .inl f) := by rw [eh60, va_up_ne _ _ (fun q => by rw [q, f57] at f58; cases f58)]; exact f58
  refine r_aload_n rfl dX8_readNext_17 rfl ?_
  refine r_aload_n rfl dX8_readNext_18 rfl ?_
  refine r_getv 2 rfl dX8_readNext_19 (show 2 ≤ 3 ∧ 3 < 434 by decide) f61 fl_X8_28 rfl ?_
  refine cl_X8_37 rfl rfl dX8_readNext_22 (show 2 ≤ 3 ∧ 3 < 434 by decide).1 (show 2 ≤ 3 ∧ 3 < 434 by decide).2 f61 (Nat.le_of_ble_eq_true rfl) (s_X8_byteAt f61 f62) ?_
  rintro _ _ _ ⟨rfl, rfl, rfl⟩
  refine r_topi (fun x63 e64 => ?_)
  refine r_istore_n (ls' := [some (.ref 3), some (.int x63)]) rfl dX8_readNext_25 (Nat.le_of_ble_eq_true rfl) rfl ?_
  refine r_aload_n rfl dX8_readNext_26 rfl ?_
  refine r_getv 2 rfl dX8_readNext_27 (show 2 ≤ 3 ∧ 3 < 434 by decide) f61 fl_X8_28 rfl ?_
  refine r_aload_n rfl dX8_readNext_30 rfl ?_
  refine r_getv 1 rfl dX8_readNext_31 (show 2 ≤ 3 ∧ 3 < 434 by decide) f61 fl_X8_15 rfl ?_
  refine r_icmp_lt (tgt := 45) rfl rfl dX8_readNext_34 (fun c65 => ?_) (fun c65 => ?_)
  · refine r_iload_n rfl dX8_readNext_45 rfl ?_
    refine cl_X8_41 rfl rfl dX8_readNext_46 (Nat.le_of_ble_eq_true rfl) s_X8_isWordSign ?_
    rintro _ _ _ ⟨rfl, rfl, rfl⟩
    refine r_if_eq (tgt := 59) rfl rfl dX8_readNext_49 (fun c66 => ?_) (fun c66 => ?_)
    · refine r_iload_n rfl dX8_readNext_59 rfl ?_
      refine cl_X8_48 rfl rfl dX8_readNext_60 (Nat.le_of_ble_eq_true rfl) s_X8_isDigit ?_
      rintro _ _ _ ⟨rfl, rfl, rfl⟩
      refine r_if_eq (tgt := 73) rfl rfl dX8_readNext_63 (fun c67 => ?_) (fun c67 => ?_)
      · refine r_aload_n rfl dX8_readNext_73 rfl ?_
        refine r_iload_n rfl dX8_readNext_74 rfl ?_
        refine r_bipush (v := 33) rfl dX8_readNext_75 (by decide) ?_
        refine r_icmp_ne (tgt := 84) rfl rfl dX8_readNext_77 (fun c68 => ?_) (fun c68 => ?_)
        · refine r_iload_n rfl dX8_readNext_84 rfl ?_
          refine r_bipush (v := 59) rfl dX8_readNext_85 (by decide) ?_
          refine r_icmp_ne (tgt := 95) rfl rfl dX8_readNext_87 (fun c69 => ?_) (fun c69 => ?_)
          · refine r_bipush (v := 7) rfl dX8_readNext_95 (by decide) ?_
            refine r_putv 4 (fs' := [.ref 4, .int (nI n), .int (nI q), .int (nI q), .int 7, .int 0]) rfl dX8_readNext_97 (show 2 ≤ 3 ∧ 3 < 434 by decide) f61 (fp_X8_19 rfl _) (Nat.le_of_ble_eq_true rfl) rfl (fun h70 eh71 => ?_)
            have f72 : h70 3 = .inr (8, [.ref 4, .int (nI n), .int (nI q), .int (nI q), .int 7, .int 0]) := by rw [eh71]; exact va_up_self _ _ _
            have f73 : h70 4 = .inl (2, 300, .inl f) := by rw [eh71, va_up_ne _ _ (fun q => by rw [q, f61] at f62; cases f62)]; exact f62
            refine r_aload_n rfl dX8_readNext_100 rfl ?_
            refine r_dup rfl dX8_readNext_101 rfl ?_
            refine r_getv 2 rfl dX8_readNext_102 (show 2 ≤ 3 ∧ 3 < 434 by decide) f72 fl_X8_28 rfl ?_
            refine r_iconst (v := 1) rfl dX8_readNext_105 (by decide) ?_
            refine r_iadd rfl dX8_readNext_106 ?_
            refine r_eqi (y := nI (q + 1)) (nI_1 q) ?_
            refine r_putv 2 (fs' := [.ref 4, .int (nI n), .int (nI (q + 1)), .int (nI q), .int 7, .int 0]) rfl dX8_readNext_107 (show 2 ≤ 3 ∧ 3 < 434 by decide) f72 (fp_X8_28 rfl _) (Nat.le_of_ble_eq_true rfl) rfl (fun h74 eh75 => ?_)
            have f76 : h74 3 = .inr (8, [.ref 4, .int (nI n), .int (nI (q + 1)), .int (nI q), .int 7, .int 0]) := by rw [eh75]; exact va_up_self _ _ _
            have f77 : h74 4 = .inl (2, 300, .inl f) := by rw [eh75, va_up_ne _ _ (fun q => by rw [q, f72] at f73; cases f73)]; exact f73
            subst e64
            subst eh75
            subst eh71
            subst eh60
            subst eh56
            subst eh52
            have hnq : ¬ n ≤ q := by have := (nI_ltI (by omega) (by omega)).mp c65; omega
            exact r_ret dX8_readNext_110 (rt_v rfl) ⟨rfl, by simp only [rdP, rdK, rdV, rdC, rdS, ← hq, if_neg hnq, if_pos c66, if_pos c67, if_pos c68, if_pos c69, va_up_up], rfl⟩
          · refine r_bipush (v := 6) rfl dX8_readNext_90 (by decide) ?_
            refine r_goto (pc' := 97) rfl dX8_readNext_92 ?_
            refine r_putv 4 (fs' := [.ref 4, .int (nI n), .int (nI q), .int (nI q), .int 6, .int 0]) rfl dX8_readNext_97 (show 2 ≤ 3 ∧ 3 < 434 by decide) f61 (fp_X8_19 rfl _) (Nat.le_of_ble_eq_true rfl) rfl (fun h78 eh79 => ?_)
            have f80 : h78 3 = .inr (8, [.ref 4, .int (nI n), .int (nI q), .int (nI q), .int 6, .int 0]) := by rw [eh79]; exact va_up_self _ _ _
            have f81 : h78 4 = .inl (2, 300, .inl f) := by rw [eh79, va_up_ne _ _ (fun q => by rw [q, f61] at f62; cases f62)]; exact f62
            refine r_aload_n rfl dX8_readNext_100 rfl ?_
            refine r_dup rfl dX8_readNext_101 rfl ?_
            refine r_getv 2 rfl dX8_readNext_102 (show 2 ≤ 3 ∧ 3 < 434 by decide) f80 fl_X8_28 rfl ?_
            refine r_iconst (v := 1) rfl dX8_readNext_105 (by decide) ?_
            refine r_iadd rfl dX8_readNext_106 ?_
            refine r_eqi (y := nI (q + 1)) (nI_1 q) ?_
            refine r_putv 2 (fs' := [.ref 4, .int (nI n), .int (nI (q + 1)), .int (nI q), .int 6, .int 0]) rfl dX8_readNext_107 (show 2 ≤ 3 ∧ 3 < 434 by decide) f80 (fp_X8_28 rfl _) (Nat.le_of_ble_eq_true rfl) rfl (fun h82 eh83 => ?_)
            have f84 : h82 3 = .inr (8, [.ref 4, .int (nI n), .int (nI (q + 1)), .int (nI q), .int 6, .int 0]) := by rw [eh83]; exact va_up_self _ _ _
            have f85 : h82 4 = .inl (2, 300, .inl f) := by rw [eh83, va_up_ne _ _ (fun q => by rw [q, f80] at f81; cases f81)]; exact f81
            subst e64
            subst eh83
            subst eh79
            subst eh60
            subst eh56
            subst eh52
            have hnq : ¬ n ≤ q := by have := (nI_ltI (by omega) (by omega)).mp c65; omega
            exact r_ret dX8_readNext_110 (rt_v rfl) ⟨rfl, by simp only [rdP, rdK, rdV, rdC, rdS, ← hq, if_neg hnq, if_pos c66, if_pos c67, if_pos c68, if_neg (not_not_intro c69), va_up_up], rfl⟩
        · refine r_iconst (v := 5) rfl dX8_readNext_80 (by decide) ?_
          refine r_goto (pc' := 97) rfl dX8_readNext_81 ?_
          refine r_putv 4 (fs' := [.ref 4, .int (nI n), .int (nI q), .int (nI q), .int 5, .int 0]) rfl dX8_readNext_97 (show 2 ≤ 3 ∧ 3 < 434 by decide) f61 (fp_X8_19 rfl _) (Nat.le_of_ble_eq_true rfl) rfl (fun h86 eh87 => ?_)
          have f88 : h86 3 = .inr (8, [.ref 4, .int (nI n), .int (nI q), .int (nI q), .int 5, .int 0]) := by rw [eh87]; exact va_up_self _ _ _
          have f89 : h86 4 = .inl (2, 300, .inl f) := by rw [eh87, va_up_ne _ _ (fun q => by rw [q, f61] at f62; cases f62)]; exact f62
          refine r_aload_n rfl dX8_readNext_100 rfl ?_
          refine r_dup rfl dX8_readNext_101 rfl ?_
          refine r_getv 2 rfl dX8_readNext_102 (show 2 ≤ 3 ∧ 3 < 434 by decide) f88 fl_X8_28 rfl ?_
          refine r_iconst (v := 1) rfl dX8_readNext_105 (by decide) ?_
          refine r_iadd rfl dX8_readNext_106 ?_
          refine r_eqi (y := nI (q + 1)) (nI_1 q) ?_
          refine r_putv 2 (fs' := [.ref 4, .int (nI n), .int (nI (q + 1)), .int (nI q), .int 5, .int 0]) rfl dX8_readNext_107 (show 2 ≤ 3 ∧ 3 < 434 by decide) f88 (fp_X8_28 rfl _) (Nat.le_of_ble_eq_true rfl) rfl (fun h90 eh91 => ?_)
          have f92 : h90 3 = .inr (8, [.ref 4, .int (nI n), .int (nI (q + 1)), .int (nI q), .int 5, .int 0]) := by rw [eh91]; exact va_up_self _ _ _
          have f93 : h90 4 = .inl (2, 300, .inl f) := by rw [eh91, va_up_ne _ _ (fun q => by rw [q, f88] at f89; cases f89)]; exact f89
          subst e64
          subst eh91
          subst eh87
          subst eh60
          subst eh56
          subst eh52
          have hnq : ¬ n ≤ q := by have := (nI_ltI (by omega) (by omega)).mp c65; omega
          exact r_ret dX8_readNext_110 (rt_v rfl) ⟨rfl, by simp only [rdP, rdK, rdV, rdC, rdS, ← hq, if_neg hnq, if_pos c66, if_pos c67, if_neg (not_not_intro c68), va_up_up], rfl⟩
      · refine r_aload_n rfl dX8_readNext_66 rfl ?_
        refine cl_X8_51 rfl rfl dX8_readNext_67 (show 2 ≤ 3 ∧ 3 < 434 by decide).1 (show 2 ≤ 3 ∧ 3 < 434 by decide).2 f61 (Nat.le_of_ble_eq_true rfl) (s_X8_readNumber hqn hn f61 f62) ?_
        rintro _ h94 _ ⟨rfl, eh95, rfl⟩
        have f96 : h94 3 = .inr (8, [.ref 4, .int (nI n), .int (nI (nup f n (n - q) q)), .int (nI q), .int (nuK f (nI n) (nI (nup f n (n - q) q)) (nI q) k (nuv f n (n - q) q 0)), .int (nuV f (nI n) (nI (nup f n (n - q) q)) (nI q) k (nuv f n (n - q) q 0))]) := by rw [eh95]; exact va_up_self _ _ _
        have f97 : h94 4 = .inl (2, 300, .inl f) := by rw [eh95, va_up_ne _ _ (fun q => by rw [q, f61] at f62; cases f62)]; exact f62
        refine r_goto (pc' := 110) rfl dX8_readNext_70 ?_
        subst e64
        subst eh95
        subst eh60
        subst eh56
        subst eh52
        have hnq : ¬ n ≤ q := by have := (nI_ltI (by omega) (by omega)).mp c65; omega
        exact r_ret dX8_readNext_110 (rt_v rfl) ⟨rfl, by simp only [rdP, rdK, rdV, rdC, rdS, ← hq, if_neg hnq, if_pos c66, if_neg c67, va_up_up], rfl⟩
    · refine r_aload_n rfl dX8_readNext_52 rfl ?_
      refine cl_X8_45 rfl rfl dX8_readNext_53 (show 2 ≤ 3 ∧ 3 < 434 by decide).1 (show 2 ≤ 3 ∧ 3 < 434 by decide).2 f61 (Nat.le_of_ble_eq_true rfl) (s_X8_readWord hqn hn f61 f62) ?_
      rintro _ h98 _ ⟨rfl, eh99, rfl⟩
      have f100 : h98 3 = .inr (8, [.ref 4, .int (nI n), .int (nI (wdp f n (n - q) q)), .int (nI q), .int (wdK (nI (wdp f n (n - q) q)) (nI q) k 0 (wdw f n (n - q) q 0)), .int (wdV (nI (wdp f n (n - q) q)) (nI q) k 0 (wdw f n (n - q) q 0))]) := by rw [eh99]; exact va_up_self _ _ _
      have f101 : h98 4 = .inl (2, 300, .inl f) := by rw [eh99, va_up_ne _ _ (fun q => by rw [q, f61] at f62; cases f62)]; exact f62
      refine r_goto (pc' := 110) rfl dX8_readNext_56 ?_
      subst e64
      subst eh99
      subst eh60
      subst eh56
      subst eh52
      have hnq : ¬ n ≤ q := by have := (nI_ltI (by omega) (by omega)).mp c65; omega
      exact r_ret dX8_readNext_110 (rt_v rfl) ⟨rfl, by simp only [rdP, rdK, rdV, rdC, rdS, ← hq, if_neg hnq, if_neg c66, va_up_up], rfl⟩
  · refine r_aload_n rfl dX8_readNext_37 rfl ?_
    refine r_iconst (v := 0) rfl dX8_readNext_38 (by decide) ?_
    refine r_putv 4 (fs' := [.ref 4, .int (nI n), .int (nI q), .int (nI q), .int 0, .int 0]) rfl dX8_readNext_39 (show 2 ≤ 3 ∧ 3 < 434 by decide) f61 (fp_X8_19 rfl _) (Nat.le_of_ble_eq_true rfl) rfl (fun h102 eh103 => ?_)
    have f104 : h102 3 = .inr (8, [.ref 4, .int (nI n), .int (nI q), .int (nI q), .int 0, .int 0]) := by rw [eh103]; exact va_up_self _ _ _
    have f105 : h102 4 = .inl (2, 300, .inl f) := by rw [eh103, va_up_ne _ _ (fun q => by rw [q, f61] at f62; cases f62)]; exact f62
    refine r_goto (pc' := 110) rfl dX8_readNext_42 ?_
    subst e64
    subst eh103
    subst eh60
    subst eh56
    subst eh52
    have hnq : n ≤ q := Nat.not_lt.mp (fun z => c65 ((nI_ltI (by omega) (by omega)).mpr z))
    exact r_ret dX8_readNext_110 (rt_v rfl) ⟨rfl, by simp only [rdP, rdK, rdV, rdC, rdS, ← hq, if_pos hnq, va_up_up], rfl⟩
set_option maxRecDepth 20000 in
theorem s_X8_readFirst {xs : Nat → Int32} {L d : Nat} {h : ev_H} {f : Nat → Int32} {n : Nat} {p s k v : Int32} (hn : n ≤ 300) (h3 : h 3 = c3 (nI n) p s k v) (h4 : h 4 = c4 f) : EV xs L (d + 4) 0 0 M_X8_readFirst 434 h 0 [some (.ref 3)] [] (fun sz' h' r => sz' = 434 ∧ h' = va_up h 3 (c3 (nI n) (nI (rdP f n 0)) (nI (rdS f n 0)) (rdK f n 0 k) (rdV f n 0 k)) ∧ r = []) := by
  refine r_aload_n rfl dX8_readFirst_0 rfl ?_
  refine r_iconst (v := 0) rfl dX8_readFirst_1 (by decide) ?_
  refine r_putv 2 (fs' := [.ref 4, .int (nI n), .int 0, .int s, .int k, .int v]) rfl dX8_readFirst_2 (show 2 ≤ 3 ∧ 3 < 434 by decide) h3 (fp_X8_28 rfl _) (Nat.le_of_ble_eq_true rfl) rfl (fun h51 eh52 => ?_)
  have f53 : h51 3 = .inr (8, [.ref 4, .int (nI n), .int 0, .int s, .int k, .int v]) := by rw [eh52]; exact va_up_self _ _ _
  have f54 : h51 4 = .inl (2, 300, .inl f) := by rw [eh52, va_up_ne _ _ (fun q => by rw [q, h3] at h4; cases h4)]; exact h4
  refine r_aload_n rfl dX8_readFirst_5 rfl ?_
  refine cl_X8_31 rfl rfl dX8_readFirst_6 (show 2 ≤ 3 ∧ 3 < 434 by decide).1 (show 2 ≤ 3 ∧ 3 < 434 by decide).2 f53 (Nat.le_of_ble_eq_true rfl) (s_X8_readNext (p := 0) (Nat.zero_le _) hn f53 f54) ?_
  rintro _ h55 _ ⟨rfl, eh56, rfl⟩
  have f57 : h55 3 = .inr (8, [.ref 4, .int (nI n), .int (nI (rdP f n 0)), .int (nI (rdS f n 0)), .int (rdK f n 0 k), .int (rdV f n 0 k)]) := by rw [eh56]; exact va_up_self _ _ _
  have f58 : h55 4 = .inl (2, 300, .inl f) := by rw [eh56, va_up_ne _ _ (fun q => by rw [q, f53] at f54; cases f54)]; exact f54
  subst eh56
  subst eh52
  exact r_ret dX8_readFirst_9 (rt_v rfl) ⟨rfl, by simp only [va_up_up], rfl⟩
