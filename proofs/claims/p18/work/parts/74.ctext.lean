theorem dX11_clauses_0 : decode cX11_clauses 0 = .ok (.aload_n 0, 1) := by decide +kernel
theorem dX11_clauses_1 : decode cX11_clauses 1 = .ok (.getfield 19, 3) := by decide +kernel
theorem dX11_clauses_4 : decode cX11_clauses 4 = .ok (.aload_n 0, 1) := by decide +kernel
theorem dX11_clauses_5 : decode cX11_clauses 5 = .ok (.getfield 12, 3) := by decide +kernel
theorem dX11_clauses_8 : decode cX11_clauses 8 = .ok (.invokevirtual 101, 3) := by decide +kernel
theorem dX11_clauses_11 : decode cX11_clauses 11 = .ok (.istore_n 1, 1) := by decide +kernel
theorem dX11_clauses_12 : decode cX11_clauses 12 = .ok (.iload_n 1, 1) := by decide +kernel
theorem dX11_clauses_13 : decode cX11_clauses 13 = .ok (.iconst (-1), 1) := by decide +kernel
theorem dX11_clauses_14 : decode cX11_clauses 14 = .ok (.if_icmp .eq 8, 3) := by decide +kernel
theorem dX11_clauses_17 : decode cX11_clauses 17 = .ok (.bipush (-10), 2) := by decide +kernel
theorem dX11_clauses_19 : decode cX11_clauses 19 = .ok (.iload_n 1, 1) := by decide +kernel
theorem dX11_clauses_20 : decode cX11_clauses 20 = .ok (.isub, 1) := by decide +kernel
theorem dX11_clauses_21 : decode cX11_clauses 21 = .ok (.ireturn, 1) := by decide +kernel
theorem dX11_clauses_22 : decode cX11_clauses 22 = .ok (.aload_n 0, 1) := by decide +kernel
theorem dX11_clauses_23 : decode cX11_clauses 23 = .ok (.getfield 12, 3) := by decide +kernel
theorem dX11_clauses_26 : decode cX11_clauses 26 = .ok (.invokevirtual 98, 3) := by decide +kernel
theorem dX11_clauses_29 : decode cX11_clauses 29 = .ok (.aload_n 0, 1) := by decide +kernel
theorem dX11_clauses_30 : decode cX11_clauses 30 = .ok (.invokevirtual 105, 3) := by decide +kernel
theorem dX11_clauses_33 : decode cX11_clauses 33 = .ok (.aload_n 0, 1) := by decide +kernel
theorem dX11_clauses_34 : decode cX11_clauses 34 = .ok (.getfield 108, 3) := by decide +kernel
theorem dX11_clauses_37 : decode cX11_clauses 37 = .ok (.ireturn, 1) := by decide +kernel
theorem dX11_proof_0 : decode cX11_proof 0 = .ok (.aload_n 0, 1) := by decide +kernel
theorem dX11_proof_1 : decode cX11_proof 1 = .ok (.getfield 19, 3) := by decide +kernel
theorem dX11_proof_4 : decode cX11_proof 4 = .ok (.aload_n 0, 1) := by decide +kernel
theorem dX11_proof_5 : decode cX11_proof 5 = .ok (.getfield 12, 3) := by decide +kernel
theorem dX11_proof_8 : decode cX11_proof 8 = .ok (.aload_n 0, 1) := by decide +kernel
theorem dX11_proof_9 : decode cX11_proof 9 = .ok (.getfield 108, 3) := by decide +kernel
theorem dX11_proof_12 : decode cX11_proof 12 = .ok (.invokevirtual 111, 3) := by decide +kernel
theorem dX11_proof_15 : decode cX11_proof 15 = .ok (.istore_n 1, 1) := by decide +kernel
theorem dX11_proof_16 : decode cX11_proof 16 = .ok (.iload_n 1, 1) := by decide +kernel
theorem dX11_proof_17 : decode cX11_proof 17 = .ok (.iconst (-1), 1) := by decide +kernel
theorem dX11_proof_18 : decode cX11_proof 18 = .ok (.if_icmp .eq 8, 3) := by decide +kernel
theorem dX11_proof_21 : decode cX11_proof 21 = .ok (.bipush (-10), 2) := by decide +kernel
theorem dX11_proof_23 : decode cX11_proof 23 = .ok (.iload_n 1, 1) := by decide +kernel
theorem dX11_proof_24 : decode cX11_proof 24 = .ok (.isub, 1) := by decide +kernel
theorem dX11_proof_25 : decode cX11_proof 25 = .ok (.ireturn, 1) := by decide +kernel
theorem dX11_proof_26 : decode cX11_proof 26 = .ok (.aload_n 0, 1) := by decide +kernel
theorem dX11_proof_27 : decode cX11_proof 27 = .ok (.getfield 12, 3) := by decide +kernel
theorem dX11_proof_30 : decode cX11_proof 30 = .ok (.invokevirtual 98, 3) := by decide +kernel
theorem dX11_proof_33 : decode cX11_proof 33 = .ok (.aload_n 0, 1) := by decide +kernel
theorem dX11_proof_34 : decode cX11_proof 34 = .ok (.invokevirtual 115, 3) := by decide +kernel
theorem dX11_proof_37 : decode cX11_proof 37 = .ok (.aload_n 0, 1) := by decide +kernel
theorem dX11_proof_38 : decode cX11_proof 38 = .ok (.getfield 118, 3) := by decide +kernel
theorem dX11_proof_41 : decode cX11_proof 41 = .ok (.aload_n 0, 1) := by decide +kernel
theorem dX11_proof_42 : decode cX11_proof 42 = .ok (.getfield 108, 3) := by decide +kernel
theorem dX11_proof_45 : decode cX11_proof 45 = .ok (.isub, 1) := by decide +kernel
theorem dX11_proof_46 : decode cX11_proof 46 = .ok (.ireturn, 1) := by decide +kernel
theorem csL_le (f : Nat → Int32) (n : Nat) : ∀ (r p i : Nat) (A B C : Nat → Int32), (csL f n r p i A B C).2.1 ≤ i + r
  | 0, p, i, A, B, C => by rw [csL]; exact Nat.le_refl _
  | r + 1, p, i, A, B, C => by
    rw [csL]
    split
    · exact Nat.le_add_right _ _
    · split
      · split
        · have := csL_le f n r (rdP f n (clL f n 8 (rdP f n p) 0 0).2.1) (i + 1) (upd A i (tV f n p)) (upd B i (clL f n 8 (rdP f n p) 0 0).2.2.1) (upd C i (clL f n 8 (rdP f n p) 0 0).2.2.2)
          omega
        · exact Nat.le_add_right _ _
      · exact Nat.le_add_right _ _
/-- nothing but the class's own cells has changed, and of these not its text's bytes -/
def KS (h h' : ev_H) : Prop := ∀ k, k ∉ [2, 3, 5, 6, 7, 8, 9, 10, 11] → RCb k = false → h' k = h k
theorem KS_rf (h : ev_H) : KS h h := fun _ _ _ => rfl
theorem KS_tr {a b c : ev_H} (h1 : KS a b) (h2 : KS b c) : KS a c := fun k z hk => (h2 k z hk).trans (h1 k z hk)
theorem KS_Q {a b : ev_H} (h : KQ a b) : KS a b := fun k z hk => h k (fun e => z (by rw [e]; decide)) hk
theorem KS_M {a b : ev_H} {Mod : List Nat} (hs : ∀ k ∈ Mod, k ∈ [2, 3, 5, 6, 7, 8, 9, 10, 11]) (h : KM Mod a b) : KS a b := fun k z _ => h k (fun e => z (hs k e))
/-- what clauses() leaves -/
def kcQ (h0 : ev_H) (n : Nat) (cc lc sc wr el cc0 kn bs bz : Int32) (q : RS5) : ev_Q := fun sz' h' r => sz' = 434 ∧ SH h' ∧ KS h0 h' ∧ ((q.1 = -1 ∧ r = [.int (nI q.2.1)] ∧ (∃ lc sc wr el, h' 2 = c2 (nI q.2.1) lc sc wr el) ∧ (∃ p s k v, h' 3 = c3 0 p s k v) ∧ (∃ cc : Int32, cc.toInt ≤ 16 ∧ ∃ kn bs bz, h' 24 = c24 cc kn bs bz)) ∨ (¬ q.1 = -1 ∧ r = [.int (-10 - q.1)] ∧ h' 2 = c2 cc lc sc wr el ∧ (∃ p s k v, h' 3 = c3 (nI n) p s k v) ∧ h' 24 = c24 cc0 kn bs bz))
set_option maxRecDepth 20000 in
set_option maxHeartbeats 1000000 in
theorem s_X11_clauses {xs : Nat → Int32} {L d : Nat} {h : ev_H} {f g : Nat → Int32} {n : Nat} {cc lc sc wr el pp ss kk vv cr pl tu sr cc0 kn bs bz : Int32} {A B C : Nat → Int32} (hS : SH h) (hX : TXR f g n) (h2 : h 2 = c2 cc lc sc wr el) (h3 : h 3 = c3 (nI n) pp ss kk vv) (h4 : h 4 = c4 f) (h5 : h 5 = c5 cr pl tu sr) (h6 : h 6 = cI 16 A) (h7 : h 7 = cI 16 B) (h8 : h 8 = cI 16 C) (h24 : h 24 = c24 cc0 kn bs bz) : EV xs L (d + 7) 0 0 M_X11_clauses 434 h 0 [some (.ref 2), none] [] (kcQ h n cc lc sc wr el cc0 kn bs bz (csL f n 16 0 0 A B C)) := by
  refine r_aload_n rfl dX11_clauses_0 rfl ?_
  refine r_getv 1 rfl dX11_clauses_1 (show 2 ≤ 2 ∧ 2 < 434 by decide) h2 fl_X11_19 rfl ?_
  refine r_aload_n rfl dX11_clauses_4 rfl ?_
  refine r_getv 0 rfl dX11_clauses_5 (show 2 ≤ 2 ∧ 2 < 434 by decide) h2 fl_X11_12 rfl ?_
  refine cl_X11_101 rfl rfl dX11_clauses_8 (show 2 ≤ 5 ∧ 5 < 434 by decide).1 (show 2 ≤ 5 ∧ 5 < 434 by decide).2 h5 (Nat.le_of_ble_eq_true rfl) (s_X4_readClauses hS hX.1 h3 h4 h5 h6 h7 h8 hX) ?_
  rintro _ h51 _ ⟨rfl, hS52, hk53, rfl, ⟨p54, s55, k56, v57, f58⟩, g59, g60⟩
  have hF61 := KS_tr (KS_rf h) (KS_M (by decide) hk53)
  have f62 : h51 2 = .inr (11, [.ref 3, .ref 5, .ref 12, .ref 13, .ref 24, .ref 93, .ref 95, .ref 96, .ref 97, .ref 98, .ref 99, .int cc, .int lc, .int sc, .int wr, .int el]) := (hk53 2 (by decide)).trans h2
  have f63 : h51 4 = .inl (2, 300, .inl f) := (hk53 4 (by decide)).trans h4
  have f64 : h51 24 = c24 cc0 kn bs bz := (hk53 24 (by decide)).trans h24
  refine r_topi (fun x65 e66 => ?_)
  refine r_istore_n (ls' := [some (.ref 2), some (.int x65)]) rfl dX11_clauses_11 (Nat.le_of_ble_eq_true rfl) rfl ?_
  refine r_iload_n rfl dX11_clauses_12 rfl ?_
  refine r_iconst (v := (-1)) rfl dX11_clauses_13 (by decide) ?_
  refine r_icmp_eq (tgt := 22) rfl rfl dX11_clauses_14 (fun c67 => ?_) (fun c67 => ?_)
  · have c67r := e66.symm.trans c67
    obtain ⟨⟨a68, b69, f70⟩, f71, f72, f73⟩ := g60 c67r
    refine r_aload_n rfl dX11_clauses_22 rfl ?_
    refine r_getv 0 rfl dX11_clauses_23 (show 2 ≤ 2 ∧ 2 < 434 by decide) f62 fl_X11_12 rfl ?_
    refine cl_X11_98 rfl rfl dX11_clauses_26 (show 2 ≤ 3 ∧ 3 < 434 by decide).1 (show 2 ≤ 3 ∧ 3 < 434 by decide).2 f58 (Nat.le_of_ble_eq_true rfl) ((s_X8_wipe f58).sh hS52) ?_
    rintro _ h74 _ ⟨⟨rfl, eh76, rfl⟩, -, hS75, -⟩
    have hk77 : KM [3] h51 h74 := by rw [eh76]; exact KM_up (KM_rf _) (by decide)
    have f78 : h74 3 = .inr (8, [.ref 4, .int 0, .int p54, .int s55, .int k56, .int v57]) := by rw [eh76]; exact va_up_self _ _ _
    have hF79 := KS_tr hF61 (KS_M (by decide) hk77)
    have f80 : h74 2 = .inr (11, [.ref 3, .ref 5, .ref 12, .ref 13, .ref 24, .ref 93, .ref 95, .ref 96, .ref 97, .ref 98, .ref 99, .int cc, .int lc, .int sc, .int wr, .int el]) := (hk77 2 (by decide)).trans f62
    have f81 : h74 4 = .inl (2, 300, .inl f) := (hk77 4 (by decide)).trans f63
    have f82 : h74 24 = c24 cc0 kn bs bz := (hk77 24 (by decide)).trans f64
    have f83 : h74 5 = .inr (4, [.ref 6, .ref 7, .ref 8, .int (nI ((csL f n 16 0 0 A B C).2.1)), .int a68, .int b69, .ref 9, .ref 10, .ref 11, .int sr]) := (hk77 5 (by decide)).trans f70
    have f84 : h74 6 = .inl (0, 16, .inl ((csL f n 16 0 0 A B C).2.2.1)) := (hk77 6 (by decide)).trans f71
    have f85 : h74 7 = .inl (0, 16, .inl ((csL f n 16 0 0 A B C).2.2.2.1)) := (hk77 7 (by decide)).trans f72
    have f86 : h74 8 = .inl (0, 16, .inl ((csL f n 16 0 0 A B C).2.2.2.2)) := (hk77 8 (by decide)).trans f73
    refine r_aload_n rfl dX11_clauses_29 rfl ?_
    refine cl_X11_105 rfl rfl dX11_clauses_30 (show 2 ≤ 2 ∧ 2 < 434 by decide).1 (show 2 ≤ 2 ∧ 2 < 434 by decide).2 f80 (Nat.le_of_ble_eq_true rfl) (s_X11_takeClauses hS75 (csL_le f n 16 0 0 A B C) f80 f83 f84 f85 f86) ?_
    rintro _ h87 _ ⟨rfl, hS88, hk89, ⟨el90, f91⟩, ⟨cc96, hcc97, k98, k99, k100, f92⟩, rfl⟩
    have hF101 := KS_tr hF79 (KS_Q hk89)
    have f102 : h87 4 = .inl (2, 300, .inl f) := (hk89 4 (by decide) (by decide)).trans f81
    have f103 : h87 3 = .inr (8, [.ref 4, .int 0, .int p54, .int s55, .int k56, .int v57]) := (hk89 3 (by decide) (by decide)).trans f78
    refine r_aload_n rfl dX11_clauses_33 rfl ?_
    refine r_getv 11 rfl dX11_clauses_34 (show 2 ≤ 2 ∧ 2 < 434 by decide) f91 fl_X11_108 rfl ?_
    exact r_ret dX11_clauses_37 (rt_i rfl) ⟨rfl, hS88, hF101, Or.inl ⟨c67r, rfl, ⟨_, _, _, _, f91⟩, ⟨_, _, _, _, f103⟩, ⟨_, hcc97, _, _, _, f92⟩⟩⟩
  · have c67r : ¬ (csL f n 16 0 0 A B C).1 = -1 := fun z => c67 (e66.trans z)
    refine r_bipush (v := (-10)) rfl dX11_clauses_17 (by decide) ?_
    refine r_iload_n rfl dX11_clauses_19 rfl ?_
    refine r_isub rfl dX11_clauses_20 ?_
    subst e66
    exact r_ret dX11_clauses_21 (rt_i rfl) ⟨rfl, hS52, hF61, Or.inr ⟨c67r, rfl, f62, ⟨_, _, _, _, f58⟩, f64⟩⟩
/-- what proof() leaves -/
def kpQ (h0 : ev_H) (n c : Nat) (lc sc wr el cc0 kn bs bz : Int32) (q : RS5) : ev_Q := fun sz' h' r => sz' = 434 ∧ SH h' ∧ KS h0 h' ∧ ((q.1 = -1 ∧ (∃ x : Int32, r = [.int x]) ∧ (∃ lc sc wr el, h' 2 = c2 (nI c) lc sc wr el) ∧ (∃ p s k v, h' 3 = c3 0 p s k v) ∧ h' 24 = c24 cc0 kn bs bz) ∨ (¬ q.1 = -1 ∧ (∃ x : Int32, r = [.int x]) ∧ h' 2 = c2 (nI c) lc sc wr el ∧ (∃ p s k v, h' 3 = c3 (nI n) p s k v) ∧ h' 24 = c24 cc0 kn bs bz))
set_option maxRecDepth 20000 in
set_option maxHeartbeats 1000000 in
theorem s_X11_proof {xs : Nat → Int32} {L d : Nat} {h : ev_H} {f g : Nat → Int32} {n c : Nat} {lc sc wr el pp ss kk vv cr pl tu sr cc0 kn bs bz : Int32} {A B C : Nat → Int32} (hS : SH h) (hX : TXR f g n) (hc : c ≤ 16) (h2 : h 2 = c2 (nI c) lc sc wr el) (h3 : h 3 = c3 (nI n) pp ss kk vv) (h4 : h 4 = c4 f) (h5 : h 5 = c5 cr pl tu sr) (h9 : h 9 = cI 24 A) (h10 : h 10 = cI 24 B) (h11 : h 11 = cI 24 C) (h24 : h 24 = c24 cc0 kn bs bz) : EV xs L (d + 7) 0 0 M_X11_proof 434 h 0 [some (.ref 2), none] [] (kpQ h n c lc sc wr el cc0 kn bs bz (stL f n c 24 0 0 A B C)) := by
  refine r_aload_n rfl dX11_proof_0 rfl ?_
  refine r_getv 1 rfl dX11_proof_1 (show 2 ≤ 2 ∧ 2 < 434 by decide) h2 fl_X11_19 rfl ?_
  refine r_aload_n rfl dX11_proof_4 rfl ?_
  refine r_getv 0 rfl dX11_proof_5 (show 2 ≤ 2 ∧ 2 < 434 by decide) h2 fl_X11_12 rfl ?_
  refine r_aload_n rfl dX11_proof_8 rfl ?_
  refine r_getv 11 rfl dX11_proof_9 (show 2 ≤ 2 ∧ 2 < 434 by decide) h2 fl_X11_108 rfl ?_
  refine cl_X11_111 rfl rfl dX11_proof_12 (show 2 ≤ 5 ∧ 5 < 434 by decide).1 (show 2 ≤ 5 ∧ 5 < 434 by decide).2 h5 (Nat.le_of_ble_eq_true rfl) (s_X4_readSteps hS hX.1 h3 h4 h5 h9 h10 h11) ?_
  rintro _ h51 _ ⟨rfl, hS52, hk53, rfl, ⟨p54, s55, k56, v57, f58⟩, g59, g60⟩
  have hF61 := KS_tr (KS_rf h) (KS_M (by decide) hk53)
  have f62 : h51 2 = .inr (11, [.ref 3, .ref 5, .ref 12, .ref 13, .ref 24, .ref 93, .ref 95, .ref 96, .ref 97, .ref 98, .ref 99, .int (nI c), .int lc, .int sc, .int wr, .int el]) := (hk53 2 (by decide)).trans h2
  have f63 : h51 4 = .inl (2, 300, .inl f) := (hk53 4 (by decide)).trans h4
  have f64 : h51 24 = c24 cc0 kn bs bz := (hk53 24 (by decide)).trans h24
  refine r_topi (fun x65 e66 => ?_)
  refine r_istore_n (ls' := [some (.ref 2), some (.int x65)]) rfl dX11_proof_15 (Nat.le_of_ble_eq_true rfl) rfl ?_
  refine r_iload_n rfl dX11_proof_16 rfl ?_
  refine r_iconst (v := (-1)) rfl dX11_proof_17 (by decide) ?_
  refine r_icmp_eq (tgt := 26) rfl rfl dX11_proof_18 (fun c67 => ?_) (fun c67 => ?_)
  · have c67r := e66.symm.trans c67
    obtain ⟨f70, f71, f72, f73⟩ := g60 c67r
    have hle := (stL_bd hX hc 24 0 0 A B C (Nat.zero_le n) (by decide) (fun j z => absurd z (by omega))).1
    refine r_aload_n rfl dX11_proof_26 rfl ?_
    refine r_getv 0 rfl dX11_proof_27 (show 2 ≤ 2 ∧ 2 < 434 by decide) f62 fl_X11_12 rfl ?_
    refine cl_X11_98 rfl rfl dX11_proof_30 (show 2 ≤ 3 ∧ 3 < 434 by decide).1 (show 2 ≤ 3 ∧ 3 < 434 by decide).2 f58 (Nat.le_of_ble_eq_true rfl) ((s_X8_wipe f58).sh hS52) ?_
    rintro _ h74 _ ⟨⟨rfl, eh76, rfl⟩, -, hS75, -⟩
    have hk77 : KM [3] h51 h74 := by rw [eh76]; exact KM_up (KM_rf _) (by decide)
    have f78 : h74 3 = .inr (8, [.ref 4, .int 0, .int p54, .int s55, .int k56, .int v57]) := by rw [eh76]; exact va_up_self _ _ _
    have hF79 := KS_tr hF61 (KS_M (by decide) hk77)
    have f80 : h74 2 = .inr (11, [.ref 3, .ref 5, .ref 12, .ref 13, .ref 24, .ref 93, .ref 95, .ref 96, .ref 97, .ref 98, .ref 99, .int (nI c), .int lc, .int sc, .int wr, .int el]) := (hk77 2 (by decide)).trans f62
    have f81 : h74 4 = .inl (2, 300, .inl f) := (hk77 4 (by decide)).trans f63
    have f82 : h74 24 = c24 cc0 kn bs bz := (hk77 24 (by decide)).trans f64
    have f83 : h74 5 = .inr (4, [.ref 6, .ref 7, .ref 8, .int cr, .int pl, .int tu, .ref 9, .ref 10, .ref 11, .int (nI ((stL f n c 24 0 0 A B C).2.1))]) := (hk77 5 (by decide)).trans f70
    have f84 : h74 9 = .inl (0, 24, .inl ((stL f n c 24 0 0 A B C).2.2.1)) := (hk77 9 (by decide)).trans f71
    have f85 : h74 10 = .inl (0, 24, .inl ((stL f n c 24 0 0 A B C).2.2.2.1)) := (hk77 10 (by decide)).trans f72
    have f86 : h74 11 = .inl (0, 24, .inl ((stL f n c 24 0 0 A B C).2.2.2.2)) := (hk77 11 (by decide)).trans f73
    refine r_aload_n rfl dX11_proof_33 rfl ?_
    refine cl_X11_115 rfl rfl dX11_proof_34 (show 2 ≤ 2 ∧ 2 < 434 by decide).1 (show 2 ≤ 2 ∧ 2 < 434 by decide).2 f80 (Nat.le_of_ble_eq_true rfl) (s_X11_takeSteps hS75 hle f80 f83 f84 f85 f86 f82) ?_
    rintro _ h87 _ ⟨rfl, hS88, hk89, ⟨lc93, sc94, wr95, el90, f91⟩, f92, rfl⟩
    have hF96 := KS_tr hF79 (KS_Q hk89)
    have f97 : h87 4 = .inl (2, 300, .inl f) := (hk89 4 (by decide) (by decide)).trans f81
    have f98 : h87 3 = .inr (8, [.ref 4, .int 0, .int p54, .int s55, .int k56, .int v57]) := (hk89 3 (by decide) (by decide)).trans f78
    refine r_aload_n rfl dX11_proof_37 rfl ?_
    refine r_getv 12 rfl dX11_proof_38 (show 2 ≤ 2 ∧ 2 < 434 by decide) f91 fl_X11_118 rfl ?_
    refine r_aload_n rfl dX11_proof_41 rfl ?_
    refine r_getv 11 rfl dX11_proof_42 (show 2 ≤ 2 ∧ 2 < 434 by decide) f91 fl_X11_108 rfl ?_
    refine r_isub rfl dX11_proof_45 ?_
    exact r_ret dX11_proof_46 (rt_i rfl) ⟨rfl, hS88, hF96, Or.inl ⟨c67r, ⟨_, rfl⟩, ⟨_, _, _, _, f91⟩, ⟨_, _, _, _, f98⟩, f92⟩⟩
  · have c67r : ¬ (stL f n c 24 0 0 A B C).1 = -1 := fun z => c67 (e66.trans z)
    refine r_bipush (v := (-10)) rfl dX11_proof_21 (by decide) ?_
    refine r_iload_n rfl dX11_proof_23 rfl ?_
    refine r_isub rfl dX11_proof_24 ?_
    subst e66
    exact r_ret dX11_proof_25 (rt_i rfl) ⟨rfl, hS52, hF61, Or.inr ⟨c67r, ⟨_, rfl⟩, f62, ⟨_, _, _, _, f58⟩, f64⟩⟩
