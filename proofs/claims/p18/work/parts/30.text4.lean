theorem dX8_append_0 : decode cX8_append 0 = .ok (.iload_n 3, 1) := by decide +kernel
theorem dX8_append_1 : decode cX8_append 1 = .ok (.sipush 300, 3) := by decide +kernel
theorem dX8_append_4 : decode cX8_append 4 = .ok (.aload_n 0, 1) := by decide +kernel
theorem dX8_append_5 : decode cX8_append 5 = .ok (.getfield 15, 3) := by decide +kernel
theorem dX8_append_8 : decode cX8_append 8 = .ok (.isub, 1) := by decide +kernel
theorem dX8_append_9 : decode cX8_append 9 = .ok (.if_icmp .le 5, 3) := by decide +kernel
theorem dX8_append_12 : decode cX8_append 12 = .ok (.iconst 0, 1) := by decide +kernel
theorem dX8_append_13 : decode cX8_append 13 = .ok (.ireturn, 1) := by decide +kernel
theorem dX8_append_14 : decode cX8_append 14 = .ok (.iload_n 3, 1) := by decide +kernel
theorem dX8_append_15 : decode cX8_append 15 = .ok (.iconst 1, 1) := by decide +kernel
theorem dX8_append_16 : decode cX8_append 16 = .ok (.isub, 1) := by decide +kernel
theorem dX8_append_17 : decode cX8_append 17 = .ok (.istore 4, 2) := by decide +kernel
theorem dX8_append_19 : decode cX8_append 19 = .ok (.iload 4, 2) := by decide +kernel
theorem dX8_append_21 : decode cX8_append 21 = .ok (.ifCond .lt 47, 3) := by decide +kernel
theorem dX8_append_24 : decode cX8_append 24 = .ok (.aload_n 0, 1) := by decide +kernel
theorem dX8_append_25 : decode cX8_append 25 = .ok (.getfield 15, 3) := by decide +kernel
theorem dX8_append_28 : decode cX8_append 28 = .ok (.sipush 300, 3) := by decide +kernel
theorem dX8_append_31 : decode cX8_append 31 = .ok (.if_icmp .ge 37, 3) := by decide +kernel
theorem dX8_append_34 : decode cX8_append 34 = .ok (.aload_n 0, 1) := by decide +kernel
theorem dX8_append_35 : decode cX8_append 35 = .ok (.getfield 9, 3) := by decide +kernel
theorem dX8_append_38 : decode cX8_append 38 = .ok (.aload_n 0, 1) := by decide +kernel
theorem dX8_append_39 : decode cX8_append 39 = .ok (.getfield 15, 3) := by decide +kernel
theorem dX8_append_42 : decode cX8_append 42 = .ok (.lload_n 1, 1) := by decide +kernel
theorem dX8_append_43 : decode cX8_append 43 = .ok (.bipush 8, 2) := by decide +kernel
theorem dX8_append_45 : decode cX8_append 45 = .ok (.iload 4, 2) := by decide +kernel
theorem dX8_append_47 : decode cX8_append 47 = .ok (.imul, 1) := by decide +kernel
theorem dX8_append_48 : decode cX8_append 48 = .ok (.lushr, 1) := by decide +kernel
theorem dX8_append_49 : decode cX8_append 49 = .ok (.l2i, 1) := by decide +kernel
theorem dX8_append_50 : decode cX8_append 50 = .ok (.i2b, 1) := by decide +kernel
theorem dX8_append_51 : decode cX8_append 51 = .ok (.bastore, 1) := by decide +kernel
theorem dX8_append_52 : decode cX8_append 52 = .ok (.aload_n 0, 1) := by decide +kernel
theorem dX8_append_53 : decode cX8_append 53 = .ok (.dup, 1) := by decide +kernel
theorem dX8_append_54 : decode cX8_append 54 = .ok (.getfield 15, 3) := by decide +kernel
theorem dX8_append_57 : decode cX8_append 57 = .ok (.iconst 1, 1) := by decide +kernel
theorem dX8_append_58 : decode cX8_append 58 = .ok (.iadd, 1) := by decide +kernel
theorem dX8_append_59 : decode cX8_append 59 = .ok (.putfield 15, 3) := by decide +kernel
theorem dX8_append_62 : decode cX8_append 62 = .ok (.iinc 4 (-1), 3) := by decide +kernel
theorem dX8_append_65 : decode cX8_append 65 = .ok (.goto (-46), 3) := by decide +kernel
theorem dX8_append_68 : decode cX8_append 68 = .ok (.iconst 1, 1) := by decide +kernel
theorem dX8_append_69 : decode cX8_append 69 = .ok (.ireturn, 1) := by decide +kernel
theorem dX11_clear_0 : decode cX11_clear 0 = .ok (.aload_n 0, 1) := by decide +kernel
theorem dX11_clear_1 : decode cX11_clear 1 = .ok (.getfield 12, 3) := by decide +kernel
theorem dX11_clear_4 : decode cX11_clear 4 = .ok (.invokevirtual 94, 3) := by decide +kernel
theorem dX11_clear_7 : decode cX11_clear 7 = .ok (.istore_n 1, 1) := by decide +kernel
theorem dX11_clear_8 : decode cX11_clear 8 = .ok (.aload_n 0, 1) := by decide +kernel
theorem dX11_clear_9 : decode cX11_clear 9 = .ok (.getfield 12, 3) := by decide +kernel
theorem dX11_clear_12 : decode cX11_clear 12 = .ok (.invokevirtual 98, 3) := by decide +kernel
theorem dX11_clear_15 : decode cX11_clear 15 = .ok (.iload_n 1, 1) := by decide +kernel
theorem dX11_clear_16 : decode cX11_clear 16 = .ok (.ireturn, 1) := by decide +kernel
theorem dX11_type_0 : decode cX11_type 0 = .ok (.iload_n 3, 1) := by decide +kernel
theorem dX11_type_1 : decode cX11_type 1 = .ok (.iconst 1, 1) := by decide +kernel
theorem dX11_type_2 : decode cX11_type 2 = .ok (.if_icmp .lt 9, 3) := by decide +kernel
theorem dX11_type_5 : decode cX11_type 5 = .ok (.iload_n 3, 1) := by decide +kernel
theorem dX11_type_6 : decode cX11_type 6 = .ok (.bipush 8, 2) := by decide +kernel
theorem dX11_type_8 : decode cX11_type 8 = .ok (.if_icmp .le 5, 3) := by decide +kernel
theorem dX11_type_11 : decode cX11_type 11 = .ok (.iconst (-1), 1) := by decide +kernel
theorem dX11_type_12 : decode cX11_type 12 = .ok (.ireturn, 1) := by decide +kernel
theorem dX11_type_13 : decode cX11_type 13 = .ok (.aload_n 0, 1) := by decide +kernel
theorem dX11_type_14 : decode cX11_type 14 = .ok (.getfield 12, 3) := by decide +kernel
theorem dX11_type_17 : decode cX11_type 17 = .ok (.lload_n 1, 1) := by decide +kernel
theorem dX11_type_18 : decode cX11_type 18 = .ok (.iload_n 3, 1) := by decide +kernel
theorem dX11_type_19 : decode cX11_type 19 = .ok (.invokevirtual 90, 3) := by decide +kernel
theorem dX11_type_22 : decode cX11_type 22 = .ok (.ifCond .eq 13, 3) := by decide +kernel
theorem dX11_type_25 : decode cX11_type 25 = .ok (.aload_n 0, 1) := by decide +kernel
theorem dX11_type_26 : decode cX11_type 26 = .ok (.getfield 12, 3) := by decide +kernel
theorem dX11_type_29 : decode cX11_type 29 = .ok (.invokevirtual 94, 3) := by decide +kernel
theorem dX11_type_32 : decode cX11_type 32 = .ok (.goto 5, 3) := by decide +kernel
theorem dX11_type_35 : decode cX11_type 35 = .ok (.bipush (-3), 2) := by decide +kernel
theorem dX11_type_37 : decode cX11_type 37 = .ok (.ireturn, 1) := by decide +kernel
def apE (v : Int64) (k : Int32) : Int32 := (((v.toUInt64 >>> ((8 * k : Int32).toInt64.toUInt64 &&& Int64.toUInt64 63)).toInt64 : Int64).toInt32 : Int32).toInt8.toInt32
/-- j bytes of v come behind the first m -/
def apb (v : Int64) : Nat → Nat → (Nat → Int32) → (Nat → Int32)
  | 0, _, f => f
  | j + 1, m, f => apb v j (m + 1) (upd f m (vp_nar .byte (apE v (nI j))))
set_option maxRecDepth 20000 in
theorem s_X8_append_loop {xs : Nat → Int32} {L d : Nat} {v : Int64} {nn p s k w : Int32} : ∀ (j m : Nat) (kx : Int32), kx = nI j - 1 → m + j ≤ 300 → ∀ (f : Nat → Int32) (h : ev_H) (h3 : h 3 = c3 (nI m) p s k w) (h4 : h 4 = c4 f), EV xs L (d + 0) 0 0 M_X8_append 434 h 19 [some (.ref 3), some (.long v), none, some (.int nn), some (.int kx)] [] (fun sz' h' r => sz' = 434 ∧ h' 3 = c3 (nI (m + j)) p s k w ∧ h' 4 = c4 (apb v j m f) ∧ (∀ a, a ≠ 3 → a ≠ 4 → h' a = h a) ∧ r = [.int 1]) := by
  intro j
  induction j with
  | zero =>
    intro m kx hk hm f h h3 h4
    obtain rfl : kx = -1 := by rw [hk]; decide
    refine r_iload rfl dX8_append_19 rfl ?_
    refine r_if_lt (tgt := 68) rfl rfl dX8_append_21 (fun _ => ?_) (fun c => absurd c (by decide))
    refine r_iconst (v := 1) rfl dX8_append_68 (by decide) ?_
    exact r_ret dX8_append_69 (rt_z rfl (Or.inr rfl)) ⟨rfl, h3, h4, fun _ _ _ => rfl, rfl⟩
  | succ j ih =>
    intro m kx hk hm f h h3 h4
    obtain rfl : kx = nI j := by rw [hk]; exact nI_pred j
    refine r_iload rfl dX8_append_19 rfl ?_
    refine r_if_lt (tgt := 68) rfl rfl dX8_append_21 (fun c => absurd c (nI_pos (by omega))) (fun _ => ?_)
    refine r_aload_n rfl dX8_append_24 rfl ?_
    refine r_getv 1 rfl dX8_append_25 (show 2 ≤ 3 ∧ 3 < 434 by decide) h3 fl_X8_15 rfl ?_
    refine r_sipush (v := 300) rfl dX8_append_28 (by decide) ?_
    refine r_icmp_ge (tgt := 68) rfl rfl dX8_append_31 (fun c => absurd c (show ¬ (300 : Int32) ≤ nI m from nI_ge (a := m) (b := 300) (by omega) (by decide))) (fun _ => ?_)
    refine r_aload_n rfl dX8_append_34 rfl ?_
    refine r_getv 0 rfl dX8_append_35 (show 2 ≤ 3 ∧ 3 < 434 by decide) h3 fl_X8_9 rfl ?_
    refine r_aload_n rfl dX8_append_38 rfl ?_
    refine r_getv 1 rfl dX8_append_39 (show 2 ≤ 3 ∧ 3 < 434 by decide) h3 fl_X8_15 rfl ?_
    refine r_lload_n rfl dX8_append_42 rfl ?_
    refine r_bipush (v := 8) rfl dX8_append_43 (by decide) ?_
    refine r_iload rfl dX8_append_45 rfl ?_
    refine r_imul rfl dX8_append_47 ?_
    refine r_lushr rfl dX8_append_48 ?_
    refine r_l2i rfl dX8_append_49 ?_
    refine r_i2b rfl dX8_append_50 ?_
    refine r_topi (fun x301 e302 => ?_)
    refine r_bast (jn := m) rfl dX8_append_51 (show 2 ≤ 4 ∧ 4 < 434 by decide).1 (show 2 ≤ 4 ∧ 4 < 434 by decide).2 h4 (vp_in_nI (by omega) (by decide)) (nI_clamp (by omega)) ?_
    refine r_heap (fun h303 eh304 => ?_)
    have f305 : h303 4 = .inl (2, 300, .inl (upd f m (vp_nar .byte x301))) := by rw [eh304]; exact va_up_self _ _ _
    have f306 : h303 3 = .inr (8, [.ref 4, .int (nI m), .int p, .int s, .int k, .int w]) := by rw [eh304, va_up_ne _ _ (fun q => by rw [q, h4] at h3; cases h3)]; exact h3
    refine r_aload_n rfl dX8_append_52 rfl ?_
    refine r_dup rfl dX8_append_53 rfl ?_
    refine r_getv 1 rfl dX8_append_54 (show 2 ≤ 3 ∧ 3 < 434 by decide) f306 fl_X8_15 rfl ?_
    refine r_iconst (v := 1) rfl dX8_append_57 (by decide) ?_
    refine r_iadd rfl dX8_append_58 ?_
    refine r_eqi (y := nI (m + 1)) (nI_1 m) ?_
    refine r_putv 1 (fs' := [.ref 4, .int (nI (m + 1)), .int p, .int s, .int k, .int w]) rfl dX8_append_59 (show 2 ≤ 3 ∧ 3 < 434 by decide) f306 (fp_X8_15 rfl _) (Nat.le_of_ble_eq_true rfl) rfl (fun h307 eh308 => ?_)
    have f309 : h307 3 = .inr (8, [.ref 4, .int (nI (m + 1)), .int p, .int s, .int k, .int w]) := by rw [eh308]; exact va_up_self _ _ _
    have f310 : h307 4 = .inl (2, 300, .inl (upd f m (vp_nar .byte x301))) := by rw [eh308, va_up_ne _ _ (fun q => by rw [q, f306] at f305; cases f305)]; exact f305
    obtain ⟨x311, e312⟩ : ∃ z : Int32, z = (nI j) + Int32.ofInt (-1) := ⟨_, rfl⟩
    refine r_iinc (y := x311) (ls' := [some (.ref 3), some (.long v), none, some (.int nn), some (.int x311)]) rfl dX8_append_62 rfl e312.symm (Nat.le_of_ble_eq_true rfl) rfl ?_
    refine r_goto (pc' := 19) rfl dX8_append_65 ?_
    refine EV.post ?_ (ih (m + 1) x311 (by rw [e312, Int32.sub_eq_add_neg]; rfl) (by omega) _ h307 f309 f310)
    rintro _ h' _ ⟨rfl, a1, a2, a3, rfl⟩
    subst e302
    exact ⟨rfl, by rw [show m + (j + 1) = m + 1 + j by omega]; exact a1, a2, fun a z1 z2 => (a3 a z1 z2).trans (by rw [eh308, va_up_ne _ _ z1, eh304, va_up_ne _ _ z2]), rfl⟩
theorem le300 {j m : Nat} (hj : j ≤ 8) (hm : m ≤ 300) : nI j ≤ 300 - nI m ↔ m + j ≤ 300 := by
  rw [Int32.le_iff_toInt_le, show (300 : Int32) = nI 300 from rfl, pk_sub_toInt (by decide) (by omega), nI_toInt (by omega)]
  omega
set_option maxRecDepth 20000 in
theorem s_X8_append {xs : Nat → Int32} {L d : Nat} {h : ev_H} {f : Nat → Int32} {m j : Nat} {v : Int64} {p s k w : Int32} (hj : j ≤ 8) (hm : m ≤ 300) (h3 : h 3 = c3 (nI m) p s k w) (h4 : h 4 = c4 f) : EV xs L (d + 0) 0 0 M_X8_append 434 h 0 [some (.ref 3), some (.long v), none, some (.int (nI j)), none] [] (fun sz' h' r => sz' = 434 ∧ ((m + j ≤ 300 ∧ h' 3 = c3 (nI (m + j)) p s k w ∧ h' 4 = c4 (apb v j m f) ∧ (∀ a, a ≠ 3 → a ≠ 4 → h' a = h a) ∧ r = [.int 1]) ∨ (300 < m + j ∧ h' = h ∧ r = [.int 0]))) := by
  refine r_iload_n rfl dX8_append_0 rfl ?_
  refine r_sipush (v := 300) rfl dX8_append_1 (by decide) ?_
  refine r_aload_n rfl dX8_append_4 rfl ?_
  refine r_getv 1 rfl dX8_append_5 (show 2 ≤ 3 ∧ 3 < 434 by decide) h3 fl_X8_15 rfl ?_
  refine r_isub rfl dX8_append_8 ?_
  refine r_icmp_le (tgt := 14) rfl rfl dX8_append_9 (fun c51 => ?_) (fun c51 => ?_)
  · refine r_iload_n rfl dX8_append_14 rfl ?_
    refine r_iconst (v := 1) rfl dX8_append_15 (by decide) ?_
    refine r_isub rfl dX8_append_16 ?_
    refine r_topi (fun x52 e53 => ?_)
    refine r_istore (ls' := [some (.ref 3), some (.long v), none, some (.int (nI j)), some (.int x52)]) rfl dX8_append_17 (Nat.le_of_ble_eq_true rfl) rfl ?_
    exact EV.post (fun _ _ _ q => ⟨q.1, Or.inl ⟨(le300 hj hm).mp c51, q.2⟩⟩) (s_X8_append_loop j m x52 e53 ((le300 hj hm).mp c51) f h h3 h4)
  · refine r_iconst (v := 0) rfl dX8_append_12 (by decide) ?_
    exact r_ret dX8_append_13 (rt_z rfl (Or.inl rfl)) ⟨rfl, Or.inr ⟨Nat.not_le.mp (fun z => c51 ((le300 hj hm).mpr z)), rfl, rfl⟩⟩
set_option maxRecDepth 20000 in
theorem s_X11_clear {xs : Nat → Int32} {L d : Nat} {h : ev_H} {f : Nat → Int32} {m : Nat} {p s k w cc lc sc wr el : Int32} (hm : m ≤ 300) (h2 : h 2 = c2 cc lc sc wr el) (h3 : h 3 = c3 (nI m) p s k w) (h4 : h 4 = c4 f) : EV xs L (d + 1) 0 0 M_X11_clear 434 h 0 [some (.ref 2), none] [] (fun sz' h' r => sz' = 434 ∧ h' = va_up h 3 (c3 0 p s k w) ∧ r = [.int (nI m)]) := by
  refine r_aload_n rfl dX11_clear_0 rfl ?_
  refine r_getv 0 rfl dX11_clear_1 (show 2 ≤ 2 ∧ 2 < 434 by decide) h2 fl_X11_12 rfl ?_
  refine cl_X11_94 rfl rfl dX11_clear_4 (show 2 ≤ 3 ∧ 3 < 434 by decide).1 (show 2 ≤ 3 ∧ 3 < 434 by decide).2 h3 (Nat.le_of_ble_eq_true rfl) (s_X8_size h3) ?_
  rintro _ _ _ ⟨rfl, rfl, rfl⟩
  refine r_istore_n (ls' := [some (.ref 2), some (.int (nI m))]) rfl dX11_clear_7 (Nat.le_of_ble_eq_true rfl) rfl ?_
  refine r_aload_n rfl dX11_clear_8 rfl ?_
  refine r_getv 0 rfl dX11_clear_9 (show 2 ≤ 2 ∧ 2 < 434 by decide) h2 fl_X11_12 rfl ?_
  refine cl_X11_98 rfl rfl dX11_clear_12 (show 2 ≤ 3 ∧ 3 < 434 by decide).1 (show 2 ≤ 3 ∧ 3 < 434 by decide).2 h3 (Nat.le_of_ble_eq_true rfl) (s_X8_wipe h3) ?_
  rintro _ h51 _ ⟨rfl, eh52, rfl⟩
  have f53 : h51 3 = .inr (8, [.ref 4, .int 0, .int p, .int s, .int k, .int w]) := by rw [eh52]; exact va_up_self _ _ _
  have f54 : h51 4 = .inl (2, 300, .inl f) := by rw [eh52, va_up_ne _ _ (fun q => by rw [q, h3] at h4; cases h4)]; exact h4
  have f55 : h51 2 = .inr (11, [.ref 3, .ref 5, .ref 12, .ref 13, .ref 24, .ref 93, .ref 95, .ref 96, .ref 97, .ref 98, .ref 99, .int cc, .int lc, .int sc, .int wr, .int el]) := by rw [eh52, va_up_ne _ _ (fun q => by rw [q, h3] at h2; cases h2)]; exact h2
  refine r_iload_n rfl dX11_clear_15 rfl ?_
  subst eh52
  exact r_ret dX11_clear_16 (rt_i rfl) ⟨rfl, rfl, rfl⟩
theorem one8 {x : Int32} (h1 : ¬ x < 1) (h2 : x ≤ 8) : ∃ j : Nat, (1 ≤ j ∧ j ≤ 8) ∧ x = nI j := by
  have h0 : ¬ x < 0 := by
    intro z
    rw [Int32.lt_iff_toInt_lt] at h1 z
    exact h1 (Int.lt_trans z (by decide))
  obtain ⟨j, hj, rfl⟩ := nI_of2 (M := 8) (n := 8) rfl h0 h2
  refine ⟨j, ⟨?_, hj⟩, rfl⟩
  rcases Nat.eq_zero_or_pos j with rfl | q
  · exact absurd (by decide) h1
  · exact q
set_option maxRecDepth 20000 in
theorem s_X11_type {xs : Nat → Int32} {L d : Nat} {h : ev_H} {f : Nat → Int32} {m : Nat} {p s k w cc lc sc wr el : Int32} {v : Int64} {x : Int32} (hm : m ≤ 300) (h2 : h 2 = c2 cc lc sc wr el) (h3 : h 3 = c3 (nI m) p s k w) (h4 : h 4 = c4 f) : EV xs L (d + 1) 0 0 M_X11_type 434 h 0 [some (.ref 2), some (.long v), none, some (.int x)] [] (fun sz' h' r => sz' = 434 ∧ ((¬ (¬ x < 1 ∧ x ≤ 8) ∧ h' = h ∧ r = [.int (-1)]) ∨ (∃ j : Nat, (1 ≤ j ∧ j ≤ 8) ∧ x = nI j ∧ ((m + j ≤ 300 ∧ h' 3 = c3 (nI (m + j)) p s k w ∧ h' 4 = c4 (apb v j m f) ∧ (∀ a, a ≠ 3 → a ≠ 4 → h' a = h a) ∧ r = [.int (nI (m + j))]) ∨ (300 < m + j ∧ h' = h ∧ r = [.int (-3)]))))) := by
  refine r_iload_n rfl dX11_type_0 rfl ?_
  refine r_iconst (v := 1) rfl dX11_type_1 (by decide) ?_
  refine r_icmp_lt (tgt := 11) rfl rfl dX11_type_2 (fun c51 => ?_) (fun c51 => ?_)
  · refine r_iconst (v := (-1)) rfl dX11_type_11 (by decide) ?_
    exact r_ret dX11_type_12 (rt_i rfl) ⟨rfl, Or.inl ⟨fun z => z.1 c51, rfl, rfl⟩⟩
  · refine r_iload_n rfl dX11_type_5 rfl ?_
    refine r_bipush (v := 8) rfl dX11_type_6 (by decide) ?_
    refine r_icmp_le (tgt := 13) rfl rfl dX11_type_8 (fun c52 => ?_) (fun c52 => ?_)
    · obtain ⟨j, hj, ej⟩ := one8 c51 c52
      subst ej
      refine r_aload_n rfl dX11_type_13 rfl ?_
      refine r_getv 0 rfl dX11_type_14 (show 2 ≤ 2 ∧ 2 < 434 by decide) h2 fl_X11_12 rfl ?_
      refine r_lload_n rfl dX11_type_17 rfl ?_
      refine r_iload_n rfl dX11_type_18 rfl ?_
      refine cl_X11_90 rfl rfl dX11_type_19 (show 2 ≤ 3 ∧ 3 < 434 by decide).1 (show 2 ≤ 3 ∧ 3 < 434 by decide).2 h3 (Nat.le_of_ble_eq_true rfl) (s_X8_append hj.2 hm h3 h4) ?_
      rintro _ h53 _ ⟨rfl, ⟨a54, a55, a56, a57, rfl⟩ | ⟨a58, a59, rfl⟩⟩
      · have p60 : h53 2 = .inr (11, [.ref 3, .ref 5, .ref 12, .ref 13, .ref 24, .ref 93, .ref 95, .ref 96, .ref 97, .ref 98, .ref 99, .int cc, .int lc, .int sc, .int wr, .int el]) := (a57 2 (by decide) (by decide)).trans h2
        refine r_if_eq (tgt := 35) rfl rfl dX11_type_22 (fun c => absurd c (by decide)) (fun _ => ?_)
        refine r_aload_n rfl dX11_type_25 rfl ?_
        refine r_getv 0 rfl dX11_type_26 (show 2 ≤ 2 ∧ 2 < 434 by decide) p60 fl_X11_12 rfl ?_
        refine cl_X11_94 rfl rfl dX11_type_29 (show 2 ≤ 3 ∧ 3 < 434 by decide).1 (show 2 ≤ 3 ∧ 3 < 434 by decide).2 a55 (Nat.le_of_ble_eq_true rfl) (s_X8_size a55) ?_
        rintro _ _ _ ⟨rfl, rfl, rfl⟩
        refine r_goto (pc' := 37) rfl dX11_type_32 ?_
        exact r_ret dX11_type_37 (rt_i rfl) ⟨rfl, Or.inr ⟨j, hj, rfl, Or.inl ⟨a54, a55, a56, a57, rfl⟩⟩⟩
      · replace a59 := a59.symm
        subst a59
        refine r_if_eq (tgt := 35) rfl rfl dX11_type_22 (fun _ => ?_) (fun c => absurd c (by decide))
        refine r_bipush (v := (-3)) rfl dX11_type_35 (by decide) ?_
        exact r_ret dX11_type_37 (rt_i rfl) ⟨rfl, Or.inr ⟨j, hj, rfl, Or.inr ⟨a58, rfl, rfl⟩⟩⟩
    · refine r_iconst (v := (-1)) rfl dX11_type_11 (by decide) ?_
      exact r_ret dX11_type_12 (rt_i rfl) ⟨rfl, Or.inl ⟨fun z => c52 z.2, rfl, rfl⟩⟩
