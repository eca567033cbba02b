theorem dX12_type_0 : decode cX12_type 0 = .ok (.aload_n 0, 1) := by decide +kernel
theorem dX12_type_1 : decode cX12_type 1 = .ok (.iconst 0, 1) := by decide +kernel
theorem dX12_type_2 : decode cX12_type 2 = .ok (.putfield 57, 3) := by decide +kernel
theorem dX12_type_5 : decode cX12_type 5 = .ok (.iload_n 3, 1) := by decide +kernel
theorem dX12_type_6 : decode cX12_type 6 = .ok (.iconst 1, 1) := by decide +kernel
theorem dX12_type_7 : decode cX12_type 7 = .ok (.bipush 8, 2) := by decide +kernel
theorem dX12_type_9 : decode cX12_type 9 = .ok (.invokestatic 60, 3) := by decide +kernel
theorem dX12_type_12 : decode cX12_type 12 = .ok (.ifCond .ne 5, 3) := by decide +kernel
theorem dX12_type_15 : decode cX12_type 15 = .ok (.iconst (-1), 1) := by decide +kernel
theorem dX12_type_16 : decode cX12_type 16 = .ok (.ireturn, 1) := by decide +kernel
theorem dX12_type_17 : decode cX12_type 17 = .ok (.aload_n 0, 1) := by decide +kernel
theorem dX12_type_18 : decode cX12_type 18 = .ok (.getfield 64, 3) := by decide +kernel
theorem dX12_type_21 : decode cX12_type 21 = .ok (.iload_n 3, 1) := by decide +kernel
theorem dX12_type_22 : decode cX12_type 22 = .ok (.iadd, 1) := by decide +kernel
theorem dX12_type_23 : decode cX12_type 23 = .ok (.sipush 300, 3) := by decide +kernel
theorem dX12_type_26 : decode cX12_type 26 = .ok (.if_icmp .le 6, 3) := by decide +kernel
theorem dX12_type_29 : decode cX12_type 29 = .ok (.bipush (-3), 2) := by decide +kernel
theorem dX12_type_31 : decode cX12_type 31 = .ok (.ireturn, 1) := by decide +kernel
theorem dX12_type_32 : decode cX12_type 32 = .ok (.iload_n 3, 1) := by decide +kernel
theorem dX12_type_33 : decode cX12_type 33 = .ok (.iconst 1, 1) := by decide +kernel
theorem dX12_type_34 : decode cX12_type 34 = .ok (.isub, 1) := by decide +kernel
theorem dX12_type_35 : decode cX12_type 35 = .ok (.istore 4, 2) := by decide +kernel
theorem dX12_type_37 : decode cX12_type 37 = .ok (.iload 4, 2) := by decide +kernel
theorem dX12_type_39 : decode cX12_type 39 = .ok (.ifCond .lt 40, 3) := by decide +kernel
theorem dX12_type_42 : decode cX12_type 42 = .ok (.aload_n 0, 1) := by decide +kernel
theorem dX12_type_43 : decode cX12_type 43 = .ok (.getfield 7, 3) := by decide +kernel
theorem dX12_type_46 : decode cX12_type 46 = .ok (.aload_n 0, 1) := by decide +kernel
theorem dX12_type_47 : decode cX12_type 47 = .ok (.getfield 64, 3) := by decide +kernel
theorem dX12_type_50 : decode cX12_type 50 = .ok (.lload_n 1, 1) := by decide +kernel
theorem dX12_type_51 : decode cX12_type 51 = .ok (.bipush 8, 2) := by decide +kernel
theorem dX12_type_53 : decode cX12_type 53 = .ok (.iload 4, 2) := by decide +kernel
theorem dX12_type_55 : decode cX12_type 55 = .ok (.imul, 1) := by decide +kernel
theorem dX12_type_56 : decode cX12_type 56 = .ok (.lshr, 1) := by decide +kernel
theorem dX12_type_57 : decode cX12_type 57 = .ok (.ldc2_w 67, 3) := by decide +kernel
theorem dX12_type_60 : decode cX12_type 60 = .ok (.land, 1) := by decide +kernel
theorem dX12_type_61 : decode cX12_type 61 = .ok (.l2i, 1) := by decide +kernel
theorem dX12_type_62 : decode cX12_type 62 = .ok (.iastore, 1) := by decide +kernel
theorem dX12_type_63 : decode cX12_type 63 = .ok (.aload_n 0, 1) := by decide +kernel
theorem dX12_type_64 : decode cX12_type 64 = .ok (.dup, 1) := by decide +kernel
theorem dX12_type_65 : decode cX12_type 65 = .ok (.getfield 64, 3) := by decide +kernel
theorem dX12_type_68 : decode cX12_type 68 = .ok (.iconst 1, 1) := by decide +kernel
theorem dX12_type_69 : decode cX12_type 69 = .ok (.iadd, 1) := by decide +kernel
theorem dX12_type_70 : decode cX12_type 70 = .ok (.putfield 64, 3) := by decide +kernel
theorem dX12_type_73 : decode cX12_type 73 = .ok (.iinc 4 (-1), 3) := by decide +kernel
theorem dX12_type_76 : decode cX12_type 76 = .ok (.goto (-39), 3) := by decide +kernel
theorem dX12_type_79 : decode cX12_type 79 = .ok (.aload_n 0, 1) := by decide +kernel
theorem dX12_type_80 : decode cX12_type 80 = .ok (.getfield 64, 3) := by decide +kernel
theorem dX12_type_83 : decode cX12_type 83 = .ok (.ireturn, 1) := by decide +kernel
def mpE (v : Int64) (k : Int32) : Int32 := (((v >>> ((8 * k : Int32).toInt64 &&& 63)) &&& 255 : Int64)).toInt32
/-- j bytes of v come behind the first m, in the reference -/
def mpb (v : Int64) : Nat → Nat → (Nat → Int32) → (Nat → Int32)
  | 0, _, g => g
  | j + 1, m, g => mpb v j (m + 1) (upd g m (mpE v (nI j)))
set_option maxRecDepth 20000 in
theorem s_X12_type_loop {xs : Nat → Int32} {L d : Nat} {v : Int64} {nn : Int32} {th : Int32} {tr : Int64} {nx tk pl va fa cl md ss wg : Int32} : ∀ (j m : Nat) (kx : Int32), kx = nI j - 1 → m + j ≤ 300 → ∀ (g : Nat → Int32) (h : ev_H) (h5 : h 420 = c420 th tr (nI m) nx tk pl va fa cl md ss wg) (h6 : h 421 = c421 g), EV xs L (d + 0) 0 0 M_X12_type 434 h 37 [some (.ref 420), some (.long v), none, some (.int nn), some (.int kx)] [] (fun sz' h' r => sz' = 434 ∧ h' 420 = c420 th tr (nI (m + j)) nx tk pl va fa cl md ss wg ∧ h' 421 = c421 (mpb v j m g) ∧ (∀ a, a ≠ 420 → a ≠ 421 → h' a = h a) ∧ r = [.int (nI (m + j))]) := by
  intro j
  induction j with
  | zero =>
    intro m kx hk hm g h h5 h6
    obtain rfl : kx = -1 := by rw [hk]; decide
    refine r_iload rfl dX12_type_37 rfl ?_
    refine r_if_lt (tgt := 79) rfl rfl dX12_type_39 (fun _ => ?_) (fun c => absurd c (by decide))
    refine r_aload_n rfl dX12_type_79 rfl ?_
    refine r_getv 3 rfl dX12_type_80 (show 2 ≤ 420 ∧ 420 < 434 by decide) h5 fl_X12_64 rfl ?_
    exact r_ret dX12_type_83 (rt_i rfl) ⟨rfl, h5, h6, fun _ _ _ => rfl, rfl⟩
  | succ j ih =>
    intro m kx hk hm g h h5 h6
    obtain rfl : kx = nI j := by rw [hk]; exact nI_pred j
    refine r_iload rfl dX12_type_37 rfl ?_
    refine r_if_lt (tgt := 79) rfl rfl dX12_type_39 (fun c => absurd c (nI_pos (by omega))) (fun _ => ?_)
    refine r_aload_n rfl dX12_type_42 rfl ?_
    refine r_getv 2 rfl dX12_type_43 (show 2 ≤ 420 ∧ 420 < 434 by decide) h5 fl_X12_7 rfl ?_
    refine r_aload_n rfl dX12_type_46 rfl ?_
    refine r_getv 3 rfl dX12_type_47 (show 2 ≤ 420 ∧ 420 < 434 by decide) h5 fl_X12_64 rfl ?_
    refine r_lload_n rfl dX12_type_50 rfl ?_
    refine r_bipush (v := 8) rfl dX12_type_51 (by decide) ?_
    refine r_iload rfl dX12_type_53 rfl ?_
    refine r_imul rfl dX12_type_55 ?_
    refine r_lshr rfl dX12_type_56 ?_
    refine r_ldc2 (v := 255) rfl dX12_type_57 lc_X12_67 ?_
    refine r_land rfl dX12_type_60 ?_
    refine r_l2i rfl dX12_type_61 ?_
    refine r_topi (fun x301 e302 => ?_)
    refine r_iastv (jn := m) (f' := upd g m x301) rfl dX12_type_62 (show 2 ≤ 421 ∧ 421 < 434 by decide) h6 (vp_in_nI (by omega) (by decide)) (nI_clamp (by omega)) rfl (fun h303 eh304 => ?_)
    have f305 : h303 421 = .inl (0, 300, .inl (upd g m x301)) := by rw [eh304]; exact va_up_self _ _ _
    have f306 : h303 420 = .inr (12, [.int th, .long tr, .ref 421, .int (nI m), .int nx, .int tk, .int pl, .int va, .int fa, .int cl, .int md, .int ss, .int wg, .ref 422, .ref 423, .ref 424, .ref 425, .ref 426, .ref 427, .ref 428, .ref 429, .ref 430, .ref 431, .ref 432, .ref 433]) := by rw [eh304, va_up_ne _ _ (fun q => by rw [q, h6] at h5; cases h5)]; exact h5
    refine r_aload_n rfl dX12_type_63 rfl ?_
    refine r_dup rfl dX12_type_64 rfl ?_
    refine r_getv 3 rfl dX12_type_65 (show 2 ≤ 420 ∧ 420 < 434 by decide) f306 fl_X12_64 rfl ?_
    refine r_iconst (v := 1) rfl dX12_type_68 (by decide) ?_
    refine r_iadd rfl dX12_type_69 ?_
    refine r_eqi (y := nI (m + 1)) (nI_1 m) ?_
    refine r_putv 3 (fs' := [.int th, .long tr, .ref 421, .int (nI (m + 1)), .int nx, .int tk, .int pl, .int va, .int fa, .int cl, .int md, .int ss, .int wg, .ref 422, .ref 423, .ref 424, .ref 425, .ref 426, .ref 427, .ref 428, .ref 429, .ref 430, .ref 431, .ref 432, .ref 433]) rfl dX12_type_70 (show 2 ≤ 420 ∧ 420 < 434 by decide) f306 (fp_X12_64 rfl _) (Nat.le_of_ble_eq_true rfl) rfl (fun h307 eh308 => ?_)
    have f309 : h307 420 = .inr (12, [.int th, .long tr, .ref 421, .int (nI (m + 1)), .int nx, .int tk, .int pl, .int va, .int fa, .int cl, .int md, .int ss, .int wg, .ref 422, .ref 423, .ref 424, .ref 425, .ref 426, .ref 427, .ref 428, .ref 429, .ref 430, .ref 431, .ref 432, .ref 433]) := by rw [eh308]; exact va_up_self _ _ _
    have f310 : h307 421 = .inl (0, 300, .inl (upd g m x301)) := by rw [eh308, va_up_ne _ _ (fun q => by rw [q, f306] at f305; cases f305)]; exact f305
    obtain ⟨x311, e312⟩ : ∃ z : Int32, z = (nI j) + Int32.ofInt (-1) := ⟨_, rfl⟩
    refine r_iinc (y := x311) (ls' := [some (.ref 420), some (.long v), none, some (.int nn), some (.int x311)]) rfl dX12_type_73 rfl e312.symm (Nat.le_of_ble_eq_true rfl) rfl ?_
    refine r_goto (pc' := 37) rfl dX12_type_76 ?_
    refine EV.post ?_ (ih (m + 1) x311 (by rw [e312, Int32.sub_eq_add_neg]; rfl) (by omega) _ h307 f309 f310)
    rintro _ h' _ ⟨rfl, a1, a2, a3, rfl⟩
    subst e302
    exact ⟨rfl, by rw [show m + (j + 1) = m + 1 + j by omega]; exact a1, a2, fun a z1 z2 => (a3 a z1 z2).trans (by rw [eh308, va_up_ne _ _ z1, eh304, va_up_ne _ _ z2]), by rw [show m + (j + 1) = m + 1 + j by omega]⟩
theorem inR8 {x : Int32} : inR x 1 8 = 0 ↔ ¬ (¬ x < 1 ∧ x ≤ 8) := by
  unfold inR
  split
  · rename_i h
    simp [h]
  · rename_i h
    split
    · rename_i h2
      constructor
      · intro _ z
        exact absurd h2 (Int32.not_lt.mpr z.2)
      · intro _; rfl
    · rename_i h2
      constructor
      · intro z; cases z
      · intro z
        exact absurd ⟨h, Int32.not_lt.mp h2⟩ z
theorem le300b {j m : Nat} (hj : j ≤ 8) (hm : m ≤ 300) : nI m + nI j ≤ 300 ↔ m + j ≤ 300 := by
  rw [nI_add, show (300 : Int32) = nI 300 from rfl, nI_leI (by omega) (by decide)]
set_option maxRecDepth 20000 in
theorem s_X12_type {xs : Nat → Int32} {L d : Nat} {h : ev_H} {th : Int32} {tr : Int64} {nx tk pl va fa cl md ss wg : Int32} {g : Nat → Int32} {m : Nat} {v : Int64} {x : Int32} (hm : m ≤ 300) (h5 : h 420 = c420 th tr (nI m) nx tk pl va fa cl md ss wg) (h6 : h 421 = c421 g) : EV xs L (d + 1) 0 0 M_X12_type 434 h 0 [some (.ref 420), some (.long v), none, some (.int x), none] [] (fun sz' h' r => sz' = 434 ∧ ((¬ (¬ x < 1 ∧ x ≤ 8) ∧ h' = va_up h 420 (c420 0 tr (nI m) nx tk pl va fa cl md ss wg) ∧ r = [.int (-1)]) ∨ (∃ j : Nat, (1 ≤ j ∧ j ≤ 8) ∧ x = nI j ∧ ((m + j ≤ 300 ∧ h' 420 = c420 0 tr (nI (m + j)) nx tk pl va fa cl md ss wg ∧ h' 421 = c421 (mpb v j m g) ∧ (∀ a, a ≠ 420 → a ≠ 421 → h' a = h a) ∧ r = [.int (nI (m + j))]) ∨ (300 < m + j ∧ h' = va_up h 420 (c420 0 tr (nI m) nx tk pl va fa cl md ss wg) ∧ r = [.int (-3)]))))) := by
  refine r_aload_n rfl dX12_type_0 rfl ?_
  refine r_iconst (v := 0) rfl dX12_type_1 (by decide) ?_
  refine r_putv 0 (fs' := [.int 0, .long tr, .ref 421, .int (nI m), .int nx, .int tk, .int pl, .int va, .int fa, .int cl, .int md, .int ss, .int wg, .ref 422, .ref 423, .ref 424, .ref 425, .ref 426, .ref 427, .ref 428, .ref 429, .ref 430, .ref 431, .ref 432, .ref 433]) rfl dX12_type_2 (show 2 ≤ 420 ∧ 420 < 434 by decide) h5 (fp_X12_57 rfl _) (Nat.le_of_ble_eq_true rfl) rfl (fun h51 eh52 => ?_)
  have f53 : h51 420 = .inr (12, [.int 0, .long tr, .ref 421, .int (nI m), .int nx, .int tk, .int pl, .int va, .int fa, .int cl, .int md, .int ss, .int wg, .ref 422, .ref 423, .ref 424, .ref 425, .ref 426, .ref 427, .ref 428, .ref 429, .ref 430, .ref 431, .ref 432, .ref 433]) := by rw [eh52]; exact va_up_self _ _ _
  have f54 : h51 421 = .inl (0, 300, .inl g) := by rw [eh52, va_up_ne _ _ (fun q => by rw [q, h5] at h6; cases h6)]; exact h6
  refine r_iload_n rfl dX12_type_5 rfl ?_
  refine r_iconst (v := 1) rfl dX12_type_6 (by decide) ?_
  refine r_bipush (v := 8) rfl dX12_type_7 (by decide) ?_
  refine cl_X12_60 rfl rfl dX12_type_9 (Nat.le_of_ble_eq_true rfl) s_X12_in ?_
  rintro _ h55 _ ⟨rfl, e56, rfl⟩
  replace e56 := e56.symm
  subst e56
  refine r_if_ne (tgt := 17) rfl rfl dX12_type_12 (fun c57 => ?_) (fun c57 => ?_)
  · obtain ⟨hx1, hx2⟩ := Classical.not_not.mp (fun z => c57 (inR8.mpr z))
    obtain ⟨j, hj, ej⟩ := one8 hx1 hx2
    subst ej
    refine r_aload_n rfl dX12_type_17 rfl ?_
    refine r_getv 3 rfl dX12_type_18 (show 2 ≤ 420 ∧ 420 < 434 by decide) f53 fl_X12_64 rfl ?_
    refine r_iload_n rfl dX12_type_21 rfl ?_
    refine r_iadd rfl dX12_type_22 ?_
    refine r_sipush (v := 300) rfl dX12_type_23 (by decide) ?_
    refine r_icmp_le (tgt := 32) rfl rfl dX12_type_26 (fun c58 => ?_) (fun c58 => ?_)
    · refine r_iload_n rfl dX12_type_32 rfl ?_
      refine r_iconst (v := 1) rfl dX12_type_33 (by decide) ?_
      refine r_isub rfl dX12_type_34 ?_
      refine r_topi (fun x59 e60 => ?_)
      refine r_istore (ls' := [some (.ref 420), some (.long v), none, some (.int (nI j)), some (.int x59)]) rfl dX12_type_35 (Nat.le_of_ble_eq_true rfl) rfl ?_
      refine EV.post ?_ (s_X12_type_loop j m x59 e60 ((le300b hj.2 hm).mp c58) g h51 f53 f54)
      rintro _ h' _ ⟨rfl, a1, a2, a3, rfl⟩
      exact ⟨rfl, Or.inr ⟨j, hj, rfl, Or.inl ⟨(le300b hj.2 hm).mp c58, a1, a2, fun a z1 z2 => (a3 a z1 z2).trans (by rw [eh52, va_up_ne _ _ z1]), rfl⟩⟩⟩
    · refine r_bipush (v := (-3)) rfl dX12_type_29 (by decide) ?_
      exact r_ret dX12_type_31 (rt_i rfl) ⟨rfl, Or.inr ⟨j, hj, rfl, Or.inr ⟨Nat.not_le.mp (fun z => c58 ((le300b hj.2 hm).mpr z)), eh52, rfl⟩⟩⟩
  · refine r_iconst (v := (-1)) rfl dX12_type_15 (by decide) ?_
    exact r_ret dX12_type_16 (rt_i rfl) ⟨rfl, Or.inl ⟨inR8.mp c57, eh52, rfl⟩⟩
