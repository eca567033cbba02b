/-- LETTERS of a set, as the reference counts them -/
def onM (x : Int32) : Nat → Int32
  | 0 => 0
  | k + 1 => onM x k + ((x >>> (nI k &&& 31)) &&& 1)
theorem on8 : ∀ a : Fin 256, onM (nI a.1) 16 = nI (pc8 a.1) := by decide +kernel
/-- worlds of a set, as the reference counts them -/
def mnN (A : Nat → Int64) : Nat → Nat
  | 0 => 0
  | k + 1 => mnN A k + (if tb (A (k / 64)) (k % 64) = true then 1 else 0)
theorem mnN_w (A : Nat → Int64) (q : Nat) : ∀ k, k ≤ 64 → mnN A (64 * q + k) = mnN A (64 * q) + bT (A q) k
  | 0, _ => by rw [bT]; rfl
  | k + 1, h => by
    rw [show 64 * q + (k + 1) = (64 * q + k) + 1 by omega, mnN, mnN_w A q k (by omega), show (64 * q + k) / 64 = q by omega, show (64 * q + k) % 64 = k by omega, bT]
    omega
theorem mnN_256 (A : Nat → Int64) : mnN A 256 = bT (A 0) 64 + bT (A 1) 64 + bT (A 2) 64 + bT (A 3) 64 := by
  have h0 := mnN_w A 0 64 (by omega)
  have h1 := mnN_w A 1 64 (by omega)
  have h2 := mnN_w A 2 64 (by omega)
  have h3 := mnN_w A 3 64 (by omega)
  rw [show 64 * 0 + 64 = 64 * 1 from rfl, show 64 * 0 = 0 from rfl, mnN] at h0
  rw [show 64 * 1 + 64 = 64 * 2 from rfl] at h1
  rw [show 64 * 2 + 64 = 64 * 3 from rfl] at h2
  rw [show 64 * 3 + 64 = 256 from rfl] at h3
  omega
theorem wsz_mn (V : Nat → Int64) : wsz (V 0) (V 1) (V 2) (V 3) = nI (mnN V 256) := by
  unfold wsz
  rw [bc64_bT, bc64_bT, bc64_bT, bc64_bT, mnN_256, show (0 : Int32) = nI 0 from rfl, nI_add, nI_add, nI_add, nI_add, Nat.zero_add]
set_option maxRecDepth 20000 in
set_option maxHeartbeats 1000000 in
theorem z_on_z {xs : Nat → Int32} {L d : Nat} {h : ev_H} {x : Int32} {k : Nat} (hS : SH h) (hk : k = 16) : EV xs L (d + 0) 0 0 M_X12_ones 434 h 4 [some (.int x), some (.int (onM x (k))), some (.int (nI k))] [] (fun sz' h' r => sz' = 434 ∧ h' = h ∧ r = [.int (onM x 16)]) := by
  refine r_iload_n rfl dX12_ones_4 rfl ?_
  refine r_bipush (v := 16) rfl dX12_ones_5 (by decide) ?_
  refine r_icmp_ge (tgt := 24) rfl rfl dX12_ones_7 (fun _ => ?_) (fun zc => absurd (show nI 16 ≤ nI k from nI_le (a := 16) (b := k) (by omega) (by omega)) zc)
  refine r_iload_n rfl dX12_ones_24 rfl ?_
  subst hk
  exact r_ret dX12_ones_25 (rt_i rfl) ⟨rfl, rfl, rfl⟩
set_option maxRecDepth 20000 in
set_option maxHeartbeats 1000000 in
theorem z_on_s {xs : Nat → Int32} {L d : Nat} {h : ev_H} {x : Int32} {k : Nat} (hS : SH h) (hk : k < 16) (ih : EV xs L (d + 0) 0 0 M_X12_ones 434 h 4 [some (.int x), some (.int (onM x (k + 1))), some (.int (nI (k + 1)))] [] (fun sz' h' r => sz' = 434 ∧ h' = h ∧ r = [.int (onM x 16)])) : EV xs L (d + 0) 0 0 M_X12_ones 434 h 4 [some (.int x), some (.int (onM x (k))), some (.int (nI k))] [] (fun sz' h' r => sz' = 434 ∧ h' = h ∧ r = [.int (onM x 16)]) := by
  refine r_iload_n rfl dX12_ones_4 rfl ?_
  refine r_bipush (v := 16) rfl dX12_ones_5 (by decide) ?_
  refine r_icmp_ge (tgt := 24) rfl rfl dX12_ones_7 (fun zc => absurd zc (show ¬ nI 16 ≤ nI k from nI_ge (a := k) (b := 16) (by omega) (by omega))) (fun _ => ?_)
  refine r_iload_n rfl dX12_ones_10 rfl ?_
  refine r_iload_n rfl dX12_ones_11 rfl ?_
  refine r_iload_n rfl dX12_ones_12 rfl ?_
  refine r_ishr rfl dX12_ones_13 ?_
  refine r_iconst (v := 1) rfl dX12_ones_14 (by decide) ?_
  refine r_iand rfl dX12_ones_15 ?_
  refine r_iadd rfl dX12_ones_16 ?_
  refine r_topi (fun x51 e52 => ?_)
  refine r_istore_n (ls' := [some (.int x), some (.int x51), some (.int (nI k))]) rfl dX12_ones_17 (Nat.le_of_ble_eq_true rfl) rfl ?_
  refine r_iinc (y := nI (k + 1)) (ls' := [some (.int x), some (.int x51), some (.int (nI (k + 1)))]) rfl dX12_ones_18 rfl (nI_1 k) (Nat.le_of_ble_eq_true rfl) rfl ?_
  refine r_goto (pc' := 4) rfl dX12_ones_21 ?_
  subst e52
  exact ih
theorem z_on {xs : Nat → Int32} {L d : Nat} {h : ev_H} {x : Int32} (hS : SH h) : ∀ (n k : Nat), k + n = 16 → EV xs L (d + 0) 0 0 M_X12_ones 434 h 4 [some (.int x), some (.int (onM x k)), some (.int (nI k))] [] (fun sz' h' r => sz' = 434 ∧ h' = h ∧ r = [.int (onM x 16)]) := by
  intro n
  induction n with
  | zero => intro k hk; exact z_on_z hS (by omega)
  | succ n ih => intro k hk; exact z_on_s hS (by omega) (ih (k + 1) (by omega))
set_option maxRecDepth 20000 in
set_option maxHeartbeats 1000000 in
theorem z_X12_ones {xs : Nat → Int32} {L d : Nat} {h : ev_H} {x : Int32} (hS : SH h)  : EV xs L (d + 0) 0 0 M_X12_ones 434 h 0 [some (.int x), none, none] [] (fun sz' h' r => sz' = 434 ∧ h' = h ∧ r = [.int (onM x 16)]) := by
  refine r_iconst (v := 0) rfl dX12_ones_0 (by decide) ?_
  refine r_istore_n (ls' := [some (.int x), some (.int 0), none]) rfl dX12_ones_1 (Nat.le_of_ble_eq_true rfl) rfl ?_
  refine r_iconst (v := 0) rfl dX12_ones_2 (by decide) ?_
  refine r_istore_n (ls' := [some (.int x), some (.int 0), some (.int 0)]) rfl dX12_ones_3 (Nat.le_of_ble_eq_true rfl) rfl ?_
  exact z_on hS 16 0 rfl
set_option maxRecDepth 20000 in
set_option maxHeartbeats 1000000 in
theorem z_mn_z {xs : Nat → Int32} {L d : Nat} {h : ev_H} {a k : Nat} {A : Nat → Int64} (hS : SH h) (hb : 2 ≤ a ∧ a < 434) (ha : h a = cL 4 A) (hk : k = 256) : EV xs L (d + 1) 0 0 M_X12_many 434 h 4 [some (.ref a), some (.int (nI (mnN A (k)))), some (.int (nI k))] [] (fun sz' h' r => sz' = 434 ∧ h' = h ∧ r = [.int (nI (mnN A 256))]) := by
  refine r_iload_n rfl dX12_many_4 rfl ?_
  refine r_sipush (v := 256) rfl dX12_many_5 (by decide) ?_
  refine r_icmp_ge (tgt := 34) rfl rfl dX12_many_8 (fun _ => ?_) (fun zc => absurd (show nI 256 ≤ nI k from nI_le (a := 256) (b := k) (by omega) (by omega)) zc)
  refine r_iload_n rfl dX12_many_34 rfl ?_
  subst hk
  exact r_ret dX12_many_35 (rt_i rfl) ⟨rfl, rfl, rfl⟩
theorem hsM_t {x : Int64} {w : Nat} (h : ¬ hsM x w = 0) : tb x (w % 64) = true := Decidable.byContradiction (fun z => h (if_neg z))
theorem hsM_f {x : Int64} {w : Nat} (h : hsM x w = 0) : ¬ tb x (w % 64) = true := fun z => by rw [hsM, if_pos z] at h; exact absurd h (by decide)
set_option maxRecDepth 20000 in
set_option maxHeartbeats 1000000 in
theorem z_mn_s {xs : Nat → Int32} {L d : Nat} {h : ev_H} {a k : Nat} {A : Nat → Int64} (hS : SH h) (hb : 2 ≤ a ∧ a < 434) (ha : h a = cL 4 A) (hk : k < 256) (ih : EV xs L (d + 1) 0 0 M_X12_many 434 h 4 [some (.ref a), some (.int (nI (mnN A (k + 1)))), some (.int (nI (k + 1)))] [] (fun sz' h' r => sz' = 434 ∧ h' = h ∧ r = [.int (nI (mnN A 256))])) : EV xs L (d + 1) 0 0 M_X12_many 434 h 4 [some (.ref a), some (.int (nI (mnN A (k)))), some (.int (nI k))] [] (fun sz' h' r => sz' = 434 ∧ h' = h ∧ r = [.int (nI (mnN A 256))]) := by
  refine r_iload_n rfl dX12_many_4 rfl ?_
  refine r_sipush (v := 256) rfl dX12_many_5 (by decide) ?_
  refine r_icmp_ge (tgt := 34) rfl rfl dX12_many_8 (fun zc => absurd zc (show ¬ nI 256 ≤ nI k from nI_ge (a := k) (b := 256) (by omega) (by omega))) (fun _ => ?_)
  refine r_iload_n rfl dX12_many_11 rfl ?_
  refine r_aload_n rfl dX12_many_12 rfl ?_
  refine r_iconst (v := 0) rfl dX12_many_13 (by decide) ?_
  refine r_iload_n rfl dX12_many_14 rfl ?_
  refine cl_X12_143 rfl rfl dX12_many_15 (Nat.le_of_ble_eq_true rfl) (z_X12_has (q := 0) (w := k) hS hb ha (by decide) (by omega) (by omega)) ?_
  rintro _ h51 _ ⟨rfl, e52, rfl⟩
  replace e52 := e52.symm
  subst e52
  refine r_if_eq (tgt := 25) rfl rfl dX12_many_18 (fun c53 => ?_) (fun c53 => ?_)
  · refine r_iconst (v := 0) rfl dX12_many_25 (by decide) ?_
    refine r_iadd rfl dX12_many_26 ?_
    refine r_eqi (y := nI ((mnN A (k)) + 0)) (show (nI (mnN A (k))) + 0 = nI ((mnN A (k)) + 0) from nI_add (mnN A (k)) 0) ?_
    refine r_istore_n (ls' := [some (.ref a), some (.int (nI ((mnN A (k)) + 0))), some (.int (nI k))]) rfl dX12_many_27 (Nat.le_of_ble_eq_true rfl) rfl ?_
    refine r_iinc (y := nI (k + 1)) (ls' := [some (.ref a), some (.int (nI ((mnN A (k)) + 0))), some (.int (nI (k + 1)))]) rfl dX12_many_28 rfl (nI_1 k) (Nat.le_of_ble_eq_true rfl) rfl ?_
    refine r_goto (pc' := 4) rfl dX12_many_31 ?_
    rw [mnN, if_neg (hsM_f (by rw [show k / 64 = 0 + k / 64 by omega]; exact c53))] at ih
    exact ih
  · refine r_iconst (v := 1) rfl dX12_many_21 (by decide) ?_
    refine r_goto (pc' := 26) rfl dX12_many_22 ?_
    refine r_iadd rfl dX12_many_26 ?_
    refine r_eqi (y := nI ((mnN A (k)) + 1)) (show (nI (mnN A (k))) + 1 = nI ((mnN A (k)) + 1) from nI_add (mnN A (k)) 1) ?_
    refine r_istore_n (ls' := [some (.ref a), some (.int (nI ((mnN A (k)) + 1))), some (.int (nI k))]) rfl dX12_many_27 (Nat.le_of_ble_eq_true rfl) rfl ?_
    refine r_iinc (y := nI (k + 1)) (ls' := [some (.ref a), some (.int (nI ((mnN A (k)) + 1))), some (.int (nI (k + 1)))]) rfl dX12_many_28 rfl (nI_1 k) (Nat.le_of_ble_eq_true rfl) rfl ?_
    refine r_goto (pc' := 4) rfl dX12_many_31 ?_
    rw [mnN, if_pos (hsM_t (by rw [show k / 64 = 0 + k / 64 by omega]; exact c53))] at ih
    exact ih
theorem z_mn {xs : Nat → Int32} {L d : Nat} {h : ev_H} {a : Nat} {A : Nat → Int64} (hS : SH h) (hb : 2 ≤ a ∧ a < 434) (ha : h a = cL 4 A) : ∀ (n k : Nat), k + n = 256 → EV xs L (d + 1) 0 0 M_X12_many 434 h 4 [some (.ref a), some (.int (nI (mnN A k))), some (.int (nI k))] [] (fun sz' h' r => sz' = 434 ∧ h' = h ∧ r = [.int (nI (mnN A 256))]) := by
  intro n
  induction n with
  | zero => intro k hk; exact z_mn_z hS hb ha (by omega)
  | succ n ih => intro k hk; exact z_mn_s hS hb ha (by omega) (ih (k + 1) (by omega))
set_option maxRecDepth 20000 in
set_option maxHeartbeats 1000000 in
theorem z_X12_many {xs : Nat → Int32} {L d : Nat} {h : ev_H} {a : Nat} {A : Nat → Int64} (hS : SH h) (hb : 2 ≤ a ∧ a < 434) (ha : h a = cL 4 A) : EV xs L (d + 1) 0 0 M_X12_many 434 h 0 [some (.ref a), none, none] [] (fun sz' h' r => sz' = 434 ∧ h' = h ∧ r = [.int (nI (mnN A 256))]) := by
  refine r_iconst (v := 0) rfl dX12_many_0 (by decide) ?_
  refine r_istore_n (ls' := [some (.ref a), some (.int 0), none]) rfl dX12_many_1 (Nat.le_of_ble_eq_true rfl) rfl ?_
  refine r_iconst (v := 0) rfl dX12_many_2 (by decide) ?_
  refine r_istore_n (ls' := [some (.ref a), some (.int 0), some (.int 0)]) rfl dX12_many_3 (Nat.le_of_ble_eq_true rfl) rfl ?_
  exact z_mn hS hb ha 256 0 rfl
