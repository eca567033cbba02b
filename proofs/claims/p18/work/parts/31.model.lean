theorem dX12_in_0 : decode cX12_in 0 = .ok (.iload_n 0, 1) := by decide +kernel
theorem dX12_in_1 : decode cX12_in 1 = .ok (.iload_n 1, 1) := by decide +kernel
theorem dX12_in_2 : decode cX12_in 2 = .ok (.if_icmp .lt 12, 3) := by decide +kernel
theorem dX12_in_5 : decode cX12_in 5 = .ok (.iload_n 0, 1) := by decide +kernel
theorem dX12_in_6 : decode cX12_in 6 = .ok (.iload_n 2, 1) := by decide +kernel
theorem dX12_in_7 : decode cX12_in 7 = .ok (.if_icmp .gt 7, 3) := by decide +kernel
theorem dX12_in_10 : decode cX12_in 10 = .ok (.iconst 1, 1) := by decide +kernel
theorem dX12_in_11 : decode cX12_in 11 = .ok (.goto 4, 3) := by decide +kernel
theorem dX12_in_14 : decode cX12_in 14 = .ok (.iconst 0, 1) := by decide +kernel
theorem dX12_in_15 : decode cX12_in 15 = .ok (.ireturn, 1) := by decide +kernel
theorem dX12_clear_0 : decode cX12_clear 0 = .ok (.aload_n 0, 1) := by decide +kernel
theorem dX12_clear_1 : decode cX12_clear 1 = .ok (.iconst 0, 1) := by decide +kernel
theorem dX12_clear_2 : decode cX12_clear 2 = .ok (.putfield 57, 3) := by decide +kernel
theorem dX12_clear_5 : decode cX12_clear 5 = .ok (.aload_n 0, 1) := by decide +kernel
theorem dX12_clear_6 : decode cX12_clear 6 = .ok (.getfield 64, 3) := by decide +kernel
theorem dX12_clear_9 : decode cX12_clear 9 = .ok (.istore_n 1, 1) := by decide +kernel
theorem dX12_clear_10 : decode cX12_clear 10 = .ok (.aload_n 0, 1) := by decide +kernel
theorem dX12_clear_11 : decode cX12_clear 11 = .ok (.iconst 0, 1) := by decide +kernel
theorem dX12_clear_12 : decode cX12_clear 12 = .ok (.putfield 64, 3) := by decide +kernel
theorem dX12_clear_15 : decode cX12_clear 15 = .ok (.iload_n 1, 1) := by decide +kernel
theorem dX12_clear_16 : decode cX12_clear 16 = .ok (.ireturn, 1) := by decide +kernel
abbrev c420 (th : Int32) (tr : Int64) (ty nx tk pl va fa cl md ss wg : Int32) : va_E := .inr (12, [.int th, .long tr, .ref 421, .int ty, .int nx, .int tk, .int pl, .int va, .int fa, .int cl, .int md, .int ss, .int wg, .ref 422, .ref 423, .ref 424, .ref 425, .ref 426, .ref 427, .ref 428, .ref 429, .ref 430, .ref 431, .ref 432, .ref 433])
abbrev c421 (g : Nat → Int32) : va_E := .inl (0, 300, .inl g)
def inR (a b c : Int32) : Int32 := if a < b then (0) else (if c < a then (0) else (1))
set_option maxRecDepth 20000 in
theorem s_X12_in {xs : Nat → Int32} {L d sz : Nat} {h : ev_H} {a b c : Int32}  : EV xs L (d + 0) 0 0 M_X12_in sz h 0 [some (.int a), some (.int b), some (.int c)] [] (fun sz' h' r => sz' = sz ∧ h' = h ∧ r = [.int (inR a b c)]) := by
  refine r_iload_n rfl dX12_in_0 rfl ?_
  refine r_iload_n rfl dX12_in_1 rfl ?_
  refine r_icmp_lt (tgt := 14) rfl rfl dX12_in_2 (fun c51 => ?_) (fun c51 => ?_)
  · refine r_iconst (v := 0) rfl dX12_in_14 (by decide) ?_
    exact r_ret dX12_in_15 (rt_z rfl (Or.inl rfl)) ⟨rfl, rfl, (by unfold inR; rw [if_pos c51] <;> rfl)⟩
  · refine r_iload_n rfl dX12_in_5 rfl ?_
    refine r_iload_n rfl dX12_in_6 rfl ?_
    refine r_icmp_gt (tgt := 14) rfl rfl dX12_in_7 (fun c52 => ?_) (fun c52 => ?_)
    · refine r_iconst (v := 0) rfl dX12_in_14 (by decide) ?_
      exact r_ret dX12_in_15 (rt_z rfl (Or.inl rfl)) ⟨rfl, rfl, (by unfold inR; rw [if_neg c51, if_pos c52] <;> rfl)⟩
    · refine r_iconst (v := 1) rfl dX12_in_10 (by decide) ?_
      refine r_goto (pc' := 15) rfl dX12_in_11 ?_
      exact r_ret dX12_in_15 (rt_z rfl (Or.inr rfl)) ⟨rfl, rfl, (by unfold inR; rw [if_neg c51, if_neg c52] <;> rfl)⟩
set_option maxRecDepth 20000 in
theorem s_X12_clear {xs : Nat → Int32} {L d : Nat} {h : ev_H} {th : Int32} {tr : Int64} {nx tk pl va fa cl md ss wg : Int32} {ty : Int32} (h5 : h 420 = c420 th tr ty nx tk pl va fa cl md ss wg) : EV xs L (d + 0) 0 0 M_X12_clear 434 h 0 [some (.ref 420), none] [] (fun sz' h' r => sz' = 434 ∧ h' = va_up h 420 (c420 0 tr 0 nx tk pl va fa cl md ss wg) ∧ r = [.int ty]) := by
  refine r_aload_n rfl dX12_clear_0 rfl ?_
  refine r_iconst (v := 0) rfl dX12_clear_1 (by decide) ?_
  refine r_putv 0 (fs' := [.int 0, .long tr, .ref 421, .int ty, .int nx, .int tk, .int pl, .int va, .int fa, .int cl, .int md, .int ss, .int wg, .ref 422, .ref 423, .ref 424, .ref 425, .ref 426, .ref 427, .ref 428, .ref 429, .ref 430, .ref 431, .ref 432, .ref 433]) rfl dX12_clear_2 (show 2 ≤ 420 ∧ 420 < 434 by decide) h5 (fp_X12_57 rfl _) (Nat.le_of_ble_eq_true rfl) rfl (fun h51 eh52 => ?_)
  have f53 : h51 420 = .inr (12, [.int 0, .long tr, .ref 421, .int ty, .int nx, .int tk, .int pl, .int va, .int fa, .int cl, .int md, .int ss, .int wg, .ref 422, .ref 423, .ref 424, .ref 425, .ref 426, .ref 427, .ref 428, .ref 429, .ref 430, .ref 431, .ref 432, .ref 433]) := by rw [eh52]; exact va_up_self _ _ _
  refine r_aload_n rfl dX12_clear_5 rfl ?_
  refine r_getv 3 rfl dX12_clear_6 (show 2 ≤ 420 ∧ 420 < 434 by decide) f53 fl_X12_64 rfl ?_
  refine r_istore_n (ls' := [some (.ref 420), some (.int ty)]) rfl dX12_clear_9 (Nat.le_of_ble_eq_true rfl) rfl ?_
  refine r_aload_n rfl dX12_clear_10 rfl ?_
  refine r_iconst (v := 0) rfl dX12_clear_11 (by decide) ?_
  refine r_putv 3 (fs' := [.int 0, .long tr, .ref 421, .int 0, .int nx, .int tk, .int pl, .int va, .int fa, .int cl, .int md, .int ss, .int wg, .ref 422, .ref 423, .ref 424, .ref 425, .ref 426, .ref 427, .ref 428, .ref 429, .ref 430, .ref 431, .ref 432, .ref 433]) rfl dX12_clear_12 (show 2 ≤ 420 ∧ 420 < 434 by decide) f53 (fp_X12_64 rfl _) (Nat.le_of_ble_eq_true rfl) rfl (fun h54 eh55 => ?_)
  have f56 : h54 420 = .inr (12, [.int 0, .long tr, .ref 421, .int 0, .int nx, .int tk, .int pl, .int va, .int fa, .int cl, .int md, .int ss, .int wg, .ref 422, .ref 423, .ref 424, .ref 425, .ref 426, .ref 427, .ref 428, .ref 429, .ref 430, .ref 431, .ref 432, .ref 433]) := by rw [eh55]; exact va_up_self _ _ _
  refine r_iload_n rfl dX12_clear_15 rfl ?_
  subst eh55
  subst eh52
  exact r_ret dX12_clear_16 (rt_i rfl) ⟨rfl, by simp only [va_up_up], rfl⟩
