set_option maxRecDepth 20000 in
set_option maxHeartbeats 1000000 in
theorem z_labo {xs : Nat → Int32} {L d : Nat} {h : ev_H} {th : Int32} {tr : Int64} {ty nx tk pl va fa ss wg : Int32} {c m : Nat} {x y : Int32} (hS : SH h) (h5 : h 420 = .inr (12, [.int th, .long tr, .ref 421, .int ty, .int nx, .int tk, .int pl, .int va, .int fa, .int (nI c), .int (nI m), .int ss, .int wg, .ref 422, .ref 423, .ref 424, .ref 425, .ref 426, .ref 427, .ref 428, .ref 429, .ref 430, .ref 431, .ref 432, .ref 433])) (hc : c ≤ 16) (hm : m ≤ 24) (hx : inR x 0 3 = 0) : EV xs L (d + 2) 0 0 M_X12_labour 434 h 0 [some (.ref 420), some (.int x), some (.int y), none, none] [] (fun sz' h' r => sz' = 434 ∧ SH h' ∧ KM [420] h h' ∧ r = [.int (-1)] ∧ h' 420 = c420 0 tr ty nx tk pl va fa (nI c) (nI m) ss wg) := by
  refine r_aload_n rfl dX12_labour_0 rfl ?_
  refine r_iconst (v := 0) rfl dX12_labour_1 (by decide) ?_
  refine e_put 0 (fs' := [.int 0, .long tr, .ref 421, .int ty, .int nx, .int tk, .int pl, .int va, .int fa, .int (nI c), .int (nI m), .int ss, .int wg, .ref 422, .ref 423, .ref 424, .ref 425, .ref 426, .ref 427, .ref 428, .ref 429, .ref 430, .ref 431, .ref 432, .ref 433]) rfl dX12_labour_2 (show 2 ≤ 420 ∧ 420 < 434 by decide) hS (KM_rf (Mod := [420]) h) (by decide) h5 (fp_X12_57 rfl _) (Nat.le_of_ble_eq_true rfl) rfl (fun h51 hS52 hF53 hN54 f55 => ?_)
  refine r_iload_n rfl dX12_labour_5 rfl ?_
  refine r_iconst (v := 0) rfl dX12_labour_6 (by decide) ?_
  refine r_iconst (v := 3) rfl dX12_labour_7 (by decide) ?_
  refine cl_X12_60 rfl rfl dX12_labour_8 (Nat.le_of_ble_eq_true rfl) s_X12_in ?_
  rintro _ h56 _ ⟨rfl, e57, rfl⟩
  replace e57 := e57.symm
  subst e57
  refine r_if_eq (tgt := 22) rfl rfl dX12_labour_11 (fun _ => ?_) (fun zc => absurd hx zc)
  refine r_iconst (v := (-1)) rfl dX12_labour_22 (by decide) ?_
  exact r_ret dX12_labour_23 (rt_i rfl) ⟨rfl, hS52, hF53, rfl, f55⟩
theorem z_X12_labour {xs : Nat → Int32} {L d : Nat} {h : ev_H} {th : Int32} {tr : Int64} {ty nx tk pl va fa ss wg : Int32} {c m : Nat} {x y : Int32} {G : Nat → Int32} {Y : Nat → Int64} (hS : SH h) (h5 : h 420 = .inr (12, [.int th, .long tr, .ref 421, .int ty, .int nx, .int tk, .int pl, .int va, .int fa, .int (nI c), .int (nI m), .int ss, .int wg, .ref 422, .ref 423, .ref 424, .ref 425, .ref 426, .ref 427, .ref 428, .ref 429, .ref 430, .ref 431, .ref 432, .ref 433])) (hc : c ≤ 16) (hm : m ≤ 24) (h22 : h 422 = cI 240 G) (h26 : h 426 = cL 480 Y) : EV xs L (d + 2) 0 0 M_X12_labour 434 h 0 [some (.ref 420), some (.int x), some (.int y), none, none] [] (fun sz' h' r => sz' = 434 ∧ SH h' ∧ KM [420, 432] h h' ∧ r = [.int (lbN G Y (c + m) x y)] ∧ h' 420 = c420 0 (lbT x y (c + m) tr) ty nx tk pl va fa (nI c) (nI m) ss wg) := by
  obtain ⟨T, h32⟩ := hS.la LA_432
  by_cases hx : inR x 0 3 = 0
  · refine EV.post ?_ (z_labo hS h5 hc hm hx)
    rintro _ h' _ ⟨rfl, hs, hk, hr, g5⟩
    exact ⟨rfl, hs, KM_sb (by decide) hk, by rw [lbN, if_pos hx]; exact hr, by rw [lbT, if_pos hx]; exact g5⟩
  · obtain ⟨j, -, hj, rfl⟩ := inR_nat (a := 0) (b := 3) (by omega) hx
    match j, hj with
    | 0, _ => exact z_lab0 hS h5 hc hm h22 h26 h32
    | 1, _ => exact z_lab1 hS h5 hc hm h22 h26 h32
    | 2, _ => exact z_lab2 hS h5 hc hm h22 h26 h32
    | 3, _ => exact z_lab3 hS h5 hc hm h22 h26 h32
