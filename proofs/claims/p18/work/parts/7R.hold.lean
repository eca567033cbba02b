theorem soM_01 (a b w : Int32) : soM a b w = 0 ∨ soM a b w = 1 := by
  unfold soM
  repeat' split
  all_goals first | exact Or.inl rfl | exact Or.inr rfl
theorem soB_t {a b : Int32} {w : Nat} (h : ¬ soM a b (nI w) = 0) : soB a b w = true := decide_eq_true ((soM_01 a b (nI w)).resolve_left h)
theorem soB_f {a b : Int32} {w : Nat} (h : soM a b (nI w) = 0) : ¬ soB a b w = true := fun z => by have := of_decide_eq_true z; rw [h] at this; exact absurd this (by decide)
set_option maxRecDepth 20000 in
set_option maxHeartbeats 1000000 in
theorem z_ho2_z {xs : Nat → Int32} {L d : Nat} {h : ev_H} {h0 : ev_H} {th : Int32} {tr : Int64} {ty nx tk pl va fa ss wg : Int32} {c m : Nat} {i : Nat} {G : Nat → Int32} {H : Nat → Int64} {k : Nat} (hS : SH h) (hi : i < 40) (hF : KM [425] h0 h) (h5 : h 420 = .inr (12, [.int th, .long tr, .ref 421, .int ty, .int nx, .int tk, .int pl, .int va, .int fa, .int (nI c), .int (nI m), .int ss, .int wg, .ref 422, .ref 423, .ref 424, .ref 425, .ref 426, .ref 427, .ref 428, .ref 429, .ref 430, .ref 431, .ref 432, .ref 433])) (h22 : h 422 = .inl (0, 240, .inl G)) (h25 : h 425 = .inl (1, 160, .inr (.inl (hwR H i (soB (G (6 * i)) (G (6 * i + 1))) (k))))) (hk : k = 256) : EV xs L (d + 1) 0 0 M_X12_holding 434 h 26 [some (.ref 420), some (.int (nI i)), some (.int (nI k))] [] (fun sz' h' r => sz' = 434 ∧ SH h' ∧ KM [425] h0 h' ∧ h' 425 = cL 160 (hwR H i (soB (G (6 * i)) (G (6 * i + 1))) 256) ∧ r = []) := by
  refine r_iload_n rfl dX12_holding_26 rfl ?_
  refine r_sipush (v := 256) rfl dX12_holding_27 (by decide) ?_
  refine r_icmp_ge (tgt := 92) rfl rfl dX12_holding_30 (fun _ => ?_) (fun zc => absurd (show nI (256) ≤ nI k from nI_le (a := 256) (b := k) (by omega) (by omega)) zc)
  subst hk
  exact r_ret dX12_holding_92 (rt_v rfl) ⟨rfl, hS, hF, h25, rfl⟩
set_option maxRecDepth 20000 in
set_option maxHeartbeats 1000000 in
theorem z_ho2_s {xs : Nat → Int32} {L d : Nat} {h : ev_H} {h0 : ev_H} {th : Int32} {tr : Int64} {ty nx tk pl va fa ss wg : Int32} {c m : Nat} {i : Nat} {G : Nat → Int32} {H : Nat → Int64} {k : Nat} (hS : SH h) (hi : i < 40) (hF : KM [425] h0 h) (h5 : h 420 = .inr (12, [.int th, .long tr, .ref 421, .int ty, .int nx, .int tk, .int pl, .int va, .int fa, .int (nI c), .int (nI m), .int ss, .int wg, .ref 422, .ref 423, .ref 424, .ref 425, .ref 426, .ref 427, .ref 428, .ref 429, .ref 430, .ref 431, .ref 432, .ref 433])) (h22 : h 422 = .inl (0, 240, .inl G)) (h25 : h 425 = .inl (1, 160, .inr (.inl (hwR H i (soB (G (6 * i)) (G (6 * i + 1))) (k))))) (hk : k < 256) (ih : ∀ (h' : ev_H), SH h' → KM [425] h0 h' → h' 420 = .inr (12, [.int th, .long tr, .ref 421, .int ty, .int nx, .int tk, .int pl, .int va, .int fa, .int (nI c), .int (nI m), .int ss, .int wg, .ref 422, .ref 423, .ref 424, .ref 425, .ref 426, .ref 427, .ref 428, .ref 429, .ref 430, .ref 431, .ref 432, .ref 433]) → h' 422 = .inl (0, 240, .inl G) → h' 425 = .inl (1, 160, .inr (.inl (hwR H i (soB (G (6 * i)) (G (6 * i + 1))) (k + 1)))) → EV xs L (d + 1) 0 0 M_X12_holding 434 h' 26 [some (.ref 420), some (.int (nI i)), some (.int (nI (k + 1)))] [] (fun sz' h' r => sz' = 434 ∧ SH h' ∧ KM [425] h0 h' ∧ h' 425 = cL 160 (hwR H i (soB (G (6 * i)) (G (6 * i + 1))) 256) ∧ r = [])) : EV xs L (d + 1) 0 0 M_X12_holding 434 h 26 [some (.ref 420), some (.int (nI i)), some (.int (nI k))] [] (fun sz' h' r => sz' = 434 ∧ SH h' ∧ KM [425] h0 h' ∧ h' 425 = cL 160 (hwR H i (soB (G (6 * i)) (G (6 * i + 1))) 256) ∧ r = []) := by
  refine r_iload_n rfl dX12_holding_26 rfl ?_
  refine r_sipush (v := 256) rfl dX12_holding_27 (by decide) ?_
  refine r_icmp_ge (tgt := 92) rfl rfl dX12_holding_30 (fun zc => absurd zc (show ¬ nI (256) ≤ nI k from nI_ge (a := k) (b := 256) (by omega) (by omega))) (fun _ => ?_)
  refine r_aload_n rfl dX12_holding_33 rfl ?_
  refine r_getv 16 rfl dX12_holding_34 (show 2 ≤ 420 ∧ 420 < 434 by decide) h5 fl_X12_26 rfl ?_
  refine r_iconst (v := 4) rfl dX12_holding_37 (by decide) ?_
  refine r_iload_n rfl dX12_holding_38 rfl ?_
  refine r_imul rfl dX12_holding_39 ?_
  refine r_eqi (y := nI (4 * i)) (show 4 * (nI i) = nI (4 * i) from pk_mul 4 i) ?_
  refine r_iload_n rfl dX12_holding_40 rfl ?_
  refine r_bipush (v := 6) rfl dX12_holding_41 (by decide) ?_
  refine r_ishr rfl dX12_holding_43 ?_
  refine r_eqi (y := nI (k / 64)) (show (nI k) >>> (6 &&& 31) = nI (k / 64) from pk_shrN (n := k) (by omega) ((6 : Int32) &&& 31) 6 (by decide)) ?_
  refine r_iadd rfl dX12_holding_44 ?_
  refine r_eqi (y := nI ((4 * i) + (k / 64))) (show (nI (4 * i)) + (nI (k / 64)) = nI ((4 * i) + (k / 64)) from nI_add (4 * i) (k / 64)) ?_
  refine r_dup2 rfl dX12_holding_45 (by intro q; cases q) (by intro q; cases q) ?_
  refine r_laldv (jn := (4 * i) + (k / 64)) (v := (hwR H i (soB (G (6 * i)) (G (6 * i + 1))) (k)) ((4 * i) + (k / 64))) rfl dX12_holding_46 (show 2 ≤ 425 ∧ 425 < 434 by decide) h25 (vp_in_nI (n := (4 * i) + (k / 64)) (by omega) (by decide)) (nI_clamp (n := (4 * i) + (k / 64)) (by omega)) rfl ?_
  refine r_aload_n rfl dX12_holding_47 rfl ?_
  refine r_getv 13 rfl dX12_holding_48 (show 2 ≤ 420 ∧ 420 < 434 by decide) h5 fl_X12_17 rfl ?_
  refine r_bipush (v := 6) rfl dX12_holding_51 (by decide) ?_
  refine r_iload_n rfl dX12_holding_53 rfl ?_
  refine r_imul rfl dX12_holding_54 ?_
  refine r_eqi (y := nI (6 * i)) (show 6 * (nI i) = nI (6 * i) from pk_mul 6 i) ?_
  refine r_ialdv (jn := 6 * i) (v := G (6 * i)) rfl dX12_holding_55 (show 2 ≤ 422 ∧ 422 < 434 by decide) h22 (vp_in_nI (n := 6 * i) (by omega) (by decide)) (nI_clamp (n := 6 * i) (by omega)) rfl ?_
  refine r_aload_n rfl dX12_holding_56 rfl ?_
  refine r_getv 13 rfl dX12_holding_57 (show 2 ≤ 420 ∧ 420 < 434 by decide) h5 fl_X12_17 rfl ?_
  refine r_bipush (v := 6) rfl dX12_holding_60 (by decide) ?_
  refine r_iload_n rfl dX12_holding_62 rfl ?_
  refine r_imul rfl dX12_holding_63 ?_
  refine r_eqi (y := nI (6 * i)) (show 6 * (nI i) = nI (6 * i) from pk_mul 6 i) ?_
  refine r_iconst (v := 1) rfl dX12_holding_64 (by decide) ?_
  refine r_iadd rfl dX12_holding_65 ?_
  refine r_eqi (y := nI ((6 * i) + 1)) (show (nI (6 * i)) + 1 = nI ((6 * i) + 1) from nI_add (6 * i) 1) ?_
  refine r_ialdv (jn := (6 * i) + 1) (v := G ((6 * i) + 1)) rfl dX12_holding_66 (show 2 ≤ 422 ∧ 422 < 434 by decide) h22 (vp_in_nI (n := (6 * i) + 1) (by omega) (by decide)) (nI_clamp (n := (6 * i) + 1) (by omega)) rfl ?_
  refine r_iload_n rfl dX12_holding_67 rfl ?_
  refine cl_X12_127 rfl rfl dX12_holding_68 (Nat.le_of_ble_eq_true rfl) (z_X12_isSo hS) ?_
  rintro _ h51 _ ⟨rfl, e52, rfl⟩
  replace e52 := e52.symm
  subst e52
  refine r_if_eq (tgt := 83) rfl rfl dX12_holding_71 (fun c53 => ?_) (fun c53 => ?_)
  · refine r_lconst (v := 0) rfl dX12_holding_83 (by decide) ?_
    refine r_lor rfl dX12_holding_84 ?_
    refine e_last (jn := (4 * i) + (k / 64)) rfl dX12_holding_85 (show 2 ≤ 425 ∧ 425 < 434 by decide) hS hF (by decide) h25 (vp_in_nI (n := (4 * i) + (k / 64)) (by omega) (by decide)) (nI_clamp (n := (4 * i) + (k / 64)) (by omega)) (fun h54 hS55 hF56 hN57 f58 => ?_)
    have f59 : h54 420 = .inr (12, [.int th, .long tr, .ref 421, .int ty, .int nx, .int tk, .int pl, .int va, .int fa, .int (nI c), .int (nI m), .int ss, .int wg, .ref 422, .ref 423, .ref 424, .ref 425, .ref 426, .ref 427, .ref 428, .ref 429, .ref 430, .ref 431, .ref 432, .ref 433]) := (hN57 420 (by decide)).trans h5
    have f60 : h54 422 = .inl (0, 240, .inl G) := (hN57 422 (by decide)).trans h22
    refine r_iinc (y := nI (k + 1)) (ls' := [some (.ref 420), some (.int (nI i)), some (.int (nI (k + 1)))]) rfl dX12_holding_86 rfl (nI_1 k) (Nat.le_of_ble_eq_true rfl) rfl ?_
    refine r_goto (pc' := 26) rfl dX12_holding_89 ?_
    exact ih h54 hS55 hF56 f59 f60 (by rw [← hwR_s H i (soB (G (6 * i)) (G (6 * i + 1))) hk, if_neg (soB_f c53)]; exact f58)
  · refine r_lconst (v := 1) rfl dX12_holding_74 (by decide) ?_
    refine r_iload_n rfl dX12_holding_75 rfl ?_
    refine r_bipush (v := 63) rfl dX12_holding_76 (by decide) ?_
    refine r_iand rfl dX12_holding_78 ?_
    refine r_eqi (y := nI (k % 64)) (show (nI k) &&& 63 = nI (k % 64) from pk_andN (n := k) (by omega) (m := 63) 6 (by decide)) ?_
    refine r_lshl rfl dX12_holding_79 ?_
    refine r_goto (pc' := 84) rfl dX12_holding_80 ?_
    refine r_lor rfl dX12_holding_84 ?_
    refine e_last (jn := (4 * i) + (k / 64)) rfl dX12_holding_85 (show 2 ≤ 425 ∧ 425 < 434 by decide) hS hF (by decide) h25 (vp_in_nI (n := (4 * i) + (k / 64)) (by omega) (by decide)) (nI_clamp (n := (4 * i) + (k / 64)) (by omega)) (fun h61 hS62 hF63 hN64 f65 => ?_)
    have f66 : h61 420 = .inr (12, [.int th, .long tr, .ref 421, .int ty, .int nx, .int tk, .int pl, .int va, .int fa, .int (nI c), .int (nI m), .int ss, .int wg, .ref 422, .ref 423, .ref 424, .ref 425, .ref 426, .ref 427, .ref 428, .ref 429, .ref 430, .ref 431, .ref 432, .ref 433]) := (hN64 420 (by decide)).trans h5
    have f67 : h61 422 = .inl (0, 240, .inl G) := (hN64 422 (by decide)).trans h22
    refine r_iinc (y := nI (k + 1)) (ls' := [some (.ref 420), some (.int (nI i)), some (.int (nI (k + 1)))]) rfl dX12_holding_86 rfl (nI_1 k) (Nat.le_of_ble_eq_true rfl) rfl ?_
    refine r_goto (pc' := 26) rfl dX12_holding_89 ?_
    exact ih h61 hS62 hF63 f66 f67 (by rw [← hwR_s H i (soB (G (6 * i)) (G (6 * i + 1))) hk, if_pos (soB_t c53)]; exact f65)
theorem z_ho2 {xs : Nat → Int32} {L d : Nat} {h0 : ev_H} {th : Int32} {tr : Int64} {ty nx tk pl va fa ss wg : Int32} {c m : Nat} {i : Nat} {G : Nat → Int32} {H : Nat → Int64} (hi : i < 40) : ∀ (n k : Nat) (h : ev_H), k + n = 256 → SH h → KM [425] h0 h → h 420 = .inr (12, [.int th, .long tr, .ref 421, .int ty, .int nx, .int tk, .int pl, .int va, .int fa, .int (nI c), .int (nI m), .int ss, .int wg, .ref 422, .ref 423, .ref 424, .ref 425, .ref 426, .ref 427, .ref 428, .ref 429, .ref 430, .ref 431, .ref 432, .ref 433]) → h 422 = .inl (0, 240, .inl G) → h 425 = .inl (1, 160, .inr (.inl (hwR H i (soB (G (6 * i)) (G (6 * i + 1))) (k)))) → EV xs L (d + 1) 0 0 M_X12_holding 434 h 26 [some (.ref 420), some (.int (nI i)), some (.int (nI k))] [] (fun sz' h' r => sz' = 434 ∧ SH h' ∧ KM [425] h0 h' ∧ h' 425 = cL 160 (hwR H i (soB (G (6 * i)) (G (6 * i + 1))) 256) ∧ r = []) := by
  intro n
  induction n with
  | zero => intro k h hk hS hF h5 h22 h25; exact z_ho2_z hS hi hF h5 h22 h25 (by omega)
  | succ n ih => intro k h hk hS hF h5 h22 h25; exact z_ho2_s hS hi hF h5 h22 h25 (by omega) (fun h' q0 q1 q2 q3 q4 => ih (k + 1) h' (by omega) q0 q1 q2 q3 q4)
set_option maxRecDepth 20000 in
set_option maxHeartbeats 1000000 in
theorem z_ho1_z {xs : Nat → Int32} {L d : Nat} {h : ev_H} {h0 : ev_H} {th : Int32} {tr : Int64} {ty nx tk pl va fa ss wg : Int32} {c m : Nat} {i : Nat} {G : Nat → Int32} {H : Nat → Int64} {k : Nat} (hS : SH h) (hi : i < 40) (hF : KM [425] h0 h) (h5 : h 420 = .inr (12, [.int th, .long tr, .ref 421, .int ty, .int nx, .int tk, .int pl, .int va, .int fa, .int (nI c), .int (nI m), .int ss, .int wg, .ref 422, .ref 423, .ref 424, .ref 425, .ref 426, .ref 427, .ref 428, .ref 429, .ref 430, .ref 431, .ref 432, .ref 433])) (h22 : h 422 = .inl (0, 240, .inl G)) (h25 : h 425 = .inl (1, 160, .inr (.inl (hzR H i (k))))) (hk : k = 4) : EV xs L (d + 1) 0 0 M_X12_holding 434 h 2 [some (.ref 420), some (.int (nI i)), some (.int (nI k))] [] (fun sz' h' r => sz' = 434 ∧ SH h' ∧ KM [425] h0 h' ∧ h' 425 = cL 160 (hwR H i (soB (G (6 * i)) (G (6 * i + 1))) 256) ∧ r = []) := by
  refine r_iload_n rfl dX12_holding_2 rfl ?_
  refine r_iconst (v := 4) rfl dX12_holding_3 (by decide) ?_
  refine r_icmp_ge (tgt := 24) rfl rfl dX12_holding_4 (fun _ => ?_) (fun zc => absurd (show nI (4) ≤ nI k from nI_le (a := 4) (b := k) (by omega) (by omega)) zc)
  refine r_iconst (v := 0) rfl dX12_holding_24 (by decide) ?_
  refine r_istore_n (ls' := [some (.ref 420), some (.int (nI i)), some (.int 0)]) rfl dX12_holding_25 (Nat.le_of_ble_eq_true rfl) rfl ?_
  subst hk
  exact z_ho2 hi 256 0 h rfl hS hF h5 h22 (by rw [← hwR_0]; exact h25)
set_option maxRecDepth 20000 in
set_option maxHeartbeats 1000000 in
theorem z_ho1_s {xs : Nat → Int32} {L d : Nat} {h : ev_H} {h0 : ev_H} {th : Int32} {tr : Int64} {ty nx tk pl va fa ss wg : Int32} {c m : Nat} {i : Nat} {G : Nat → Int32} {H : Nat → Int64} {k : Nat} (hS : SH h) (hi : i < 40) (hF : KM [425] h0 h) (h5 : h 420 = .inr (12, [.int th, .long tr, .ref 421, .int ty, .int nx, .int tk, .int pl, .int va, .int fa, .int (nI c), .int (nI m), .int ss, .int wg, .ref 422, .ref 423, .ref 424, .ref 425, .ref 426, .ref 427, .ref 428, .ref 429, .ref 430, .ref 431, .ref 432, .ref 433])) (h22 : h 422 = .inl (0, 240, .inl G)) (h25 : h 425 = .inl (1, 160, .inr (.inl (hzR H i (k))))) (hk : k < 4) (ih : ∀ (h' : ev_H), SH h' → KM [425] h0 h' → h' 420 = .inr (12, [.int th, .long tr, .ref 421, .int ty, .int nx, .int tk, .int pl, .int va, .int fa, .int (nI c), .int (nI m), .int ss, .int wg, .ref 422, .ref 423, .ref 424, .ref 425, .ref 426, .ref 427, .ref 428, .ref 429, .ref 430, .ref 431, .ref 432, .ref 433]) → h' 422 = .inl (0, 240, .inl G) → h' 425 = .inl (1, 160, .inr (.inl (hzR H i (k + 1)))) → EV xs L (d + 1) 0 0 M_X12_holding 434 h' 2 [some (.ref 420), some (.int (nI i)), some (.int (nI (k + 1)))] [] (fun sz' h' r => sz' = 434 ∧ SH h' ∧ KM [425] h0 h' ∧ h' 425 = cL 160 (hwR H i (soB (G (6 * i)) (G (6 * i + 1))) 256) ∧ r = [])) : EV xs L (d + 1) 0 0 M_X12_holding 434 h 2 [some (.ref 420), some (.int (nI i)), some (.int (nI k))] [] (fun sz' h' r => sz' = 434 ∧ SH h' ∧ KM [425] h0 h' ∧ h' 425 = cL 160 (hwR H i (soB (G (6 * i)) (G (6 * i + 1))) 256) ∧ r = []) := by
  refine r_iload_n rfl dX12_holding_2 rfl ?_
  refine r_iconst (v := 4) rfl dX12_holding_3 (by decide) ?_
  refine r_icmp_ge (tgt := 24) rfl rfl dX12_holding_4 (fun zc => absurd zc (show ¬ nI (4) ≤ nI k from nI_ge (a := k) (b := 4) (by omega) (by omega))) (fun _ => ?_)
  refine r_aload_n rfl dX12_holding_7 rfl ?_
  refine r_getv 16 rfl dX12_holding_8 (show 2 ≤ 420 ∧ 420 < 434 by decide) h5 fl_X12_26 rfl ?_
  refine r_iconst (v := 4) rfl dX12_holding_11 (by decide) ?_
  refine r_iload_n rfl dX12_holding_12 rfl ?_
  refine r_imul rfl dX12_holding_13 ?_
  refine r_eqi (y := nI (4 * i)) (show 4 * (nI i) = nI (4 * i) from pk_mul 4 i) ?_
  refine r_iload_n rfl dX12_holding_14 rfl ?_
  refine r_iadd rfl dX12_holding_15 ?_
  refine r_eqi (y := nI ((4 * i) + k)) (show (nI (4 * i)) + (nI k) = nI ((4 * i) + k) from nI_add (4 * i) k) ?_
  refine r_lconst (v := 0) rfl dX12_holding_16 (by decide) ?_
  refine e_last (jn := (4 * i) + k) rfl dX12_holding_17 (show 2 ≤ 425 ∧ 425 < 434 by decide) hS hF (by decide) h25 (vp_in_nI (n := (4 * i) + k) (by omega) (by decide)) (nI_clamp (n := (4 * i) + k) (by omega)) (fun h51 hS52 hF53 hN54 f55 => ?_)
  have f56 : h51 420 = .inr (12, [.int th, .long tr, .ref 421, .int ty, .int nx, .int tk, .int pl, .int va, .int fa, .int (nI c), .int (nI m), .int ss, .int wg, .ref 422, .ref 423, .ref 424, .ref 425, .ref 426, .ref 427, .ref 428, .ref 429, .ref 430, .ref 431, .ref 432, .ref 433]) := (hN54 420 (by decide)).trans h5
  have f57 : h51 422 = .inl (0, 240, .inl G) := (hN54 422 (by decide)).trans h22
  refine r_iinc (y := nI (k + 1)) (ls' := [some (.ref 420), some (.int (nI i)), some (.int (nI (k + 1)))]) rfl dX12_holding_18 rfl (nI_1 k) (Nat.le_of_ble_eq_true rfl) rfl ?_
  refine r_goto (pc' := 2) rfl dX12_holding_21 ?_
  exact ih h51 hS52 hF53 f56 f57 (by rw [← hzR_s]; exact f55)
theorem z_ho1 {xs : Nat → Int32} {L d : Nat} {h0 : ev_H} {th : Int32} {tr : Int64} {ty nx tk pl va fa ss wg : Int32} {c m : Nat} {i : Nat} {G : Nat → Int32} {H : Nat → Int64} (hi : i < 40) : ∀ (n k : Nat) (h : ev_H), k + n = 4 → SH h → KM [425] h0 h → h 420 = .inr (12, [.int th, .long tr, .ref 421, .int ty, .int nx, .int tk, .int pl, .int va, .int fa, .int (nI c), .int (nI m), .int ss, .int wg, .ref 422, .ref 423, .ref 424, .ref 425, .ref 426, .ref 427, .ref 428, .ref 429, .ref 430, .ref 431, .ref 432, .ref 433]) → h 422 = .inl (0, 240, .inl G) → h 425 = .inl (1, 160, .inr (.inl (hzR H i (k)))) → EV xs L (d + 1) 0 0 M_X12_holding 434 h 2 [some (.ref 420), some (.int (nI i)), some (.int (nI k))] [] (fun sz' h' r => sz' = 434 ∧ SH h' ∧ KM [425] h0 h' ∧ h' 425 = cL 160 (hwR H i (soB (G (6 * i)) (G (6 * i + 1))) 256) ∧ r = []) := by
  intro n
  induction n with
  | zero => intro k h hk hS hF h5 h22 h25; exact z_ho1_z hS hi hF h5 h22 h25 (by omega)
  | succ n ih => intro k h hk hS hF h5 h22 h25; exact z_ho1_s hS hi hF h5 h22 h25 (by omega) (fun h' q0 q1 q2 q3 q4 => ih (k + 1) h' (by omega) q0 q1 q2 q3 q4)
set_option maxRecDepth 20000 in
set_option maxHeartbeats 1000000 in
theorem z_X12_holding {xs : Nat → Int32} {L d : Nat} {h : ev_H} {th : Int32} {tr : Int64} {ty nx tk pl va fa ss wg : Int32} {c m : Nat} {i : Nat} {G : Nat → Int32} {H : Nat → Int64} (hS : SH h) (hi : i < 40) (h5 : h 420 = .inr (12, [.int th, .long tr, .ref 421, .int ty, .int nx, .int tk, .int pl, .int va, .int fa, .int (nI c), .int (nI m), .int ss, .int wg, .ref 422, .ref 423, .ref 424, .ref 425, .ref 426, .ref 427, .ref 428, .ref 429, .ref 430, .ref 431, .ref 432, .ref 433])) (h22 : h 422 = cI 240 G) (h25 : h 425 = cL 160 H) : EV xs L (d + 1) 0 0 M_X12_holding 434 h 0 [some (.ref 420), some (.int (nI i)), none] [] (fun sz' h' r => sz' = 434 ∧ SH h' ∧ KM [425] h h' ∧ h' 425 = cL 160 (hwR H i (soB (G (6 * i)) (G (6 * i + 1))) 256) ∧ r = []) := by
  refine r_iconst (v := 0) rfl dX12_holding_0 (by decide) ?_
  refine r_istore_n (ls' := [some (.ref 420), some (.int (nI i)), some (.int 0)]) rfl dX12_holding_1 (Nat.le_of_ble_eq_true rfl) rfl ?_
  exact z_ho1 hi 4 0 h rfl hS (KM_rf (Mod := [425]) h) h5 h22 (by rw [hzR_0]; exact h25)
