def woN (O1 T1 : Nat → Int64) (x : Int32) : Int32 := if x = 0 then nI (mnN O1 256) else if x = 1 then nI (mnN T1 256) else if x = 2 then nI (mnN (fun q => O1 q &&& T1 q) 256) else -1
def boN (S1 W1 : Nat → Int64) (sh : Int32) (x : Int32) : Int32 := if x = 0 then nI (mnN S1 256) else if x = 1 then nI (mnN W1 256) else if x = 2 then nI (mnN (fun q => W1 q &&& (S1 q ^^^ (-1))) 256) >>> ((8 - onM sh 16) &&& 31) else -1
set_option maxRecDepth 20000 in
set_option maxHeartbeats 1000000 in
theorem z_wol_z {xs : Nat → Int32} {L d : Nat} {h : ev_H} {h0 : ev_H} {tr : Int64} {ty nx tk pl va fa ss wg x : Int32} {c m : Nat} {G : Nat → Int32} {O1 T1 S1 W1 T : Nat → Int64} {Q : ev_Q} {k : Nat} (hS : SH h) (kx : ∀ h' : ev_H, SH h' → KM [432] h0 h' → h' 420 = .inr (12, [.int 0, .long tr, .ref 421, .int ty, .int nx, .int tk, .int pl, .int va, .int fa, .int (nI c), .int (nI m), .int ss, .int wg, .ref 422, .ref 423, .ref 424, .ref 425, .ref 426, .ref 427, .ref 428, .ref 429, .ref 430, .ref 431, .ref 432, .ref 433]) → h' 422 = .inl (0, 240, .inl G) → h' 427 = .inl (1, 4, .inr (.inl O1)) → h' 428 = .inl (1, 4, .inr (.inl T1)) → h' 429 = .inl (1, 4, .inr (.inl S1)) → h' 430 = .inl (1, 4, .inr (.inl W1)) → h' 432 = .inl (1, 4, .inr (.inl (bkR T 0 (fun q => O1 q &&& T1 q) 4))) → EV xs L (d + 2) 0 0 M_X12_worlds 434 h' 37 [some (.ref 420), some (.int x), some (.int (nI 4))] [] Q) (hF : KM [432] h0 h) (h5 : h 420 = .inr (12, [.int 0, .long tr, .ref 421, .int ty, .int nx, .int tk, .int pl, .int va, .int fa, .int (nI c), .int (nI m), .int ss, .int wg, .ref 422, .ref 423, .ref 424, .ref 425, .ref 426, .ref 427, .ref 428, .ref 429, .ref 430, .ref 431, .ref 432, .ref 433])) (h22 : h 422 = .inl (0, 240, .inl G)) (h27 : h 427 = .inl (1, 4, .inr (.inl O1))) (h28 : h 428 = .inl (1, 4, .inr (.inl T1))) (h29 : h 429 = .inl (1, 4, .inr (.inl S1))) (h30 : h 430 = .inl (1, 4, .inr (.inl W1))) (h32 : h 432 = .inl (1, 4, .inr (.inl (bkR T 0 (fun q => O1 q &&& T1 q) (k))))) (hk : k = 4) : EV xs L (d + 2) 0 0 M_X12_worlds 434 h 7 [some (.ref 420), some (.int x), some (.int (nI k))] [] Q := by
  refine r_iload_n rfl dX12_worlds_7 rfl ?_
  refine r_iconst (v := 4) rfl dX12_worlds_8 (by decide) ?_
  refine r_icmp_ge (tgt := 37) rfl rfl dX12_worlds_9 (fun _ => ?_) (fun zc => absurd (show nI (4) ≤ nI k from nI_le (a := 4) (b := k) (by omega) (by omega)) zc)
  subst hk
  exact kx h hS hF h5 h22 h27 h28 h29 h30 h32
set_option maxRecDepth 20000 in
set_option maxHeartbeats 1000000 in
theorem z_wol_s {xs : Nat → Int32} {L d : Nat} {h : ev_H} {h0 : ev_H} {tr : Int64} {ty nx tk pl va fa ss wg x : Int32} {c m : Nat} {G : Nat → Int32} {O1 T1 S1 W1 T : Nat → Int64} {Q : ev_Q} {k : Nat} (hS : SH h) (kx : ∀ h' : ev_H, SH h' → KM [432] h0 h' → h' 420 = .inr (12, [.int 0, .long tr, .ref 421, .int ty, .int nx, .int tk, .int pl, .int va, .int fa, .int (nI c), .int (nI m), .int ss, .int wg, .ref 422, .ref 423, .ref 424, .ref 425, .ref 426, .ref 427, .ref 428, .ref 429, .ref 430, .ref 431, .ref 432, .ref 433]) → h' 422 = .inl (0, 240, .inl G) → h' 427 = .inl (1, 4, .inr (.inl O1)) → h' 428 = .inl (1, 4, .inr (.inl T1)) → h' 429 = .inl (1, 4, .inr (.inl S1)) → h' 430 = .inl (1, 4, .inr (.inl W1)) → h' 432 = .inl (1, 4, .inr (.inl (bkR T 0 (fun q => O1 q &&& T1 q) 4))) → EV xs L (d + 2) 0 0 M_X12_worlds 434 h' 37 [some (.ref 420), some (.int x), some (.int (nI 4))] [] Q) (hF : KM [432] h0 h) (h5 : h 420 = .inr (12, [.int 0, .long tr, .ref 421, .int ty, .int nx, .int tk, .int pl, .int va, .int fa, .int (nI c), .int (nI m), .int ss, .int wg, .ref 422, .ref 423, .ref 424, .ref 425, .ref 426, .ref 427, .ref 428, .ref 429, .ref 430, .ref 431, .ref 432, .ref 433])) (h22 : h 422 = .inl (0, 240, .inl G)) (h27 : h 427 = .inl (1, 4, .inr (.inl O1))) (h28 : h 428 = .inl (1, 4, .inr (.inl T1))) (h29 : h 429 = .inl (1, 4, .inr (.inl S1))) (h30 : h 430 = .inl (1, 4, .inr (.inl W1))) (h32 : h 432 = .inl (1, 4, .inr (.inl (bkR T 0 (fun q => O1 q &&& T1 q) (k))))) (hk : k < 4) (ih : ∀ (h' : ev_H), SH h' → KM [432] h0 h' → h' 420 = .inr (12, [.int 0, .long tr, .ref 421, .int ty, .int nx, .int tk, .int pl, .int va, .int fa, .int (nI c), .int (nI m), .int ss, .int wg, .ref 422, .ref 423, .ref 424, .ref 425, .ref 426, .ref 427, .ref 428, .ref 429, .ref 430, .ref 431, .ref 432, .ref 433]) → h' 422 = .inl (0, 240, .inl G) → h' 427 = .inl (1, 4, .inr (.inl O1)) → h' 428 = .inl (1, 4, .inr (.inl T1)) → h' 429 = .inl (1, 4, .inr (.inl S1)) → h' 430 = .inl (1, 4, .inr (.inl W1)) → h' 432 = .inl (1, 4, .inr (.inl (bkR T 0 (fun q => O1 q &&& T1 q) (k + 1)))) → EV xs L (d + 2) 0 0 M_X12_worlds 434 h' 7 [some (.ref 420), some (.int x), some (.int (nI (k + 1)))] [] Q) : EV xs L (d + 2) 0 0 M_X12_worlds 434 h 7 [some (.ref 420), some (.int x), some (.int (nI k))] [] Q := by
  refine r_iload_n rfl dX12_worlds_7 rfl ?_
  refine r_iconst (v := 4) rfl dX12_worlds_8 (by decide) ?_
  refine r_icmp_ge (tgt := 37) rfl rfl dX12_worlds_9 (fun zc => absurd zc (show ¬ nI (4) ≤ nI k from nI_ge (a := k) (b := 4) (by omega) (by omega))) (fun _ => ?_)
  refine r_aload_n rfl dX12_worlds_12 rfl ?_
  refine r_getv 23 rfl dX12_worlds_13 (show 2 ≤ 420 ∧ 420 < 434 by decide) h5 fl_X12_48 rfl ?_
  refine r_iload_n rfl dX12_worlds_16 rfl ?_
  refine r_aload_n rfl dX12_worlds_17 rfl ?_
  refine r_getv 18 rfl dX12_worlds_18 (show 2 ≤ 420 ∧ 420 < 434 by decide) h5 fl_X12_33 rfl ?_
  refine r_iload_n rfl dX12_worlds_21 rfl ?_
  refine r_laldv (jn := k) (v := O1 k) rfl dX12_worlds_22 (show 2 ≤ 427 ∧ 427 < 434 by decide) h27 (vp_in_nI (n := k) (by omega) (by decide)) (nI_clamp (n := k) (by omega)) rfl ?_
  refine r_aload_n rfl dX12_worlds_23 rfl ?_
  refine r_getv 19 rfl dX12_worlds_24 (show 2 ≤ 420 ∧ 420 < 434 by decide) h5 fl_X12_36 rfl ?_
  refine r_iload_n rfl dX12_worlds_27 rfl ?_
  refine r_laldv (jn := k) (v := T1 k) rfl dX12_worlds_28 (show 2 ≤ 428 ∧ 428 < 434 by decide) h28 (vp_in_nI (n := k) (by omega) (by decide)) (nI_clamp (n := k) (by omega)) rfl ?_
  refine r_land rfl dX12_worlds_29 ?_
  refine e_last (jn := k) rfl dX12_worlds_30 (show 2 ≤ 432 ∧ 432 < 434 by decide) hS hF (by decide) h32 (vp_in_nI (n := k) (by omega) (by decide)) (nI_clamp (n := k) (by omega)) (fun h51 hS52 hF53 hN54 f55 => ?_)
  have f56 : h51 420 = .inr (12, [.int 0, .long tr, .ref 421, .int ty, .int nx, .int tk, .int pl, .int va, .int fa, .int (nI c), .int (nI m), .int ss, .int wg, .ref 422, .ref 423, .ref 424, .ref 425, .ref 426, .ref 427, .ref 428, .ref 429, .ref 430, .ref 431, .ref 432, .ref 433]) := (hN54 420 (by decide)).trans h5
  have f57 : h51 422 = .inl (0, 240, .inl G) := (hN54 422 (by decide)).trans h22
  have f58 : h51 427 = .inl (1, 4, .inr (.inl O1)) := (hN54 427 (by decide)).trans h27
  have f59 : h51 428 = .inl (1, 4, .inr (.inl T1)) := (hN54 428 (by decide)).trans h28
  have f60 : h51 429 = .inl (1, 4, .inr (.inl S1)) := (hN54 429 (by decide)).trans h29
  have f61 : h51 430 = .inl (1, 4, .inr (.inl W1)) := (hN54 430 (by decide)).trans h30
  refine r_iinc (y := nI (k + 1)) (ls' := [some (.ref 420), some (.int x), some (.int (nI (k + 1)))]) rfl dX12_worlds_31 rfl (nI_1 k) (Nat.le_of_ble_eq_true rfl) rfl ?_
  refine r_goto (pc' := 7) rfl dX12_worlds_34 ?_
  exact ih h51 hS52 hF53 f56 f57 f58 f59 f60 f61 (by rw [← bkR_s, show 4 * 0 + k = k by omega]; exact f55)
theorem z_wol {xs : Nat → Int32} {L d : Nat} {h0 : ev_H} {tr : Int64} {ty nx tk pl va fa ss wg x : Int32} {c m : Nat} {G : Nat → Int32} {O1 T1 S1 W1 T : Nat → Int64} {Q : ev_Q} (kx : ∀ h' : ev_H, SH h' → KM [432] h0 h' → h' 420 = .inr (12, [.int 0, .long tr, .ref 421, .int ty, .int nx, .int tk, .int pl, .int va, .int fa, .int (nI c), .int (nI m), .int ss, .int wg, .ref 422, .ref 423, .ref 424, .ref 425, .ref 426, .ref 427, .ref 428, .ref 429, .ref 430, .ref 431, .ref 432, .ref 433]) → h' 422 = .inl (0, 240, .inl G) → h' 427 = .inl (1, 4, .inr (.inl O1)) → h' 428 = .inl (1, 4, .inr (.inl T1)) → h' 429 = .inl (1, 4, .inr (.inl S1)) → h' 430 = .inl (1, 4, .inr (.inl W1)) → h' 432 = .inl (1, 4, .inr (.inl (bkR T 0 (fun q => O1 q &&& T1 q) 4))) → EV xs L (d + 2) 0 0 M_X12_worlds 434 h' 37 [some (.ref 420), some (.int x), some (.int (nI 4))] [] Q) : ∀ (nn k : Nat) (h : ev_H), k + nn = 4 → SH h → KM [432] h0 h → h 420 = .inr (12, [.int 0, .long tr, .ref 421, .int ty, .int nx, .int tk, .int pl, .int va, .int fa, .int (nI c), .int (nI m), .int ss, .int wg, .ref 422, .ref 423, .ref 424, .ref 425, .ref 426, .ref 427, .ref 428, .ref 429, .ref 430, .ref 431, .ref 432, .ref 433]) → h 422 = .inl (0, 240, .inl G) → h 427 = .inl (1, 4, .inr (.inl O1)) → h 428 = .inl (1, 4, .inr (.inl T1)) → h 429 = .inl (1, 4, .inr (.inl S1)) → h 430 = .inl (1, 4, .inr (.inl W1)) → h 432 = .inl (1, 4, .inr (.inl (bkR T 0 (fun q => O1 q &&& T1 q) (k)))) → EV xs L (d + 2) 0 0 M_X12_worlds 434 h 7 [some (.ref 420), some (.int x), some (.int (nI k))] [] Q := by
  intro nn
  induction nn with
  | zero => intro k h hk hS hF h5 h22 h27 h28 h29 h30 h32; exact z_wol_z hS kx hF h5 h22 h27 h28 h29 h30 h32 (by omega)
  | succ nn ih => intro k h hk hS hF h5 h22 h27 h28 h29 h30 h32; exact z_wol_s hS kx hF h5 h22 h27 h28 h29 h30 h32 (by omega) (fun h' q0 q1 q2 q3 q4 q5 q6 q7 q8 => ih (k + 1) h' (by omega) q0 q1 q2 q3 q4 q5 q6 q7 q8)
set_option maxRecDepth 20000 in
set_option maxHeartbeats 1000000 in
theorem z_X12_worlds {xs : Nat → Int32} {L d : Nat} {h : ev_H} {th : Int32} {tr : Int64} {ty nx tk pl va fa ss wg : Int32} {c m : Nat} {x : Int32} {G : Nat → Int32} {O1 T1 S1 W1 T : Nat → Int64} (hS : SH h) (h5 : h 420 = .inr (12, [.int th, .long tr, .ref 421, .int ty, .int nx, .int tk, .int pl, .int va, .int fa, .int (nI c), .int (nI m), .int ss, .int wg, .ref 422, .ref 423, .ref 424, .ref 425, .ref 426, .ref 427, .ref 428, .ref 429, .ref 430, .ref 431, .ref 432, .ref 433])) (hc : c ≤ 16) (hm : m ≤ 24) (h22 : h 422 = .inl (0, 240, .inl G)) (h27 : h 427 = .inl (1, 4, .inr (.inl O1))) (h28 : h 428 = .inl (1, 4, .inr (.inl T1))) (h29 : h 429 = .inl (1, 4, .inr (.inl S1))) (h30 : h 430 = .inl (1, 4, .inr (.inl W1))) (h32 : h 432 = .inl (1, 4, .inr (.inl T))) : EV xs L (d + 2) 0 0 M_X12_worlds 434 h 0 [some (.ref 420), some (.int x), none] [] (fun sz' h' r => sz' = 434 ∧ SH h' ∧ KM [420, 432] h h' ∧ r = [.int (woN O1 T1 x)] ∧ h' 420 = c420 0 tr ty nx tk pl va fa (nI c) (nI m) ss wg) := by
  refine r_aload_n rfl dX12_worlds_0 rfl ?_
  refine r_iconst (v := 0) rfl dX12_worlds_1 (by decide) ?_
  refine e_put 0 (fs' := [.int 0, .long tr, .ref 421, .int ty, .int nx, .int tk, .int pl, .int va, .int fa, .int (nI c), .int (nI m), .int ss, .int wg, .ref 422, .ref 423, .ref 424, .ref 425, .ref 426, .ref 427, .ref 428, .ref 429, .ref 430, .ref 431, .ref 432, .ref 433]) rfl dX12_worlds_2 (show 2 ≤ 420 ∧ 420 < 434 by decide) hS (KM_rf (Mod := [420, 432]) h) (by decide) h5 (fp_X12_57 rfl _) (Nat.le_of_ble_eq_true rfl) rfl (fun h51 hS52 hF53 hN54 f55 => ?_)
  have f56 : h51 422 = .inl (0, 240, .inl G) := (hN54 422 (by decide)).trans h22
  have f57 : h51 427 = .inl (1, 4, .inr (.inl O1)) := (hN54 427 (by decide)).trans h27
  have f58 : h51 428 = .inl (1, 4, .inr (.inl T1)) := (hN54 428 (by decide)).trans h28
  have f59 : h51 429 = .inl (1, 4, .inr (.inl S1)) := (hN54 429 (by decide)).trans h29
  have f60 : h51 430 = .inl (1, 4, .inr (.inl W1)) := (hN54 430 (by decide)).trans h30
  have f61 : h51 432 = .inl (1, 4, .inr (.inl T)) := (hN54 432 (by decide)).trans h32
  refine r_iconst (v := 0) rfl dX12_worlds_5 (by decide) ?_
  refine r_istore_n (ls' := [some (.ref 420), some (.int x), some (.int 0)]) rfl dX12_worlds_6 (Nat.le_of_ble_eq_true rfl) rfl ?_
  refine z_wol (T := T) (h0 := h51) ?_ 4 0 h51 rfl hS52 (KM_rf _) f55 f56 f57 f58 f59 f60 (by rw [bkR_0]; exact f61)
  intro h62 hS63 hF64 f65 f66 f67 f68 f69 f70 f71
  have hF72 := KM_tr hF53 (KM_sb (by decide) hF64)
  refine r_iload_n rfl dX12_worlds_37 rfl ?_
  refine r_if_ne (tgt := 51) rfl rfl dX12_worlds_38 (fun c73 => ?_) (fun c73 => ?_)
  · refine r_iload_n rfl dX12_worlds_51 rfl ?_
    refine r_iconst (v := 1) rfl dX12_worlds_52 (by decide) ?_
    refine r_icmp_ne (tgt := 66) rfl rfl dX12_worlds_53 (fun c74 => ?_) (fun c74 => ?_)
    · refine r_iload_n rfl dX12_worlds_66 rfl ?_
      refine r_iconst (v := 2) rfl dX12_worlds_67 (by decide) ?_
      refine r_icmp_ne (tgt := 81) rfl rfl dX12_worlds_68 (fun c75 => ?_) (fun c75 => ?_)
      · refine r_iconst (v := (-1)) rfl dX12_worlds_81 (by decide) ?_
        have e76 := mnN_cg (A := bkR T 0 (fun q => O1 q &&& T1 q) 4) (B := (fun q => O1 q &&& T1 q)) 256 (by omega) (fun p hp => bk0 hp)
        exact r_ret dX12_worlds_82 (rt_i rfl) ⟨rfl, hS63, hF72, (by rw [woN, if_neg c73, if_neg c74, if_neg c75] <;> first | rfl | (rw [← e76]; rfl)), f65⟩
      · refine r_aload_n rfl dX12_worlds_71 rfl ?_
        refine r_getv 23 rfl dX12_worlds_72 (show 2 ≤ 420 ∧ 420 < 434 by decide) f65 fl_X12_48 rfl ?_
        refine cl_X12_160 rfl rfl dX12_worlds_75 (Nat.le_of_ble_eq_true rfl) (z_X12_many hS63 (by decide) f71) ?_
        rintro _ h77 _ ⟨rfl, e78, rfl⟩
        replace e78 := e78.symm
        subst e78
        refine r_goto (pc' := 82) rfl dX12_worlds_78 ?_
        have e79 := mnN_cg (A := bkR T 0 (fun q => O1 q &&& T1 q) 4) (B := (fun q => O1 q &&& T1 q)) 256 (by omega) (fun p hp => bk0 hp)
        exact r_ret dX12_worlds_82 (rt_i rfl) ⟨rfl, hS63, hF72, (by rw [woN, if_neg c73, if_neg c74, if_pos c75] <;> first | rfl | (rw [← e79]; rfl)), f65⟩
    · refine r_aload_n rfl dX12_worlds_56 rfl ?_
      refine r_getv 19 rfl dX12_worlds_57 (show 2 ≤ 420 ∧ 420 < 434 by decide) f65 fl_X12_36 rfl ?_
      refine cl_X12_160 rfl rfl dX12_worlds_60 (Nat.le_of_ble_eq_true rfl) (z_X12_many hS63 (by decide) f68) ?_
      rintro _ h80 _ ⟨rfl, e81, rfl⟩
      replace e81 := e81.symm
      subst e81
      refine r_goto (pc' := 82) rfl dX12_worlds_63 ?_
      have e82 := mnN_cg (A := bkR T 0 (fun q => O1 q &&& T1 q) 4) (B := (fun q => O1 q &&& T1 q)) 256 (by omega) (fun p hp => bk0 hp)
      exact r_ret dX12_worlds_82 (rt_i rfl) ⟨rfl, hS63, hF72, (by rw [woN, if_neg c73, if_pos c74] <;> first | rfl | (rw [← e82]; rfl)), f65⟩
  · refine r_aload_n rfl dX12_worlds_41 rfl ?_
    refine r_getv 18 rfl dX12_worlds_42 (show 2 ≤ 420 ∧ 420 < 434 by decide) f65 fl_X12_33 rfl ?_
    refine cl_X12_160 rfl rfl dX12_worlds_45 (Nat.le_of_ble_eq_true rfl) (z_X12_many hS63 (by decide) f67) ?_
    rintro _ h83 _ ⟨rfl, e84, rfl⟩
    replace e84 := e84.symm
    subst e84
    refine r_goto (pc' := 82) rfl dX12_worlds_48 ?_
    have e85 := mnN_cg (A := bkR T 0 (fun q => O1 q &&& T1 q) 4) (B := (fun q => O1 q &&& T1 q)) 256 (by omega) (fun p hp => bk0 hp)
    exact r_ret dX12_worlds_82 (rt_i rfl) ⟨rfl, hS63, hF72, (by rw [woN, if_pos c73] <;> first | rfl | (rw [← e85]; rfl)), f65⟩
set_option maxRecDepth 20000 in
set_option maxHeartbeats 1000000 in
theorem z_bol_z {xs : Nat → Int32} {L d : Nat} {h : ev_H} {h0 : ev_H} {tr : Int64} {ty nx tk pl va fa ss wg x : Int32} {c m : Nat} {G : Nat → Int32} {O1 T1 S1 W1 T : Nat → Int64} {Q : ev_Q} {k : Nat} (hS : SH h) (kx : ∀ h' : ev_H, SH h' → KM [432] h0 h' → h' 420 = .inr (12, [.int 0, .long tr, .ref 421, .int ty, .int nx, .int tk, .int pl, .int va, .int fa, .int (nI c), .int (nI m), .int ss, .int wg, .ref 422, .ref 423, .ref 424, .ref 425, .ref 426, .ref 427, .ref 428, .ref 429, .ref 430, .ref 431, .ref 432, .ref 433]) → h' 422 = .inl (0, 240, .inl G) → h' 427 = .inl (1, 4, .inr (.inl O1)) → h' 428 = .inl (1, 4, .inr (.inl T1)) → h' 429 = .inl (1, 4, .inr (.inl S1)) → h' 430 = .inl (1, 4, .inr (.inl W1)) → h' 432 = .inl (1, 4, .inr (.inl (bkR T 0 (fun q => W1 q &&& (S1 q ^^^ (-1))) 4))) → EV xs L (d + 2) 0 0 M_X12_bounds_ 434 h' 41 [some (.ref 420), some (.int x), some (.int (nI 4))] [] Q) (hF : KM [432] h0 h) (h5 : h 420 = .inr (12, [.int 0, .long tr, .ref 421, .int ty, .int nx, .int tk, .int pl, .int va, .int fa, .int (nI c), .int (nI m), .int ss, .int wg, .ref 422, .ref 423, .ref 424, .ref 425, .ref 426, .ref 427, .ref 428, .ref 429, .ref 430, .ref 431, .ref 432, .ref 433])) (h22 : h 422 = .inl (0, 240, .inl G)) (h27 : h 427 = .inl (1, 4, .inr (.inl O1))) (h28 : h 428 = .inl (1, 4, .inr (.inl T1))) (h29 : h 429 = .inl (1, 4, .inr (.inl S1))) (h30 : h 430 = .inl (1, 4, .inr (.inl W1))) (h32 : h 432 = .inl (1, 4, .inr (.inl (bkR T 0 (fun q => W1 q &&& (S1 q ^^^ (-1))) (k))))) (hk : k = 4) : EV xs L (d + 2) 0 0 M_X12_bounds_ 434 h 7 [some (.ref 420), some (.int x), some (.int (nI k))] [] Q := by
  refine r_iload_n rfl dX12_bounds__7 rfl ?_
  refine r_iconst (v := 4) rfl dX12_bounds__8 (by decide) ?_
  refine r_icmp_ge (tgt := 41) rfl rfl dX12_bounds__9 (fun _ => ?_) (fun zc => absurd (show nI (4) ≤ nI k from nI_le (a := 4) (b := k) (by omega) (by omega)) zc)
  subst hk
  exact kx h hS hF h5 h22 h27 h28 h29 h30 h32
set_option maxRecDepth 20000 in
set_option maxHeartbeats 1000000 in
theorem z_bol_s {xs : Nat → Int32} {L d : Nat} {h : ev_H} {h0 : ev_H} {tr : Int64} {ty nx tk pl va fa ss wg x : Int32} {c m : Nat} {G : Nat → Int32} {O1 T1 S1 W1 T : Nat → Int64} {Q : ev_Q} {k : Nat} (hS : SH h) (kx : ∀ h' : ev_H, SH h' → KM [432] h0 h' → h' 420 = .inr (12, [.int 0, .long tr, .ref 421, .int ty, .int nx, .int tk, .int pl, .int va, .int fa, .int (nI c), .int (nI m), .int ss, .int wg, .ref 422, .ref 423, .ref 424, .ref 425, .ref 426, .ref 427, .ref 428, .ref 429, .ref 430, .ref 431, .ref 432, .ref 433]) → h' 422 = .inl (0, 240, .inl G) → h' 427 = .inl (1, 4, .inr (.inl O1)) → h' 428 = .inl (1, 4, .inr (.inl T1)) → h' 429 = .inl (1, 4, .inr (.inl S1)) → h' 430 = .inl (1, 4, .inr (.inl W1)) → h' 432 = .inl (1, 4, .inr (.inl (bkR T 0 (fun q => W1 q &&& (S1 q ^^^ (-1))) 4))) → EV xs L (d + 2) 0 0 M_X12_bounds_ 434 h' 41 [some (.ref 420), some (.int x), some (.int (nI 4))] [] Q) (hF : KM [432] h0 h) (h5 : h 420 = .inr (12, [.int 0, .long tr, .ref 421, .int ty, .int nx, .int tk, .int pl, .int va, .int fa, .int (nI c), .int (nI m), .int ss, .int wg, .ref 422, .ref 423, .ref 424, .ref 425, .ref 426, .ref 427, .ref 428, .ref 429, .ref 430, .ref 431, .ref 432, .ref 433])) (h22 : h 422 = .inl (0, 240, .inl G)) (h27 : h 427 = .inl (1, 4, .inr (.inl O1))) (h28 : h 428 = .inl (1, 4, .inr (.inl T1))) (h29 : h 429 = .inl (1, 4, .inr (.inl S1))) (h30 : h 430 = .inl (1, 4, .inr (.inl W1))) (h32 : h 432 = .inl (1, 4, .inr (.inl (bkR T 0 (fun q => W1 q &&& (S1 q ^^^ (-1))) (k))))) (hk : k < 4) (ih : ∀ (h' : ev_H), SH h' → KM [432] h0 h' → h' 420 = .inr (12, [.int 0, .long tr, .ref 421, .int ty, .int nx, .int tk, .int pl, .int va, .int fa, .int (nI c), .int (nI m), .int ss, .int wg, .ref 422, .ref 423, .ref 424, .ref 425, .ref 426, .ref 427, .ref 428, .ref 429, .ref 430, .ref 431, .ref 432, .ref 433]) → h' 422 = .inl (0, 240, .inl G) → h' 427 = .inl (1, 4, .inr (.inl O1)) → h' 428 = .inl (1, 4, .inr (.inl T1)) → h' 429 = .inl (1, 4, .inr (.inl S1)) → h' 430 = .inl (1, 4, .inr (.inl W1)) → h' 432 = .inl (1, 4, .inr (.inl (bkR T 0 (fun q => W1 q &&& (S1 q ^^^ (-1))) (k + 1)))) → EV xs L (d + 2) 0 0 M_X12_bounds_ 434 h' 7 [some (.ref 420), some (.int x), some (.int (nI (k + 1)))] [] Q) : EV xs L (d + 2) 0 0 M_X12_bounds_ 434 h 7 [some (.ref 420), some (.int x), some (.int (nI k))] [] Q := by
  refine r_iload_n rfl dX12_bounds__7 rfl ?_
  refine r_iconst (v := 4) rfl dX12_bounds__8 (by decide) ?_
  refine r_icmp_ge (tgt := 41) rfl rfl dX12_bounds__9 (fun zc => absurd zc (show ¬ nI (4) ≤ nI k from nI_ge (a := k) (b := 4) (by omega) (by omega))) (fun _ => ?_)
  refine r_aload_n rfl dX12_bounds__12 rfl ?_
  refine r_getv 23 rfl dX12_bounds__13 (show 2 ≤ 420 ∧ 420 < 434 by decide) h5 fl_X12_48 rfl ?_
  refine r_iload_n rfl dX12_bounds__16 rfl ?_
  refine r_aload_n rfl dX12_bounds__17 rfl ?_
  refine r_getv 21 rfl dX12_bounds__18 (show 2 ≤ 420 ∧ 420 < 434 by decide) h5 fl_X12_42 rfl ?_
  refine r_iload_n rfl dX12_bounds__21 rfl ?_
  refine r_laldv (jn := k) (v := W1 k) rfl dX12_bounds__22 (show 2 ≤ 430 ∧ 430 < 434 by decide) h30 (vp_in_nI (n := k) (by omega) (by decide)) (nI_clamp (n := k) (by omega)) rfl ?_
  refine r_aload_n rfl dX12_bounds__23 rfl ?_
  refine r_getv 20 rfl dX12_bounds__24 (show 2 ≤ 420 ∧ 420 < 434 by decide) h5 fl_X12_39 rfl ?_
  refine r_iload_n rfl dX12_bounds__27 rfl ?_
  refine r_laldv (jn := k) (v := S1 k) rfl dX12_bounds__28 (show 2 ≤ 429 ∧ 429 < 434 by decide) h29 (vp_in_nI (n := k) (by omega) (by decide)) (nI_clamp (n := k) (by omega)) rfl ?_
  refine r_ldc2 (v := (-1)) rfl dX12_bounds__29 lc_X12_137 ?_
  refine r_lxor rfl dX12_bounds__32 ?_
  refine r_land rfl dX12_bounds__33 ?_
  refine e_last (jn := k) rfl dX12_bounds__34 (show 2 ≤ 432 ∧ 432 < 434 by decide) hS hF (by decide) h32 (vp_in_nI (n := k) (by omega) (by decide)) (nI_clamp (n := k) (by omega)) (fun h51 hS52 hF53 hN54 f55 => ?_)
  have f56 : h51 420 = .inr (12, [.int 0, .long tr, .ref 421, .int ty, .int nx, .int tk, .int pl, .int va, .int fa, .int (nI c), .int (nI m), .int ss, .int wg, .ref 422, .ref 423, .ref 424, .ref 425, .ref 426, .ref 427, .ref 428, .ref 429, .ref 430, .ref 431, .ref 432, .ref 433]) := (hN54 420 (by decide)).trans h5
  have f57 : h51 422 = .inl (0, 240, .inl G) := (hN54 422 (by decide)).trans h22
  have f58 : h51 427 = .inl (1, 4, .inr (.inl O1)) := (hN54 427 (by decide)).trans h27
  have f59 : h51 428 = .inl (1, 4, .inr (.inl T1)) := (hN54 428 (by decide)).trans h28
  have f60 : h51 429 = .inl (1, 4, .inr (.inl S1)) := (hN54 429 (by decide)).trans h29
  have f61 : h51 430 = .inl (1, 4, .inr (.inl W1)) := (hN54 430 (by decide)).trans h30
  refine r_iinc (y := nI (k + 1)) (ls' := [some (.ref 420), some (.int x), some (.int (nI (k + 1)))]) rfl dX12_bounds__35 rfl (nI_1 k) (Nat.le_of_ble_eq_true rfl) rfl ?_
  refine r_goto (pc' := 7) rfl dX12_bounds__38 ?_
  exact ih h51 hS52 hF53 f56 f57 f58 f59 f60 f61 (by rw [← bkR_s, show 4 * 0 + k = k by omega]; exact f55)
theorem z_bol {xs : Nat → Int32} {L d : Nat} {h0 : ev_H} {tr : Int64} {ty nx tk pl va fa ss wg x : Int32} {c m : Nat} {G : Nat → Int32} {O1 T1 S1 W1 T : Nat → Int64} {Q : ev_Q} (kx : ∀ h' : ev_H, SH h' → KM [432] h0 h' → h' 420 = .inr (12, [.int 0, .long tr, .ref 421, .int ty, .int nx, .int tk, .int pl, .int va, .int fa, .int (nI c), .int (nI m), .int ss, .int wg, .ref 422, .ref 423, .ref 424, .ref 425, .ref 426, .ref 427, .ref 428, .ref 429, .ref 430, .ref 431, .ref 432, .ref 433]) → h' 422 = .inl (0, 240, .inl G) → h' 427 = .inl (1, 4, .inr (.inl O1)) → h' 428 = .inl (1, 4, .inr (.inl T1)) → h' 429 = .inl (1, 4, .inr (.inl S1)) → h' 430 = .inl (1, 4, .inr (.inl W1)) → h' 432 = .inl (1, 4, .inr (.inl (bkR T 0 (fun q => W1 q &&& (S1 q ^^^ (-1))) 4))) → EV xs L (d + 2) 0 0 M_X12_bounds_ 434 h' 41 [some (.ref 420), some (.int x), some (.int (nI 4))] [] Q) : ∀ (nn k : Nat) (h : ev_H), k + nn = 4 → SH h → KM [432] h0 h → h 420 = .inr (12, [.int 0, .long tr, .ref 421, .int ty, .int nx, .int tk, .int pl, .int va, .int fa, .int (nI c), .int (nI m), .int ss, .int wg, .ref 422, .ref 423, .ref 424, .ref 425, .ref 426, .ref 427, .ref 428, .ref 429, .ref 430, .ref 431, .ref 432, .ref 433]) → h 422 = .inl (0, 240, .inl G) → h 427 = .inl (1, 4, .inr (.inl O1)) → h 428 = .inl (1, 4, .inr (.inl T1)) → h 429 = .inl (1, 4, .inr (.inl S1)) → h 430 = .inl (1, 4, .inr (.inl W1)) → h 432 = .inl (1, 4, .inr (.inl (bkR T 0 (fun q => W1 q &&& (S1 q ^^^ (-1))) (k)))) → EV xs L (d + 2) 0 0 M_X12_bounds_ 434 h 7 [some (.ref 420), some (.int x), some (.int (nI k))] [] Q := by
  intro nn
  induction nn with
  | zero => intro k h hk hS hF h5 h22 h27 h28 h29 h30 h32; exact z_bol_z hS kx hF h5 h22 h27 h28 h29 h30 h32 (by omega)
  | succ nn ih => intro k h hk hS hF h5 h22 h27 h28 h29 h30 h32; exact z_bol_s hS kx hF h5 h22 h27 h28 h29 h30 h32 (by omega) (fun h' q0 q1 q2 q3 q4 q5 q6 q7 q8 => ih (k + 1) h' (by omega) q0 q1 q2 q3 q4 q5 q6 q7 q8)
set_option maxRecDepth 20000 in
set_option maxHeartbeats 1000000 in
theorem z_X12_bounds_ {xs : Nat → Int32} {L d : Nat} {h : ev_H} {th : Int32} {tr : Int64} {ty nx tk pl va fa ss wg : Int32} {c m : Nat} {x : Int32} {G : Nat → Int32} {O1 T1 S1 W1 T : Nat → Int64} (hS : SH h) (h5 : h 420 = .inr (12, [.int th, .long tr, .ref 421, .int ty, .int nx, .int tk, .int pl, .int va, .int fa, .int (nI c), .int (nI m), .int ss, .int wg, .ref 422, .ref 423, .ref 424, .ref 425, .ref 426, .ref 427, .ref 428, .ref 429, .ref 430, .ref 431, .ref 432, .ref 433])) (hc : c ≤ 16) (hm : m ≤ 24) (h22 : h 422 = .inl (0, 240, .inl G)) (h27 : h 427 = .inl (1, 4, .inr (.inl O1))) (h28 : h 428 = .inl (1, 4, .inr (.inl T1))) (h29 : h 429 = .inl (1, 4, .inr (.inl S1))) (h30 : h 430 = .inl (1, 4, .inr (.inl W1))) (h32 : h 432 = .inl (1, 4, .inr (.inl T))) : EV xs L (d + 2) 0 0 M_X12_bounds_ 434 h 0 [some (.ref 420), some (.int x), none] [] (fun sz' h' r => sz' = 434 ∧ SH h' ∧ KM [420, 432] h h' ∧ r = [.int (boN S1 W1 (shM G c) x)] ∧ h' 420 = c420 0 tr ty nx tk pl va fa (nI c) (nI m) ss wg) := by
  refine r_aload_n rfl dX12_bounds__0 rfl ?_
  refine r_iconst (v := 0) rfl dX12_bounds__1 (by decide) ?_
  refine e_put 0 (fs' := [.int 0, .long tr, .ref 421, .int ty, .int nx, .int tk, .int pl, .int va, .int fa, .int (nI c), .int (nI m), .int ss, .int wg, .ref 422, .ref 423, .ref 424, .ref 425, .ref 426, .ref 427, .ref 428, .ref 429, .ref 430, .ref 431, .ref 432, .ref 433]) rfl dX12_bounds__2 (show 2 ≤ 420 ∧ 420 < 434 by decide) hS (KM_rf (Mod := [420, 432]) h) (by decide) h5 (fp_X12_57 rfl _) (Nat.le_of_ble_eq_true rfl) rfl (fun h51 hS52 hF53 hN54 f55 => ?_)
  have f56 : h51 422 = .inl (0, 240, .inl G) := (hN54 422 (by decide)).trans h22
  have f57 : h51 427 = .inl (1, 4, .inr (.inl O1)) := (hN54 427 (by decide)).trans h27
  have f58 : h51 428 = .inl (1, 4, .inr (.inl T1)) := (hN54 428 (by decide)).trans h28
  have f59 : h51 429 = .inl (1, 4, .inr (.inl S1)) := (hN54 429 (by decide)).trans h29
  have f60 : h51 430 = .inl (1, 4, .inr (.inl W1)) := (hN54 430 (by decide)).trans h30
  have f61 : h51 432 = .inl (1, 4, .inr (.inl T)) := (hN54 432 (by decide)).trans h32
  refine r_iconst (v := 0) rfl dX12_bounds__5 (by decide) ?_
  refine r_istore_n (ls' := [some (.ref 420), some (.int x), some (.int 0)]) rfl dX12_bounds__6 (Nat.le_of_ble_eq_true rfl) rfl ?_
  refine z_bol (T := T) (h0 := h51) ?_ 4 0 h51 rfl hS52 (KM_rf _) f55 f56 f57 f58 f59 f60 (by rw [bkR_0]; exact f61)
  intro h62 hS63 hF64 f65 f66 f67 f68 f69 f70 f71
  have hF72 := KM_tr hF53 (KM_sb (by decide) hF64)
  refine r_iload_n rfl dX12_bounds__41 rfl ?_
  refine r_if_ne (tgt := 55) rfl rfl dX12_bounds__42 (fun c73 => ?_) (fun c73 => ?_)
  · refine r_iload_n rfl dX12_bounds__55 rfl ?_
    refine r_iconst (v := 1) rfl dX12_bounds__56 (by decide) ?_
    refine r_icmp_ne (tgt := 70) rfl rfl dX12_bounds__57 (fun c74 => ?_) (fun c74 => ?_)
    · refine r_iload_n rfl dX12_bounds__70 rfl ?_
      refine r_iconst (v := 2) rfl dX12_bounds__71 (by decide) ?_
      refine r_icmp_ne (tgt := 96) rfl rfl dX12_bounds__72 (fun c75 => ?_) (fun c75 => ?_)
      · refine r_iconst (v := (-1)) rfl dX12_bounds__96 (by decide) ?_
        have e76 := mnN_cg (A := bkR T 0 (fun q => W1 q &&& (S1 q ^^^ (-1))) 4) (B := (fun q => W1 q &&& (S1 q ^^^ (-1)))) 256 (by omega) (fun p hp => bk0 hp)
        exact r_ret dX12_bounds__97 (rt_i rfl) ⟨rfl, hS63, hF72, (by rw [boN, if_neg c73, if_neg c74, if_neg c75] <;> first | rfl | (rw [← e76]; rfl)), f65⟩
      · refine r_aload_n rfl dX12_bounds__75 rfl ?_
        refine r_getv 23 rfl dX12_bounds__76 (show 2 ≤ 420 ∧ 420 < 434 by decide) f65 fl_X12_48 rfl ?_
        refine cl_X12_160 rfl rfl dX12_bounds__79 (Nat.le_of_ble_eq_true rfl) (z_X12_many hS63 (by decide) f71) ?_
        rintro _ h77 _ ⟨rfl, e78, rfl⟩
        replace e78 := e78.symm
        subst e78
        refine r_bipush (v := 8) rfl dX12_bounds__82 (by decide) ?_
        refine r_aload_n rfl dX12_bounds__84 rfl ?_
        refine cl_X12_133 rfl rfl dX12_bounds__85 (show 2 ≤ 420 ∧ 420 < 434 by decide).1 (show 2 ≤ 420 ∧ 420 < 434 by decide).2 f65 (Nat.le_of_ble_eq_true rfl) (z_X12_shared hS63 f65 hc hm f66) ?_
        rintro _ h79 _ ⟨rfl, e80, rfl⟩
        replace e80 := e80.symm
        subst e80
        refine cl_X12_177 rfl rfl dX12_bounds__88 (Nat.le_of_ble_eq_true rfl) (z_X12_ones hS63) ?_
        rintro _ h81 _ ⟨rfl, e82, rfl⟩
        replace e82 := e82.symm
        subst e82
        refine r_isub rfl dX12_bounds__91 ?_
        refine r_ishr rfl dX12_bounds__92 ?_
        refine r_goto (pc' := 97) rfl dX12_bounds__93 ?_
        have e83 := mnN_cg (A := bkR T 0 (fun q => W1 q &&& (S1 q ^^^ (-1))) 4) (B := (fun q => W1 q &&& (S1 q ^^^ (-1)))) 256 (by omega) (fun p hp => bk0 hp)
        exact r_ret dX12_bounds__97 (rt_i rfl) ⟨rfl, hS63, hF72, (by rw [boN, if_neg c73, if_neg c74, if_pos c75] <;> first | rfl | (rw [← e83]; rfl)), f65⟩
    · refine r_aload_n rfl dX12_bounds__60 rfl ?_
      refine r_getv 21 rfl dX12_bounds__61 (show 2 ≤ 420 ∧ 420 < 434 by decide) f65 fl_X12_42 rfl ?_
      refine cl_X12_160 rfl rfl dX12_bounds__64 (Nat.le_of_ble_eq_true rfl) (z_X12_many hS63 (by decide) f70) ?_
      rintro _ h84 _ ⟨rfl, e85, rfl⟩
      replace e85 := e85.symm
      subst e85
      refine r_goto (pc' := 97) rfl dX12_bounds__67 ?_
      have e86 := mnN_cg (A := bkR T 0 (fun q => W1 q &&& (S1 q ^^^ (-1))) 4) (B := (fun q => W1 q &&& (S1 q ^^^ (-1)))) 256 (by omega) (fun p hp => bk0 hp)
      exact r_ret dX12_bounds__97 (rt_i rfl) ⟨rfl, hS63, hF72, (by rw [boN, if_neg c73, if_pos c74] <;> first | rfl | (rw [← e86]; rfl)), f65⟩
  · refine r_aload_n rfl dX12_bounds__45 rfl ?_
    refine r_getv 20 rfl dX12_bounds__46 (show 2 ≤ 420 ∧ 420 < 434 by decide) f65 fl_X12_39 rfl ?_
    refine cl_X12_160 rfl rfl dX12_bounds__49 (Nat.le_of_ble_eq_true rfl) (z_X12_many hS63 (by decide) f69) ?_
    rintro _ h87 _ ⟨rfl, e88, rfl⟩
    replace e88 := e88.symm
    subst e88
    refine r_goto (pc' := 97) rfl dX12_bounds__52 ?_
    have e89 := mnN_cg (A := bkR T 0 (fun q => W1 q &&& (S1 q ^^^ (-1))) 4) (B := (fun q => W1 q &&& (S1 q ^^^ (-1)))) 256 (by omega) (fun p hp => bk0 hp)
    exact r_ret dX12_bounds__97 (rt_i rfl) ⟨rfl, hS63, hF72, (by rw [boN, if_pos c73] <;> first | rfl | (rw [← e89]; rfl)), f65⟩
theorem woN_R {G : Nat → Int32} {c : Nat} {O1 T1 : Nat → Int64} {x : Int32} (h1 : ∀ p, p < 4 → O1 p = wO (onP G 1 c) p) (h2 : ∀ p, p < 4 → T1 p = wO (onP G 2 c) p) : woN O1 T1 x = woR G c x := by
  unfold woN woR
  rw [mnN_cg 256 (by omega) h1, mnN_cg 256 (by omega) h2, mnN_cg (A := fun q => O1 q &&& T1 q) (B := fun p => wO (onP G 1 c) p &&& wO (onP G 2 c) p) 256 (by omega) (fun p hp => by rw [h1 p hp, h2 p hp])]
theorem boN_R {G : Nat → Int32} {c l : Nat} {S1 W1 : Nat → Int64} {sh x : Int32} (hl : l < 256) (hs : sh = nI l) (h1 : ∀ p, p < 4 → S1 p = stW G c l p) (h2 : ∀ p, p < 4 → W1 p = wkW G c l p) : boN S1 W1 sh x = boR G c l x := by
  unfold boN boR
  rw [hs, on8 ⟨l, hl⟩, mnN_cg 256 (by omega) h1, mnN_cg 256 (by omega) h2, mnN_cg (A := fun q => W1 q &&& (S1 q ^^^ (-1))) (B := fun p => wkW G c l p &&& (stW G c l p ^^^ (-1))) 256 (by omega) (fun p hp => by rw [h1 p hp, h2 p hp])]
